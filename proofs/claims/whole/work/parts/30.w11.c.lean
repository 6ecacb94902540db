set_option maxHeartbeats 4000000 in
set_option maxRecDepth 100000 in
theorem c_X11_sets (l : Launch) (G : GG) {w : Wd} {x1 : Int32} {x2 : Int32} {r0 : Int32} {w1 : Wd} (hF : f_X11_sets w x1 x2 = some (r0, w1)) : Met l yX11_sets wsX11_sets ({ frames := 4, cells := 0, slots := 0, locals := 88 } : Room) (va_Pc [.ref (gAd G 141), .int x1, .int x2] (Rel G w)) (amQ G (oI r0) w1) 0 0 (gA G) := by
  refine am_met (own := RX11) (cc := cX11_sets) (maxL := 5) (ret := (some .int)) (by decide +kernel) rfl rfl (Nat.le_of_ble_eq_true rfl) ?_
  intro p e s m args below meth c ab H locs ls X hr hh hl
  have hx := X.1.1; have hb := X.1.2.1; have hml := X.1.2.2.1; have hown := X.1.2.2.2.1; have hts := X.1.2.2.2.2
  have hl : lv_has ls 5 [(0, .ref (gAd G 141)), (1, .int x1), (2, .int x2)] := hl
  have hwRX11 : ∀ z ∈ u_ws RX11 TX11 18, z ∈ wsX11_sets := by decide +kernel
  unfold f_X11_sets at hF
  refine lv_aload_n hx hb dX11_sets_0 rfl (lv_at hl 0 rfl) ?_
  refine lv_iload_n hx hb dX11_sets_1 rfl (lv_at hl 1 rfl) ?_
  obtain ⟨r2, hk1, hF⟩ := am_bind hF
  refine am_call X hh (va_runV (As := [.int x1]) (rest := []) X.1 (c_X11_isGear l G hk1) (cwV 1 hts gX11_sets_X11_isGear rfl rfl rfl (by decide +kernel) ⟨Nat.le_of_ble_eq_true rfl, Nat.le_of_ble_eq_true rfl⟩) (am_preV X hh 141 12 (by decide) rfl rfl) rfl rfl hl.1 rfl (lv_room (Nat.le_of_ble_eq_true rfl)) dX11_sets_2 ⟨Nat.le_of_ble_eq_true rfl, Nat.le_of_ble_eq_true rfl⟩) (fun ab H locs hh => ?_)
  refine lv_if_ne (tgt := 14) hx hb dX11_sets_5 (by decide) (fun hc3 => ?_) (fun hc3 => ?_)
  · have hF := am_neg hc3 hF
    refine lv_iload_n hx hb dX11_sets_14 rfl (lv_at hl 2 rfl) ?_
    refine lv_bipush (v := (10 : Int32)) hx hb dX11_sets_15 (by decide) ?_
    refine lv_sipush (v := (200 : Int32)) hx hb dX11_sets_17 (by decide) ?_
    obtain ⟨r5, hk4, hF⟩ := am_bind hF
    refine am_call X hh (va_runS (As := [.int x2, .int (10 : Int32), .int (200 : Int32)]) (rest := []) X.1 (c_X11_in l G hk4) (va_cwS 3 hts gX11_sets_X11_in rfl rfl rfl (by decide +kernel) ⟨Nat.le_of_ble_eq_true rfl, Nat.le_of_ble_eq_true rfl⟩) (am_preS X hh) rfl rfl hl.1 rfl (lv_room (Nat.le_of_ble_eq_true rfl)) dX11_sets_20 ⟨Nat.le_of_ble_eq_true rfl, Nat.le_of_ble_eq_true rfl⟩) (fun ab H locs hh => ?_)
    refine lv_if_ne (tgt := 32) hx hb dX11_sets_23 (by decide) (fun hc6 => ?_) (fun hc6 => ?_)
    · have hF := am_neg hc6 hF
      refine lv_aload_n hx hb dX11_sets_32 rfl (lv_at hl 0 rfl) ?_
      refine lv_iload_n hx hb dX11_sets_33 rfl (lv_at hl 1 rfl) ?_
      obtain ⟨w9, hk7, hF⟩ := am_bind hF
      refine am_call X hh (va_runV (As := [.int x1]) (rest := []) X.1 (c_X11_turns l G hk7) (cwV 1 hts gX11_sets_X11_turns rfl rfl rfl (by decide +kernel) ⟨Nat.le_of_ble_eq_true rfl, Nat.le_of_ble_eq_true rfl⟩) (am_preV X hh 141 12 (by decide) rfl rfl) rfl rfl hl.1 rfl (lv_room (Nat.le_of_ble_eq_true rfl)) dX11_sets_34 ⟨Nat.le_of_ble_eq_true rfl, Nat.le_of_ble_eq_true rfl⟩) (fun ab H locs hh => ?_)
      refine lv_aload_n hx hb dX11_sets_37 rfl (lv_at hl 0 rfl) ?_
      obtain ⟨r11, hk10, hF⟩ := am_bind hF
      refine am_call X hh (va_runV (As := []) (rest := []) X.1 (c_X11_springIn l G hk10) (cwV 0 hts gX11_sets_X11_springIn rfl rfl rfl (by decide +kernel) ⟨Nat.le_of_ble_eq_true rfl, Nat.le_of_ble_eq_true rfl⟩) (am_preV X hh 141 12 (by decide) rfl rfl) rfl rfl hl.1 rfl (lv_room (Nat.le_of_ble_eq_true rfl)) dX11_sets_38 ⟨Nat.le_of_ble_eq_true rfl, Nat.le_of_ble_eq_true rfl⟩) (fun ab H locs hh => ?_)
      refine lv_iconst (v := (-1 : Int32)) hx hb dX11_sets_41 (by decide) ?_
      refine lv_icmp_eq (tgt := 51) hx hb dX11_sets_42 (by decide) (fun hc12 => ?_) (fun hc12 => ?_)
      · have hF := am_pos hc12 hF
        refine lv_aload_n hx hb dX11_sets_51 rfl (lv_at hl 0 rfl) ?_
        refine am_getR X hh 141 12 0 142 (by decide) rfl rfl (by decide) hwRX11 (show Cond.fieldLink RX11 7 "PlanetWorkshopModel" "g" "[J" ∈ wsX11_sets by decide +kernel) rfl dX11_sets_52 ?_
        refine lv_bipush (v := (26 : Int32)) hx hb dX11_sets_55 (by decide) ?_
        refine lv_iload_n hx hb dX11_sets_57 rfl (lv_at hl 1 rfl) ?_
        refine lv_iadd hx hb dX11_sets_58 ?_
        refine lv_iload_n hx hb dX11_sets_59 rfl (lv_at hl 2 rfl) ?_
        refine lv_i2l hx hb dX11_sets_60 rfl ?_
        obtain ⟨hq13, hF⟩ := am_ifR hF
        refine am_last X hh 142 (by decide) rfl hq13 dX11_sets_61 (fun H locs hh => ?_)
        obtain ⟨w14, hw14, hF⟩ := am_wl hF
        have hh := AH_eq hw14 hh
        refine lv_iconst (v := (0 : Int32)) hx hb dX11_sets_62 (by decide) ?_
        refine lv_istore_n (lv' := [(3, .int (0 : Int32)), (0, .ref (gAd G 141)), (1, .int x1), (2, .int x2)]) hx hb dX11_sets_63 rfl hl (by decide) rfl (fun ls hl => ?_)
        refine lv_iconst (v := (0 : Int32)) hx hb dX11_sets_64 (by decide) ?_
        refine lv_istore (lv' := [(4, .int (0 : Int32)), (3, .int (0 : Int32)), (0, .ref (gAd G 141)), (1, .int x1), (2, .int x2)]) hx hb dX11_sets_65 hl (by decide) rfl (fun ls hl => ?_)
        have hlp67 : ∀ (n : Nat) (y15 : Int32) (y16 : Int32) (ab : Nat) (H : Heap) (locs : List Loc) (ls : Array Slot) (z : (Int32 × Int32) ⊕ Unit), p_X11_sets_67 w14 n y15 y16 = some z → AH G s.heap w14 ab H locs → lv_has ls 5 [(3, .int y15), (4, .int y16), (0, .ref (gAd G 141)), (1, .int x1), (2, .int x2)] → (∀ (y15 : Int32) (y16 : Int32) (ab : Nat) (H : Heap) (locs : List Loc) (ls : Array Slot), z = .inl (y15, y16) → AH G s.heap w14 ab H locs → lv_has ls 5 [(3, .int y15), (4, .int y16), (0, .ref (gAd G 141)), (1, .int x1), (2, .int x2)] → W p l e ({ frames := 4, cells := 0, slots := 0, locals := 88 } : Room) s m args below meth c H locs 0 0 (MQ below (amQ G (oI r0) w1) args s 0 0 (gA G)) (F0 m 97 ls [])) → W p l e ({ frames := 4, cells := 0, slots := 0, locals := 88 } : Room) s m args below meth c H locs 0 0 (MQ below (amQ G (oI r0) w1) args s 0 0 (gA G)) (F0 m 67 ls []) := by
          intro n
          induction n with
          | zero =>
            intro y15 y16 ab H locs ls z hF
            unfold p_X11_sets_67 at hF
            cases hF
          | succ n ih =>
            intro y15 y16 ab H locs ls z hF hh hl kE
            unfold p_X11_sets_67 at hF
            refine lv_iload hx hb dX11_sets_67 (lv_at hl 1 rfl) ?_
            refine lv_bipush (v := (10 : Int32)) hx hb dX11_sets_69 (by decide) ?_
            refine lv_icmp_ge (tgt := 97) hx hb dX11_sets_71 (by decide) (fun hc18 => ?_) (fun hc18 => ?_)
            · have hF := am_pos hc18 hF
              exact kE y15 y16 ab H locs ls (Option.some.inj hF).symm hh (lv_sub hl [0, 1, 2, 3, 4] rfl)
            · have hF := am_neg hc18 hF
              refine lv_iload_n hx hb dX11_sets_74 rfl (lv_at hl 0 rfl) ?_
              refine lv_aload_n hx hb dX11_sets_75 rfl (lv_at hl 2 rfl) ?_
              refine lv_iload hx hb dX11_sets_76 (lv_at hl 1 rfl) ?_
              obtain ⟨r20, hk19, hF⟩ := am_bind hF
              refine am_call X hh (va_runV (As := [.int y16]) (rest := [.int y15]) X.1 (c_X11_hasSpring l G hk19) (cwV 1 hts gX11_sets_X11_hasSpring rfl rfl rfl (by decide +kernel) ⟨Nat.le_of_ble_eq_true rfl, Nat.le_of_ble_eq_true rfl⟩) (am_preV X hh 141 12 (by decide) rfl rfl) rfl rfl hl.1 rfl (lv_room (Nat.le_of_ble_eq_true rfl)) dX11_sets_78 ⟨Nat.le_of_ble_eq_true rfl, Nat.le_of_ble_eq_true rfl⟩) (fun ab H locs hh => ?_)
              refine lv_if_eq (tgt := 88) hx hb dX11_sets_81 (by decide) (fun hc21 => ?_) (fun hc21 => ?_)
              · have hF := am_pos hc21 hF
                refine lv_iconst (v := (0 : Int32)) hx hb dX11_sets_88 (by decide) ?_
                refine lv_iadd hx hb dX11_sets_89 ?_
                refine lv_istore_n (lv' := [(3, .int (y15 + (0 : Int32))), (4, .int y16), (0, .ref (gAd G 141)), (1, .int x1), (2, .int x2)]) hx hb dX11_sets_90 rfl hl (by decide) rfl (fun ls hl => ?_)
                refine lv_iinc (v := (y16 + (1 : Int32))) (lv' := [(4, .int (y16 + (1 : Int32))), (3, .int (y15 + (0 : Int32))), (0, .ref (gAd G 141)), (1, .int x1), (2, .int x2)]) hx hb dX11_sets_91 hl (k := 1) rfl rfl (by decide) rfl (fun ls hl => ?_)
                refine lv_goto (tgt := 67) hx hb dX11_sets_94 (by decide) ?_
                exact ih (y15 + (0 : Int32)) (y16 + (1 : Int32)) ab H locs ls _ hF hh (lv_sub hl [1, 0, 2, 3, 4] rfl) kE
              · have hF := am_neg hc21 hF
                refine lv_iconst (v := (1 : Int32)) hx hb dX11_sets_84 (by decide) ?_
                refine lv_goto (tgt := 89) hx hb dX11_sets_85 (by decide) ?_
                refine lv_iadd hx hb dX11_sets_89 ?_
                refine lv_istore_n (lv' := [(3, .int (y15 + (1 : Int32))), (4, .int y16), (0, .ref (gAd G 141)), (1, .int x1), (2, .int x2)]) hx hb dX11_sets_90 rfl hl (by decide) rfl (fun ls hl => ?_)
                refine lv_iinc (v := (y16 + (1 : Int32))) (lv' := [(4, .int (y16 + (1 : Int32))), (3, .int (y15 + (1 : Int32))), (0, .ref (gAd G 141)), (1, .int x1), (2, .int x2)]) hx hb dX11_sets_91 hl (k := 1) rfl rfl (by decide) rfl (fun ls hl => ?_)
                refine lv_goto (tgt := 67) hx hb dX11_sets_94 (by decide) ?_
                exact ih (y15 + (1 : Int32)) (y16 + (1 : Int32)) ab H locs ls _ hF hh (lv_sub hl [1, 0, 2, 3, 4] rfl) kE
        obtain ⟨z22, hz23, hF⟩ := am_bind hF
        refine hlp67 2000 (0 : Int32) (0 : Int32) ab H locs ls z22 hz23 hh (lv_sub hl [1, 0, 2, 3, 4] rfl) (fun y15 y16 ab H locs ls hz hh hl => ?_)
        · subst hz
          have hF := am_zl hF
          have hF := am_u2 hF
          refine lv_aload_n hx hb dX11_sets_97 rfl (lv_at hl 2 rfl) ?_
          refine lv_iload_n hx hb dX11_sets_98 rfl (lv_at hl 0 rfl) ?_
          obtain ⟨⟨r25, w26⟩, hk24, hF⟩ := am_bind hF
          have hF := am_u2 hF
          refine am_call X hh (va_runV (As := [.int y15]) (rest := []) X.1 (c_X11_done l G hk24) (cwV 1 hts gX11_sets_X11_done rfl rfl rfl (by decide +kernel) ⟨Nat.le_of_ble_eq_true rfl, Nat.le_of_ble_eq_true rfl⟩) (am_preV X hh 141 12 (by decide) rfl rfl) rfl rfl hl.1 rfl (lv_room (Nat.le_of_ble_eq_true rfl)) dX11_sets_99 ⟨Nat.le_of_ble_eq_true rfl, Nat.le_of_ble_eq_true rfl⟩) (fun ab H locs hh => ?_)
          exact am_iret X hr hh (fun t ht => am_qw (mk := oI) hF ht) (Nat.le_of_ble_eq_true rfl) (Nat.le_of_ble_eq_true rfl) dX11_sets_102
      · have hF := am_neg hc12 hF
        refine lv_aload_n hx hb dX11_sets_45 rfl (lv_at hl 0 rfl) ?_
        refine lv_iconst (v := (3 : Int32)) hx hb dX11_sets_46 (by decide) ?_
        obtain ⟨⟨r29, w30⟩, hk28, hF⟩ := am_bind hF
        have hF := am_u2 hF
        refine am_call X hh (va_runV (As := [.int (3 : Int32)]) (rest := []) X.1 (c_X11_fails l G hk28) (cwV 1 hts gX11_sets_X11_fails rfl rfl rfl (by decide +kernel) ⟨Nat.le_of_ble_eq_true rfl, Nat.le_of_ble_eq_true rfl⟩) (am_preV X hh 141 12 (by decide) rfl rfl) rfl rfl hl.1 rfl (lv_room (Nat.le_of_ble_eq_true rfl)) dX11_sets_47 ⟨Nat.le_of_ble_eq_true rfl, Nat.le_of_ble_eq_true rfl⟩) (fun ab H locs hh => ?_)
        exact am_iret X hr hh (fun t ht => am_qw (mk := oI) hF ht) (Nat.le_of_ble_eq_true rfl) (Nat.le_of_ble_eq_true rfl) dX11_sets_50
    · have hF := am_pos hc6 hF
      refine lv_aload_n hx hb dX11_sets_26 rfl (lv_at hl 0 rfl) ?_
      refine lv_iconst (v := (2 : Int32)) hx hb dX11_sets_27 (by decide) ?_
      obtain ⟨⟨r33, w34⟩, hk32, hF⟩ := am_bind hF
      have hF := am_u2 hF
      refine am_call X hh (va_runV (As := [.int (2 : Int32)]) (rest := []) X.1 (c_X11_fails l G hk32) (cwV 1 hts gX11_sets_X11_fails rfl rfl rfl (by decide +kernel) ⟨Nat.le_of_ble_eq_true rfl, Nat.le_of_ble_eq_true rfl⟩) (am_preV X hh 141 12 (by decide) rfl rfl) rfl rfl hl.1 rfl (lv_room (Nat.le_of_ble_eq_true rfl)) dX11_sets_28 ⟨Nat.le_of_ble_eq_true rfl, Nat.le_of_ble_eq_true rfl⟩) (fun ab H locs hh => ?_)
      exact am_iret X hr hh (fun t ht => am_qw (mk := oI) hF ht) (Nat.le_of_ble_eq_true rfl) (Nat.le_of_ble_eq_true rfl) dX11_sets_31
  · have hF := am_pos hc3 hF
    refine lv_aload_n hx hb dX11_sets_8 rfl (lv_at hl 0 rfl) ?_
    refine lv_iconst (v := (1 : Int32)) hx hb dX11_sets_9 (by decide) ?_
    obtain ⟨⟨r37, w38⟩, hk36, hF⟩ := am_bind hF
    have hF := am_u2 hF
    refine am_call X hh (va_runV (As := [.int (1 : Int32)]) (rest := []) X.1 (c_X11_fails l G hk36) (cwV 1 hts gX11_sets_X11_fails rfl rfl rfl (by decide +kernel) ⟨Nat.le_of_ble_eq_true rfl, Nat.le_of_ble_eq_true rfl⟩) (am_preV X hh 141 12 (by decide) rfl rfl) rfl rfl hl.1 rfl (lv_room (Nat.le_of_ble_eq_true rfl)) dX11_sets_10 ⟨Nat.le_of_ble_eq_true rfl, Nat.le_of_ble_eq_true rfl⟩) (fun ab H locs hh => ?_)
    exact am_iret X hr hh (fun t ht => am_qw (mk := oI) hF ht) (Nat.le_of_ble_eq_true rfl) (Nat.le_of_ble_eq_true rfl) dX11_sets_13
set_option maxHeartbeats 4000000 in
set_option maxRecDepth 100000 in
theorem c_X11_setSpring (l : Launch) (G : GG) {w : Wd} {x1 : Int32} {x2 : Int32} {r0 : Int32} {w1 : Wd} (hF : f_X11_setSpring w x1 x2 = some (r0, w1)) : Met l yX11_setSpring wsX11_setSpring ({ frames := 5, cells := 0, slots := 0, locals := 112 } : Room) (va_Pc [.ref (gAd G 141), .int x1, .int x2] (Rel G w)) (amQ G (oI r0) w1) 0 0 (gA G) := by
  refine am_met (own := RX11) (cc := cX11_setSpring) (maxL := 3) (ret := (some .int)) (by decide +kernel) rfl rfl (Nat.le_of_ble_eq_true rfl) ?_
  intro p e s m args below meth c ab H locs ls X hr hh hl
  have hx := X.1.1; have hb := X.1.2.1; have hml := X.1.2.2.1; have hown := X.1.2.2.2.1; have hts := X.1.2.2.2.2
  have hl : lv_has ls 3 [(0, .ref (gAd G 141)), (1, .int x1), (2, .int x2)] := hl
  unfold f_X11_setSpring at hF
  refine lv_aload_n hx hb dX11_setSpring_0 rfl (lv_at hl 0 rfl) ?_
  obtain ⟨w3, hk1, hF⟩ := am_bind hF
  refine am_call X hh (va_runV (As := []) (rest := []) X.1 (c_X11_begin l G hk1) (cwV 0 hts gX11_setSpring_X11_begin rfl rfl rfl (by decide +kernel) ⟨Nat.le_of_ble_eq_true rfl, Nat.le_of_ble_eq_true rfl⟩) (am_preV X hh 141 12 (by decide) rfl rfl) rfl rfl hl.1 rfl (lv_room (Nat.le_of_ble_eq_true rfl)) dX11_setSpring_1 ⟨Nat.le_of_ble_eq_true rfl, Nat.le_of_ble_eq_true rfl⟩) (fun ab H locs hh => ?_)
  refine lv_aload_n hx hb dX11_setSpring_4 rfl (lv_at hl 0 rfl) ?_
  refine lv_aload_n hx hb dX11_setSpring_5 rfl (lv_at hl 0 rfl) ?_
  refine lv_iload_n hx hb dX11_setSpring_6 rfl (lv_at hl 1 rfl) ?_
  refine lv_iload_n hx hb dX11_setSpring_7 rfl (lv_at hl 2 rfl) ?_
  obtain ⟨⟨r5, w6⟩, hk4, hF⟩ := am_bind hF
  have hF := am_u2 hF
  refine am_call X hh (va_runV (As := [.int x1, .int x2]) (rest := [.ref (gAd G 141)]) X.1 (c_X11_sets l G hk4) (cwV 2 hts gX11_setSpring_X11_sets rfl rfl rfl (by decide +kernel) ⟨Nat.le_of_ble_eq_true rfl, Nat.le_of_ble_eq_true rfl⟩) (am_preV X hh 141 12 (by decide) rfl rfl) rfl rfl hl.1 rfl (lv_room (Nat.le_of_ble_eq_true rfl)) dX11_setSpring_8 ⟨Nat.le_of_ble_eq_true rfl, Nat.le_of_ble_eq_true rfl⟩) (fun ab H locs hh => ?_)
  obtain ⟨⟨r9, w10⟩, hk8, hF⟩ := am_bind hF
  have hF := am_u2 hF
  refine am_call X hh (va_runV (As := [.int r5]) (rest := []) X.1 (c_X11_kept l G hk8) (cwV 1 hts gX11_setSpring_X11_kept rfl rfl rfl (by decide +kernel) ⟨Nat.le_of_ble_eq_true rfl, Nat.le_of_ble_eq_true rfl⟩) (am_preV X hh 141 12 (by decide) rfl rfl) rfl rfl hl.1 rfl (lv_room (Nat.le_of_ble_eq_true rfl)) dX11_setSpring_11 ⟨Nat.le_of_ble_eq_true rfl, Nat.le_of_ble_eq_true rfl⟩) (fun ab H locs hh => ?_)
  exact am_iret X hr hh (fun t ht => am_qw (mk := oI) hF ht) (Nat.le_of_ble_eq_true rfl) (Nat.le_of_ble_eq_true rfl) dX11_setSpring_14
set_option maxHeartbeats 4000000 in
set_option maxRecDepth 100000 in
theorem c_X11_winds (l : Launch) (G : GG) {w : Wd} {x1 : Int32} {x2 : Int32} {r0 : Int32} {w1 : Wd} (hF : f_X11_winds w x1 x2 = some (r0, w1)) : Met l yX11_winds wsX11_winds ({ frames := 2, cells := 0, slots := 0, locals := 43 } : Room) (va_Pc [.ref (gAd G 141), .int x1, .int x2] (Rel G w)) (amQ G (oI r0) w1) 0 0 (gA G) := by
  refine am_met (own := RX11) (cc := cX11_winds) (maxL := 3) (ret := (some .int)) (by decide +kernel) rfl rfl (Nat.le_of_ble_eq_true rfl) ?_
  intro p e s m args below meth c ab H locs ls X hr hh hl
  have hx := X.1.1; have hb := X.1.2.1; have hml := X.1.2.2.1; have hown := X.1.2.2.2.1; have hts := X.1.2.2.2.2
  have hl : lv_has ls 3 [(0, .ref (gAd G 141)), (1, .int x1), (2, .int x2)] := hl
  have hwRX11 : ∀ z ∈ u_ws RX11 TX11 18, z ∈ wsX11_winds := by decide +kernel
  unfold f_X11_winds at hF
  refine lv_aload_n hx hb dX11_winds_0 rfl (lv_at hl 0 rfl) ?_
  refine lv_iload_n hx hb dX11_winds_1 rfl (lv_at hl 1 rfl) ?_
  obtain ⟨r2, hk1, hF⟩ := am_bind hF
  refine am_call X hh (va_runV (As := [.int x1]) (rest := []) X.1 (c_X11_isGear l G hk1) (cwV 1 hts gX11_winds_X11_isGear rfl rfl rfl (by decide +kernel) ⟨Nat.le_of_ble_eq_true rfl, Nat.le_of_ble_eq_true rfl⟩) (am_preV X hh 141 12 (by decide) rfl rfl) rfl rfl hl.1 rfl (lv_room (Nat.le_of_ble_eq_true rfl)) dX11_winds_2 ⟨Nat.le_of_ble_eq_true rfl, Nat.le_of_ble_eq_true rfl⟩) (fun ab H locs hh => ?_)
  refine lv_if_ne (tgt := 14) hx hb dX11_winds_5 (by decide) (fun hc3 => ?_) (fun hc3 => ?_)
  · have hF := am_neg hc3 hF
    refine lv_iload_n hx hb dX11_winds_14 rfl (lv_at hl 2 rfl) ?_
    refine lv_iconst (v := (1 : Int32)) hx hb dX11_winds_15 (by decide) ?_
    refine lv_sipush (v := (200 : Int32)) hx hb dX11_winds_16 (by decide) ?_
    obtain ⟨r5, hk4, hF⟩ := am_bind hF
    refine am_call X hh (va_runS (As := [.int x2, .int (1 : Int32), .int (200 : Int32)]) (rest := []) X.1 (c_X11_in l G hk4) (va_cwS 3 hts gX11_winds_X11_in rfl rfl rfl (by decide +kernel) ⟨Nat.le_of_ble_eq_true rfl, Nat.le_of_ble_eq_true rfl⟩) (am_preS X hh) rfl rfl hl.1 rfl (lv_room (Nat.le_of_ble_eq_true rfl)) dX11_winds_19 ⟨Nat.le_of_ble_eq_true rfl, Nat.le_of_ble_eq_true rfl⟩) (fun ab H locs hh => ?_)
    refine lv_if_ne (tgt := 31) hx hb dX11_winds_22 (by decide) (fun hc6 => ?_) (fun hc6 => ?_)
    · have hF := am_neg hc6 hF
      refine lv_aload_n hx hb dX11_winds_31 rfl (lv_at hl 0 rfl) ?_
      refine lv_iload_n hx hb dX11_winds_32 rfl (lv_at hl 1 rfl) ?_
      obtain ⟨r8, hk7, hF⟩ := am_bind hF
      refine am_call X hh (va_runV (As := [.int x1]) (rest := []) X.1 (c_X11_hasSpring l G hk7) (cwV 1 hts gX11_winds_X11_hasSpring rfl rfl rfl (by decide +kernel) ⟨Nat.le_of_ble_eq_true rfl, Nat.le_of_ble_eq_true rfl⟩) (am_preV X hh 141 12 (by decide) rfl rfl) rfl rfl hl.1 rfl (lv_room (Nat.le_of_ble_eq_true rfl)) dX11_winds_33 ⟨Nat.le_of_ble_eq_true rfl, Nat.le_of_ble_eq_true rfl⟩) (fun ab H locs hh => ?_)
      refine lv_if_ne (tgt := 45) hx hb dX11_winds_36 (by decide) (fun hc9 => ?_) (fun hc9 => ?_)
      · have hF := am_neg hc9 hF
        refine lv_aload_n hx hb dX11_winds_45 rfl (lv_at hl 0 rfl) ?_
        refine am_getR X hh 141 12 0 142 (by decide) rfl rfl (by decide) hwRX11 (show Cond.fieldLink RX11 7 "PlanetWorkshopModel" "g" "[J" ∈ wsX11_winds by decide +kernel) rfl dX11_winds_46 ?_
        refine lv_bipush (v := (36 : Int32)) hx hb dX11_winds_49 (by decide) ?_
        refine lv_iload_n hx hb dX11_winds_51 rfl (lv_at hl 1 rfl) ?_
        refine lv_iadd hx hb dX11_winds_52 ?_
        obtain ⟨hq10, hF⟩ := am_ifR hF
        refine am_lald X hh 142 (by decide) rfl hq10 dX11_winds_53 ?_
        refine lv_iload_n hx hb dX11_winds_54 rfl (lv_at hl 2 rfl) ?_
        refine lv_i2l hx hb dX11_winds_55 rfl ?_
        refine lv_ladd hx hb dX11_winds_56 ?_
        refine lv_aload_n hx hb dX11_winds_57 rfl (lv_at hl 0 rfl) ?_
        refine am_getR X hh 141 12 0 142 (by decide) rfl rfl (by decide) hwRX11 (show Cond.fieldLink RX11 7 "PlanetWorkshopModel" "g" "[J" ∈ wsX11_winds by decide +kernel) rfl dX11_winds_58 ?_
        refine lv_bipush (v := (26 : Int32)) hx hb dX11_winds_61 (by decide) ?_
        refine lv_iload_n hx hb dX11_winds_63 rfl (lv_at hl 1 rfl) ?_
        refine lv_iadd hx hb dX11_winds_64 ?_
        obtain ⟨hq11, hF⟩ := am_ifR hF
        refine am_lald X hh 142 (by decide) rfl hq11 dX11_winds_65 ?_
        refine am_lcmp_le (tgt := 76) hx hb dX11_winds_66 dX11_winds_67 (by decide) (fun hc12 => ?_) (fun hc12 => ?_)
        · have hF := am_pos hc12 hF
          refine lv_aload_n hx hb dX11_winds_76 rfl (lv_at hl 0 rfl) ?_
          refine am_getR X hh 141 12 0 142 (by decide) rfl rfl (by decide) hwRX11 (show Cond.fieldLink RX11 7 "PlanetWorkshopModel" "g" "[J" ∈ wsX11_winds by decide +kernel) rfl dX11_winds_77 ?_
          refine lv_bipush (v := (36 : Int32)) hx hb dX11_winds_80 (by decide) ?_
          refine lv_iload_n hx hb dX11_winds_82 rfl (lv_at hl 1 rfl) ?_
          refine lv_iadd hx hb dX11_winds_83 ?_
          refine lv_dup2_11 hx hb dX11_winds_84 rfl rfl ?_
          obtain ⟨hq13, hF⟩ := am_ifR hF
          refine am_lald X hh 142 (by decide) rfl hq13 dX11_winds_85 ?_
          refine lv_iload_n hx hb dX11_winds_86 rfl (lv_at hl 2 rfl) ?_
          refine lv_i2l hx hb dX11_winds_87 rfl ?_
          refine lv_ladd hx hb dX11_winds_88 ?_
          obtain ⟨hq14, hF⟩ := am_ifR hF
          refine am_last X hh 142 (by decide) rfl hq14 dX11_winds_89 (fun H locs hh => ?_)
          obtain ⟨w15, hw15, hF⟩ := am_wl hF
          have hh := AH_eq hw15 hh
          refine lv_aload_n hx hb dX11_winds_90 rfl (lv_at hl 0 rfl) ?_
          refine am_getR X hh 141 12 0 142 (by decide) rfl rfl (by decide) hwRX11 (show Cond.fieldLink RX11 7 "PlanetWorkshopModel" "g" "[J" ∈ wsX11_winds by decide +kernel) rfl dX11_winds_91 ?_
          refine lv_iconst (v := (3 : Int32)) hx hb dX11_winds_94 (by decide) ?_
          refine lv_dup2_11 hx hb dX11_winds_95 rfl rfl ?_
          obtain ⟨hq16, hF⟩ := am_ifR hF
          refine am_lald X hh 142 (by decide) rfl hq16 dX11_winds_96 ?_
          refine lv_iload_n hx hb dX11_winds_97 rfl (lv_at hl 2 rfl) ?_
          refine lv_i2l hx hb dX11_winds_98 rfl ?_
          refine lv_ladd hx hb dX11_winds_99 ?_
          obtain ⟨hq17, hF⟩ := am_ifR hF
          refine am_last X hh 142 (by decide) rfl hq17 dX11_winds_100 (fun H locs hh => ?_)
          obtain ⟨w18, hw18, hF⟩ := am_wl hF
          have hh := AH_eq hw18 hh
          refine lv_aload_n hx hb dX11_winds_101 rfl (lv_at hl 0 rfl) ?_
          refine lv_aload_n hx hb dX11_winds_102 rfl (lv_at hl 0 rfl) ?_
          refine lv_bipush (v := (36 : Int32)) hx hb dX11_winds_103 (by decide) ?_
          refine lv_iload_n hx hb dX11_winds_105 rfl (lv_at hl 1 rfl) ?_
          refine lv_iadd hx hb dX11_winds_106 ?_
          obtain ⟨r20, hk19, hF⟩ := am_bind hF
          refine am_call X hh (va_runV (As := [.int ((36 : Int32) + x1)]) (rest := [.ref (gAd G 141)]) X.1 (c_X11_at l G hk19) (cwV 1 hts gX11_winds_X11_at rfl rfl rfl (by decide +kernel) ⟨Nat.le_of_ble_eq_true rfl, Nat.le_of_ble_eq_true rfl⟩) (am_preV X hh 141 12 (by decide) rfl rfl) rfl rfl hl.1 rfl (lv_room (Nat.le_of_ble_eq_true rfl)) dX11_winds_107 ⟨Nat.le_of_ble_eq_true rfl, Nat.le_of_ble_eq_true rfl⟩) (fun ab H locs hh => ?_)
          obtain ⟨⟨r22, w23⟩, hk21, hF⟩ := am_bind hF
          have hF := am_u2 hF
          refine am_call X hh (va_runV (As := [.int r20]) (rest := []) X.1 (c_X11_done l G hk21) (cwV 1 hts gX11_winds_X11_done rfl rfl rfl (by decide +kernel) ⟨Nat.le_of_ble_eq_true rfl, Nat.le_of_ble_eq_true rfl⟩) (am_preV X hh 141 12 (by decide) rfl rfl) rfl rfl hl.1 rfl (lv_room (Nat.le_of_ble_eq_true rfl)) dX11_winds_110 ⟨Nat.le_of_ble_eq_true rfl, Nat.le_of_ble_eq_true rfl⟩) (fun ab H locs hh => ?_)
          exact am_iret X hr hh (fun t ht => am_qw (mk := oI) hF ht) (Nat.le_of_ble_eq_true rfl) (Nat.le_of_ble_eq_true rfl) dX11_winds_113
        · have hF := am_neg hc12 hF
          refine lv_aload_n hx hb dX11_winds_70 rfl (lv_at hl 0 rfl) ?_
          refine lv_iconst (v := (4 : Int32)) hx hb dX11_winds_71 (by decide) ?_
          obtain ⟨⟨r26, w27⟩, hk25, hF⟩ := am_bind hF
          have hF := am_u2 hF
          refine am_call X hh (va_runV (As := [.int (4 : Int32)]) (rest := []) X.1 (c_X11_fails l G hk25) (cwV 1 hts gX11_winds_X11_fails rfl rfl rfl (by decide +kernel) ⟨Nat.le_of_ble_eq_true rfl, Nat.le_of_ble_eq_true rfl⟩) (am_preV X hh 141 12 (by decide) rfl rfl) rfl rfl hl.1 rfl (lv_room (Nat.le_of_ble_eq_true rfl)) dX11_winds_72 ⟨Nat.le_of_ble_eq_true rfl, Nat.le_of_ble_eq_true rfl⟩) (fun ab H locs hh => ?_)
          exact am_iret X hr hh (fun t ht => am_qw (mk := oI) hF ht) (Nat.le_of_ble_eq_true rfl) (Nat.le_of_ble_eq_true rfl) dX11_winds_75
      · have hF := am_pos hc9 hF
        refine lv_aload_n hx hb dX11_winds_39 rfl (lv_at hl 0 rfl) ?_
        refine lv_iconst (v := (3 : Int32)) hx hb dX11_winds_40 (by decide) ?_
        obtain ⟨⟨r30, w31⟩, hk29, hF⟩ := am_bind hF
        have hF := am_u2 hF
        refine am_call X hh (va_runV (As := [.int (3 : Int32)]) (rest := []) X.1 (c_X11_fails l G hk29) (cwV 1 hts gX11_winds_X11_fails rfl rfl rfl (by decide +kernel) ⟨Nat.le_of_ble_eq_true rfl, Nat.le_of_ble_eq_true rfl⟩) (am_preV X hh 141 12 (by decide) rfl rfl) rfl rfl hl.1 rfl (lv_room (Nat.le_of_ble_eq_true rfl)) dX11_winds_41 ⟨Nat.le_of_ble_eq_true rfl, Nat.le_of_ble_eq_true rfl⟩) (fun ab H locs hh => ?_)
        exact am_iret X hr hh (fun t ht => am_qw (mk := oI) hF ht) (Nat.le_of_ble_eq_true rfl) (Nat.le_of_ble_eq_true rfl) dX11_winds_44
    · have hF := am_pos hc6 hF
      refine lv_aload_n hx hb dX11_winds_25 rfl (lv_at hl 0 rfl) ?_
      refine lv_iconst (v := (2 : Int32)) hx hb dX11_winds_26 (by decide) ?_
      obtain ⟨⟨r34, w35⟩, hk33, hF⟩ := am_bind hF
      have hF := am_u2 hF
      refine am_call X hh (va_runV (As := [.int (2 : Int32)]) (rest := []) X.1 (c_X11_fails l G hk33) (cwV 1 hts gX11_winds_X11_fails rfl rfl rfl (by decide +kernel) ⟨Nat.le_of_ble_eq_true rfl, Nat.le_of_ble_eq_true rfl⟩) (am_preV X hh 141 12 (by decide) rfl rfl) rfl rfl hl.1 rfl (lv_room (Nat.le_of_ble_eq_true rfl)) dX11_winds_27 ⟨Nat.le_of_ble_eq_true rfl, Nat.le_of_ble_eq_true rfl⟩) (fun ab H locs hh => ?_)
      exact am_iret X hr hh (fun t ht => am_qw (mk := oI) hF ht) (Nat.le_of_ble_eq_true rfl) (Nat.le_of_ble_eq_true rfl) dX11_winds_30
  · have hF := am_pos hc3 hF
    refine lv_aload_n hx hb dX11_winds_8 rfl (lv_at hl 0 rfl) ?_
    refine lv_iconst (v := (1 : Int32)) hx hb dX11_winds_9 (by decide) ?_
    obtain ⟨⟨r38, w39⟩, hk37, hF⟩ := am_bind hF
    have hF := am_u2 hF
    refine am_call X hh (va_runV (As := [.int (1 : Int32)]) (rest := []) X.1 (c_X11_fails l G hk37) (cwV 1 hts gX11_winds_X11_fails rfl rfl rfl (by decide +kernel) ⟨Nat.le_of_ble_eq_true rfl, Nat.le_of_ble_eq_true rfl⟩) (am_preV X hh 141 12 (by decide) rfl rfl) rfl rfl hl.1 rfl (lv_room (Nat.le_of_ble_eq_true rfl)) dX11_winds_10 ⟨Nat.le_of_ble_eq_true rfl, Nat.le_of_ble_eq_true rfl⟩) (fun ab H locs hh => ?_)
    exact am_iret X hr hh (fun t ht => am_qw (mk := oI) hF ht) (Nat.le_of_ble_eq_true rfl) (Nat.le_of_ble_eq_true rfl) dX11_winds_13
set_option maxHeartbeats 4000000 in
set_option maxRecDepth 100000 in
theorem c_X11_wind (l : Launch) (G : GG) {w : Wd} {x1 : Int32} {x2 : Int32} {r0 : Int32} {w1 : Wd} (hF : f_X11_wind w x1 x2 = some (r0, w1)) : Met l yX11_wind wsX11_wind ({ frames := 3, cells := 0, slots := 0, locals := 65 } : Room) (va_Pc [.ref (gAd G 141), .int x1, .int x2] (Rel G w)) (amQ G (oI r0) w1) 0 0 (gA G) := by
  refine am_met (own := RX11) (cc := cX11_wind) (maxL := 3) (ret := (some .int)) (by decide +kernel) rfl rfl (Nat.le_of_ble_eq_true rfl) ?_
  intro p e s m args below meth c ab H locs ls X hr hh hl
  have hx := X.1.1; have hb := X.1.2.1; have hml := X.1.2.2.1; have hown := X.1.2.2.2.1; have hts := X.1.2.2.2.2
  have hl : lv_has ls 3 [(0, .ref (gAd G 141)), (1, .int x1), (2, .int x2)] := hl
  unfold f_X11_wind at hF
  refine lv_aload_n hx hb dX11_wind_0 rfl (lv_at hl 0 rfl) ?_
  obtain ⟨w3, hk1, hF⟩ := am_bind hF
  refine am_call X hh (va_runV (As := []) (rest := []) X.1 (c_X11_begin l G hk1) (cwV 0 hts gX11_wind_X11_begin rfl rfl rfl (by decide +kernel) ⟨Nat.le_of_ble_eq_true rfl, Nat.le_of_ble_eq_true rfl⟩) (am_preV X hh 141 12 (by decide) rfl rfl) rfl rfl hl.1 rfl (lv_room (Nat.le_of_ble_eq_true rfl)) dX11_wind_1 ⟨Nat.le_of_ble_eq_true rfl, Nat.le_of_ble_eq_true rfl⟩) (fun ab H locs hh => ?_)
  refine lv_aload_n hx hb dX11_wind_4 rfl (lv_at hl 0 rfl) ?_
  refine lv_aload_n hx hb dX11_wind_5 rfl (lv_at hl 0 rfl) ?_
  refine lv_iload_n hx hb dX11_wind_6 rfl (lv_at hl 1 rfl) ?_
  refine lv_iload_n hx hb dX11_wind_7 rfl (lv_at hl 2 rfl) ?_
  obtain ⟨⟨r5, w6⟩, hk4, hF⟩ := am_bind hF
  have hF := am_u2 hF
  refine am_call X hh (va_runV (As := [.int x1, .int x2]) (rest := [.ref (gAd G 141)]) X.1 (c_X11_winds l G hk4) (cwV 2 hts gX11_wind_X11_winds rfl rfl rfl (by decide +kernel) ⟨Nat.le_of_ble_eq_true rfl, Nat.le_of_ble_eq_true rfl⟩) (am_preV X hh 141 12 (by decide) rfl rfl) rfl rfl hl.1 rfl (lv_room (Nat.le_of_ble_eq_true rfl)) dX11_wind_8 ⟨Nat.le_of_ble_eq_true rfl, Nat.le_of_ble_eq_true rfl⟩) (fun ab H locs hh => ?_)
  obtain ⟨⟨r9, w10⟩, hk8, hF⟩ := am_bind hF
  have hF := am_u2 hF
  refine am_call X hh (va_runV (As := [.int r5]) (rest := []) X.1 (c_X11_kept l G hk8) (cwV 1 hts gX11_wind_X11_kept rfl rfl rfl (by decide +kernel) ⟨Nat.le_of_ble_eq_true rfl, Nat.le_of_ble_eq_true rfl⟩) (am_preV X hh 141 12 (by decide) rfl rfl) rfl rfl hl.1 rfl (lv_room (Nat.le_of_ble_eq_true rfl)) dX11_wind_11 ⟨Nat.le_of_ble_eq_true rfl, Nat.le_of_ble_eq_true rfl⟩) (fun ab H locs hh => ?_)
  exact am_iret X hr hh (fun t ht => am_qw (mk := oI) hF ht) (Nat.le_of_ble_eq_true rfl) (Nat.le_of_ble_eq_true rfl) dX11_wind_14
set_option maxHeartbeats 4000000 in
set_option maxRecDepth 100000 in
theorem c_X11_reverses (l : Launch) (G : GG) {w : Wd} {x1 : Int32} {r0 : Int32} {w1 : Wd} (hF : f_X11_reverses w x1 = some (r0, w1)) : Met l yX11_reverses wsX11_reverses ({ frames := 2, cells := 0, slots := 0, locals := 43 } : Room) (va_Pc [.ref (gAd G 141), .int x1] (Rel G w)) (amQ G (oI r0) w1) 0 0 (gA G) := by
  refine am_met (own := RX11) (cc := cX11_reverses) (maxL := 2) (ret := (some .int)) (by decide +kernel) rfl rfl (Nat.le_of_ble_eq_true rfl) ?_
  intro p e s m args below meth c ab H locs ls X hr hh hl
  have hx := X.1.1; have hb := X.1.2.1; have hml := X.1.2.2.1; have hown := X.1.2.2.2.1; have hts := X.1.2.2.2.2
  have hl : lv_has ls 2 [(0, .ref (gAd G 141)), (1, .int x1)] := hl
  have hwRX11 : ∀ z ∈ u_ws RX11 TX11 18, z ∈ wsX11_reverses := by decide +kernel
  unfold f_X11_reverses at hF
  refine lv_aload_n hx hb dX11_reverses_0 rfl (lv_at hl 0 rfl) ?_
  refine lv_iload_n hx hb dX11_reverses_1 rfl (lv_at hl 1 rfl) ?_
  obtain ⟨r2, hk1, hF⟩ := am_bind hF
  refine am_call X hh (va_runV (As := [.int x1]) (rest := []) X.1 (c_X11_isGear l G hk1) (cwV 1 hts gX11_reverses_X11_isGear rfl rfl rfl (by decide +kernel) ⟨Nat.le_of_ble_eq_true rfl, Nat.le_of_ble_eq_true rfl⟩) (am_preV X hh 141 12 (by decide) rfl rfl) rfl rfl hl.1 rfl (lv_room (Nat.le_of_ble_eq_true rfl)) dX11_reverses_2 ⟨Nat.le_of_ble_eq_true rfl, Nat.le_of_ble_eq_true rfl⟩) (fun ab H locs hh => ?_)
  refine lv_if_ne (tgt := 14) hx hb dX11_reverses_5 (by decide) (fun hc3 => ?_) (fun hc3 => ?_)
  · have hF := am_neg hc3 hF
    refine lv_aload_n hx hb dX11_reverses_14 rfl (lv_at hl 0 rfl) ?_
    refine lv_iload_n hx hb dX11_reverses_15 rfl (lv_at hl 1 rfl) ?_
    obtain ⟨r5, hk4, hF⟩ := am_bind hF
    refine am_call X hh (va_runV (As := [.int x1]) (rest := []) X.1 (c_X11_hasSpring l G hk4) (cwV 1 hts gX11_reverses_X11_hasSpring rfl rfl rfl (by decide +kernel) ⟨Nat.le_of_ble_eq_true rfl, Nat.le_of_ble_eq_true rfl⟩) (am_preV X hh 141 12 (by decide) rfl rfl) rfl rfl hl.1 rfl (lv_room (Nat.le_of_ble_eq_true rfl)) dX11_reverses_16 ⟨Nat.le_of_ble_eq_true rfl, Nat.le_of_ble_eq_true rfl⟩) (fun ab H locs hh => ?_)
    refine lv_if_ne (tgt := 28) hx hb dX11_reverses_19 (by decide) (fun hc6 => ?_) (fun hc6 => ?_)
    · have hF := am_neg hc6 hF
      refine lv_aload_n hx hb dX11_reverses_28 rfl (lv_at hl 0 rfl) ?_
      refine am_getR X hh 141 12 0 142 (by decide) rfl rfl (by decide) hwRX11 (show Cond.fieldLink RX11 7 "PlanetWorkshopModel" "g" "[J" ∈ wsX11_reverses by decide +kernel) rfl dX11_reverses_29 ?_
      refine lv_bipush (v := (46 : Int32)) hx hb dX11_reverses_32 (by decide) ?_
      refine lv_iload_n hx hb dX11_reverses_34 rfl (lv_at hl 1 rfl) ?_
      refine lv_iadd hx hb dX11_reverses_35 ?_
      refine lv_lconst (v := (1 : Int64)) hx hb dX11_reverses_36 (by decide) ?_
      refine lv_aload_n hx hb dX11_reverses_37 rfl (lv_at hl 0 rfl) ?_
      refine am_getR X hh 141 12 0 142 (by decide) rfl rfl (by decide) hwRX11 (show Cond.fieldLink RX11 7 "PlanetWorkshopModel" "g" "[J" ∈ wsX11_reverses by decide +kernel) rfl dX11_reverses_38 ?_
      refine lv_bipush (v := (46 : Int32)) hx hb dX11_reverses_41 (by decide) ?_
      refine lv_iload_n hx hb dX11_reverses_43 rfl (lv_at hl 1 rfl) ?_
      refine lv_iadd hx hb dX11_reverses_44 ?_
      obtain ⟨hq7, hF⟩ := am_ifR hF
      refine am_lald X hh 142 (by decide) rfl hq7 dX11_reverses_45 ?_
      refine lv_lsub hx hb dX11_reverses_46 ?_
      obtain ⟨hq8, hF⟩ := am_ifR hF
      refine am_last X hh 142 (by decide) rfl hq8 dX11_reverses_47 (fun H locs hh => ?_)
      obtain ⟨w9, hw9, hF⟩ := am_wl hF
      have hh := AH_eq hw9 hh
      refine lv_aload_n hx hb dX11_reverses_48 rfl (lv_at hl 0 rfl) ?_
      refine lv_aload_n hx hb dX11_reverses_49 rfl (lv_at hl 0 rfl) ?_
      refine lv_bipush (v := (46 : Int32)) hx hb dX11_reverses_50 (by decide) ?_
      refine lv_iload_n hx hb dX11_reverses_52 rfl (lv_at hl 1 rfl) ?_
      refine lv_iadd hx hb dX11_reverses_53 ?_
      obtain ⟨r11, hk10, hF⟩ := am_bind hF
      refine am_call X hh (va_runV (As := [.int ((46 : Int32) + x1)]) (rest := [.ref (gAd G 141)]) X.1 (c_X11_at l G hk10) (cwV 1 hts gX11_reverses_X11_at rfl rfl rfl (by decide +kernel) ⟨Nat.le_of_ble_eq_true rfl, Nat.le_of_ble_eq_true rfl⟩) (am_preV X hh 141 12 (by decide) rfl rfl) rfl rfl hl.1 rfl (lv_room (Nat.le_of_ble_eq_true rfl)) dX11_reverses_54 ⟨Nat.le_of_ble_eq_true rfl, Nat.le_of_ble_eq_true rfl⟩) (fun ab H locs hh => ?_)
      obtain ⟨⟨r13, w14⟩, hk12, hF⟩ := am_bind hF
      have hF := am_u2 hF
      refine am_call X hh (va_runV (As := [.int r11]) (rest := []) X.1 (c_X11_done l G hk12) (cwV 1 hts gX11_reverses_X11_done rfl rfl rfl (by decide +kernel) ⟨Nat.le_of_ble_eq_true rfl, Nat.le_of_ble_eq_true rfl⟩) (am_preV X hh 141 12 (by decide) rfl rfl) rfl rfl hl.1 rfl (lv_room (Nat.le_of_ble_eq_true rfl)) dX11_reverses_57 ⟨Nat.le_of_ble_eq_true rfl, Nat.le_of_ble_eq_true rfl⟩) (fun ab H locs hh => ?_)
      exact am_iret X hr hh (fun t ht => am_qw (mk := oI) hF ht) (Nat.le_of_ble_eq_true rfl) (Nat.le_of_ble_eq_true rfl) dX11_reverses_60
    · have hF := am_pos hc6 hF
      refine lv_aload_n hx hb dX11_reverses_22 rfl (lv_at hl 0 rfl) ?_
      refine lv_iconst (v := (2 : Int32)) hx hb dX11_reverses_23 (by decide) ?_
      obtain ⟨⟨r17, w18⟩, hk16, hF⟩ := am_bind hF
      have hF := am_u2 hF
      refine am_call X hh (va_runV (As := [.int (2 : Int32)]) (rest := []) X.1 (c_X11_fails l G hk16) (cwV 1 hts gX11_reverses_X11_fails rfl rfl rfl (by decide +kernel) ⟨Nat.le_of_ble_eq_true rfl, Nat.le_of_ble_eq_true rfl⟩) (am_preV X hh 141 12 (by decide) rfl rfl) rfl rfl hl.1 rfl (lv_room (Nat.le_of_ble_eq_true rfl)) dX11_reverses_24 ⟨Nat.le_of_ble_eq_true rfl, Nat.le_of_ble_eq_true rfl⟩) (fun ab H locs hh => ?_)
      exact am_iret X hr hh (fun t ht => am_qw (mk := oI) hF ht) (Nat.le_of_ble_eq_true rfl) (Nat.le_of_ble_eq_true rfl) dX11_reverses_27
  · have hF := am_pos hc3 hF
    refine lv_aload_n hx hb dX11_reverses_8 rfl (lv_at hl 0 rfl) ?_
    refine lv_iconst (v := (1 : Int32)) hx hb dX11_reverses_9 (by decide) ?_
    obtain ⟨⟨r21, w22⟩, hk20, hF⟩ := am_bind hF
    have hF := am_u2 hF
    refine am_call X hh (va_runV (As := [.int (1 : Int32)]) (rest := []) X.1 (c_X11_fails l G hk20) (cwV 1 hts gX11_reverses_X11_fails rfl rfl rfl (by decide +kernel) ⟨Nat.le_of_ble_eq_true rfl, Nat.le_of_ble_eq_true rfl⟩) (am_preV X hh 141 12 (by decide) rfl rfl) rfl rfl hl.1 rfl (lv_room (Nat.le_of_ble_eq_true rfl)) dX11_reverses_10 ⟨Nat.le_of_ble_eq_true rfl, Nat.le_of_ble_eq_true rfl⟩) (fun ab H locs hh => ?_)
    exact am_iret X hr hh (fun t ht => am_qw (mk := oI) hF ht) (Nat.le_of_ble_eq_true rfl) (Nat.le_of_ble_eq_true rfl) dX11_reverses_13
set_option maxHeartbeats 4000000 in
set_option maxRecDepth 100000 in
theorem c_X11_reverse (l : Launch) (G : GG) {w : Wd} {x1 : Int32} {r0 : Int32} {w1 : Wd} (hF : f_X11_reverse w x1 = some (r0, w1)) : Met l yX11_reverse wsX11_reverse ({ frames := 3, cells := 0, slots := 0, locals := 64 } : Room) (va_Pc [.ref (gAd G 141), .int x1] (Rel G w)) (amQ G (oI r0) w1) 0 0 (gA G) := by
  refine am_met (own := RX11) (cc := cX11_reverse) (maxL := 2) (ret := (some .boolean)) (by decide +kernel) rfl rfl (Nat.le_of_ble_eq_true rfl) ?_
  intro p e s m args below meth c ab H locs ls X hr hh hl
  have hx := X.1.1; have hb := X.1.2.1; have hml := X.1.2.2.1; have hown := X.1.2.2.2.1; have hts := X.1.2.2.2.2
  have hl : lv_has ls 2 [(0, .ref (gAd G 141)), (1, .int x1)] := hl
  unfold f_X11_reverse at hF
  refine lv_aload_n hx hb dX11_reverse_0 rfl (lv_at hl 0 rfl) ?_
  obtain ⟨w3, hk1, hF⟩ := am_bind hF
  refine am_call X hh (va_runV (As := []) (rest := []) X.1 (c_X11_begin l G hk1) (cwV 0 hts gX11_reverse_X11_begin rfl rfl rfl (by decide +kernel) ⟨Nat.le_of_ble_eq_true rfl, Nat.le_of_ble_eq_true rfl⟩) (am_preV X hh 141 12 (by decide) rfl rfl) rfl rfl hl.1 rfl (lv_room (Nat.le_of_ble_eq_true rfl)) dX11_reverse_1 ⟨Nat.le_of_ble_eq_true rfl, Nat.le_of_ble_eq_true rfl⟩) (fun ab H locs hh => ?_)
  refine lv_aload_n hx hb dX11_reverse_4 rfl (lv_at hl 0 rfl) ?_
  refine lv_aload_n hx hb dX11_reverse_5 rfl (lv_at hl 0 rfl) ?_
  refine lv_iload_n hx hb dX11_reverse_6 rfl (lv_at hl 1 rfl) ?_
  obtain ⟨⟨r5, w6⟩, hk4, hF⟩ := am_bind hF
  have hF := am_u2 hF
  refine am_call X hh (va_runV (As := [.int x1]) (rest := [.ref (gAd G 141)]) X.1 (c_X11_reverses l G hk4) (cwV 1 hts gX11_reverse_X11_reverses rfl rfl rfl (by decide +kernel) ⟨Nat.le_of_ble_eq_true rfl, Nat.le_of_ble_eq_true rfl⟩) (am_preV X hh 141 12 (by decide) rfl rfl) rfl rfl hl.1 rfl (lv_room (Nat.le_of_ble_eq_true rfl)) dX11_reverse_7 ⟨Nat.le_of_ble_eq_true rfl, Nat.le_of_ble_eq_true rfl⟩) (fun ab H locs hh => ?_)
  obtain ⟨⟨r9, w10⟩, hk8, hF⟩ := am_bind hF
  have hF := am_u2 hF
  refine am_call X hh (va_runV (As := [.int r5]) (rest := []) X.1 (c_X11_kept l G hk8) (cwV 1 hts gX11_reverse_X11_kept rfl rfl rfl (by decide +kernel) ⟨Nat.le_of_ble_eq_true rfl, Nat.le_of_ble_eq_true rfl⟩) (am_preV X hh 141 12 (by decide) rfl rfl) rfl rfl hl.1 rfl (lv_room (Nat.le_of_ble_eq_true rfl)) dX11_reverse_10 ⟨Nat.le_of_ble_eq_true rfl, Nat.le_of_ble_eq_true rfl⟩) (fun ab H locs hh => ?_)
  refine lv_iconst (v := (1 : Int32)) hx hb dX11_reverse_13 (by decide) ?_
  refine lv_icmp_ne (tgt := 21) hx hb dX11_reverse_14 (by decide) (fun hc12 => ?_) (fun hc12 => ?_)
  · have hF := am_neg hc12 hF
    refine lv_iconst (v := (0 : Int32)) hx hb dX11_reverse_21 (by decide) ?_
    exact am_zret (v' := (0 : Int32)) X hr rfl hh (fun t ht => am_qw (mk := oI) hF ht) (Nat.le_of_ble_eq_true rfl) (Nat.le_of_ble_eq_true rfl) dX11_reverse_22
  · have hF := am_pos hc12 hF
    refine lv_iconst (v := (1 : Int32)) hx hb dX11_reverse_17 (by decide) ?_
    refine lv_goto (tgt := 22) hx hb dX11_reverse_18 (by decide) ?_
    exact am_zret (v' := (1 : Int32)) X hr rfl hh (fun t ht => am_qw (mk := oI) hF ht) (Nat.le_of_ble_eq_true rfl) (Nat.le_of_ble_eq_true rfl) dX11_reverse_22
set_option maxHeartbeats 4000000 in
set_option maxRecDepth 100000 in
theorem c_X11_isHindered (l : Launch) (G : GG) {w : Wd} {x1 : Int32} {r0 : Int32} (hF : f_X11_isHindered w x1 = some r0) : Met l yX11_isHindered wsX11_isHindered ({ frames := 0, cells := 0, slots := 0, locals := 0 } : Room) (va_Pc [.ref (gAd G 141), .int x1] (Rel G w)) (amQ G (oI r0) w) 0 0 (gA G) := by
  refine am_met (own := RX11) (cc := cX11_isHindered) (maxL := 5) (ret := (some .boolean)) (by decide +kernel) rfl rfl (Nat.le_of_ble_eq_true rfl) ?_
  intro p e s m args below meth c ab H locs ls X hr hh hl
  have hx := X.1.1; have hb := X.1.2.1; have hml := X.1.2.2.1; have hown := X.1.2.2.2.1; have hts := X.1.2.2.2.2
  have hl : lv_has ls 5 [(0, .ref (gAd G 141)), (1, .int x1)] := hl
  have hwRX11 : ∀ z ∈ u_ws RX11 TX11 18, z ∈ wsX11_isHindered := by decide +kernel
  unfold f_X11_isHindered at hF
  refine lv_iconst (v := (0 : Int32)) hx hb dX11_isHindered_0 (by decide) ?_
  refine lv_istore_n (lv' := [(2, .int (0 : Int32)), (0, .ref (gAd G 141)), (1, .int x1)]) hx hb dX11_isHindered_1 rfl hl (by decide) rfl (fun ls hl => ?_)
  refine lv_iconst (v := (0 : Int32)) hx hb dX11_isHindered_2 (by decide) ?_
  refine lv_istore_n (lv' := [(3, .int (0 : Int32)), (2, .int (0 : Int32)), (0, .ref (gAd G 141)), (1, .int x1)]) hx hb dX11_isHindered_3 rfl hl (by decide) rfl (fun ls hl => ?_)
  have hlp4 : ∀ (n : Nat) (y1 : Int32) (y2 : Int32) (ab : Nat) (H : Heap) (locs : List Loc) (ls : Array Slot) (z : (Int32 × Int32) ⊕ Unit), p_X11_isHindered_4 w x1 n y1 y2 = some z → AH G s.heap w ab H locs → lv_has ls 5 [(2, .int y1), (3, .int y2), (0, .ref (gAd G 141)), (1, .int x1)] → (∀ (y1 : Int32) (y2 : Int32) (ab : Nat) (H : Heap) (locs : List Loc) (ls : Array Slot), z = .inl (y1, y2) → AH G s.heap w ab H locs → lv_has ls 5 [(2, .int y1), (3, .int y2), (0, .ref (gAd G 141)), (1, .int x1)] → W p l e ({ frames := 0, cells := 0, slots := 0, locals := 0 } : Room) s m args below meth c H locs 0 0 (MQ below (amQ G (oI r0) w) args s 0 0 (gA G)) (F0 m 99 ls [])) → W p l e ({ frames := 0, cells := 0, slots := 0, locals := 0 } : Room) s m args below meth c H locs 0 0 (MQ below (amQ G (oI r0) w) args s 0 0 (gA G)) (F0 m 4 ls []) := by
    intro n
    induction n with
    | zero =>
      intro y1 y2 ab H locs ls z hF
      unfold p_X11_isHindered_4 at hF
      cases hF
    | succ n ih =>
      intro y1 y2 ab H locs ls z hF hh hl kE
      unfold p_X11_isHindered_4 at hF
      refine lv_iload_n hx hb dX11_isHindered_4 rfl (lv_at hl 1 rfl) ?_
      refine lv_bipush (v := (10 : Int32)) hx hb dX11_isHindered_5 (by decide) ?_
      refine lv_icmp_ge (tgt := 99) hx hb dX11_isHindered_7 (by decide) (fun hc4 => ?_) (fun hc4 => ?_)
      · have hF := am_pos hc4 hF
        exact kE y1 y2 ab H locs ls (Option.some.inj hF).symm hh (lv_sub hl [0, 1, 2, 3] rfl)
      · have hF := am_neg hc4 hF
        refine lv_aload_n hx hb dX11_isHindered_10 rfl (lv_at hl 2 rfl) ?_
        refine am_getR X hh 141 12 13 148 (by decide) rfl rfl (by decide) hwRX11 (show Cond.fieldLink RX11 36 "PlanetWorkshopModel" "units" "[J" ∈ wsX11_isHindered by decide +kernel) rfl dX11_isHindered_11 ?_
        refine lv_iload_n hx hb dX11_isHindered_14 rfl (lv_at hl 1 rfl) ?_
        obtain ⟨hq5, hF⟩ := am_ifR hF
        refine am_lald X hh 148 (by decide) rfl hq5 dX11_isHindered_15 ?_
        refine lv_lconst (v := (0 : Int64)) hx hb dX11_isHindered_16 (by decide) ?_
        refine am_lcmp_ge (tgt := 25) hx hb dX11_isHindered_17 dX11_isHindered_18 (by decide) (fun hc6 => ?_) (fun hc6 => ?_)
        · have hF := am_pos hc6 hF
          refine lv_iconst (v := (0 : Int32)) hx hb dX11_isHindered_25 (by decide) ?_
          refine lv_aload_n hx hb dX11_isHindered_26 rfl (lv_at hl 2 rfl) ?_
          refine am_getR X hh 141 12 0 142 (by decide) rfl rfl (by decide) hwRX11 (show Cond.fieldLink RX11 7 "PlanetWorkshopModel" "g" "[J" ∈ wsX11_isHindered by decide +kernel) rfl dX11_isHindered_27 ?_
          refine lv_bipush (v := (46 : Int32)) hx hb dX11_isHindered_30 (by decide) ?_
          refine lv_iload_n hx hb dX11_isHindered_32 rfl (lv_at hl 3 rfl) ?_
          refine lv_iadd hx hb dX11_isHindered_33 ?_
          obtain ⟨hq7, hF⟩ := am_ifR hF
          refine am_lald X hh 142 (by decide) rfl hq7 dX11_isHindered_34 ?_
          refine lv_lconst (v := (1 : Int64)) hx hb dX11_isHindered_35 (by decide) ?_
          refine am_lcmp_ne (tgt := 44) hx hb dX11_isHindered_36 dX11_isHindered_37 (by decide) (fun hc8 => ?_) (fun hc8 => ?_)
          · have hF := am_neg hc8 hF
            refine lv_iconst (v := (0 : Int32)) hx hb dX11_isHindered_44 (by decide) ?_
            refine lv_icmp_eq (tgt := 52) hx hb dX11_isHindered_45 (by decide) (fun _ => ?_) (fun hz => absurd (by decide) hz)
            refine lv_iconst (v := (0 : Int32)) hx hb dX11_isHindered_52 (by decide) ?_
            refine lv_istore (lv' := [(4, .int (0 : Int32)), (2, .int y1), (3, .int y2), (0, .ref (gAd G 141)), (1, .int x1)]) hx hb dX11_isHindered_53 hl (by decide) rfl (fun ls hl => ?_)
            refine lv_iload_n hx hb dX11_isHindered_55 rfl (lv_at hl 1 rfl) ?_
            refine lv_if_ne (tgt := 87) hx hb dX11_isHindered_56 (by decide) (fun hc9 => ?_) (fun hc9 => ?_)
            · have hF := am_neg hc9 hF
              refine lv_iconst (v := (1 : Int32)) hx hb dX11_isHindered_87 (by decide) ?_
              refine lv_goto (tgt := 92) hx hb dX11_isHindered_88 (by decide) ?_
              refine lv_istore_n (lv' := [(2, .int (1 : Int32)), (4, .int (0 : Int32)), (3, .int y2), (0, .ref (gAd G 141)), (1, .int x1)]) hx hb dX11_isHindered_92 rfl hl (by decide) rfl (fun ls hl => ?_)
              refine lv_iinc (v := (y2 + (1 : Int32))) (lv' := [(3, .int (y2 + (1 : Int32))), (2, .int (1 : Int32)), (4, .int (0 : Int32)), (0, .ref (gAd G 141)), (1, .int x1)]) hx hb dX11_isHindered_93 hl (k := 2) rfl rfl (by decide) rfl (fun ls hl => ?_)
              refine lv_goto (tgt := 4) hx hb dX11_isHindered_96 (by decide) ?_
              exact ih (1 : Int32) (y2 + (1 : Int32)) ab H locs ls _ hF hh (lv_sub hl [1, 0, 3, 4] rfl) kE
            · have hF := am_pos hc9 hF
              refine lv_aload_n hx hb dX11_isHindered_59 rfl (lv_at hl 3 rfl) ?_
              refine am_getR X hh 141 12 14 149 (by decide) rfl rfl (by decide) hwRX11 (show Cond.fieldLink RX11 39 "PlanetWorkshopModel" "isKnown" "[Z" ∈ wsX11_isHindered by decide +kernel) rfl dX11_isHindered_60 ?_
              refine lv_iload_n hx hb dX11_isHindered_63 rfl (lv_at hl 2 rfl) ?_
              obtain ⟨hq10, hF⟩ := am_ifR hF
              refine am_zald X hh 149 (by decide) rfl hq10 dX11_isHindered_64 ?_
              refine lv_if_eq (tgt := 91) hx hb dX11_isHindered_65 (by decide) (fun hc11 => ?_) (fun hc11 => ?_)
              · have hF := am_pos hc11 hF
                refine lv_iconst (v := (0 : Int32)) hx hb dX11_isHindered_91 (by decide) ?_
                refine lv_istore_n (lv' := [(2, .int (0 : Int32)), (4, .int (0 : Int32)), (3, .int y2), (0, .ref (gAd G 141)), (1, .int x1)]) hx hb dX11_isHindered_92 rfl hl (by decide) rfl (fun ls hl => ?_)
                refine lv_iinc (v := (y2 + (1 : Int32))) (lv' := [(3, .int (y2 + (1 : Int32))), (2, .int (0 : Int32)), (4, .int (0 : Int32)), (0, .ref (gAd G 141)), (1, .int x1)]) hx hb dX11_isHindered_93 hl (k := 2) rfl rfl (by decide) rfl (fun ls hl => ?_)
                refine lv_goto (tgt := 4) hx hb dX11_isHindered_96 (by decide) ?_
                exact ih (0 : Int32) (y2 + (1 : Int32)) ab H locs ls _ hF hh (lv_sub hl [1, 0, 3, 4] rfl) kE
              · have hF := am_neg hc11 hF
                refine lv_iload hx hb dX11_isHindered_68 (lv_at hl 0 rfl) ?_
                refine lv_if_eq (tgt := 91) hx hb dX11_isHindered_70 (by decide) (fun _ => ?_) (fun hz => absurd (by decide) hz)
                refine lv_iconst (v := (0 : Int32)) hx hb dX11_isHindered_91 (by decide) ?_
                refine lv_istore_n (lv' := [(2, .int (0 : Int32)), (4, .int (0 : Int32)), (3, .int y2), (0, .ref (gAd G 141)), (1, .int x1)]) hx hb dX11_isHindered_92 rfl hl (by decide) rfl (fun ls hl => ?_)
                refine lv_iinc (v := (y2 + (1 : Int32))) (lv' := [(3, .int (y2 + (1 : Int32))), (2, .int (0 : Int32)), (4, .int (0 : Int32)), (0, .ref (gAd G 141)), (1, .int x1)]) hx hb dX11_isHindered_93 hl (k := 2) rfl rfl (by decide) rfl (fun ls hl => ?_)
                refine lv_goto (tgt := 4) hx hb dX11_isHindered_96 (by decide) ?_
                exact ih (0 : Int32) (y2 + (1 : Int32)) ab H locs ls _ hF hh (lv_sub hl [1, 0, 3, 4] rfl) kE
          · have hF := am_pos hc8 hF
            refine lv_iconst (v := (1 : Int32)) hx hb dX11_isHindered_40 (by decide) ?_
            refine lv_goto (tgt := 45) hx hb dX11_isHindered_41 (by decide) ?_
            refine lv_icmp_eq (tgt := 52) hx hb dX11_isHindered_45 (by decide) (fun hz => absurd hz (by decide)) (fun _ => ?_)
            refine lv_iconst (v := (1 : Int32)) hx hb dX11_isHindered_48 (by decide) ?_
            refine lv_goto (tgt := 53) hx hb dX11_isHindered_49 (by decide) ?_
            refine lv_istore (lv' := [(4, .int (1 : Int32)), (2, .int y1), (3, .int y2), (0, .ref (gAd G 141)), (1, .int x1)]) hx hb dX11_isHindered_53 hl (by decide) rfl (fun ls hl => ?_)
            refine lv_iload_n hx hb dX11_isHindered_55 rfl (lv_at hl 1 rfl) ?_
            refine lv_if_ne (tgt := 87) hx hb dX11_isHindered_56 (by decide) (fun hc12 => ?_) (fun hc12 => ?_)
            · have hF := am_neg hc12 hF
              refine lv_iconst (v := (1 : Int32)) hx hb dX11_isHindered_87 (by decide) ?_
              refine lv_goto (tgt := 92) hx hb dX11_isHindered_88 (by decide) ?_
              refine lv_istore_n (lv' := [(2, .int (1 : Int32)), (4, .int (1 : Int32)), (3, .int y2), (0, .ref (gAd G 141)), (1, .int x1)]) hx hb dX11_isHindered_92 rfl hl (by decide) rfl (fun ls hl => ?_)
              refine lv_iinc (v := (y2 + (1 : Int32))) (lv' := [(3, .int (y2 + (1 : Int32))), (2, .int (1 : Int32)), (4, .int (1 : Int32)), (0, .ref (gAd G 141)), (1, .int x1)]) hx hb dX11_isHindered_93 hl (k := 2) rfl rfl (by decide) rfl (fun ls hl => ?_)
              refine lv_goto (tgt := 4) hx hb dX11_isHindered_96 (by decide) ?_
              exact ih (1 : Int32) (y2 + (1 : Int32)) ab H locs ls _ hF hh (lv_sub hl [1, 0, 3, 4] rfl) kE
            · have hF := am_pos hc12 hF
              refine lv_aload_n hx hb dX11_isHindered_59 rfl (lv_at hl 3 rfl) ?_
              refine am_getR X hh 141 12 14 149 (by decide) rfl rfl (by decide) hwRX11 (show Cond.fieldLink RX11 39 "PlanetWorkshopModel" "isKnown" "[Z" ∈ wsX11_isHindered by decide +kernel) rfl dX11_isHindered_60 ?_
              refine lv_iload_n hx hb dX11_isHindered_63 rfl (lv_at hl 2 rfl) ?_
              obtain ⟨hq13, hF⟩ := am_ifR hF
              refine am_zald X hh 149 (by decide) rfl hq13 dX11_isHindered_64 ?_
              refine lv_if_eq (tgt := 91) hx hb dX11_isHindered_65 (by decide) (fun hc14 => ?_) (fun hc14 => ?_)
              · have hF := am_pos hc14 hF
                refine lv_iconst (v := (0 : Int32)) hx hb dX11_isHindered_91 (by decide) ?_
                refine lv_istore_n (lv' := [(2, .int (0 : Int32)), (4, .int (1 : Int32)), (3, .int y2), (0, .ref (gAd G 141)), (1, .int x1)]) hx hb dX11_isHindered_92 rfl hl (by decide) rfl (fun ls hl => ?_)
                refine lv_iinc (v := (y2 + (1 : Int32))) (lv' := [(3, .int (y2 + (1 : Int32))), (2, .int (0 : Int32)), (4, .int (1 : Int32)), (0, .ref (gAd G 141)), (1, .int x1)]) hx hb dX11_isHindered_93 hl (k := 2) rfl rfl (by decide) rfl (fun ls hl => ?_)
                refine lv_goto (tgt := 4) hx hb dX11_isHindered_96 (by decide) ?_
                exact ih (0 : Int32) (y2 + (1 : Int32)) ab H locs ls _ hF hh (lv_sub hl [1, 0, 3, 4] rfl) kE
              · have hF := am_neg hc14 hF
                refine lv_iload hx hb dX11_isHindered_68 (lv_at hl 0 rfl) ?_
                refine lv_if_eq (tgt := 91) hx hb dX11_isHindered_70 (by decide) (fun hz => absurd hz (by decide)) (fun _ => ?_)
                refine lv_aload_n hx hb dX11_isHindered_73 rfl (lv_at hl 3 rfl) ?_
                refine am_getR X hh 141 12 0 142 (by decide) rfl rfl (by decide) hwRX11 (show Cond.fieldLink RX11 7 "PlanetWorkshopModel" "g" "[J" ∈ wsX11_isHindered by decide +kernel) rfl dX11_isHindered_74 ?_
                refine lv_bipush (v := (56 : Int32)) hx hb dX11_isHindered_77 (by decide) ?_
                refine lv_iload_n hx hb dX11_isHindered_79 rfl (lv_at hl 2 rfl) ?_
                refine lv_iadd hx hb dX11_isHindered_80 ?_
                obtain ⟨hq15, hF⟩ := am_ifR hF
                refine am_lald X hh 142 (by decide) rfl hq15 dX11_isHindered_81 ?_
                refine lv_lconst (v := (1 : Int64)) hx hb dX11_isHindered_82 (by decide) ?_
                refine am_lcmp_ne (tgt := 91) hx hb dX11_isHindered_83 dX11_isHindered_84 (by decide) (fun hc16 => ?_) (fun hc16 => ?_)
                · have hF := am_neg hc16 hF
                  refine lv_iconst (v := (0 : Int32)) hx hb dX11_isHindered_91 (by decide) ?_
                  refine lv_istore_n (lv' := [(2, .int (0 : Int32)), (4, .int (1 : Int32)), (3, .int y2), (0, .ref (gAd G 141)), (1, .int x1)]) hx hb dX11_isHindered_92 rfl hl (by decide) rfl (fun ls hl => ?_)
                  refine lv_iinc (v := (y2 + (1 : Int32))) (lv' := [(3, .int (y2 + (1 : Int32))), (2, .int (0 : Int32)), (4, .int (1 : Int32)), (0, .ref (gAd G 141)), (1, .int x1)]) hx hb dX11_isHindered_93 hl (k := 2) rfl rfl (by decide) rfl (fun ls hl => ?_)
                  refine lv_goto (tgt := 4) hx hb dX11_isHindered_96 (by decide) ?_
                  exact ih (0 : Int32) (y2 + (1 : Int32)) ab H locs ls _ hF hh (lv_sub hl [1, 0, 3, 4] rfl) kE
                · have hF := am_pos hc16 hF
                  refine lv_iconst (v := (1 : Int32)) hx hb dX11_isHindered_87 (by decide) ?_
                  refine lv_goto (tgt := 92) hx hb dX11_isHindered_88 (by decide) ?_
                  refine lv_istore_n (lv' := [(2, .int (1 : Int32)), (4, .int (1 : Int32)), (3, .int y2), (0, .ref (gAd G 141)), (1, .int x1)]) hx hb dX11_isHindered_92 rfl hl (by decide) rfl (fun ls hl => ?_)
                  refine lv_iinc (v := (y2 + (1 : Int32))) (lv' := [(3, .int (y2 + (1 : Int32))), (2, .int (1 : Int32)), (4, .int (1 : Int32)), (0, .ref (gAd G 141)), (1, .int x1)]) hx hb dX11_isHindered_93 hl (k := 2) rfl rfl (by decide) rfl (fun ls hl => ?_)
                  refine lv_goto (tgt := 4) hx hb dX11_isHindered_96 (by decide) ?_
                  exact ih (1 : Int32) (y2 + (1 : Int32)) ab H locs ls _ hF hh (lv_sub hl [1, 0, 3, 4] rfl) kE
        · have hF := am_neg hc6 hF
          refine lv_iconst (v := (1 : Int32)) hx hb dX11_isHindered_21 (by decide) ?_
          refine lv_goto (tgt := 26) hx hb dX11_isHindered_22 (by decide) ?_
          refine lv_aload_n hx hb dX11_isHindered_26 rfl (lv_at hl 2 rfl) ?_
          refine am_getR X hh 141 12 0 142 (by decide) rfl rfl (by decide) hwRX11 (show Cond.fieldLink RX11 7 "PlanetWorkshopModel" "g" "[J" ∈ wsX11_isHindered by decide +kernel) rfl dX11_isHindered_27 ?_
          refine lv_bipush (v := (46 : Int32)) hx hb dX11_isHindered_30 (by decide) ?_
          refine lv_iload_n hx hb dX11_isHindered_32 rfl (lv_at hl 3 rfl) ?_
          refine lv_iadd hx hb dX11_isHindered_33 ?_
          obtain ⟨hq17, hF⟩ := am_ifR hF
          refine am_lald X hh 142 (by decide) rfl hq17 dX11_isHindered_34 ?_
          refine lv_lconst (v := (1 : Int64)) hx hb dX11_isHindered_35 (by decide) ?_
          refine am_lcmp_ne (tgt := 44) hx hb dX11_isHindered_36 dX11_isHindered_37 (by decide) (fun hc18 => ?_) (fun hc18 => ?_)
          · have hF := am_neg hc18 hF
            refine lv_iconst (v := (0 : Int32)) hx hb dX11_isHindered_44 (by decide) ?_
            refine lv_icmp_eq (tgt := 52) hx hb dX11_isHindered_45 (by decide) (fun hz => absurd hz (by decide)) (fun _ => ?_)
            refine lv_iconst (v := (1 : Int32)) hx hb dX11_isHindered_48 (by decide) ?_
            refine lv_goto (tgt := 53) hx hb dX11_isHindered_49 (by decide) ?_
            refine lv_istore (lv' := [(4, .int (1 : Int32)), (2, .int y1), (3, .int y2), (0, .ref (gAd G 141)), (1, .int x1)]) hx hb dX11_isHindered_53 hl (by decide) rfl (fun ls hl => ?_)
            refine lv_iload_n hx hb dX11_isHindered_55 rfl (lv_at hl 1 rfl) ?_
            refine lv_if_ne (tgt := 87) hx hb dX11_isHindered_56 (by decide) (fun hc19 => ?_) (fun hc19 => ?_)
            · have hF := am_neg hc19 hF
              refine lv_iconst (v := (1 : Int32)) hx hb dX11_isHindered_87 (by decide) ?_
              refine lv_goto (tgt := 92) hx hb dX11_isHindered_88 (by decide) ?_
              refine lv_istore_n (lv' := [(2, .int (1 : Int32)), (4, .int (1 : Int32)), (3, .int y2), (0, .ref (gAd G 141)), (1, .int x1)]) hx hb dX11_isHindered_92 rfl hl (by decide) rfl (fun ls hl => ?_)
              refine lv_iinc (v := (y2 + (1 : Int32))) (lv' := [(3, .int (y2 + (1 : Int32))), (2, .int (1 : Int32)), (4, .int (1 : Int32)), (0, .ref (gAd G 141)), (1, .int x1)]) hx hb dX11_isHindered_93 hl (k := 2) rfl rfl (by decide) rfl (fun ls hl => ?_)
              refine lv_goto (tgt := 4) hx hb dX11_isHindered_96 (by decide) ?_
              exact ih (1 : Int32) (y2 + (1 : Int32)) ab H locs ls _ hF hh (lv_sub hl [1, 0, 3, 4] rfl) kE
            · have hF := am_pos hc19 hF
              refine lv_aload_n hx hb dX11_isHindered_59 rfl (lv_at hl 3 rfl) ?_
              refine am_getR X hh 141 12 14 149 (by decide) rfl rfl (by decide) hwRX11 (show Cond.fieldLink RX11 39 "PlanetWorkshopModel" "isKnown" "[Z" ∈ wsX11_isHindered by decide +kernel) rfl dX11_isHindered_60 ?_
              refine lv_iload_n hx hb dX11_isHindered_63 rfl (lv_at hl 2 rfl) ?_
              obtain ⟨hq20, hF⟩ := am_ifR hF
              refine am_zald X hh 149 (by decide) rfl hq20 dX11_isHindered_64 ?_
              refine lv_if_eq (tgt := 91) hx hb dX11_isHindered_65 (by decide) (fun hc21 => ?_) (fun hc21 => ?_)
              · have hF := am_pos hc21 hF
                refine lv_iconst (v := (0 : Int32)) hx hb dX11_isHindered_91 (by decide) ?_
                refine lv_istore_n (lv' := [(2, .int (0 : Int32)), (4, .int (1 : Int32)), (3, .int y2), (0, .ref (gAd G 141)), (1, .int x1)]) hx hb dX11_isHindered_92 rfl hl (by decide) rfl (fun ls hl => ?_)
                refine lv_iinc (v := (y2 + (1 : Int32))) (lv' := [(3, .int (y2 + (1 : Int32))), (2, .int (0 : Int32)), (4, .int (1 : Int32)), (0, .ref (gAd G 141)), (1, .int x1)]) hx hb dX11_isHindered_93 hl (k := 2) rfl rfl (by decide) rfl (fun ls hl => ?_)
                refine lv_goto (tgt := 4) hx hb dX11_isHindered_96 (by decide) ?_
                exact ih (0 : Int32) (y2 + (1 : Int32)) ab H locs ls _ hF hh (lv_sub hl [1, 0, 3, 4] rfl) kE
              · have hF := am_neg hc21 hF
                refine lv_iload hx hb dX11_isHindered_68 (lv_at hl 0 rfl) ?_
                refine lv_if_eq (tgt := 91) hx hb dX11_isHindered_70 (by decide) (fun hz => absurd hz (by decide)) (fun _ => ?_)
                refine lv_aload_n hx hb dX11_isHindered_73 rfl (lv_at hl 3 rfl) ?_
                refine am_getR X hh 141 12 0 142 (by decide) rfl rfl (by decide) hwRX11 (show Cond.fieldLink RX11 7 "PlanetWorkshopModel" "g" "[J" ∈ wsX11_isHindered by decide +kernel) rfl dX11_isHindered_74 ?_
                refine lv_bipush (v := (56 : Int32)) hx hb dX11_isHindered_77 (by decide) ?_
                refine lv_iload_n hx hb dX11_isHindered_79 rfl (lv_at hl 2 rfl) ?_
                refine lv_iadd hx hb dX11_isHindered_80 ?_
                obtain ⟨hq22, hF⟩ := am_ifR hF
                refine am_lald X hh 142 (by decide) rfl hq22 dX11_isHindered_81 ?_
                refine lv_lconst (v := (1 : Int64)) hx hb dX11_isHindered_82 (by decide) ?_
                refine am_lcmp_ne (tgt := 91) hx hb dX11_isHindered_83 dX11_isHindered_84 (by decide) (fun hc23 => ?_) (fun hc23 => ?_)
                · have hF := am_neg hc23 hF
                  refine lv_iconst (v := (0 : Int32)) hx hb dX11_isHindered_91 (by decide) ?_
                  refine lv_istore_n (lv' := [(2, .int (0 : Int32)), (4, .int (1 : Int32)), (3, .int y2), (0, .ref (gAd G 141)), (1, .int x1)]) hx hb dX11_isHindered_92 rfl hl (by decide) rfl (fun ls hl => ?_)
                  refine lv_iinc (v := (y2 + (1 : Int32))) (lv' := [(3, .int (y2 + (1 : Int32))), (2, .int (0 : Int32)), (4, .int (1 : Int32)), (0, .ref (gAd G 141)), (1, .int x1)]) hx hb dX11_isHindered_93 hl (k := 2) rfl rfl (by decide) rfl (fun ls hl => ?_)
                  refine lv_goto (tgt := 4) hx hb dX11_isHindered_96 (by decide) ?_
                  exact ih (0 : Int32) (y2 + (1 : Int32)) ab H locs ls _ hF hh (lv_sub hl [1, 0, 3, 4] rfl) kE
                · have hF := am_pos hc23 hF
                  refine lv_iconst (v := (1 : Int32)) hx hb dX11_isHindered_87 (by decide) ?_
                  refine lv_goto (tgt := 92) hx hb dX11_isHindered_88 (by decide) ?_
                  refine lv_istore_n (lv' := [(2, .int (1 : Int32)), (4, .int (1 : Int32)), (3, .int y2), (0, .ref (gAd G 141)), (1, .int x1)]) hx hb dX11_isHindered_92 rfl hl (by decide) rfl (fun ls hl => ?_)
                  refine lv_iinc (v := (y2 + (1 : Int32))) (lv' := [(3, .int (y2 + (1 : Int32))), (2, .int (1 : Int32)), (4, .int (1 : Int32)), (0, .ref (gAd G 141)), (1, .int x1)]) hx hb dX11_isHindered_93 hl (k := 2) rfl rfl (by decide) rfl (fun ls hl => ?_)
                  refine lv_goto (tgt := 4) hx hb dX11_isHindered_96 (by decide) ?_
                  exact ih (1 : Int32) (y2 + (1 : Int32)) ab H locs ls _ hF hh (lv_sub hl [1, 0, 3, 4] rfl) kE
          · have hF := am_pos hc18 hF
            refine lv_iconst (v := (1 : Int32)) hx hb dX11_isHindered_40 (by decide) ?_
            refine lv_goto (tgt := 45) hx hb dX11_isHindered_41 (by decide) ?_
            refine lv_icmp_eq (tgt := 52) hx hb dX11_isHindered_45 (by decide) (fun _ => ?_) (fun hz => absurd (by decide) hz)
            refine lv_iconst (v := (0 : Int32)) hx hb dX11_isHindered_52 (by decide) ?_
            refine lv_istore (lv' := [(4, .int (0 : Int32)), (2, .int y1), (3, .int y2), (0, .ref (gAd G 141)), (1, .int x1)]) hx hb dX11_isHindered_53 hl (by decide) rfl (fun ls hl => ?_)
            refine lv_iload_n hx hb dX11_isHindered_55 rfl (lv_at hl 1 rfl) ?_
            refine lv_if_ne (tgt := 87) hx hb dX11_isHindered_56 (by decide) (fun hc24 => ?_) (fun hc24 => ?_)
            · have hF := am_neg hc24 hF
              refine lv_iconst (v := (1 : Int32)) hx hb dX11_isHindered_87 (by decide) ?_
              refine lv_goto (tgt := 92) hx hb dX11_isHindered_88 (by decide) ?_
              refine lv_istore_n (lv' := [(2, .int (1 : Int32)), (4, .int (0 : Int32)), (3, .int y2), (0, .ref (gAd G 141)), (1, .int x1)]) hx hb dX11_isHindered_92 rfl hl (by decide) rfl (fun ls hl => ?_)
              refine lv_iinc (v := (y2 + (1 : Int32))) (lv' := [(3, .int (y2 + (1 : Int32))), (2, .int (1 : Int32)), (4, .int (0 : Int32)), (0, .ref (gAd G 141)), (1, .int x1)]) hx hb dX11_isHindered_93 hl (k := 2) rfl rfl (by decide) rfl (fun ls hl => ?_)
              refine lv_goto (tgt := 4) hx hb dX11_isHindered_96 (by decide) ?_
              exact ih (1 : Int32) (y2 + (1 : Int32)) ab H locs ls _ hF hh (lv_sub hl [1, 0, 3, 4] rfl) kE
            · have hF := am_pos hc24 hF
              refine lv_aload_n hx hb dX11_isHindered_59 rfl (lv_at hl 3 rfl) ?_
              refine am_getR X hh 141 12 14 149 (by decide) rfl rfl (by decide) hwRX11 (show Cond.fieldLink RX11 39 "PlanetWorkshopModel" "isKnown" "[Z" ∈ wsX11_isHindered by decide +kernel) rfl dX11_isHindered_60 ?_
              refine lv_iload_n hx hb dX11_isHindered_63 rfl (lv_at hl 2 rfl) ?_
              obtain ⟨hq25, hF⟩ := am_ifR hF
              refine am_zald X hh 149 (by decide) rfl hq25 dX11_isHindered_64 ?_
              refine lv_if_eq (tgt := 91) hx hb dX11_isHindered_65 (by decide) (fun hc26 => ?_) (fun hc26 => ?_)
              · have hF := am_pos hc26 hF
                refine lv_iconst (v := (0 : Int32)) hx hb dX11_isHindered_91 (by decide) ?_
                refine lv_istore_n (lv' := [(2, .int (0 : Int32)), (4, .int (0 : Int32)), (3, .int y2), (0, .ref (gAd G 141)), (1, .int x1)]) hx hb dX11_isHindered_92 rfl hl (by decide) rfl (fun ls hl => ?_)
                refine lv_iinc (v := (y2 + (1 : Int32))) (lv' := [(3, .int (y2 + (1 : Int32))), (2, .int (0 : Int32)), (4, .int (0 : Int32)), (0, .ref (gAd G 141)), (1, .int x1)]) hx hb dX11_isHindered_93 hl (k := 2) rfl rfl (by decide) rfl (fun ls hl => ?_)
                refine lv_goto (tgt := 4) hx hb dX11_isHindered_96 (by decide) ?_
                exact ih (0 : Int32) (y2 + (1 : Int32)) ab H locs ls _ hF hh (lv_sub hl [1, 0, 3, 4] rfl) kE
              · have hF := am_neg hc26 hF
                refine lv_iload hx hb dX11_isHindered_68 (lv_at hl 0 rfl) ?_
                refine lv_if_eq (tgt := 91) hx hb dX11_isHindered_70 (by decide) (fun _ => ?_) (fun hz => absurd (by decide) hz)
                refine lv_iconst (v := (0 : Int32)) hx hb dX11_isHindered_91 (by decide) ?_
                refine lv_istore_n (lv' := [(2, .int (0 : Int32)), (4, .int (0 : Int32)), (3, .int y2), (0, .ref (gAd G 141)), (1, .int x1)]) hx hb dX11_isHindered_92 rfl hl (by decide) rfl (fun ls hl => ?_)
                refine lv_iinc (v := (y2 + (1 : Int32))) (lv' := [(3, .int (y2 + (1 : Int32))), (2, .int (0 : Int32)), (4, .int (0 : Int32)), (0, .ref (gAd G 141)), (1, .int x1)]) hx hb dX11_isHindered_93 hl (k := 2) rfl rfl (by decide) rfl (fun ls hl => ?_)
                refine lv_goto (tgt := 4) hx hb dX11_isHindered_96 (by decide) ?_
                exact ih (0 : Int32) (y2 + (1 : Int32)) ab H locs ls _ hF hh (lv_sub hl [1, 0, 3, 4] rfl) kE
  obtain ⟨z27, hz28, hF⟩ := am_bind hF
  refine hlp4 2000 (0 : Int32) (0 : Int32) ab H locs ls z27 hz28 hh (lv_sub hl [1, 0, 2, 3] rfl) (fun y1 y2 ab H locs ls hz hh hl => ?_)
  · subst hz
    have hF := am_zl hF
    have hF := am_u2 hF
    refine lv_iload_n hx hb dX11_isHindered_99 rfl (lv_at hl 0 rfl) ?_
    exact am_zret (v' := (vp_nar .boolean y1)) X hr (nar_z _) hh (fun t ht => am_qp (mk := oI) hF ht) (Nat.le_of_ble_eq_true rfl) (Nat.le_of_ble_eq_true rfl) dX11_isHindered_100
set_option maxHeartbeats 4000000 in
set_option maxRecDepth 100000 in
theorem c_X11_turnsBy (l : Launch) (G : GG) {w : Wd} {x1 : Int32} {x2 : Int64} {w1 : Wd} (hF : f_X11_turnsBy w x1 x2 = some w1) : Met l yX11_turnsBy wsX11_turnsBy ({ frames := 1, cells := 0, slots := 0, locals := 21 } : Room) (va_Pc [.ref (gAd G 141), .int x1, .long x2] (Rel G w)) (amQ G none w1) 0 0 (gA G) := by
  refine am_met (own := RX11) (cc := cX11_turnsBy) (maxL := 7) (ret := none) (by decide +kernel) rfl rfl (Nat.le_of_ble_eq_true rfl) ?_
  intro p e s m args below meth c ab H locs ls X hr hh hl
  have hx := X.1.1; have hb := X.1.2.1; have hml := X.1.2.2.1; have hown := X.1.2.2.2.1; have hts := X.1.2.2.2.2
  have hl : lv_has ls 7 [(0, .ref (gAd G 141)), (1, .int x1), (2, .long x2)] := hl
  have hwRX11 : ∀ z ∈ u_ws RX11 TX11 18, z ∈ wsX11_turnsBy := by decide +kernel
  unfold f_X11_turnsBy at hF
  refine lv_aload_n hx hb dX11_turnsBy_0 rfl (lv_at hl 0 rfl) ?_
  refine am_getR X hh 141 12 0 142 (by decide) rfl rfl (by decide) hwRX11 (show Cond.fieldLink RX11 7 "PlanetWorkshopModel" "g" "[J" ∈ wsX11_turnsBy by decide +kernel) rfl dX11_turnsBy_1 ?_
  refine lv_bipush (v := (46 : Int32)) hx hb dX11_turnsBy_4 (by decide) ?_
  refine lv_iload_n hx hb dX11_turnsBy_6 rfl (lv_at hl 1 rfl) ?_
  refine lv_iadd hx hb dX11_turnsBy_7 ?_
  obtain ⟨hq1, hF⟩ := am_ifR hF
  refine am_lald X hh 142 (by decide) rfl hq1 dX11_turnsBy_8 ?_
  refine lv_lconst (v := (1 : Int64)) hx hb dX11_turnsBy_9 (by decide) ?_
  refine am_lcmp_ne (tgt := 19) hx hb dX11_turnsBy_10 dX11_turnsBy_11 (by decide) (fun hc2 => ?_) (fun hc2 => ?_)
  · have hF := am_neg hc2 hF
    refine lv_lload_n hx hb dX11_turnsBy_19 rfl (lv_at hl 2 rfl) ?_
    refine lv_lstore (lv' := [(4, .long x2), (0, .ref (gAd G 141)), (1, .int x1), (2, .long x2)]) hx hb dX11_turnsBy_20 hl (by decide) rfl (fun ls hl => ?_)
    refine lv_iconst (v := (0 : Int32)) hx hb dX11_turnsBy_22 (by decide) ?_
    refine lv_istore (lv' := [(6, .int (0 : Int32)), (4, .long x2), (0, .ref (gAd G 141)), (1, .int x1), (2, .long x2)]) hx hb dX11_turnsBy_23 hl (by decide) rfl (fun ls hl => ?_)
    have hlp25 : ∀ (n : Nat) (y3 : Int32) (w4 : Wd) (ab : Nat) (H : Heap) (locs : List Loc) (ls : Array Slot) (z : (Int32 × Wd) ⊕ Unit), p_X11_turnsBy_25 x2 n y3 w4 = some z → AH G s.heap w4 ab H locs → lv_has ls 7 [(6, .int y3), (4, .long x2), (0, .ref (gAd G 141)), (1, .int x1), (2, .long x2)] → (∀ (y3 : Int32) (w4 : Wd) (ab : Nat) (H : Heap) (locs : List Loc) (ls : Array Slot), z = .inl (y3, w4) → AH G s.heap w4 ab H locs → lv_has ls 7 [(6, .int y3), (4, .long x2), (0, .ref (gAd G 141)), (1, .int x1), (2, .long x2)] → W p l e ({ frames := 1, cells := 0, slots := 0, locals := 21 } : Room) s m args below meth c H locs 0 0 (MQ below (amQ G none w1) args s 0 0 (gA G)) (F0 m 126 ls [])) → W p l e ({ frames := 1, cells := 0, slots := 0, locals := 21 } : Room) s m args below meth c H locs 0 0 (MQ below (amQ G none w1) args s 0 0 (gA G)) (F0 m 25 ls []) := by
      intro n
      induction n with
      | zero =>
        intro y3 w4 ab H locs ls z hF
        unfold p_X11_turnsBy_25 at hF
        cases hF
      | succ n ih =>
        intro y3 w4 ab H locs ls z hF hh hl kE
        unfold p_X11_turnsBy_25 at hF
        refine lv_iload hx hb dX11_turnsBy_25 (lv_at hl 0 rfl) ?_
        refine lv_bipush (v := (10 : Int32)) hx hb dX11_turnsBy_27 (by decide) ?_
        refine lv_icmp_ge (tgt := 126) hx hb dX11_turnsBy_29 (by decide) (fun hc6 => ?_) (fun hc6 => ?_)
        · have hF := am_pos hc6 hF
          exact kE y3 w4 ab H locs ls (Option.some.inj hF).symm hh (lv_sub hl [0, 1, 2, 3, 4] rfl)
        · have hF := am_neg hc6 hF
          refine lv_aload_n hx hb dX11_turnsBy_32 rfl (lv_at hl 2 rfl) ?_
          refine am_getR X hh 141 12 14 149 (by decide) rfl rfl (by decide) hwRX11 (show Cond.fieldLink RX11 39 "PlanetWorkshopModel" "isKnown" "[Z" ∈ wsX11_turnsBy by decide +kernel) rfl dX11_turnsBy_33 ?_
          refine lv_iload hx hb dX11_turnsBy_36 (lv_at hl 0 rfl) ?_
          obtain ⟨hq7, hF⟩ := am_ifR hF
          refine am_zald X hh 149 (by decide) rfl hq7 dX11_turnsBy_38 ?_
          refine lv_if_eq (tgt := 120) hx hb dX11_turnsBy_39 (by decide) (fun hc8 => ?_) (fun hc8 => ?_)
          · have hF := am_pos hc8 hF
            refine lv_iinc (v := (y3 + (1 : Int32))) (lv' := [(6, .int (y3 + (1 : Int32))), (4, .long x2), (0, .ref (gAd G 141)), (1, .int x1), (2, .long x2)]) hx hb dX11_turnsBy_120 hl (k := 0) rfl rfl (by decide) rfl (fun ls hl => ?_)
            refine lv_goto (tgt := 25) hx hb dX11_turnsBy_123 (by decide) ?_
            exact ih (y3 + (1 : Int32)) w4 ab H locs ls _ hF hh (lv_sub hl [0, 1, 2, 3, 4] rfl) kE
          · have hF := am_neg hc8 hF
            refine lv_aload_n hx hb dX11_turnsBy_42 rfl (lv_at hl 2 rfl) ?_
            refine am_getR X hh 141 12 0 142 (by decide) rfl rfl (by decide) hwRX11 (show Cond.fieldLink RX11 7 "PlanetWorkshopModel" "g" "[J" ∈ wsX11_turnsBy by decide +kernel) rfl dX11_turnsBy_43 ?_
            refine lv_bipush (v := (16 : Int32)) hx hb dX11_turnsBy_46 (by decide) ?_
            refine lv_iload hx hb dX11_turnsBy_48 (lv_at hl 0 rfl) ?_
            refine lv_iadd hx hb dX11_turnsBy_50 ?_
            refine lv_aload_n hx hb dX11_turnsBy_51 rfl (lv_at hl 2 rfl) ?_
            refine am_getR X hh 141 12 0 142 (by decide) rfl rfl (by decide) hwRX11 (show Cond.fieldLink RX11 7 "PlanetWorkshopModel" "g" "[J" ∈ wsX11_turnsBy by decide +kernel) rfl dX11_turnsBy_52 ?_
            refine lv_bipush (v := (16 : Int32)) hx hb dX11_turnsBy_55 (by decide) ?_
            refine lv_iload hx hb dX11_turnsBy_57 (lv_at hl 0 rfl) ?_
            refine lv_iadd hx hb dX11_turnsBy_59 ?_
            obtain ⟨hq9, hF⟩ := am_ifR hF
            refine am_lald X hh 142 (by decide) rfl hq9 dX11_turnsBy_60 ?_
            refine lv_lload hx hb dX11_turnsBy_61 (lv_at hl 1 rfl) ?_
            refine lv_aload_n hx hb dX11_turnsBy_63 rfl (lv_at hl 2 rfl) ?_
            refine am_getR X hh 141 12 13 148 (by decide) rfl rfl (by decide) hwRX11 (show Cond.fieldLink RX11 36 "PlanetWorkshopModel" "units" "[J" ∈ wsX11_turnsBy by decide +kernel) rfl dX11_turnsBy_64 ?_
            refine lv_iload hx hb dX11_turnsBy_67 (lv_at hl 0 rfl) ?_
            obtain ⟨hq10, hF⟩ := am_ifR hF
            refine am_lald X hh 148 (by decide) rfl hq10 dX11_turnsBy_69 ?_
            refine lv_lmul hx hb dX11_turnsBy_70 ?_
            refine lv_ladd hx hb dX11_turnsBy_71 ?_
            obtain ⟨r12, hk11, hF⟩ := am_bind hF
            refine am_call X hh (va_runS (As := [.long ((gL w4 142 (((16 : Int32) + y3)).toNatClampNeg) + (x2 * (gL w4 148 (y3).toNatClampNeg)))]) (rest := [.int ((16 : Int32) + y3), .ref (gAd G 142)]) X.1 (c_X11_rest l G hk11) (va_cwS 1 hts gX11_turnsBy_X11_rest rfl rfl rfl (by decide +kernel) ⟨Nat.le_of_ble_eq_true rfl, Nat.le_of_ble_eq_true rfl⟩) (am_preS X hh) rfl rfl hl.1 rfl (lv_room (Nat.le_of_ble_eq_true rfl)) dX11_turnsBy_72 ⟨Nat.le_of_ble_eq_true rfl, Nat.le_of_ble_eq_true rfl⟩) (fun ab H locs hh => ?_)
            obtain ⟨hq13, hF⟩ := am_ifR hF
            refine am_last X hh 142 (by decide) rfl hq13 dX11_turnsBy_75 (fun H locs hh => ?_)
            obtain ⟨w14, hw14, hF⟩ := am_wl hF
            have hh := AH_eq hw14 hh
            refine lv_aload_n hx hb dX11_turnsBy_76 rfl (lv_at hl 2 rfl) ?_
            refine am_getR X hh 141 12 0 142 (by decide) rfl rfl (by decide) hwRX11 (show Cond.fieldLink RX11 7 "PlanetWorkshopModel" "g" "[J" ∈ wsX11_turnsBy by decide +kernel) rfl dX11_turnsBy_77 ?_
            refine lv_bipush (v := (76 : Int32)) hx hb dX11_turnsBy_80 (by decide) ?_
            refine lv_iload hx hb dX11_turnsBy_82 (lv_at hl 0 rfl) ?_
            refine lv_iadd hx hb dX11_turnsBy_84 ?_
            refine lv_dup2_11 hx hb dX11_turnsBy_85 rfl rfl ?_
            obtain ⟨hq15, hF⟩ := am_ifR hF
            refine am_lald X hh 142 (by decide) rfl hq15 dX11_turnsBy_86 ?_
            refine lv_aload_n hx hb dX11_turnsBy_87 rfl (lv_at hl 2 rfl) ?_
            refine am_getR X hh 141 12 0 142 (by decide) rfl rfl (by decide) hwRX11 (show Cond.fieldLink RX11 7 "PlanetWorkshopModel" "g" "[J" ∈ wsX11_turnsBy by decide +kernel) rfl dX11_turnsBy_88 ?_
            refine lv_bipush (v := (66 : Int32)) hx hb dX11_turnsBy_91 (by decide) ?_
            refine lv_iload hx hb dX11_turnsBy_93 (lv_at hl 0 rfl) ?_
            refine lv_iadd hx hb dX11_turnsBy_95 ?_
            obtain ⟨hq16, hF⟩ := am_ifR hF
            refine am_lald X hh 142 (by decide) rfl hq16 dX11_turnsBy_96 ?_
            refine lv_lconst (v := (1 : Int64)) hx hb dX11_turnsBy_97 (by decide) ?_
            refine am_lcmp_ne (tgt := 117) hx hb dX11_turnsBy_98 dX11_turnsBy_99 (by decide) (fun hc17 => ?_) (fun hc17 => ?_)
            · have hF := am_neg hc17 hF
              refine lv_lconst (v := (0 : Int64)) hx hb dX11_turnsBy_117 (by decide) ?_
              refine lv_ladd hx hb dX11_turnsBy_118 ?_
              obtain ⟨hq18, hF⟩ := am_ifR hF
              refine am_last X hh 142 (by decide) rfl hq18 dX11_turnsBy_119 (fun H locs hh => ?_)
              obtain ⟨w19, hw19, hF⟩ := am_wl hF
              have hh := AH_eq hw19 hh
              refine lv_iinc (v := (y3 + (1 : Int32))) (lv' := [(6, .int (y3 + (1 : Int32))), (4, .long x2), (0, .ref (gAd G 141)), (1, .int x1), (2, .long x2)]) hx hb dX11_turnsBy_120 hl (k := 0) rfl rfl (by decide) rfl (fun ls hl => ?_)
              refine lv_goto (tgt := 25) hx hb dX11_turnsBy_123 (by decide) ?_
              exact ih (y3 + (1 : Int32)) w19 ab H locs ls _ hF hh (lv_sub hl [0, 1, 2, 3, 4] rfl) kE
            · have hF := am_pos hc17 hF
              refine lv_aload_n hx hb dX11_turnsBy_102 rfl (lv_at hl 2 rfl) ?_
              refine am_getR X hh 141 12 13 148 (by decide) rfl rfl (by decide) hwRX11 (show Cond.fieldLink RX11 36 "PlanetWorkshopModel" "units" "[J" ∈ wsX11_turnsBy by decide +kernel) rfl dX11_turnsBy_103 ?_
              refine lv_iload hx hb dX11_turnsBy_106 (lv_at hl 0 rfl) ?_
              obtain ⟨hq20, hF⟩ := am_ifR hF
              refine am_lald X hh 148 (by decide) rfl hq20 dX11_turnsBy_108 ?_
              obtain ⟨r22, hk21, hF⟩ := am_bind hF
              refine am_call X hh (va_runS (As := [.long (gL w14 148 (y3).toNatClampNeg)]) (rest := [.long (gL w14 142 (((76 : Int32) + y3)).toNatClampNeg), .int ((76 : Int32) + y3), .ref (gAd G 142)]) X.1 (c_X11_size l G hk21) (va_cwS 1 hts gX11_turnsBy_X11_size rfl rfl rfl (by decide +kernel) ⟨Nat.le_of_ble_eq_true rfl, Nat.le_of_ble_eq_true rfl⟩) (am_preS X hh) rfl rfl hl.1 rfl (lv_room (Nat.le_of_ble_eq_true rfl)) dX11_turnsBy_109 ⟨Nat.le_of_ble_eq_true rfl, Nat.le_of_ble_eq_true rfl⟩) (fun ab H locs hh => ?_)
              refine lv_lload_n hx hb dX11_turnsBy_112 rfl (lv_at hl 4 rfl) ?_
              refine lv_lmul hx hb dX11_turnsBy_113 ?_
              refine lv_goto (tgt := 118) hx hb dX11_turnsBy_114 (by decide) ?_
              refine lv_ladd hx hb dX11_turnsBy_118 ?_
              obtain ⟨hq23, hF⟩ := am_ifR hF
              refine am_last X hh 142 (by decide) rfl hq23 dX11_turnsBy_119 (fun H locs hh => ?_)
              obtain ⟨w24, hw24, hF⟩ := am_wl hF
              have hh := AH_eq hw24 hh
              refine lv_iinc (v := (y3 + (1 : Int32))) (lv' := [(6, .int (y3 + (1 : Int32))), (4, .long x2), (0, .ref (gAd G 141)), (1, .int x1), (2, .long x2)]) hx hb dX11_turnsBy_120 hl (k := 0) rfl rfl (by decide) rfl (fun ls hl => ?_)
              refine lv_goto (tgt := 25) hx hb dX11_turnsBy_123 (by decide) ?_
              exact ih (y3 + (1 : Int32)) w24 ab H locs ls _ hF hh (lv_sub hl [0, 1, 2, 3, 4] rfl) kE
    obtain ⟨z25, hz26, hF⟩ := am_bind hF
    refine hlp25 2000 (0 : Int32) w ab H locs ls z25 hz26 hh (lv_sub hl [0, 1, 2, 3, 4] rfl) (fun y3 w4 ab H locs ls hz hh hl => ?_)
    · subst hz
      have hF := am_zl hF
      have hF := am_u2 hF
      exact am_vret X hr hh (fun t ht => am_qv hF ht) (Nat.le_of_ble_eq_true rfl) (Nat.le_of_ble_eq_true rfl) dX11_turnsBy_126
  · have hF := am_pos hc2 hF
    refine lv_lload_n hx hb dX11_turnsBy_14 rfl (lv_at hl 2 rfl) ?_
    refine lv_lneg hx hb dX11_turnsBy_15 ?_
    refine lv_goto (tgt := 20) hx hb dX11_turnsBy_16 (by decide) ?_
    refine lv_lstore (lv' := [(4, .long (-x2)), (0, .ref (gAd G 141)), (1, .int x1), (2, .long x2)]) hx hb dX11_turnsBy_20 hl (by decide) rfl (fun ls hl => ?_)
    refine lv_iconst (v := (0 : Int32)) hx hb dX11_turnsBy_22 (by decide) ?_
    refine lv_istore (lv' := [(6, .int (0 : Int32)), (4, .long (-x2)), (0, .ref (gAd G 141)), (1, .int x1), (2, .long x2)]) hx hb dX11_turnsBy_23 hl (by decide) rfl (fun ls hl => ?_)
    have hlp25 : ∀ (c28 : Int64) (n : Nat) (y27 : Int32) (w29 : Wd) (ab : Nat) (H : Heap) (locs : List Loc) (ls : Array Slot) (z : (Int32 × Wd) ⊕ Unit), p_X11_turnsBy_25b c28 x2 n y27 w29 = some z → AH G s.heap w29 ab H locs → lv_has ls 7 [(6, .int y27), (4, .long c28), (0, .ref (gAd G 141)), (1, .int x1), (2, .long x2)] → (∀ (y27 : Int32) (w29 : Wd) (ab : Nat) (H : Heap) (locs : List Loc) (ls : Array Slot), z = .inl (y27, w29) → AH G s.heap w29 ab H locs → lv_has ls 7 [(6, .int y27), (4, .long c28), (0, .ref (gAd G 141)), (1, .int x1), (2, .long x2)] → W p l e ({ frames := 1, cells := 0, slots := 0, locals := 21 } : Room) s m args below meth c H locs 0 0 (MQ below (amQ G none w1) args s 0 0 (gA G)) (F0 m 126 ls [])) → W p l e ({ frames := 1, cells := 0, slots := 0, locals := 21 } : Room) s m args below meth c H locs 0 0 (MQ below (amQ G none w1) args s 0 0 (gA G)) (F0 m 25 ls []) := by
      intro c28 n
      induction n with
      | zero =>
        intro y27 w29 ab H locs ls z hF
        unfold p_X11_turnsBy_25b at hF
        cases hF
      | succ n ih =>
        intro y27 w29 ab H locs ls z hF hh hl kE
        unfold p_X11_turnsBy_25b at hF
        refine lv_iload hx hb dX11_turnsBy_25 (lv_at hl 0 rfl) ?_
        refine lv_bipush (v := (10 : Int32)) hx hb dX11_turnsBy_27 (by decide) ?_
        refine lv_icmp_ge (tgt := 126) hx hb dX11_turnsBy_29 (by decide) (fun hc31 => ?_) (fun hc31 => ?_)
        · have hF := am_pos hc31 hF
          exact kE y27 w29 ab H locs ls (Option.some.inj hF).symm hh (lv_sub hl [0, 1, 2, 3, 4] rfl)
        · have hF := am_neg hc31 hF
          refine lv_aload_n hx hb dX11_turnsBy_32 rfl (lv_at hl 2 rfl) ?_
          refine am_getR X hh 141 12 14 149 (by decide) rfl rfl (by decide) hwRX11 (show Cond.fieldLink RX11 39 "PlanetWorkshopModel" "isKnown" "[Z" ∈ wsX11_turnsBy by decide +kernel) rfl dX11_turnsBy_33 ?_
          refine lv_iload hx hb dX11_turnsBy_36 (lv_at hl 0 rfl) ?_
          obtain ⟨hq32, hF⟩ := am_ifR hF
          refine am_zald X hh 149 (by decide) rfl hq32 dX11_turnsBy_38 ?_
          refine lv_if_eq (tgt := 120) hx hb dX11_turnsBy_39 (by decide) (fun hc33 => ?_) (fun hc33 => ?_)
          · have hF := am_pos hc33 hF
            refine lv_iinc (v := (y27 + (1 : Int32))) (lv' := [(6, .int (y27 + (1 : Int32))), (4, .long c28), (0, .ref (gAd G 141)), (1, .int x1), (2, .long x2)]) hx hb dX11_turnsBy_120 hl (k := 0) rfl rfl (by decide) rfl (fun ls hl => ?_)
            refine lv_goto (tgt := 25) hx hb dX11_turnsBy_123 (by decide) ?_
            exact ih (y27 + (1 : Int32)) w29 ab H locs ls _ hF hh (lv_sub hl [0, 1, 2, 3, 4] rfl) kE
          · have hF := am_neg hc33 hF
            refine lv_aload_n hx hb dX11_turnsBy_42 rfl (lv_at hl 2 rfl) ?_
            refine am_getR X hh 141 12 0 142 (by decide) rfl rfl (by decide) hwRX11 (show Cond.fieldLink RX11 7 "PlanetWorkshopModel" "g" "[J" ∈ wsX11_turnsBy by decide +kernel) rfl dX11_turnsBy_43 ?_
            refine lv_bipush (v := (16 : Int32)) hx hb dX11_turnsBy_46 (by decide) ?_
            refine lv_iload hx hb dX11_turnsBy_48 (lv_at hl 0 rfl) ?_
            refine lv_iadd hx hb dX11_turnsBy_50 ?_
            refine lv_aload_n hx hb dX11_turnsBy_51 rfl (lv_at hl 2 rfl) ?_
            refine am_getR X hh 141 12 0 142 (by decide) rfl rfl (by decide) hwRX11 (show Cond.fieldLink RX11 7 "PlanetWorkshopModel" "g" "[J" ∈ wsX11_turnsBy by decide +kernel) rfl dX11_turnsBy_52 ?_
            refine lv_bipush (v := (16 : Int32)) hx hb dX11_turnsBy_55 (by decide) ?_
            refine lv_iload hx hb dX11_turnsBy_57 (lv_at hl 0 rfl) ?_
            refine lv_iadd hx hb dX11_turnsBy_59 ?_
            obtain ⟨hq34, hF⟩ := am_ifR hF
            refine am_lald X hh 142 (by decide) rfl hq34 dX11_turnsBy_60 ?_
            refine lv_lload hx hb dX11_turnsBy_61 (lv_at hl 1 rfl) ?_
            refine lv_aload_n hx hb dX11_turnsBy_63 rfl (lv_at hl 2 rfl) ?_
            refine am_getR X hh 141 12 13 148 (by decide) rfl rfl (by decide) hwRX11 (show Cond.fieldLink RX11 36 "PlanetWorkshopModel" "units" "[J" ∈ wsX11_turnsBy by decide +kernel) rfl dX11_turnsBy_64 ?_
            refine lv_iload hx hb dX11_turnsBy_67 (lv_at hl 0 rfl) ?_
            obtain ⟨hq35, hF⟩ := am_ifR hF
            refine am_lald X hh 148 (by decide) rfl hq35 dX11_turnsBy_69 ?_
            refine lv_lmul hx hb dX11_turnsBy_70 ?_
            refine lv_ladd hx hb dX11_turnsBy_71 ?_
            obtain ⟨r37, hk36, hF⟩ := am_bind hF
            refine am_call X hh (va_runS (As := [.long ((gL w29 142 (((16 : Int32) + y27)).toNatClampNeg) + (c28 * (gL w29 148 (y27).toNatClampNeg)))]) (rest := [.int ((16 : Int32) + y27), .ref (gAd G 142)]) X.1 (c_X11_rest l G hk36) (va_cwS 1 hts gX11_turnsBy_X11_rest rfl rfl rfl (by decide +kernel) ⟨Nat.le_of_ble_eq_true rfl, Nat.le_of_ble_eq_true rfl⟩) (am_preS X hh) rfl rfl hl.1 rfl (lv_room (Nat.le_of_ble_eq_true rfl)) dX11_turnsBy_72 ⟨Nat.le_of_ble_eq_true rfl, Nat.le_of_ble_eq_true rfl⟩) (fun ab H locs hh => ?_)
            obtain ⟨hq38, hF⟩ := am_ifR hF
            refine am_last X hh 142 (by decide) rfl hq38 dX11_turnsBy_75 (fun H locs hh => ?_)
            obtain ⟨w39, hw39, hF⟩ := am_wl hF
            have hh := AH_eq hw39 hh
            refine lv_aload_n hx hb dX11_turnsBy_76 rfl (lv_at hl 2 rfl) ?_
            refine am_getR X hh 141 12 0 142 (by decide) rfl rfl (by decide) hwRX11 (show Cond.fieldLink RX11 7 "PlanetWorkshopModel" "g" "[J" ∈ wsX11_turnsBy by decide +kernel) rfl dX11_turnsBy_77 ?_
            refine lv_bipush (v := (76 : Int32)) hx hb dX11_turnsBy_80 (by decide) ?_
            refine lv_iload hx hb dX11_turnsBy_82 (lv_at hl 0 rfl) ?_
            refine lv_iadd hx hb dX11_turnsBy_84 ?_
            refine lv_dup2_11 hx hb dX11_turnsBy_85 rfl rfl ?_
            obtain ⟨hq40, hF⟩ := am_ifR hF
            refine am_lald X hh 142 (by decide) rfl hq40 dX11_turnsBy_86 ?_
            refine lv_aload_n hx hb dX11_turnsBy_87 rfl (lv_at hl 2 rfl) ?_
            refine am_getR X hh 141 12 0 142 (by decide) rfl rfl (by decide) hwRX11 (show Cond.fieldLink RX11 7 "PlanetWorkshopModel" "g" "[J" ∈ wsX11_turnsBy by decide +kernel) rfl dX11_turnsBy_88 ?_
            refine lv_bipush (v := (66 : Int32)) hx hb dX11_turnsBy_91 (by decide) ?_
            refine lv_iload hx hb dX11_turnsBy_93 (lv_at hl 0 rfl) ?_
            refine lv_iadd hx hb dX11_turnsBy_95 ?_
            obtain ⟨hq41, hF⟩ := am_ifR hF
            refine am_lald X hh 142 (by decide) rfl hq41 dX11_turnsBy_96 ?_
            refine lv_lconst (v := (1 : Int64)) hx hb dX11_turnsBy_97 (by decide) ?_
            refine am_lcmp_ne (tgt := 117) hx hb dX11_turnsBy_98 dX11_turnsBy_99 (by decide) (fun hc42 => ?_) (fun hc42 => ?_)
            · have hF := am_neg hc42 hF
              refine lv_lconst (v := (0 : Int64)) hx hb dX11_turnsBy_117 (by decide) ?_
              refine lv_ladd hx hb dX11_turnsBy_118 ?_
              obtain ⟨hq43, hF⟩ := am_ifR hF
              refine am_last X hh 142 (by decide) rfl hq43 dX11_turnsBy_119 (fun H locs hh => ?_)
              obtain ⟨w44, hw44, hF⟩ := am_wl hF
              have hh := AH_eq hw44 hh
              refine lv_iinc (v := (y27 + (1 : Int32))) (lv' := [(6, .int (y27 + (1 : Int32))), (4, .long c28), (0, .ref (gAd G 141)), (1, .int x1), (2, .long x2)]) hx hb dX11_turnsBy_120 hl (k := 0) rfl rfl (by decide) rfl (fun ls hl => ?_)
              refine lv_goto (tgt := 25) hx hb dX11_turnsBy_123 (by decide) ?_
              exact ih (y27 + (1 : Int32)) w44 ab H locs ls _ hF hh (lv_sub hl [0, 1, 2, 3, 4] rfl) kE
            · have hF := am_pos hc42 hF
              refine lv_aload_n hx hb dX11_turnsBy_102 rfl (lv_at hl 2 rfl) ?_
              refine am_getR X hh 141 12 13 148 (by decide) rfl rfl (by decide) hwRX11 (show Cond.fieldLink RX11 36 "PlanetWorkshopModel" "units" "[J" ∈ wsX11_turnsBy by decide +kernel) rfl dX11_turnsBy_103 ?_
              refine lv_iload hx hb dX11_turnsBy_106 (lv_at hl 0 rfl) ?_
              obtain ⟨hq45, hF⟩ := am_ifR hF
              refine am_lald X hh 148 (by decide) rfl hq45 dX11_turnsBy_108 ?_
              obtain ⟨r47, hk46, hF⟩ := am_bind hF
              refine am_call X hh (va_runS (As := [.long (gL w39 148 (y27).toNatClampNeg)]) (rest := [.long (gL w39 142 (((76 : Int32) + y27)).toNatClampNeg), .int ((76 : Int32) + y27), .ref (gAd G 142)]) X.1 (c_X11_size l G hk46) (va_cwS 1 hts gX11_turnsBy_X11_size rfl rfl rfl (by decide +kernel) ⟨Nat.le_of_ble_eq_true rfl, Nat.le_of_ble_eq_true rfl⟩) (am_preS X hh) rfl rfl hl.1 rfl (lv_room (Nat.le_of_ble_eq_true rfl)) dX11_turnsBy_109 ⟨Nat.le_of_ble_eq_true rfl, Nat.le_of_ble_eq_true rfl⟩) (fun ab H locs hh => ?_)
              refine lv_lload_n hx hb dX11_turnsBy_112 rfl (lv_at hl 4 rfl) ?_
              refine lv_lmul hx hb dX11_turnsBy_113 ?_
              refine lv_goto (tgt := 118) hx hb dX11_turnsBy_114 (by decide) ?_
              refine lv_ladd hx hb dX11_turnsBy_118 ?_
              obtain ⟨hq48, hF⟩ := am_ifR hF
              refine am_last X hh 142 (by decide) rfl hq48 dX11_turnsBy_119 (fun H locs hh => ?_)
              obtain ⟨w49, hw49, hF⟩ := am_wl hF
              have hh := AH_eq hw49 hh
              refine lv_iinc (v := (y27 + (1 : Int32))) (lv' := [(6, .int (y27 + (1 : Int32))), (4, .long c28), (0, .ref (gAd G 141)), (1, .int x1), (2, .long x2)]) hx hb dX11_turnsBy_120 hl (k := 0) rfl rfl (by decide) rfl (fun ls hl => ?_)
              refine lv_goto (tgt := 25) hx hb dX11_turnsBy_123 (by decide) ?_
              exact ih (y27 + (1 : Int32)) w49 ab H locs ls _ hF hh (lv_sub hl [0, 1, 2, 3, 4] rfl) kE
    obtain ⟨z50, hz51, hF⟩ := am_bind hF
    refine hlp25 (-x2) 2000 (0 : Int32) w ab H locs ls z50 hz51 hh (lv_sub hl [0, 1, 2, 3, 4] rfl) (fun y27 w29 ab H locs ls hz hh hl => ?_)
    · subst hz
      have hF := am_zl hF
      have hF := am_u2 hF
      exact am_vret X hr hh (fun t ht => am_qv hF ht) (Nat.le_of_ble_eq_true rfl) (Nat.le_of_ble_eq_true rfl) dX11_turnsBy_126
