set_option maxHeartbeats 4000000 in
set_option maxRecDepth 100000 in
theorem c_X11_dries (l : Launch) (G : GG) {w : Wd} {w1 : Wd} (hF : f_X11_dries w = some w1) : Met l yX11_dries wsX11_dries ({ frames := 0, cells := 0, slots := 0, locals := 0 } : Room) (va_Pc [.ref (gAd G 141)] (Rel G w)) (amQ G none w1) 0 0 (gA G) := by
  refine am_met (own := RX11) (cc := cX11_dries) (maxL := 2) (ret := none) (by decide +kernel) rfl rfl (Nat.le_of_ble_eq_true rfl) ?_
  intro p e s m args below meth c ab H locs ls X hr hh hl
  have hx := X.1.1; have hb := X.1.2.1; have hml := X.1.2.2.1; have hown := X.1.2.2.2.1; have hts := X.1.2.2.2.2
  have hl : lv_has ls 2 [(0, .ref (gAd G 141))] := hl
  have hwRX11 : ∀ z ∈ u_ws RX11 TX11 18, z ∈ wsX11_dries := by decide +kernel
  unfold f_X11_dries at hF
  refine lv_iconst (v := (0 : Int32)) hx hb dX11_dries_0 (by decide) ?_
  refine lv_istore_n (lv' := [(1, .int (0 : Int32)), (0, .ref (gAd G 141))]) hx hb dX11_dries_1 rfl hl (by decide) rfl (fun ls hl => ?_)
  have hlp2 : ∀ (n : Nat) (y1 : Int32) (w2 : Wd) (ab : Nat) (H : Heap) (locs : List Loc) (ls : Array Slot) (z : (Int32 × Wd) ⊕ Unit), p_X11_dries_2 n y1 w2 = some z → AH G s.heap w2 ab H locs → lv_has ls 2 [(1, .int y1), (0, .ref (gAd G 141))] → (∀ (y1 : Int32) (w2 : Wd) (ab : Nat) (H : Heap) (locs : List Loc) (ls : Array Slot), z = .inl (y1, w2) → AH G s.heap w2 ab H locs → lv_has ls 2 [(1, .int y1), (0, .ref (gAd G 141))] → W p l e ({ frames := 0, cells := 0, slots := 0, locals := 0 } : Room) s m args below meth c H locs 0 0 (MQ below (amQ G none w1) args s 0 0 (gA G)) (F0 m 64 ls [])) → W p l e ({ frames := 0, cells := 0, slots := 0, locals := 0 } : Room) s m args below meth c H locs 0 0 (MQ below (amQ G none w1) args s 0 0 (gA G)) (F0 m 2 ls []) := by
    intro n
    induction n with
    | zero =>
      intro y1 w2 ab H locs ls z hF
      unfold p_X11_dries_2 at hF
      cases hF
    | succ n ih =>
      intro y1 w2 ab H locs ls z hF hh hl kE
      unfold p_X11_dries_2 at hF
      refine lv_iload_n hx hb dX11_dries_2 rfl (lv_at hl 0 rfl) ?_
      refine lv_bipush (v := (10 : Int32)) hx hb dX11_dries_3 (by decide) ?_
      refine lv_icmp_ge (tgt := 64) hx hb dX11_dries_5 (by decide) (fun hc4 => ?_) (fun hc4 => ?_)
      · have hF := am_pos hc4 hF
        exact kE y1 w2 ab H locs ls (Option.some.inj hF).symm hh (lv_sub hl [0, 1] rfl)
      · have hF := am_neg hc4 hF
        refine lv_aload_n hx hb dX11_dries_8 rfl (lv_at hl 1 rfl) ?_
        refine am_getR X hh 141 12 0 142 (by decide) rfl rfl (by decide) hwRX11 (show Cond.fieldLink RX11 7 "PlanetWorkshopModel" "g" "[J" ∈ wsX11_dries by decide +kernel) rfl dX11_dries_9 ?_
        refine lv_bipush (v := (66 : Int32)) hx hb dX11_dries_12 (by decide) ?_
        refine lv_iload_n hx hb dX11_dries_14 rfl (lv_at hl 0 rfl) ?_
        refine lv_iadd hx hb dX11_dries_15 ?_
        obtain ⟨hq5, hF⟩ := am_ifR hF
        refine am_lald X hh 142 (by decide) rfl hq5 dX11_dries_16 ?_
        refine lv_lconst (v := (1 : Int64)) hx hb dX11_dries_17 (by decide) ?_
        refine am_lcmp_ne (tgt := 58) hx hb dX11_dries_18 dX11_dries_19 (by decide) (fun hc6 => ?_) (fun hc6 => ?_)
        · have hF := am_neg hc6 hF
          refine lv_iinc (v := (y1 + (1 : Int32))) (lv' := [(1, .int (y1 + (1 : Int32))), (0, .ref (gAd G 141))]) hx hb dX11_dries_58 hl (k := 0) rfl rfl (by decide) rfl (fun ls hl => ?_)
          refine lv_goto (tgt := 2) hx hb dX11_dries_61 (by decide) ?_
          exact ih (y1 + (1 : Int32)) w2 ab H locs ls _ hF hh (lv_sub hl [0, 1] rfl) kE
        · have hF := am_pos hc6 hF
          refine lv_aload_n hx hb dX11_dries_22 rfl (lv_at hl 1 rfl) ?_
          refine am_getR X hh 141 12 0 142 (by decide) rfl rfl (by decide) hwRX11 (show Cond.fieldLink RX11 7 "PlanetWorkshopModel" "g" "[J" ∈ wsX11_dries by decide +kernel) rfl dX11_dries_23 ?_
          refine lv_bipush (v := (76 : Int32)) hx hb dX11_dries_26 (by decide) ?_
          refine lv_iload_n hx hb dX11_dries_28 rfl (lv_at hl 0 rfl) ?_
          refine lv_iadd hx hb dX11_dries_29 ?_
          obtain ⟨hq7, hF⟩ := am_ifR hF
          refine am_lald X hh 142 (by decide) rfl hq7 dX11_dries_30 ?_
          refine lv_ldc2 (v := (746496000000 : Int64)) hx hb hown (hts _ (show Cond.constantLong RX11 147 (746496000000) ∈ wsX11_dries by decide +kernel)) dX11_dries_31 ?_
          refine am_lcmp_lt (tgt := 58) hx hb dX11_dries_34 dX11_dries_35 (by decide) (fun hc8 => ?_) (fun hc8 => ?_)
          · have hF := am_pos hc8 hF
            refine lv_iinc (v := (y1 + (1 : Int32))) (lv' := [(1, .int (y1 + (1 : Int32))), (0, .ref (gAd G 141))]) hx hb dX11_dries_58 hl (k := 0) rfl rfl (by decide) rfl (fun ls hl => ?_)
            refine lv_goto (tgt := 2) hx hb dX11_dries_61 (by decide) ?_
            exact ih (y1 + (1 : Int32)) w2 ab H locs ls _ hF hh (lv_sub hl [0, 1] rfl) kE
          · have hF := am_neg hc8 hF
            refine lv_aload_n hx hb dX11_dries_38 rfl (lv_at hl 1 rfl) ?_
            refine am_getR X hh 141 12 0 142 (by decide) rfl rfl (by decide) hwRX11 (show Cond.fieldLink RX11 7 "PlanetWorkshopModel" "g" "[J" ∈ wsX11_dries by decide +kernel) rfl dX11_dries_39 ?_
            refine lv_bipush (v := (66 : Int32)) hx hb dX11_dries_42 (by decide) ?_
            refine lv_iload_n hx hb dX11_dries_44 rfl (lv_at hl 0 rfl) ?_
            refine lv_iadd hx hb dX11_dries_45 ?_
            refine lv_lconst (v := (0 : Int64)) hx hb dX11_dries_46 (by decide) ?_
            obtain ⟨hq9, hF⟩ := am_ifR hF
            refine am_last X hh 142 (by decide) rfl hq9 dX11_dries_47 (fun H locs hh => ?_)
            obtain ⟨w10, hw10, hF⟩ := am_wl hF
            have hh := AH_eq hw10 hh
            refine lv_aload_n hx hb dX11_dries_48 rfl (lv_at hl 1 rfl) ?_
            refine am_getR X hh 141 12 0 142 (by decide) rfl rfl (by decide) hwRX11 (show Cond.fieldLink RX11 7 "PlanetWorkshopModel" "g" "[J" ∈ wsX11_dries by decide +kernel) rfl dX11_dries_49 ?_
            refine lv_bipush (v := (76 : Int32)) hx hb dX11_dries_52 (by decide) ?_
            refine lv_iload_n hx hb dX11_dries_54 rfl (lv_at hl 0 rfl) ?_
            refine lv_iadd hx hb dX11_dries_55 ?_
            refine lv_lconst (v := (0 : Int64)) hx hb dX11_dries_56 (by decide) ?_
            obtain ⟨hq11, hF⟩ := am_ifR hF
            refine am_last X hh 142 (by decide) rfl hq11 dX11_dries_57 (fun H locs hh => ?_)
            obtain ⟨w12, hw12, hF⟩ := am_wl hF
            have hh := AH_eq hw12 hh
            refine lv_iinc (v := (y1 + (1 : Int32))) (lv' := [(1, .int (y1 + (1 : Int32))), (0, .ref (gAd G 141))]) hx hb dX11_dries_58 hl (k := 0) rfl rfl (by decide) rfl (fun ls hl => ?_)
            refine lv_goto (tgt := 2) hx hb dX11_dries_61 (by decide) ?_
            exact ih (y1 + (1 : Int32)) w12 ab H locs ls _ hF hh (lv_sub hl [0, 1] rfl) kE
  obtain ⟨z13, hz14, hF⟩ := am_bind hF
  refine hlp2 2000 (0 : Int32) w ab H locs ls z13 hz14 hh (lv_sub hl [0, 1] rfl) (fun y1 w2 ab H locs ls hz hh hl => ?_)
  · subst hz
    have hF := am_zl hF
    have hF := am_u2 hF
    exact am_vret X hr hh (fun t ht => am_qv hF ht) (Nat.le_of_ble_eq_true rfl) (Nat.le_of_ble_eq_true rfl) dX11_dries_64
set_option maxHeartbeats 4000000 in
set_option maxRecDepth 100000 in
theorem c_X11_releases (l : Launch) (G : GG) {w : Wd} {x1 : Int32} {x2 : Int32} {r0 : Int32} {w1 : Wd} (hF : f_X11_releases w x1 x2 = some (r0, w1)) : Met l yX11_releases wsX11_releases ({ frames := 5, cells := 0, slots := 0, locals := 111 } : Room) (va_Pc [.ref (gAd G 141), .int x1, .int x2] (Rel G w)) (amQ G (oI r0) w1) 0 0 (gA G) := by
  refine am_met (own := RX11) (cc := cX11_releases) (maxL := 6) (ret := (some .int)) (by decide +kernel) rfl rfl (Nat.le_of_ble_eq_true rfl) ?_
  intro p e s m args below meth c ab H locs ls X hr hh hl
  have hx := X.1.1; have hb := X.1.2.1; have hml := X.1.2.2.1; have hown := X.1.2.2.2.1; have hts := X.1.2.2.2.2
  have hl : lv_has ls 6 [(0, .ref (gAd G 141)), (1, .int x1), (2, .int x2)] := hl
  have hwRX11 : ∀ z ∈ u_ws RX11 TX11 18, z ∈ wsX11_releases := by decide +kernel
  unfold f_X11_releases at hF
  refine lv_aload_n hx hb dX11_releases_0 rfl (lv_at hl 0 rfl) ?_
  refine lv_iload_n hx hb dX11_releases_1 rfl (lv_at hl 1 rfl) ?_
  obtain ⟨r2, hk1, hF⟩ := am_bind hF
  refine am_call X hh (va_runV (As := [.int x1]) (rest := []) X.1 (c_X11_isGear l G hk1) (cwV 1 hts gX11_releases_X11_isGear rfl rfl rfl (by decide +kernel) ⟨Nat.le_of_ble_eq_true rfl, Nat.le_of_ble_eq_true rfl⟩) (am_preV X hh 141 12 (by decide) rfl rfl) rfl rfl hl.1 rfl (lv_room (Nat.le_of_ble_eq_true rfl)) dX11_releases_2 ⟨Nat.le_of_ble_eq_true rfl, Nat.le_of_ble_eq_true rfl⟩) (fun ab H locs hh => ?_)
  refine lv_if_ne (tgt := 14) hx hb dX11_releases_5 (by decide) (fun hc3 => ?_) (fun hc3 => ?_)
  · have hF := am_neg hc3 hF
    refine lv_iload_n hx hb dX11_releases_14 rfl (lv_at hl 2 rfl) ?_
    refine lv_iconst (v := (1 : Int32)) hx hb dX11_releases_15 (by decide) ?_
    refine lv_bipush (v := (50 : Int32)) hx hb dX11_releases_16 (by decide) ?_
    obtain ⟨r5, hk4, hF⟩ := am_bind hF
    refine am_call X hh (va_runS (As := [.int x2, .int (1 : Int32), .int (50 : Int32)]) (rest := []) X.1 (c_X11_in l G hk4) (va_cwS 3 hts gX11_releases_X11_in rfl rfl rfl (by decide +kernel) ⟨Nat.le_of_ble_eq_true rfl, Nat.le_of_ble_eq_true rfl⟩) (am_preS X hh) rfl rfl hl.1 rfl (lv_room (Nat.le_of_ble_eq_true rfl)) dX11_releases_18 ⟨Nat.le_of_ble_eq_true rfl, Nat.le_of_ble_eq_true rfl⟩) (fun ab H locs hh => ?_)
    refine lv_if_ne (tgt := 30) hx hb dX11_releases_21 (by decide) (fun hc6 => ?_) (fun hc6 => ?_)
    · have hF := am_neg hc6 hF
      refine lv_aload_n hx hb dX11_releases_30 rfl (lv_at hl 0 rfl) ?_
      refine lv_iload_n hx hb dX11_releases_31 rfl (lv_at hl 1 rfl) ?_
      obtain ⟨r8, hk7, hF⟩ := am_bind hF
      refine am_call X hh (va_runV (As := [.int x1]) (rest := []) X.1 (c_X11_hasSpring l G hk7) (cwV 1 hts gX11_releases_X11_hasSpring rfl rfl rfl (by decide +kernel) ⟨Nat.le_of_ble_eq_true rfl, Nat.le_of_ble_eq_true rfl⟩) (am_preV X hh 141 12 (by decide) rfl rfl) rfl rfl hl.1 rfl (lv_room (Nat.le_of_ble_eq_true rfl)) dX11_releases_32 ⟨Nat.le_of_ble_eq_true rfl, Nat.le_of_ble_eq_true rfl⟩) (fun ab H locs hh => ?_)
      refine lv_if_ne (tgt := 44) hx hb dX11_releases_35 (by decide) (fun hc9 => ?_) (fun hc9 => ?_)
      · have hF := am_neg hc9 hF
        refine lv_aload_n hx hb dX11_releases_44 rfl (lv_at hl 0 rfl) ?_
        refine lv_iload_n hx hb dX11_releases_45 rfl (lv_at hl 1 rfl) ?_
        obtain ⟨⟨r11, w12⟩, hk10, hF⟩ := am_bind hF
        have hF := am_u2 hF
        refine am_call X hh (va_runV (As := [.int x1]) (rest := []) X.1 (c_X11_rubs l G hk10) (cwV 1 hts gX11_releases_X11_rubs rfl rfl rfl (by decide +kernel) ⟨Nat.le_of_ble_eq_true rfl, Nat.le_of_ble_eq_true rfl⟩) (am_preV X hh 141 12 (by decide) rfl rfl) rfl rfl hl.1 rfl (lv_room (Nat.le_of_ble_eq_true rfl)) dX11_releases_46 ⟨Nat.le_of_ble_eq_true rfl, Nat.le_of_ble_eq_true rfl⟩) (fun ab H locs hh => ?_)
        refine lv_istore_n (lv' := [(3, .int r11), (0, .ref (gAd G 141)), (1, .int x1), (2, .int x2)]) hx hb dX11_releases_49 rfl hl (by decide) rfl (fun ls hl => ?_)
        refine lv_aload_n hx hb dX11_releases_50 rfl (lv_at hl 1 rfl) ?_
        refine lv_iload_n hx hb dX11_releases_51 rfl (lv_at hl 2 rfl) ?_
        obtain ⟨r15, hk14, hF⟩ := am_bind hF
        refine am_call X hh (va_runV (As := [.int x1]) (rest := []) X.1 (c_X11_isHindered l G hk14) (cwV 1 hts gX11_releases_X11_isHindered rfl rfl rfl (by decide +kernel) ⟨Nat.le_of_ble_eq_true rfl, Nat.le_of_ble_eq_true rfl⟩) (am_preV X hh 141 12 (by decide) rfl rfl) rfl rfl hl.1 rfl (lv_room (Nat.le_of_ble_eq_true rfl)) dX11_releases_52 ⟨Nat.le_of_ble_eq_true rfl, Nat.le_of_ble_eq_true rfl⟩) (fun ab H locs hh => ?_)
        refine lv_if_eq (tgt := 64) hx hb dX11_releases_55 (by decide) (fun hc16 => ?_) (fun hc16 => ?_)
        · have hF := am_pos hc16 hF
          refine lv_aload_n hx hb dX11_releases_64 rfl (lv_at hl 1 rfl) ?_
          refine lv_bipush (v := (36 : Int32)) hx hb dX11_releases_65 (by decide) ?_
          refine lv_iload_n hx hb dX11_releases_67 rfl (lv_at hl 2 rfl) ?_
          refine lv_iadd hx hb dX11_releases_68 ?_
          obtain ⟨r18, hk17, hF⟩ := am_bind hF
          refine am_call X hh (va_runV (As := [.int ((36 : Int32) + x1)]) (rest := []) X.1 (c_X11_at l G hk17) (cwV 1 hts gX11_releases_X11_at rfl rfl rfl (by decide +kernel) ⟨Nat.le_of_ble_eq_true rfl, Nat.le_of_ble_eq_true rfl⟩) (am_preV X hh 141 12 (by decide) rfl rfl) rfl rfl hl.1 rfl (lv_room (Nat.le_of_ble_eq_true rfl)) dX11_releases_69 ⟨Nat.le_of_ble_eq_true rfl, Nat.le_of_ble_eq_true rfl⟩) (fun ab H locs hh => ?_)
          refine lv_iload_n hx hb dX11_releases_72 rfl (lv_at hl 0 rfl) ?_
          obtain ⟨hq19, hF⟩ := am_if hF
          refine lv_idiv hx hb dX11_releases_73 hq19 ?_
          refine lv_istore (lv' := [(4, .int (r18 / r11)), (3, .int r11), (0, .ref (gAd G 141)), (1, .int x1), (2, .int x2)]) hx hb dX11_releases_74 hl (by decide) rfl (fun ls hl => ?_)
          refine lv_iload_n hx hb dX11_releases_76 rfl (lv_at hl 4 rfl) ?_
          refine lv_iload hx hb dX11_releases_77 (lv_at hl 0 rfl) ?_
          refine lv_icmp_ge (tgt := 86) hx hb dX11_releases_79 (by decide) (fun hc20 => ?_) (fun hc20 => ?_)
          · have hF := am_pos hc20 hF
            refine lv_iload hx hb dX11_releases_86 (lv_at hl 0 rfl) ?_
            refine lv_istore (lv' := [(5, .int (r18 / r11)), (4, .int (r18 / r11)), (3, .int r11), (0, .ref (gAd G 141)), (1, .int x1), (2, .int x2)]) hx hb dX11_releases_88 hl (by decide) rfl (fun ls hl => ?_)
            refine lv_aload_n hx hb dX11_releases_90 rfl (lv_at hl 3 rfl) ?_
            refine lv_iload_n hx hb dX11_releases_91 rfl (lv_at hl 4 rfl) ?_
            refine lv_iload hx hb dX11_releases_92 (lv_at hl 0 rfl) ?_
            refine lv_i2l hx hb dX11_releases_94 rfl ?_
            obtain ⟨w23, hk21, hF⟩ := am_bind hF
            refine am_call X hh (va_runV (As := [.int x1, .long (((r18 / r11)).toInt64)]) (rest := []) X.1 (c_X11_turnsBy l G hk21) (cwV 2 hts gX11_releases_X11_turnsBy rfl rfl rfl (by decide +kernel) ⟨Nat.le_of_ble_eq_true rfl, Nat.le_of_ble_eq_true rfl⟩) (am_preV X hh 141 12 (by decide) rfl rfl) rfl rfl hl.1 rfl (lv_room (Nat.le_of_ble_eq_true rfl)) dX11_releases_95 ⟨Nat.le_of_ble_eq_true rfl, Nat.le_of_ble_eq_true rfl⟩) (fun ab H locs hh => ?_)
            refine lv_aload_n hx hb dX11_releases_98 rfl (lv_at hl 3 rfl) ?_
            refine am_getR X hh 141 12 0 142 (by decide) rfl rfl (by decide) hwRX11 (show Cond.fieldLink RX11 7 "PlanetWorkshopModel" "g" "[J" ∈ wsX11_releases by decide +kernel) rfl dX11_releases_99 ?_
            refine lv_bipush (v := (36 : Int32)) hx hb dX11_releases_102 (by decide) ?_
            refine lv_iload_n hx hb dX11_releases_104 rfl (lv_at hl 4 rfl) ?_
            refine lv_iadd hx hb dX11_releases_105 ?_
            refine lv_dup2_11 hx hb dX11_releases_106 rfl rfl ?_
            obtain ⟨hq24, hF⟩ := am_ifR hF
            refine am_lald X hh 142 (by decide) rfl hq24 dX11_releases_107 ?_
            refine lv_iload_n hx hb dX11_releases_108 rfl (lv_at hl 2 rfl) ?_
            refine lv_iload hx hb dX11_releases_109 (lv_at hl 0 rfl) ?_
            refine lv_imul hx hb dX11_releases_111 ?_
            refine lv_i2l hx hb dX11_releases_112 rfl ?_
            refine lv_lsub hx hb dX11_releases_113 ?_
            obtain ⟨hq25, hF⟩ := am_ifR hF
            refine am_last X hh 142 (by decide) rfl hq25 dX11_releases_114 (fun H locs hh => ?_)
            obtain ⟨w26, hw26, hF⟩ := am_wl hF
            have hh := AH_eq hw26 hh
            refine lv_aload_n hx hb dX11_releases_115 rfl (lv_at hl 3 rfl) ?_
            refine am_getR X hh 141 12 0 142 (by decide) rfl rfl (by decide) hwRX11 (show Cond.fieldLink RX11 7 "PlanetWorkshopModel" "g" "[J" ∈ wsX11_releases by decide +kernel) rfl dX11_releases_116 ?_
            refine lv_iconst (v := (4 : Int32)) hx hb dX11_releases_119 (by decide) ?_
            refine lv_dup2_11 hx hb dX11_releases_120 rfl rfl ?_
            obtain ⟨hq27, hF⟩ := am_ifR hF
            refine am_lald X hh 142 (by decide) rfl hq27 dX11_releases_121 ?_
            refine lv_iload_n hx hb dX11_releases_122 rfl (lv_at hl 2 rfl) ?_
            refine lv_iload hx hb dX11_releases_123 (lv_at hl 0 rfl) ?_
            refine lv_imul hx hb dX11_releases_125 ?_
            refine lv_i2l hx hb dX11_releases_126 rfl ?_
            refine lv_ladd hx hb dX11_releases_127 ?_
            obtain ⟨hq28, hF⟩ := am_ifR hF
            refine am_last X hh 142 (by decide) rfl hq28 dX11_releases_128 (fun H locs hh => ?_)
            obtain ⟨w29, hw29, hF⟩ := am_wl hF
            have hh := AH_eq hw29 hh
            refine lv_aload_n hx hb dX11_releases_129 rfl (lv_at hl 3 rfl) ?_
            refine am_getR X hh 141 12 0 142 (by decide) rfl rfl (by decide) hwRX11 (show Cond.fieldLink RX11 7 "PlanetWorkshopModel" "g" "[J" ∈ wsX11_releases by decide +kernel) rfl dX11_releases_130 ?_
            refine lv_iconst (v := (5 : Int32)) hx hb dX11_releases_133 (by decide) ?_
            refine lv_dup2_11 hx hb dX11_releases_134 rfl rfl ?_
            obtain ⟨hq30, hF⟩ := am_ifR hF
            refine am_lald X hh 142 (by decide) rfl hq30 dX11_releases_135 ?_
            refine lv_iload hx hb dX11_releases_136 (lv_at hl 0 rfl) ?_
            refine lv_if_le (tgt := 145) hx hb dX11_releases_138 (by decide) (fun hc31 => ?_) (fun hc31 => ?_)
            · have hF := am_pos hc31 hF
              refine lv_lconst (v := (0 : Int64)) hx hb dX11_releases_145 (by decide) ?_
              refine lv_ladd hx hb dX11_releases_146 ?_
              obtain ⟨hq32, hF⟩ := am_ifR hF
              refine am_last X hh 142 (by decide) rfl hq32 dX11_releases_147 (fun H locs hh => ?_)
              obtain ⟨w33, hw33, hF⟩ := am_wl hF
              have hh := AH_eq hw33 hh
              refine lv_aload_n hx hb dX11_releases_148 rfl (lv_at hl 3 rfl) ?_
              obtain ⟨w36, hk34, hF⟩ := am_bind hF
              refine am_call X hh (va_runV (As := []) (rest := []) X.1 (c_X11_dries l G hk34) (cwV 0 hts gX11_releases_X11_dries rfl rfl rfl (by decide +kernel) ⟨Nat.le_of_ble_eq_true rfl, Nat.le_of_ble_eq_true rfl⟩) (am_preV X hh 141 12 (by decide) rfl rfl) rfl rfl hl.1 rfl (lv_room (Nat.le_of_ble_eq_true rfl)) dX11_releases_149 ⟨Nat.le_of_ble_eq_true rfl, Nat.le_of_ble_eq_true rfl⟩) (fun ab H locs hh => ?_)
              refine lv_aload_n hx hb dX11_releases_152 rfl (lv_at hl 3 rfl) ?_
              refine lv_iload hx hb dX11_releases_153 (lv_at hl 0 rfl) ?_
              obtain ⟨⟨r38, w39⟩, hk37, hF⟩ := am_bind hF
              have hF := am_u2 hF
              refine am_call X hh (va_runV (As := [.int (r18 / r11)]) (rest := []) X.1 (c_X11_done l G hk37) (cwV 1 hts gX11_releases_X11_done rfl rfl rfl (by decide +kernel) ⟨Nat.le_of_ble_eq_true rfl, Nat.le_of_ble_eq_true rfl⟩) (am_preV X hh 141 12 (by decide) rfl rfl) rfl rfl hl.1 rfl (lv_room (Nat.le_of_ble_eq_true rfl)) dX11_releases_155 ⟨Nat.le_of_ble_eq_true rfl, Nat.le_of_ble_eq_true rfl⟩) (fun ab H locs hh => ?_)
              exact am_iret X hr hh (fun t ht => am_qw (mk := oI) hF ht) (Nat.le_of_ble_eq_true rfl) (Nat.le_of_ble_eq_true rfl) dX11_releases_158
            · have hF := am_neg hc31 hF
              refine lv_lconst (v := (1 : Int64)) hx hb dX11_releases_141 (by decide) ?_
              refine lv_goto (tgt := 146) hx hb dX11_releases_142 (by decide) ?_
              refine lv_ladd hx hb dX11_releases_146 ?_
              obtain ⟨hq41, hF⟩ := am_ifR hF
              refine am_last X hh 142 (by decide) rfl hq41 dX11_releases_147 (fun H locs hh => ?_)
              obtain ⟨w42, hw42, hF⟩ := am_wl hF
              have hh := AH_eq hw42 hh
              refine lv_aload_n hx hb dX11_releases_148 rfl (lv_at hl 3 rfl) ?_
              obtain ⟨w45, hk43, hF⟩ := am_bind hF
              refine am_call X hh (va_runV (As := []) (rest := []) X.1 (c_X11_dries l G hk43) (cwV 0 hts gX11_releases_X11_dries rfl rfl rfl (by decide +kernel) ⟨Nat.le_of_ble_eq_true rfl, Nat.le_of_ble_eq_true rfl⟩) (am_preV X hh 141 12 (by decide) rfl rfl) rfl rfl hl.1 rfl (lv_room (Nat.le_of_ble_eq_true rfl)) dX11_releases_149 ⟨Nat.le_of_ble_eq_true rfl, Nat.le_of_ble_eq_true rfl⟩) (fun ab H locs hh => ?_)
              refine lv_aload_n hx hb dX11_releases_152 rfl (lv_at hl 3 rfl) ?_
              refine lv_iload hx hb dX11_releases_153 (lv_at hl 0 rfl) ?_
              obtain ⟨⟨r47, w48⟩, hk46, hF⟩ := am_bind hF
              have hF := am_u2 hF
              refine am_call X hh (va_runV (As := [.int (r18 / r11)]) (rest := []) X.1 (c_X11_done l G hk46) (cwV 1 hts gX11_releases_X11_done rfl rfl rfl (by decide +kernel) ⟨Nat.le_of_ble_eq_true rfl, Nat.le_of_ble_eq_true rfl⟩) (am_preV X hh 141 12 (by decide) rfl rfl) rfl rfl hl.1 rfl (lv_room (Nat.le_of_ble_eq_true rfl)) dX11_releases_155 ⟨Nat.le_of_ble_eq_true rfl, Nat.le_of_ble_eq_true rfl⟩) (fun ab H locs hh => ?_)
              exact am_iret X hr hh (fun t ht => am_qw (mk := oI) hF ht) (Nat.le_of_ble_eq_true rfl) (Nat.le_of_ble_eq_true rfl) dX11_releases_158
          · have hF := am_neg hc20 hF
            refine lv_iload_n hx hb dX11_releases_82 rfl (lv_at hl 4 rfl) ?_
            refine lv_goto (tgt := 88) hx hb dX11_releases_83 (by decide) ?_
            refine lv_istore (lv' := [(5, .int x2), (4, .int (r18 / r11)), (3, .int r11), (0, .ref (gAd G 141)), (1, .int x1), (2, .int x2)]) hx hb dX11_releases_88 hl (by decide) rfl (fun ls hl => ?_)
            refine lv_aload_n hx hb dX11_releases_90 rfl (lv_at hl 3 rfl) ?_
            refine lv_iload_n hx hb dX11_releases_91 rfl (lv_at hl 4 rfl) ?_
            refine lv_iload hx hb dX11_releases_92 (lv_at hl 0 rfl) ?_
            refine lv_i2l hx hb dX11_releases_94 rfl ?_
            obtain ⟨w52, hk50, hF⟩ := am_bind hF
            refine am_call X hh (va_runV (As := [.int x1, .long ((x2).toInt64)]) (rest := []) X.1 (c_X11_turnsBy l G hk50) (cwV 2 hts gX11_releases_X11_turnsBy rfl rfl rfl (by decide +kernel) ⟨Nat.le_of_ble_eq_true rfl, Nat.le_of_ble_eq_true rfl⟩) (am_preV X hh 141 12 (by decide) rfl rfl) rfl rfl hl.1 rfl (lv_room (Nat.le_of_ble_eq_true rfl)) dX11_releases_95 ⟨Nat.le_of_ble_eq_true rfl, Nat.le_of_ble_eq_true rfl⟩) (fun ab H locs hh => ?_)
            refine lv_aload_n hx hb dX11_releases_98 rfl (lv_at hl 3 rfl) ?_
            refine am_getR X hh 141 12 0 142 (by decide) rfl rfl (by decide) hwRX11 (show Cond.fieldLink RX11 7 "PlanetWorkshopModel" "g" "[J" ∈ wsX11_releases by decide +kernel) rfl dX11_releases_99 ?_
            refine lv_bipush (v := (36 : Int32)) hx hb dX11_releases_102 (by decide) ?_
            refine lv_iload_n hx hb dX11_releases_104 rfl (lv_at hl 4 rfl) ?_
            refine lv_iadd hx hb dX11_releases_105 ?_
            refine lv_dup2_11 hx hb dX11_releases_106 rfl rfl ?_
            obtain ⟨hq53, hF⟩ := am_ifR hF
            refine am_lald X hh 142 (by decide) rfl hq53 dX11_releases_107 ?_
            refine lv_iload_n hx hb dX11_releases_108 rfl (lv_at hl 2 rfl) ?_
            refine lv_iload hx hb dX11_releases_109 (lv_at hl 0 rfl) ?_
            refine lv_imul hx hb dX11_releases_111 ?_
            refine lv_i2l hx hb dX11_releases_112 rfl ?_
            refine lv_lsub hx hb dX11_releases_113 ?_
            obtain ⟨hq54, hF⟩ := am_ifR hF
            refine am_last X hh 142 (by decide) rfl hq54 dX11_releases_114 (fun H locs hh => ?_)
            obtain ⟨w55, hw55, hF⟩ := am_wl hF
            have hh := AH_eq hw55 hh
            refine lv_aload_n hx hb dX11_releases_115 rfl (lv_at hl 3 rfl) ?_
            refine am_getR X hh 141 12 0 142 (by decide) rfl rfl (by decide) hwRX11 (show Cond.fieldLink RX11 7 "PlanetWorkshopModel" "g" "[J" ∈ wsX11_releases by decide +kernel) rfl dX11_releases_116 ?_
            refine lv_iconst (v := (4 : Int32)) hx hb dX11_releases_119 (by decide) ?_
            refine lv_dup2_11 hx hb dX11_releases_120 rfl rfl ?_
            obtain ⟨hq56, hF⟩ := am_ifR hF
            refine am_lald X hh 142 (by decide) rfl hq56 dX11_releases_121 ?_
            refine lv_iload_n hx hb dX11_releases_122 rfl (lv_at hl 2 rfl) ?_
            refine lv_iload hx hb dX11_releases_123 (lv_at hl 0 rfl) ?_
            refine lv_imul hx hb dX11_releases_125 ?_
            refine lv_i2l hx hb dX11_releases_126 rfl ?_
            refine lv_ladd hx hb dX11_releases_127 ?_
            obtain ⟨hq57, hF⟩ := am_ifR hF
            refine am_last X hh 142 (by decide) rfl hq57 dX11_releases_128 (fun H locs hh => ?_)
            obtain ⟨w58, hw58, hF⟩ := am_wl hF
            have hh := AH_eq hw58 hh
            refine lv_aload_n hx hb dX11_releases_129 rfl (lv_at hl 3 rfl) ?_
            refine am_getR X hh 141 12 0 142 (by decide) rfl rfl (by decide) hwRX11 (show Cond.fieldLink RX11 7 "PlanetWorkshopModel" "g" "[J" ∈ wsX11_releases by decide +kernel) rfl dX11_releases_130 ?_
            refine lv_iconst (v := (5 : Int32)) hx hb dX11_releases_133 (by decide) ?_
            refine lv_dup2_11 hx hb dX11_releases_134 rfl rfl ?_
            obtain ⟨hq59, hF⟩ := am_ifR hF
            refine am_lald X hh 142 (by decide) rfl hq59 dX11_releases_135 ?_
            refine lv_iload hx hb dX11_releases_136 (lv_at hl 0 rfl) ?_
            refine lv_if_le (tgt := 145) hx hb dX11_releases_138 (by decide) (fun hc60 => ?_) (fun hc60 => ?_)
            · have hF := am_pos hc60 hF
              refine lv_lconst (v := (0 : Int64)) hx hb dX11_releases_145 (by decide) ?_
              refine lv_ladd hx hb dX11_releases_146 ?_
              obtain ⟨hq61, hF⟩ := am_ifR hF
              refine am_last X hh 142 (by decide) rfl hq61 dX11_releases_147 (fun H locs hh => ?_)
              obtain ⟨w62, hw62, hF⟩ := am_wl hF
              have hh := AH_eq hw62 hh
              refine lv_aload_n hx hb dX11_releases_148 rfl (lv_at hl 3 rfl) ?_
              obtain ⟨w65, hk63, hF⟩ := am_bind hF
              refine am_call X hh (va_runV (As := []) (rest := []) X.1 (c_X11_dries l G hk63) (cwV 0 hts gX11_releases_X11_dries rfl rfl rfl (by decide +kernel) ⟨Nat.le_of_ble_eq_true rfl, Nat.le_of_ble_eq_true rfl⟩) (am_preV X hh 141 12 (by decide) rfl rfl) rfl rfl hl.1 rfl (lv_room (Nat.le_of_ble_eq_true rfl)) dX11_releases_149 ⟨Nat.le_of_ble_eq_true rfl, Nat.le_of_ble_eq_true rfl⟩) (fun ab H locs hh => ?_)
              refine lv_aload_n hx hb dX11_releases_152 rfl (lv_at hl 3 rfl) ?_
              refine lv_iload hx hb dX11_releases_153 (lv_at hl 0 rfl) ?_
              obtain ⟨⟨r67, w68⟩, hk66, hF⟩ := am_bind hF
              have hF := am_u2 hF
              refine am_call X hh (va_runV (As := [.int x2]) (rest := []) X.1 (c_X11_done l G hk66) (cwV 1 hts gX11_releases_X11_done rfl rfl rfl (by decide +kernel) ⟨Nat.le_of_ble_eq_true rfl, Nat.le_of_ble_eq_true rfl⟩) (am_preV X hh 141 12 (by decide) rfl rfl) rfl rfl hl.1 rfl (lv_room (Nat.le_of_ble_eq_true rfl)) dX11_releases_155 ⟨Nat.le_of_ble_eq_true rfl, Nat.le_of_ble_eq_true rfl⟩) (fun ab H locs hh => ?_)
              exact am_iret X hr hh (fun t ht => am_qw (mk := oI) hF ht) (Nat.le_of_ble_eq_true rfl) (Nat.le_of_ble_eq_true rfl) dX11_releases_158
            · have hF := am_neg hc60 hF
              refine lv_lconst (v := (1 : Int64)) hx hb dX11_releases_141 (by decide) ?_
              refine lv_goto (tgt := 146) hx hb dX11_releases_142 (by decide) ?_
              refine lv_ladd hx hb dX11_releases_146 ?_
              obtain ⟨hq70, hF⟩ := am_ifR hF
              refine am_last X hh 142 (by decide) rfl hq70 dX11_releases_147 (fun H locs hh => ?_)
              obtain ⟨w71, hw71, hF⟩ := am_wl hF
              have hh := AH_eq hw71 hh
              refine lv_aload_n hx hb dX11_releases_148 rfl (lv_at hl 3 rfl) ?_
              obtain ⟨w74, hk72, hF⟩ := am_bind hF
              refine am_call X hh (va_runV (As := []) (rest := []) X.1 (c_X11_dries l G hk72) (cwV 0 hts gX11_releases_X11_dries rfl rfl rfl (by decide +kernel) ⟨Nat.le_of_ble_eq_true rfl, Nat.le_of_ble_eq_true rfl⟩) (am_preV X hh 141 12 (by decide) rfl rfl) rfl rfl hl.1 rfl (lv_room (Nat.le_of_ble_eq_true rfl)) dX11_releases_149 ⟨Nat.le_of_ble_eq_true rfl, Nat.le_of_ble_eq_true rfl⟩) (fun ab H locs hh => ?_)
              refine lv_aload_n hx hb dX11_releases_152 rfl (lv_at hl 3 rfl) ?_
              refine lv_iload hx hb dX11_releases_153 (lv_at hl 0 rfl) ?_
              obtain ⟨⟨r76, w77⟩, hk75, hF⟩ := am_bind hF
              have hF := am_u2 hF
              refine am_call X hh (va_runV (As := [.int x2]) (rest := []) X.1 (c_X11_done l G hk75) (cwV 1 hts gX11_releases_X11_done rfl rfl rfl (by decide +kernel) ⟨Nat.le_of_ble_eq_true rfl, Nat.le_of_ble_eq_true rfl⟩) (am_preV X hh 141 12 (by decide) rfl rfl) rfl rfl hl.1 rfl (lv_room (Nat.le_of_ble_eq_true rfl)) dX11_releases_155 ⟨Nat.le_of_ble_eq_true rfl, Nat.le_of_ble_eq_true rfl⟩) (fun ab H locs hh => ?_)
              exact am_iret X hr hh (fun t ht => am_qw (mk := oI) hF ht) (Nat.le_of_ble_eq_true rfl) (Nat.le_of_ble_eq_true rfl) dX11_releases_158
        · have hF := am_neg hc16 hF
          refine lv_aload_n hx hb dX11_releases_58 rfl (lv_at hl 1 rfl) ?_
          refine lv_iconst (v := (4 : Int32)) hx hb dX11_releases_59 (by decide) ?_
          obtain ⟨⟨r80, w81⟩, hk79, hF⟩ := am_bind hF
          have hF := am_u2 hF
          refine am_call X hh (va_runV (As := [.int (4 : Int32)]) (rest := []) X.1 (c_X11_fails l G hk79) (cwV 1 hts gX11_releases_X11_fails rfl rfl rfl (by decide +kernel) ⟨Nat.le_of_ble_eq_true rfl, Nat.le_of_ble_eq_true rfl⟩) (am_preV X hh 141 12 (by decide) rfl rfl) rfl rfl hl.1 rfl (lv_room (Nat.le_of_ble_eq_true rfl)) dX11_releases_60 ⟨Nat.le_of_ble_eq_true rfl, Nat.le_of_ble_eq_true rfl⟩) (fun ab H locs hh => ?_)
          exact am_iret X hr hh (fun t ht => am_qw (mk := oI) hF ht) (Nat.le_of_ble_eq_true rfl) (Nat.le_of_ble_eq_true rfl) dX11_releases_63
      · have hF := am_pos hc9 hF
        refine lv_aload_n hx hb dX11_releases_38 rfl (lv_at hl 0 rfl) ?_
        refine lv_iconst (v := (3 : Int32)) hx hb dX11_releases_39 (by decide) ?_
        obtain ⟨⟨r84, w85⟩, hk83, hF⟩ := am_bind hF
        have hF := am_u2 hF
        refine am_call X hh (va_runV (As := [.int (3 : Int32)]) (rest := []) X.1 (c_X11_fails l G hk83) (cwV 1 hts gX11_releases_X11_fails rfl rfl rfl (by decide +kernel) ⟨Nat.le_of_ble_eq_true rfl, Nat.le_of_ble_eq_true rfl⟩) (am_preV X hh 141 12 (by decide) rfl rfl) rfl rfl hl.1 rfl (lv_room (Nat.le_of_ble_eq_true rfl)) dX11_releases_40 ⟨Nat.le_of_ble_eq_true rfl, Nat.le_of_ble_eq_true rfl⟩) (fun ab H locs hh => ?_)
        exact am_iret X hr hh (fun t ht => am_qw (mk := oI) hF ht) (Nat.le_of_ble_eq_true rfl) (Nat.le_of_ble_eq_true rfl) dX11_releases_43
    · have hF := am_pos hc6 hF
      refine lv_aload_n hx hb dX11_releases_24 rfl (lv_at hl 0 rfl) ?_
      refine lv_iconst (v := (2 : Int32)) hx hb dX11_releases_25 (by decide) ?_
      obtain ⟨⟨r88, w89⟩, hk87, hF⟩ := am_bind hF
      have hF := am_u2 hF
      refine am_call X hh (va_runV (As := [.int (2 : Int32)]) (rest := []) X.1 (c_X11_fails l G hk87) (cwV 1 hts gX11_releases_X11_fails rfl rfl rfl (by decide +kernel) ⟨Nat.le_of_ble_eq_true rfl, Nat.le_of_ble_eq_true rfl⟩) (am_preV X hh 141 12 (by decide) rfl rfl) rfl rfl hl.1 rfl (lv_room (Nat.le_of_ble_eq_true rfl)) dX11_releases_26 ⟨Nat.le_of_ble_eq_true rfl, Nat.le_of_ble_eq_true rfl⟩) (fun ab H locs hh => ?_)
      exact am_iret X hr hh (fun t ht => am_qw (mk := oI) hF ht) (Nat.le_of_ble_eq_true rfl) (Nat.le_of_ble_eq_true rfl) dX11_releases_29
  · have hF := am_pos hc3 hF
    refine lv_aload_n hx hb dX11_releases_8 rfl (lv_at hl 0 rfl) ?_
    refine lv_iconst (v := (1 : Int32)) hx hb dX11_releases_9 (by decide) ?_
    obtain ⟨⟨r92, w93⟩, hk91, hF⟩ := am_bind hF
    have hF := am_u2 hF
    refine am_call X hh (va_runV (As := [.int (1 : Int32)]) (rest := []) X.1 (c_X11_fails l G hk91) (cwV 1 hts gX11_releases_X11_fails rfl rfl rfl (by decide +kernel) ⟨Nat.le_of_ble_eq_true rfl, Nat.le_of_ble_eq_true rfl⟩) (am_preV X hh 141 12 (by decide) rfl rfl) rfl rfl hl.1 rfl (lv_room (Nat.le_of_ble_eq_true rfl)) dX11_releases_10 ⟨Nat.le_of_ble_eq_true rfl, Nat.le_of_ble_eq_true rfl⟩) (fun ab H locs hh => ?_)
    exact am_iret X hr hh (fun t ht => am_qw (mk := oI) hF ht) (Nat.le_of_ble_eq_true rfl) (Nat.le_of_ble_eq_true rfl) dX11_releases_13
set_option maxHeartbeats 4000000 in
set_option maxRecDepth 100000 in
theorem c_X11_release (l : Launch) (G : GG) {w : Wd} {x1 : Int32} {x2 : Int32} {r0 : Int32} {w1 : Wd} (hF : f_X11_release w x1 x2 = some (r0, w1)) : Met l yX11_release wsX11_release ({ frames := 6, cells := 0, slots := 0, locals := 136 } : Room) (va_Pc [.ref (gAd G 141), .int x1, .int x2] (Rel G w)) (amQ G (oI r0) w1) 0 0 (gA G) := by
  refine am_met (own := RX11) (cc := cX11_release) (maxL := 3) (ret := (some .int)) (by decide +kernel) rfl rfl (Nat.le_of_ble_eq_true rfl) ?_
  intro p e s m args below meth c ab H locs ls X hr hh hl
  have hx := X.1.1; have hb := X.1.2.1; have hml := X.1.2.2.1; have hown := X.1.2.2.2.1; have hts := X.1.2.2.2.2
  have hl : lv_has ls 3 [(0, .ref (gAd G 141)), (1, .int x1), (2, .int x2)] := hl
  unfold f_X11_release at hF
  refine lv_aload_n hx hb dX11_release_0 rfl (lv_at hl 0 rfl) ?_
  obtain ⟨w3, hk1, hF⟩ := am_bind hF
  refine am_call X hh (va_runV (As := []) (rest := []) X.1 (c_X11_begin l G hk1) (cwV 0 hts gX11_release_X11_begin rfl rfl rfl (by decide +kernel) ⟨Nat.le_of_ble_eq_true rfl, Nat.le_of_ble_eq_true rfl⟩) (am_preV X hh 141 12 (by decide) rfl rfl) rfl rfl hl.1 rfl (lv_room (Nat.le_of_ble_eq_true rfl)) dX11_release_1 ⟨Nat.le_of_ble_eq_true rfl, Nat.le_of_ble_eq_true rfl⟩) (fun ab H locs hh => ?_)
  refine lv_aload_n hx hb dX11_release_4 rfl (lv_at hl 0 rfl) ?_
  refine lv_aload_n hx hb dX11_release_5 rfl (lv_at hl 0 rfl) ?_
  refine lv_iload_n hx hb dX11_release_6 rfl (lv_at hl 1 rfl) ?_
  refine lv_iload_n hx hb dX11_release_7 rfl (lv_at hl 2 rfl) ?_
  obtain ⟨⟨r5, w6⟩, hk4, hF⟩ := am_bind hF
  have hF := am_u2 hF
  refine am_call X hh (va_runV (As := [.int x1, .int x2]) (rest := [.ref (gAd G 141)]) X.1 (c_X11_releases l G hk4) (cwV 2 hts gX11_release_X11_releases rfl rfl rfl (by decide +kernel) ⟨Nat.le_of_ble_eq_true rfl, Nat.le_of_ble_eq_true rfl⟩) (am_preV X hh 141 12 (by decide) rfl rfl) rfl rfl hl.1 rfl (lv_room (Nat.le_of_ble_eq_true rfl)) dX11_release_8 ⟨Nat.le_of_ble_eq_true rfl, Nat.le_of_ble_eq_true rfl⟩) (fun ab H locs hh => ?_)
  obtain ⟨⟨r9, w10⟩, hk8, hF⟩ := am_bind hF
  have hF := am_u2 hF
  refine am_call X hh (va_runV (As := [.int r5]) (rest := []) X.1 (c_X11_kept l G hk8) (cwV 1 hts gX11_release_X11_kept rfl rfl rfl (by decide +kernel) ⟨Nat.le_of_ble_eq_true rfl, Nat.le_of_ble_eq_true rfl⟩) (am_preV X hh 141 12 (by decide) rfl rfl) rfl rfl hl.1 rfl (lv_room (Nat.le_of_ble_eq_true rfl)) dX11_release_11 ⟨Nat.le_of_ble_eq_true rfl, Nat.le_of_ble_eq_true rfl⟩) (fun ab H locs hh => ?_)
  exact am_iret X hr hh (fun t ht => am_qw (mk := oI) hF ht) (Nat.le_of_ble_eq_true rfl) (Nat.le_of_ble_eq_true rfl) dX11_release_14
set_option maxHeartbeats 4000000 in
set_option maxRecDepth 100000 in
theorem c_X11_ratchets (l : Launch) (G : GG) {w : Wd} {x1 : Int32} {x2 : Int32} {r0 : Int32} {w1 : Wd} (hF : f_X11_ratchets w x1 x2 = some (r0, w1)) : Met l yX11_ratchets wsX11_ratchets ({ frames := 2, cells := 0, slots := 0, locals := 43 } : Room) (va_Pc [.ref (gAd G 141), .int x1, .int x2] (Rel G w)) (amQ G (oI r0) w1) 0 0 (gA G) := by
  refine am_met (own := RX11) (cc := cX11_ratchets) (maxL := 4) (ret := (some .int)) (by decide +kernel) rfl rfl (Nat.le_of_ble_eq_true rfl) ?_
  intro p e s m args below meth c ab H locs ls X hr hh hl
  have hx := X.1.1; have hb := X.1.2.1; have hml := X.1.2.2.1; have hown := X.1.2.2.2.1; have hts := X.1.2.2.2.2
  have hl : lv_has ls 4 [(0, .ref (gAd G 141)), (1, .int x1), (2, .int x2)] := hl
  have hwRX11 : ∀ z ∈ u_ws RX11 TX11 18, z ∈ wsX11_ratchets := by decide +kernel
  unfold f_X11_ratchets at hF
  refine lv_aload_n hx hb dX11_ratchets_0 rfl (lv_at hl 0 rfl) ?_
  refine lv_iload_n hx hb dX11_ratchets_1 rfl (lv_at hl 1 rfl) ?_
  obtain ⟨r2, hk1, hF⟩ := am_bind hF
  refine am_call X hh (va_runV (As := [.int x1]) (rest := []) X.1 (c_X11_isGear l G hk1) (cwV 1 hts gX11_ratchets_X11_isGear rfl rfl rfl (by decide +kernel) ⟨Nat.le_of_ble_eq_true rfl, Nat.le_of_ble_eq_true rfl⟩) (am_preV X hh 141 12 (by decide) rfl rfl) rfl rfl hl.1 rfl (lv_room (Nat.le_of_ble_eq_true rfl)) dX11_ratchets_2 ⟨Nat.le_of_ble_eq_true rfl, Nat.le_of_ble_eq_true rfl⟩) (fun ab H locs hh => ?_)
  refine lv_if_ne (tgt := 14) hx hb dX11_ratchets_5 (by decide) (fun hc3 => ?_) (fun hc3 => ?_)
  · have hF := am_neg hc3 hF
    refine lv_aload_n hx hb dX11_ratchets_14 rfl (lv_at hl 0 rfl) ?_
    refine lv_bipush (v := (56 : Int32)) hx hb dX11_ratchets_15 (by decide) ?_
    refine lv_iload_n hx hb dX11_ratchets_17 rfl (lv_at hl 1 rfl) ?_
    refine lv_iadd hx hb dX11_ratchets_18 ?_
    obtain ⟨r5, hk4, hF⟩ := am_bind hF
    refine am_call X hh (va_runV (As := [.int ((56 : Int32) + x1)]) (rest := []) X.1 (c_X11_at l G hk4) (cwV 1 hts gX11_ratchets_X11_at rfl rfl rfl (by decide +kernel) ⟨Nat.le_of_ble_eq_true rfl, Nat.le_of_ble_eq_true rfl⟩) (am_preV X hh 141 12 (by decide) rfl rfl) rfl rfl hl.1 rfl (lv_room (Nat.le_of_ble_eq_true rfl)) dX11_ratchets_19 ⟨Nat.le_of_ble_eq_true rfl, Nat.le_of_ble_eq_true rfl⟩) (fun ab H locs hh => ?_)
    refine lv_istore_n (lv' := [(3, .int r5), (0, .ref (gAd G 141)), (1, .int x1), (2, .int x2)]) hx hb dX11_ratchets_22 rfl hl (by decide) rfl (fun ls hl => ?_)
    refine lv_aload_n hx hb dX11_ratchets_23 rfl (lv_at hl 1 rfl) ?_
    refine am_getR X hh 141 12 0 142 (by decide) rfl rfl (by decide) hwRX11 (show Cond.fieldLink RX11 7 "PlanetWorkshopModel" "g" "[J" ∈ wsX11_ratchets by decide +kernel) rfl dX11_ratchets_24 ?_
    refine lv_bipush (v := (56 : Int32)) hx hb dX11_ratchets_27 (by decide) ?_
    refine lv_iload_n hx hb dX11_ratchets_29 rfl (lv_at hl 2 rfl) ?_
    refine lv_iadd hx hb dX11_ratchets_30 ?_
    refine lv_iload_n hx hb dX11_ratchets_31 rfl (lv_at hl 3 rfl) ?_
    refine lv_if_eq (tgt := 39) hx hb dX11_ratchets_32 (by decide) (fun hc6 => ?_) (fun hc6 => ?_)
    · have hF := am_pos hc6 hF
      refine lv_lconst (v := (0 : Int64)) hx hb dX11_ratchets_39 (by decide) ?_
      obtain ⟨hq7, hF⟩ := am_ifR hF
      refine am_last X hh 142 (by decide) rfl hq7 dX11_ratchets_40 (fun H locs hh => ?_)
      obtain ⟨w8, hw8, hF⟩ := am_wl hF
      have hh := AH_eq hw8 hh
      refine lv_aload_n hx hb dX11_ratchets_41 rfl (lv_at hl 1 rfl) ?_
      refine lv_iload_n hx hb dX11_ratchets_42 rfl (lv_at hl 0 rfl) ?_
      obtain ⟨⟨r10, w11⟩, hk9, hF⟩ := am_bind hF
      have hF := am_u2 hF
      refine am_call X hh (va_runV (As := [.int r5]) (rest := []) X.1 (c_X11_done l G hk9) (cwV 1 hts gX11_ratchets_X11_done rfl rfl rfl (by decide +kernel) ⟨Nat.le_of_ble_eq_true rfl, Nat.le_of_ble_eq_true rfl⟩) (am_preV X hh 141 12 (by decide) rfl rfl) rfl rfl hl.1 rfl (lv_room (Nat.le_of_ble_eq_true rfl)) dX11_ratchets_43 ⟨Nat.le_of_ble_eq_true rfl, Nat.le_of_ble_eq_true rfl⟩) (fun ab H locs hh => ?_)
      exact am_iret X hr hh (fun t ht => am_qw (mk := oI) hF ht) (Nat.le_of_ble_eq_true rfl) (Nat.le_of_ble_eq_true rfl) dX11_ratchets_46
    · have hF := am_neg hc6 hF
      refine lv_lconst (v := (1 : Int64)) hx hb dX11_ratchets_35 (by decide) ?_
      refine lv_goto (tgt := 40) hx hb dX11_ratchets_36 (by decide) ?_
      obtain ⟨hq13, hF⟩ := am_ifR hF
      refine am_last X hh 142 (by decide) rfl hq13 dX11_ratchets_40 (fun H locs hh => ?_)
      obtain ⟨w14, hw14, hF⟩ := am_wl hF
      have hh := AH_eq hw14 hh
      refine lv_aload_n hx hb dX11_ratchets_41 rfl (lv_at hl 1 rfl) ?_
      refine lv_iload_n hx hb dX11_ratchets_42 rfl (lv_at hl 0 rfl) ?_
      obtain ⟨⟨r16, w17⟩, hk15, hF⟩ := am_bind hF
      have hF := am_u2 hF
      refine am_call X hh (va_runV (As := [.int r5]) (rest := []) X.1 (c_X11_done l G hk15) (cwV 1 hts gX11_ratchets_X11_done rfl rfl rfl (by decide +kernel) ⟨Nat.le_of_ble_eq_true rfl, Nat.le_of_ble_eq_true rfl⟩) (am_preV X hh 141 12 (by decide) rfl rfl) rfl rfl hl.1 rfl (lv_room (Nat.le_of_ble_eq_true rfl)) dX11_ratchets_43 ⟨Nat.le_of_ble_eq_true rfl, Nat.le_of_ble_eq_true rfl⟩) (fun ab H locs hh => ?_)
      exact am_iret X hr hh (fun t ht => am_qw (mk := oI) hF ht) (Nat.le_of_ble_eq_true rfl) (Nat.le_of_ble_eq_true rfl) dX11_ratchets_46
  · have hF := am_pos hc3 hF
    refine lv_aload_n hx hb dX11_ratchets_8 rfl (lv_at hl 0 rfl) ?_
    refine lv_iconst (v := (1 : Int32)) hx hb dX11_ratchets_9 (by decide) ?_
    obtain ⟨⟨r20, w21⟩, hk19, hF⟩ := am_bind hF
    have hF := am_u2 hF
    refine am_call X hh (va_runV (As := [.int (1 : Int32)]) (rest := []) X.1 (c_X11_fails l G hk19) (cwV 1 hts gX11_ratchets_X11_fails rfl rfl rfl (by decide +kernel) ⟨Nat.le_of_ble_eq_true rfl, Nat.le_of_ble_eq_true rfl⟩) (am_preV X hh 141 12 (by decide) rfl rfl) rfl rfl hl.1 rfl (lv_room (Nat.le_of_ble_eq_true rfl)) dX11_ratchets_10 ⟨Nat.le_of_ble_eq_true rfl, Nat.le_of_ble_eq_true rfl⟩) (fun ab H locs hh => ?_)
    exact am_iret X hr hh (fun t ht => am_qw (mk := oI) hF ht) (Nat.le_of_ble_eq_true rfl) (Nat.le_of_ble_eq_true rfl) dX11_ratchets_13
set_option maxHeartbeats 4000000 in
set_option maxRecDepth 100000 in
theorem c_X11_setRatchet (l : Launch) (G : GG) {w : Wd} {x1 : Int32} {x2 : Int32} {r0 : Int32} {w1 : Wd} (hF : f_X11_setRatchet w x1 x2 = some (r0, w1)) : Met l yX11_setRatchet wsX11_setRatchet ({ frames := 3, cells := 0, slots := 0, locals := 66 } : Room) (va_Pc [.ref (gAd G 141), .int x1, .int x2] (Rel G w)) (amQ G (oI r0) w1) 0 0 (gA G) := by
  refine am_met (own := RX11) (cc := cX11_setRatchet) (maxL := 3) (ret := (some .boolean)) (by decide +kernel) rfl rfl (Nat.le_of_ble_eq_true rfl) ?_
  intro p e s m args below meth c ab H locs ls X hr hh hl
  have hx := X.1.1; have hb := X.1.2.1; have hml := X.1.2.2.1; have hown := X.1.2.2.2.1; have hts := X.1.2.2.2.2
  have hl : lv_has ls 3 [(0, .ref (gAd G 141)), (1, .int x1), (2, .int x2)] := hl
  unfold f_X11_setRatchet at hF
  refine lv_aload_n hx hb dX11_setRatchet_0 rfl (lv_at hl 0 rfl) ?_
  obtain ⟨w3, hk1, hF⟩ := am_bind hF
  refine am_call X hh (va_runV (As := []) (rest := []) X.1 (c_X11_begin l G hk1) (cwV 0 hts gX11_setRatchet_X11_begin rfl rfl rfl (by decide +kernel) ⟨Nat.le_of_ble_eq_true rfl, Nat.le_of_ble_eq_true rfl⟩) (am_preV X hh 141 12 (by decide) rfl rfl) rfl rfl hl.1 rfl (lv_room (Nat.le_of_ble_eq_true rfl)) dX11_setRatchet_1 ⟨Nat.le_of_ble_eq_true rfl, Nat.le_of_ble_eq_true rfl⟩) (fun ab H locs hh => ?_)
  refine lv_aload_n hx hb dX11_setRatchet_4 rfl (lv_at hl 0 rfl) ?_
  refine lv_aload_n hx hb dX11_setRatchet_5 rfl (lv_at hl 0 rfl) ?_
  refine lv_iload_n hx hb dX11_setRatchet_6 rfl (lv_at hl 1 rfl) ?_
  refine lv_iload_n hx hb dX11_setRatchet_7 rfl (lv_at hl 2 rfl) ?_
  obtain ⟨⟨r5, w6⟩, hk4, hF⟩ := am_bind hF
  have hF := am_u2 hF
  refine am_call X hh (va_runV (As := [.int x1, .int x2]) (rest := [.ref (gAd G 141)]) X.1 (c_X11_ratchets l G hk4) (cwV 2 hts gX11_setRatchet_X11_ratchets rfl rfl rfl (by decide +kernel) ⟨Nat.le_of_ble_eq_true rfl, Nat.le_of_ble_eq_true rfl⟩) (am_preV X hh 141 12 (by decide) rfl rfl) rfl rfl hl.1 rfl (lv_room (Nat.le_of_ble_eq_true rfl)) dX11_setRatchet_8 ⟨Nat.le_of_ble_eq_true rfl, Nat.le_of_ble_eq_true rfl⟩) (fun ab H locs hh => ?_)
  obtain ⟨⟨r9, w10⟩, hk8, hF⟩ := am_bind hF
  have hF := am_u2 hF
  refine am_call X hh (va_runV (As := [.int r5]) (rest := []) X.1 (c_X11_kept l G hk8) (cwV 1 hts gX11_setRatchet_X11_kept rfl rfl rfl (by decide +kernel) ⟨Nat.le_of_ble_eq_true rfl, Nat.le_of_ble_eq_true rfl⟩) (am_preV X hh 141 12 (by decide) rfl rfl) rfl rfl hl.1 rfl (lv_room (Nat.le_of_ble_eq_true rfl)) dX11_setRatchet_11 ⟨Nat.le_of_ble_eq_true rfl, Nat.le_of_ble_eq_true rfl⟩) (fun ab H locs hh => ?_)
  refine lv_iconst (v := (1 : Int32)) hx hb dX11_setRatchet_14 (by decide) ?_
  refine lv_icmp_ne (tgt := 22) hx hb dX11_setRatchet_15 (by decide) (fun hc12 => ?_) (fun hc12 => ?_)
  · have hF := am_neg hc12 hF
    refine lv_iconst (v := (0 : Int32)) hx hb dX11_setRatchet_22 (by decide) ?_
    exact am_zret (v' := (0 : Int32)) X hr rfl hh (fun t ht => am_qw (mk := oI) hF ht) (Nat.le_of_ble_eq_true rfl) (Nat.le_of_ble_eq_true rfl) dX11_setRatchet_23
  · have hF := am_pos hc12 hF
    refine lv_iconst (v := (1 : Int32)) hx hb dX11_setRatchet_18 (by decide) ?_
    refine lv_goto (tgt := 23) hx hb dX11_setRatchet_19 (by decide) ?_
    exact am_zret (v' := (1 : Int32)) X hr rfl hh (fun t ht => am_qw (mk := oI) hF ht) (Nat.le_of_ble_eq_true rfl) (Nat.le_of_ble_eq_true rfl) dX11_setRatchet_23
set_option maxHeartbeats 4000000 in
set_option maxRecDepth 100000 in
theorem c_X11_oils (l : Launch) (G : GG) {w : Wd} {x1 : Int32} {r0 : Int32} {w1 : Wd} (hF : f_X11_oils w x1 = some (r0, w1)) : Met l yX11_oils wsX11_oils ({ frames := 2, cells := 0, slots := 0, locals := 43 } : Room) (va_Pc [.ref (gAd G 141), .int x1] (Rel G w)) (amQ G (oI r0) w1) 0 0 (gA G) := by
  refine am_met (own := RX11) (cc := cX11_oils) (maxL := 2) (ret := (some .int)) (by decide +kernel) rfl rfl (Nat.le_of_ble_eq_true rfl) ?_
  intro p e s m args below meth c ab H locs ls X hr hh hl
  have hx := X.1.1; have hb := X.1.2.1; have hml := X.1.2.2.1; have hown := X.1.2.2.2.1; have hts := X.1.2.2.2.2
  have hl : lv_has ls 2 [(0, .ref (gAd G 141)), (1, .int x1)] := hl
  have hwRX11 : ∀ z ∈ u_ws RX11 TX11 18, z ∈ wsX11_oils := by decide +kernel
  unfold f_X11_oils at hF
  refine lv_aload_n hx hb dX11_oils_0 rfl (lv_at hl 0 rfl) ?_
  refine lv_iload_n hx hb dX11_oils_1 rfl (lv_at hl 1 rfl) ?_
  obtain ⟨r2, hk1, hF⟩ := am_bind hF
  refine am_call X hh (va_runV (As := [.int x1]) (rest := []) X.1 (c_X11_isGear l G hk1) (cwV 1 hts gX11_oils_X11_isGear rfl rfl rfl (by decide +kernel) ⟨Nat.le_of_ble_eq_true rfl, Nat.le_of_ble_eq_true rfl⟩) (am_preV X hh 141 12 (by decide) rfl rfl) rfl rfl hl.1 rfl (lv_room (Nat.le_of_ble_eq_true rfl)) dX11_oils_2 ⟨Nat.le_of_ble_eq_true rfl, Nat.le_of_ble_eq_true rfl⟩) (fun ab H locs hh => ?_)
  refine lv_if_ne (tgt := 14) hx hb dX11_oils_5 (by decide) (fun hc3 => ?_) (fun hc3 => ?_)
  · have hF := am_neg hc3 hF
    refine lv_aload_n hx hb dX11_oils_14 rfl (lv_at hl 0 rfl) ?_
    refine am_getR X hh 141 12 0 142 (by decide) rfl rfl (by decide) hwRX11 (show Cond.fieldLink RX11 7 "PlanetWorkshopModel" "g" "[J" ∈ wsX11_oils by decide +kernel) rfl dX11_oils_15 ?_
    refine lv_bipush (v := (66 : Int32)) hx hb dX11_oils_18 (by decide) ?_
    refine lv_iload_n hx hb dX11_oils_20 rfl (lv_at hl 1 rfl) ?_
    refine lv_iadd hx hb dX11_oils_21 ?_
    obtain ⟨hq4, hF⟩ := am_ifR hF
    refine am_lald X hh 142 (by decide) rfl hq4 dX11_oils_22 ?_
    refine lv_lconst (v := (1 : Int64)) hx hb dX11_oils_23 (by decide) ?_
    refine am_lcmp_ne (tgt := 34) hx hb dX11_oils_24 dX11_oils_25 (by decide) (fun hc5 => ?_) (fun hc5 => ?_)
    · have hF := am_neg hc5 hF
      refine lv_aload_n hx hb dX11_oils_34 rfl (lv_at hl 0 rfl) ?_
      refine am_getR X hh 141 12 0 142 (by decide) rfl rfl (by decide) hwRX11 (show Cond.fieldLink RX11 7 "PlanetWorkshopModel" "g" "[J" ∈ wsX11_oils by decide +kernel) rfl dX11_oils_35 ?_
      refine lv_iconst (v := (2 : Int32)) hx hb dX11_oils_38 (by decide) ?_
      obtain ⟨hq6, hF⟩ := am_ifR hF
      refine am_lald X hh 142 (by decide) rfl hq6 dX11_oils_39 ?_
      refine lv_lconst (v := (0 : Int64)) hx hb dX11_oils_40 (by decide) ?_
      refine am_lcmp_ne (tgt := 51) hx hb dX11_oils_41 dX11_oils_42 (by decide) (fun hc7 => ?_) (fun hc7 => ?_)
      · have hF := am_neg hc7 hF
        refine lv_aload_n hx hb dX11_oils_51 rfl (lv_at hl 0 rfl) ?_
        refine am_getR X hh 141 12 0 142 (by decide) rfl rfl (by decide) hwRX11 (show Cond.fieldLink RX11 7 "PlanetWorkshopModel" "g" "[J" ∈ wsX11_oils by decide +kernel) rfl dX11_oils_52 ?_
        refine lv_bipush (v := (66 : Int32)) hx hb dX11_oils_55 (by decide) ?_
        refine lv_iload_n hx hb dX11_oils_57 rfl (lv_at hl 1 rfl) ?_
        refine lv_iadd hx hb dX11_oils_58 ?_
        refine lv_lconst (v := (1 : Int64)) hx hb dX11_oils_59 (by decide) ?_
        obtain ⟨hq8, hF⟩ := am_ifR hF
        refine am_last X hh 142 (by decide) rfl hq8 dX11_oils_60 (fun H locs hh => ?_)
        obtain ⟨w9, hw9, hF⟩ := am_wl hF
        have hh := AH_eq hw9 hh
        refine lv_aload_n hx hb dX11_oils_61 rfl (lv_at hl 0 rfl) ?_
        refine am_getR X hh 141 12 0 142 (by decide) rfl rfl (by decide) hwRX11 (show Cond.fieldLink RX11 7 "PlanetWorkshopModel" "g" "[J" ∈ wsX11_oils by decide +kernel) rfl dX11_oils_62 ?_
        refine lv_bipush (v := (76 : Int32)) hx hb dX11_oils_65 (by decide) ?_
        refine lv_iload_n hx hb dX11_oils_67 rfl (lv_at hl 1 rfl) ?_
        refine lv_iadd hx hb dX11_oils_68 ?_
        refine lv_lconst (v := (0 : Int64)) hx hb dX11_oils_69 (by decide) ?_
        obtain ⟨hq10, hF⟩ := am_ifR hF
        refine am_last X hh 142 (by decide) rfl hq10 dX11_oils_70 (fun H locs hh => ?_)
        obtain ⟨w11, hw11, hF⟩ := am_wl hF
        have hh := AH_eq hw11 hh
        refine lv_aload_n hx hb dX11_oils_71 rfl (lv_at hl 0 rfl) ?_
        refine am_getR X hh 141 12 0 142 (by decide) rfl rfl (by decide) hwRX11 (show Cond.fieldLink RX11 7 "PlanetWorkshopModel" "g" "[J" ∈ wsX11_oils by decide +kernel) rfl dX11_oils_72 ?_
        refine lv_iconst (v := (2 : Int32)) hx hb dX11_oils_75 (by decide) ?_
        refine lv_dup2_11 hx hb dX11_oils_76 rfl rfl ?_
        obtain ⟨hq12, hF⟩ := am_ifR hF
        refine am_lald X hh 142 (by decide) rfl hq12 dX11_oils_77 ?_
        refine lv_lconst (v := (1 : Int64)) hx hb dX11_oils_78 (by decide) ?_
        refine lv_lsub hx hb dX11_oils_79 ?_
        obtain ⟨hq13, hF⟩ := am_ifR hF
        refine am_last X hh 142 (by decide) rfl hq13 dX11_oils_80 (fun H locs hh => ?_)
        obtain ⟨w14, hw14, hF⟩ := am_wl hF
        have hh := AH_eq hw14 hh
        refine lv_aload_n hx hb dX11_oils_81 rfl (lv_at hl 0 rfl) ?_
        refine lv_aload_n hx hb dX11_oils_82 rfl (lv_at hl 0 rfl) ?_
        refine lv_iconst (v := (2 : Int32)) hx hb dX11_oils_83 (by decide) ?_
        obtain ⟨r16, hk15, hF⟩ := am_bind hF
        refine am_call X hh (va_runV (As := [.int (2 : Int32)]) (rest := [.ref (gAd G 141)]) X.1 (c_X11_at l G hk15) (cwV 1 hts gX11_oils_X11_at rfl rfl rfl (by decide +kernel) ⟨Nat.le_of_ble_eq_true rfl, Nat.le_of_ble_eq_true rfl⟩) (am_preV X hh 141 12 (by decide) rfl rfl) rfl rfl hl.1 rfl (lv_room (Nat.le_of_ble_eq_true rfl)) dX11_oils_84 ⟨Nat.le_of_ble_eq_true rfl, Nat.le_of_ble_eq_true rfl⟩) (fun ab H locs hh => ?_)
        obtain ⟨⟨r18, w19⟩, hk17, hF⟩ := am_bind hF
        have hF := am_u2 hF
        refine am_call X hh (va_runV (As := [.int r16]) (rest := []) X.1 (c_X11_done l G hk17) (cwV 1 hts gX11_oils_X11_done rfl rfl rfl (by decide +kernel) ⟨Nat.le_of_ble_eq_true rfl, Nat.le_of_ble_eq_true rfl⟩) (am_preV X hh 141 12 (by decide) rfl rfl) rfl rfl hl.1 rfl (lv_room (Nat.le_of_ble_eq_true rfl)) dX11_oils_87 ⟨Nat.le_of_ble_eq_true rfl, Nat.le_of_ble_eq_true rfl⟩) (fun ab H locs hh => ?_)
        exact am_iret X hr hh (fun t ht => am_qw (mk := oI) hF ht) (Nat.le_of_ble_eq_true rfl) (Nat.le_of_ble_eq_true rfl) dX11_oils_90
      · have hF := am_pos hc7 hF
        refine lv_aload_n hx hb dX11_oils_45 rfl (lv_at hl 0 rfl) ?_
        refine lv_iconst (v := (3 : Int32)) hx hb dX11_oils_46 (by decide) ?_
        obtain ⟨⟨r22, w23⟩, hk21, hF⟩ := am_bind hF
        have hF := am_u2 hF
        refine am_call X hh (va_runV (As := [.int (3 : Int32)]) (rest := []) X.1 (c_X11_fails l G hk21) (cwV 1 hts gX11_oils_X11_fails rfl rfl rfl (by decide +kernel) ⟨Nat.le_of_ble_eq_true rfl, Nat.le_of_ble_eq_true rfl⟩) (am_preV X hh 141 12 (by decide) rfl rfl) rfl rfl hl.1 rfl (lv_room (Nat.le_of_ble_eq_true rfl)) dX11_oils_47 ⟨Nat.le_of_ble_eq_true rfl, Nat.le_of_ble_eq_true rfl⟩) (fun ab H locs hh => ?_)
        exact am_iret X hr hh (fun t ht => am_qw (mk := oI) hF ht) (Nat.le_of_ble_eq_true rfl) (Nat.le_of_ble_eq_true rfl) dX11_oils_50
    · have hF := am_pos hc5 hF
      refine lv_aload_n hx hb dX11_oils_28 rfl (lv_at hl 0 rfl) ?_
      refine lv_iconst (v := (2 : Int32)) hx hb dX11_oils_29 (by decide) ?_
      obtain ⟨⟨r26, w27⟩, hk25, hF⟩ := am_bind hF
      have hF := am_u2 hF
      refine am_call X hh (va_runV (As := [.int (2 : Int32)]) (rest := []) X.1 (c_X11_fails l G hk25) (cwV 1 hts gX11_oils_X11_fails rfl rfl rfl (by decide +kernel) ⟨Nat.le_of_ble_eq_true rfl, Nat.le_of_ble_eq_true rfl⟩) (am_preV X hh 141 12 (by decide) rfl rfl) rfl rfl hl.1 rfl (lv_room (Nat.le_of_ble_eq_true rfl)) dX11_oils_30 ⟨Nat.le_of_ble_eq_true rfl, Nat.le_of_ble_eq_true rfl⟩) (fun ab H locs hh => ?_)
      exact am_iret X hr hh (fun t ht => am_qw (mk := oI) hF ht) (Nat.le_of_ble_eq_true rfl) (Nat.le_of_ble_eq_true rfl) dX11_oils_33
  · have hF := am_pos hc3 hF
    refine lv_aload_n hx hb dX11_oils_8 rfl (lv_at hl 0 rfl) ?_
    refine lv_iconst (v := (1 : Int32)) hx hb dX11_oils_9 (by decide) ?_
    obtain ⟨⟨r30, w31⟩, hk29, hF⟩ := am_bind hF
    have hF := am_u2 hF
    refine am_call X hh (va_runV (As := [.int (1 : Int32)]) (rest := []) X.1 (c_X11_fails l G hk29) (cwV 1 hts gX11_oils_X11_fails rfl rfl rfl (by decide +kernel) ⟨Nat.le_of_ble_eq_true rfl, Nat.le_of_ble_eq_true rfl⟩) (am_preV X hh 141 12 (by decide) rfl rfl) rfl rfl hl.1 rfl (lv_room (Nat.le_of_ble_eq_true rfl)) dX11_oils_10 ⟨Nat.le_of_ble_eq_true rfl, Nat.le_of_ble_eq_true rfl⟩) (fun ab H locs hh => ?_)
    exact am_iret X hr hh (fun t ht => am_qw (mk := oI) hF ht) (Nat.le_of_ble_eq_true rfl) (Nat.le_of_ble_eq_true rfl) dX11_oils_13
set_option maxHeartbeats 4000000 in
set_option maxRecDepth 100000 in
theorem c_X11_oil (l : Launch) (G : GG) {w : Wd} {x1 : Int32} {r0 : Int32} {w1 : Wd} (hF : f_X11_oil w x1 = some (r0, w1)) : Met l yX11_oil wsX11_oil ({ frames := 3, cells := 0, slots := 0, locals := 64 } : Room) (va_Pc [.ref (gAd G 141), .int x1] (Rel G w)) (amQ G (oI r0) w1) 0 0 (gA G) := by
  refine am_met (own := RX11) (cc := cX11_oil) (maxL := 2) (ret := (some .int)) (by decide +kernel) rfl rfl (Nat.le_of_ble_eq_true rfl) ?_
  intro p e s m args below meth c ab H locs ls X hr hh hl
  have hx := X.1.1; have hb := X.1.2.1; have hml := X.1.2.2.1; have hown := X.1.2.2.2.1; have hts := X.1.2.2.2.2
  have hl : lv_has ls 2 [(0, .ref (gAd G 141)), (1, .int x1)] := hl
  unfold f_X11_oil at hF
  refine lv_aload_n hx hb dX11_oil_0 rfl (lv_at hl 0 rfl) ?_
  obtain ⟨w3, hk1, hF⟩ := am_bind hF
  refine am_call X hh (va_runV (As := []) (rest := []) X.1 (c_X11_begin l G hk1) (cwV 0 hts gX11_oil_X11_begin rfl rfl rfl (by decide +kernel) ⟨Nat.le_of_ble_eq_true rfl, Nat.le_of_ble_eq_true rfl⟩) (am_preV X hh 141 12 (by decide) rfl rfl) rfl rfl hl.1 rfl (lv_room (Nat.le_of_ble_eq_true rfl)) dX11_oil_1 ⟨Nat.le_of_ble_eq_true rfl, Nat.le_of_ble_eq_true rfl⟩) (fun ab H locs hh => ?_)
  refine lv_aload_n hx hb dX11_oil_4 rfl (lv_at hl 0 rfl) ?_
  refine lv_aload_n hx hb dX11_oil_5 rfl (lv_at hl 0 rfl) ?_
  refine lv_iload_n hx hb dX11_oil_6 rfl (lv_at hl 1 rfl) ?_
  obtain ⟨⟨r5, w6⟩, hk4, hF⟩ := am_bind hF
  have hF := am_u2 hF
  refine am_call X hh (va_runV (As := [.int x1]) (rest := [.ref (gAd G 141)]) X.1 (c_X11_oils l G hk4) (cwV 1 hts gX11_oil_X11_oils rfl rfl rfl (by decide +kernel) ⟨Nat.le_of_ble_eq_true rfl, Nat.le_of_ble_eq_true rfl⟩) (am_preV X hh 141 12 (by decide) rfl rfl) rfl rfl hl.1 rfl (lv_room (Nat.le_of_ble_eq_true rfl)) dX11_oil_7 ⟨Nat.le_of_ble_eq_true rfl, Nat.le_of_ble_eq_true rfl⟩) (fun ab H locs hh => ?_)
  obtain ⟨⟨r9, w10⟩, hk8, hF⟩ := am_bind hF
  have hF := am_u2 hF
  refine am_call X hh (va_runV (As := [.int r5]) (rest := []) X.1 (c_X11_kept l G hk8) (cwV 1 hts gX11_oil_X11_kept rfl rfl rfl (by decide +kernel) ⟨Nat.le_of_ble_eq_true rfl, Nat.le_of_ble_eq_true rfl⟩) (am_preV X hh 141 12 (by decide) rfl rfl) rfl rfl hl.1 rfl (lv_room (Nat.le_of_ble_eq_true rfl)) dX11_oil_10 ⟨Nat.le_of_ble_eq_true rfl, Nat.le_of_ble_eq_true rfl⟩) (fun ab H locs hh => ?_)
  exact am_iret X hr hh (fun t ht => am_qw (mk := oI) hF ht) (Nat.le_of_ble_eq_true rfl) (Nat.le_of_ble_eq_true rfl) dX11_oil_13
set_option maxHeartbeats 4000000 in
set_option maxRecDepth 100000 in
theorem c_X11_buys (l : Launch) (G : GG) {w : Wd} {x1 : Int32} {r0 : Int32} {w1 : Wd} (hF : f_X11_buys w x1 = some (r0, w1)) : Met l yX11_buys wsX11_buys ({ frames := 1, cells := 0, slots := 0, locals := 22 } : Room) (va_Pc [.ref (gAd G 141), .int x1] (Rel G w)) (amQ G (oI r0) w1) 0 0 (gA G) := by
  refine am_met (own := RX11) (cc := cX11_buys) (maxL := 2) (ret := (some .int)) (by decide +kernel) rfl rfl (Nat.le_of_ble_eq_true rfl) ?_
  intro p e s m args below meth c ab H locs ls X hr hh hl
  have hx := X.1.1; have hb := X.1.2.1; have hml := X.1.2.2.1; have hown := X.1.2.2.2.1; have hts := X.1.2.2.2.2
  have hl : lv_has ls 2 [(0, .ref (gAd G 141)), (1, .int x1)] := hl
  have hwRX11 : ∀ z ∈ u_ws RX11 TX11 18, z ∈ wsX11_buys := by decide +kernel
  unfold f_X11_buys at hF
  refine lv_iload_n hx hb dX11_buys_0 rfl (lv_at hl 1 rfl) ?_
  refine lv_iconst (v := (1 : Int32)) hx hb dX11_buys_1 (by decide) ?_
  refine lv_bipush (v := (50 : Int32)) hx hb dX11_buys_2 (by decide) ?_
  obtain ⟨r2, hk1, hF⟩ := am_bind hF
  refine am_call X hh (va_runS (As := [.int x1, .int (1 : Int32), .int (50 : Int32)]) (rest := []) X.1 (c_X11_in l G hk1) (va_cwS 3 hts gX11_buys_X11_in rfl rfl rfl (by decide +kernel) ⟨Nat.le_of_ble_eq_true rfl, Nat.le_of_ble_eq_true rfl⟩) (am_preS X hh) rfl rfl hl.1 rfl (lv_room (Nat.le_of_ble_eq_true rfl)) dX11_buys_4 ⟨Nat.le_of_ble_eq_true rfl, Nat.le_of_ble_eq_true rfl⟩) (fun ab H locs hh => ?_)
  refine lv_if_ne (tgt := 16) hx hb dX11_buys_7 (by decide) (fun hc3 => ?_) (fun hc3 => ?_)
  · have hF := am_neg hc3 hF
    refine lv_aload_n hx hb dX11_buys_16 rfl (lv_at hl 0 rfl) ?_
    refine am_getR X hh 141 12 0 142 (by decide) rfl rfl (by decide) hwRX11 (show Cond.fieldLink RX11 7 "PlanetWorkshopModel" "g" "[J" ∈ wsX11_buys by decide +kernel) rfl dX11_buys_17 ?_
    refine lv_iconst (v := (2 : Int32)) hx hb dX11_buys_20 (by decide) ?_
    obtain ⟨hq4, hF⟩ := am_ifR hF
    refine am_lald X hh 142 (by decide) rfl hq4 dX11_buys_21 ?_
    refine lv_iload_n hx hb dX11_buys_22 rfl (lv_at hl 1 rfl) ?_
    refine lv_i2l hx hb dX11_buys_23 rfl ?_
    refine lv_ladd hx hb dX11_buys_24 ?_
    refine lv_ldc2 (v := (99 : Int64)) hx hb hown (hts _ (show Cond.constantLong RX11 172 (99) ∈ wsX11_buys by decide +kernel)) dX11_buys_25 ?_
    refine am_lcmp_le (tgt := 38) hx hb dX11_buys_28 dX11_buys_29 (by decide) (fun hc5 => ?_) (fun hc5 => ?_)
    · have hF := am_pos hc5 hF
      refine lv_aload_n hx hb dX11_buys_38 rfl (lv_at hl 0 rfl) ?_
      refine am_getR X hh 141 12 0 142 (by decide) rfl rfl (by decide) hwRX11 (show Cond.fieldLink RX11 7 "PlanetWorkshopModel" "g" "[J" ∈ wsX11_buys by decide +kernel) rfl dX11_buys_39 ?_
      refine lv_iconst (v := (2 : Int32)) hx hb dX11_buys_42 (by decide) ?_
      refine lv_dup2_11 hx hb dX11_buys_43 rfl rfl ?_
      obtain ⟨hq6, hF⟩ := am_ifR hF
      refine am_lald X hh 142 (by decide) rfl hq6 dX11_buys_44 ?_
      refine lv_iload_n hx hb dX11_buys_45 rfl (lv_at hl 1 rfl) ?_
      refine lv_i2l hx hb dX11_buys_46 rfl ?_
      refine lv_ladd hx hb dX11_buys_47 ?_
      obtain ⟨hq7, hF⟩ := am_ifR hF
      refine am_last X hh 142 (by decide) rfl hq7 dX11_buys_48 (fun H locs hh => ?_)
      obtain ⟨w8, hw8, hF⟩ := am_wl hF
      have hh := AH_eq hw8 hh
      refine lv_aload_n hx hb dX11_buys_49 rfl (lv_at hl 0 rfl) ?_
      refine lv_aload_n hx hb dX11_buys_50 rfl (lv_at hl 0 rfl) ?_
      refine lv_iconst (v := (2 : Int32)) hx hb dX11_buys_51 (by decide) ?_
      obtain ⟨r10, hk9, hF⟩ := am_bind hF
      refine am_call X hh (va_runV (As := [.int (2 : Int32)]) (rest := [.ref (gAd G 141)]) X.1 (c_X11_at l G hk9) (cwV 1 hts gX11_buys_X11_at rfl rfl rfl (by decide +kernel) ⟨Nat.le_of_ble_eq_true rfl, Nat.le_of_ble_eq_true rfl⟩) (am_preV X hh 141 12 (by decide) rfl rfl) rfl rfl hl.1 rfl (lv_room (Nat.le_of_ble_eq_true rfl)) dX11_buys_52 ⟨Nat.le_of_ble_eq_true rfl, Nat.le_of_ble_eq_true rfl⟩) (fun ab H locs hh => ?_)
      obtain ⟨⟨r12, w13⟩, hk11, hF⟩ := am_bind hF
      have hF := am_u2 hF
      refine am_call X hh (va_runV (As := [.int r10]) (rest := []) X.1 (c_X11_done l G hk11) (cwV 1 hts gX11_buys_X11_done rfl rfl rfl (by decide +kernel) ⟨Nat.le_of_ble_eq_true rfl, Nat.le_of_ble_eq_true rfl⟩) (am_preV X hh 141 12 (by decide) rfl rfl) rfl rfl hl.1 rfl (lv_room (Nat.le_of_ble_eq_true rfl)) dX11_buys_55 ⟨Nat.le_of_ble_eq_true rfl, Nat.le_of_ble_eq_true rfl⟩) (fun ab H locs hh => ?_)
      exact am_iret X hr hh (fun t ht => am_qw (mk := oI) hF ht) (Nat.le_of_ble_eq_true rfl) (Nat.le_of_ble_eq_true rfl) dX11_buys_58
    · have hF := am_neg hc5 hF
      refine lv_aload_n hx hb dX11_buys_32 rfl (lv_at hl 0 rfl) ?_
      refine lv_iconst (v := (2 : Int32)) hx hb dX11_buys_33 (by decide) ?_
      obtain ⟨⟨r16, w17⟩, hk15, hF⟩ := am_bind hF
      have hF := am_u2 hF
      refine am_call X hh (va_runV (As := [.int (2 : Int32)]) (rest := []) X.1 (c_X11_fails l G hk15) (cwV 1 hts gX11_buys_X11_fails rfl rfl rfl (by decide +kernel) ⟨Nat.le_of_ble_eq_true rfl, Nat.le_of_ble_eq_true rfl⟩) (am_preV X hh 141 12 (by decide) rfl rfl) rfl rfl hl.1 rfl (lv_room (Nat.le_of_ble_eq_true rfl)) dX11_buys_34 ⟨Nat.le_of_ble_eq_true rfl, Nat.le_of_ble_eq_true rfl⟩) (fun ab H locs hh => ?_)
      exact am_iret X hr hh (fun t ht => am_qw (mk := oI) hF ht) (Nat.le_of_ble_eq_true rfl) (Nat.le_of_ble_eq_true rfl) dX11_buys_37
  · have hF := am_pos hc3 hF
    refine lv_aload_n hx hb dX11_buys_10 rfl (lv_at hl 0 rfl) ?_
    refine lv_iconst (v := (1 : Int32)) hx hb dX11_buys_11 (by decide) ?_
    obtain ⟨⟨r20, w21⟩, hk19, hF⟩ := am_bind hF
    have hF := am_u2 hF
    refine am_call X hh (va_runV (As := [.int (1 : Int32)]) (rest := []) X.1 (c_X11_fails l G hk19) (cwV 1 hts gX11_buys_X11_fails rfl rfl rfl (by decide +kernel) ⟨Nat.le_of_ble_eq_true rfl, Nat.le_of_ble_eq_true rfl⟩) (am_preV X hh 141 12 (by decide) rfl rfl) rfl rfl hl.1 rfl (lv_room (Nat.le_of_ble_eq_true rfl)) dX11_buys_12 ⟨Nat.le_of_ble_eq_true rfl, Nat.le_of_ble_eq_true rfl⟩) (fun ab H locs hh => ?_)
    exact am_iret X hr hh (fun t ht => am_qw (mk := oI) hF ht) (Nat.le_of_ble_eq_true rfl) (Nat.le_of_ble_eq_true rfl) dX11_buys_15
set_option maxHeartbeats 4000000 in
set_option maxRecDepth 100000 in
theorem c_X11_buyOil (l : Launch) (G : GG) {w : Wd} {x1 : Int32} {r0 : Int32} {w1 : Wd} (hF : f_X11_buyOil w x1 = some (r0, w1)) : Met l yX11_buyOil wsX11_buyOil ({ frames := 2, cells := 0, slots := 0, locals := 46 } : Room) (va_Pc [.ref (gAd G 141), .int x1] (Rel G w)) (amQ G (oI r0) w1) 0 0 (gA G) := by
  refine am_met (own := RX11) (cc := cX11_buyOil) (maxL := 2) (ret := (some .int)) (by decide +kernel) rfl rfl (Nat.le_of_ble_eq_true rfl) ?_
  intro p e s m args below meth c ab H locs ls X hr hh hl
  have hx := X.1.1; have hb := X.1.2.1; have hml := X.1.2.2.1; have hown := X.1.2.2.2.1; have hts := X.1.2.2.2.2
  have hl : lv_has ls 2 [(0, .ref (gAd G 141)), (1, .int x1)] := hl
  unfold f_X11_buyOil at hF
  refine lv_aload_n hx hb dX11_buyOil_0 rfl (lv_at hl 0 rfl) ?_
  obtain ⟨w3, hk1, hF⟩ := am_bind hF
  refine am_call X hh (va_runV (As := []) (rest := []) X.1 (c_X11_begin l G hk1) (cwV 0 hts gX11_buyOil_X11_begin rfl rfl rfl (by decide +kernel) ⟨Nat.le_of_ble_eq_true rfl, Nat.le_of_ble_eq_true rfl⟩) (am_preV X hh 141 12 (by decide) rfl rfl) rfl rfl hl.1 rfl (lv_room (Nat.le_of_ble_eq_true rfl)) dX11_buyOil_1 ⟨Nat.le_of_ble_eq_true rfl, Nat.le_of_ble_eq_true rfl⟩) (fun ab H locs hh => ?_)
  refine lv_aload_n hx hb dX11_buyOil_4 rfl (lv_at hl 0 rfl) ?_
  refine lv_aload_n hx hb dX11_buyOil_5 rfl (lv_at hl 0 rfl) ?_
  refine lv_iload_n hx hb dX11_buyOil_6 rfl (lv_at hl 1 rfl) ?_
  obtain ⟨⟨r5, w6⟩, hk4, hF⟩ := am_bind hF
  have hF := am_u2 hF
  refine am_call X hh (va_runV (As := [.int x1]) (rest := [.ref (gAd G 141)]) X.1 (c_X11_buys l G hk4) (cwV 1 hts gX11_buyOil_X11_buys rfl rfl rfl (by decide +kernel) ⟨Nat.le_of_ble_eq_true rfl, Nat.le_of_ble_eq_true rfl⟩) (am_preV X hh 141 12 (by decide) rfl rfl) rfl rfl hl.1 rfl (lv_room (Nat.le_of_ble_eq_true rfl)) dX11_buyOil_7 ⟨Nat.le_of_ble_eq_true rfl, Nat.le_of_ble_eq_true rfl⟩) (fun ab H locs hh => ?_)
  obtain ⟨⟨r9, w10⟩, hk8, hF⟩ := am_bind hF
  have hF := am_u2 hF
  refine am_call X hh (va_runV (As := [.int r5]) (rest := []) X.1 (c_X11_kept l G hk8) (cwV 1 hts gX11_buyOil_X11_kept rfl rfl rfl (by decide +kernel) ⟨Nat.le_of_ble_eq_true rfl, Nat.le_of_ble_eq_true rfl⟩) (am_preV X hh 141 12 (by decide) rfl rfl) rfl rfl hl.1 rfl (lv_room (Nat.le_of_ble_eq_true rfl)) dX11_buyOil_10 ⟨Nat.le_of_ble_eq_true rfl, Nat.le_of_ble_eq_true rfl⟩) (fun ab H locs hh => ?_)
  exact am_iret X hr hh (fun t ht => am_qw (mk := oI) hF ht) (Nat.le_of_ble_eq_true rfl) (Nat.le_of_ble_eq_true rfl) dX11_buyOil_13
set_option maxHeartbeats 4000000 in
set_option maxRecDepth 100000 in
theorem c_X11_planetOn (l : Launch) (G : GG) {w : Wd} {x1 : Int32} {r0 : Int32} (hF : f_X11_planetOn w x1 = some r0) : Met l yX11_planetOn wsX11_planetOn ({ frames := 1, cells := 0, slots := 0, locals := 21 } : Room) (va_Pc [.ref (gAd G 141), .int x1] (Rel G w)) (amQ G (oI r0) w) 0 0 (gA G) := by
  refine am_met (own := RX11) (cc := cX11_planetOn) (maxL := 3) (ret := (some .int)) (by decide +kernel) rfl rfl (Nat.le_of_ble_eq_true rfl) ?_
  intro p e s m args below meth c ab H locs ls X hr hh hl
  have hx := X.1.1; have hb := X.1.2.1; have hml := X.1.2.2.1; have hown := X.1.2.2.2.1; have hts := X.1.2.2.2.2
  have hl : lv_has ls 3 [(0, .ref (gAd G 141)), (1, .int x1)] := hl
  unfold f_X11_planetOn at hF
  refine lv_iconst (v := (0 : Int32)) hx hb dX11_planetOn_0 (by decide) ?_
  refine lv_istore_n (lv' := [(2, .int (0 : Int32)), (0, .ref (gAd G 141)), (1, .int x1)]) hx hb dX11_planetOn_1 rfl hl (by decide) rfl (fun ls hl => ?_)
  have hlp2 : ∀ (n : Nat) (y1 : Int32) (ab : Nat) (H : Heap) (locs : List Loc) (ls : Array Slot) (z : (Int32) ⊕ Int32), p_X11_planetOn_2 w x1 n y1 = some z → AH G s.heap w ab H locs → lv_has ls 3 [(2, .int y1), (0, .ref (gAd G 141)), (1, .int x1)] → (∀ (y1 : Int32) (ab : Nat) (H : Heap) (locs : List Loc) (ls : Array Slot), z = .inl y1 → AH G s.heap w ab H locs → lv_has ls 3 [(2, .int y1), (0, .ref (gAd G 141)), (1, .int x1)] → W p l e ({ frames := 1, cells := 0, slots := 0, locals := 21 } : Room) s m args below meth c H locs 0 0 (MQ below (amQ G (oI r0) w) args s 0 0 (gA G)) (F0 m 31 ls [])) → (∀ r, z = .inr r → some r = some r0) → W p l e ({ frames := 1, cells := 0, slots := 0, locals := 21 } : Room) s m args below meth c H locs 0 0 (MQ below (amQ G (oI r0) w) args s 0 0 (gA G)) (F0 m 2 ls []) := by
    intro n
    induction n with
    | zero =>
      intro y1 ab H locs ls z hF
      unfold p_X11_planetOn_2 at hF
      cases hF
    | succ n ih =>
      intro y1 ab H locs ls z hF hh hl kE kR
      unfold p_X11_planetOn_2 at hF
      refine lv_iload_n hx hb dX11_planetOn_2 rfl (lv_at hl 0 rfl) ?_
      refine lv_aload_n hx hb dX11_planetOn_3 rfl (lv_at hl 1 rfl) ?_
      refine lv_iconst (v := (1 : Int32)) hx hb dX11_planetOn_4 (by decide) ?_
      obtain ⟨r4, hk3, hF⟩ := am_bind hF
      refine am_call X hh (va_runV (As := [.int (1 : Int32)]) (rest := [.int y1]) X.1 (c_X11_at l G hk3) (cwV 1 hts gX11_planetOn_X11_at rfl rfl rfl (by decide +kernel) ⟨Nat.le_of_ble_eq_true rfl, Nat.le_of_ble_eq_true rfl⟩) (am_preV X hh 141 12 (by decide) rfl rfl) rfl rfl hl.1 rfl (lv_room (Nat.le_of_ble_eq_true rfl)) dX11_planetOn_5 ⟨Nat.le_of_ble_eq_true rfl, Nat.le_of_ble_eq_true rfl⟩) (fun ab H locs hh => ?_)
      refine lv_icmp_ge (tgt := 31) hx hb dX11_planetOn_8 (by decide) (fun hc5 => ?_) (fun hc5 => ?_)
      · have hF := am_pos hc5 hF
        exact kE y1 ab H locs ls (Option.some.inj hF).symm hh (lv_sub hl [0, 1, 2] rfl)
      · have hF := am_neg hc5 hF
        refine lv_aload_n hx hb dX11_planetOn_11 rfl (lv_at hl 1 rfl) ?_
        refine lv_bipush (v := (86 : Int32)) hx hb dX11_planetOn_12 (by decide) ?_
        refine lv_iload_n hx hb dX11_planetOn_14 rfl (lv_at hl 0 rfl) ?_
        refine lv_iadd hx hb dX11_planetOn_15 ?_
        obtain ⟨r7, hk6, hF⟩ := am_bind hF
        refine am_call X hh (va_runV (As := [.int ((86 : Int32) + y1)]) (rest := []) X.1 (c_X11_at l G hk6) (cwV 1 hts gX11_planetOn_X11_at rfl rfl rfl (by decide +kernel) ⟨Nat.le_of_ble_eq_true rfl, Nat.le_of_ble_eq_true rfl⟩) (am_preV X hh 141 12 (by decide) rfl rfl) rfl rfl hl.1 rfl (lv_room (Nat.le_of_ble_eq_true rfl)) dX11_planetOn_16 ⟨Nat.le_of_ble_eq_true rfl, Nat.le_of_ble_eq_true rfl⟩) (fun ab H locs hh => ?_)
        refine lv_iload_n hx hb dX11_planetOn_19 rfl (lv_at hl 2 rfl) ?_
        refine lv_icmp_ne (tgt := 25) hx hb dX11_planetOn_20 (by decide) (fun hc8 => ?_) (fun hc8 => ?_)
        · have hF := am_neg hc8 hF
          refine lv_iinc (v := (y1 + (1 : Int32))) (lv' := [(2, .int (y1 + (1 : Int32))), (0, .ref (gAd G 141)), (1, .int x1)]) hx hb dX11_planetOn_25 hl (k := 0) rfl rfl (by decide) rfl (fun ls hl => ?_)
          refine lv_goto (tgt := 2) hx hb dX11_planetOn_28 (by decide) ?_
          exact ih (y1 + (1 : Int32)) ab H locs ls _ hF hh (lv_sub hl [0, 1, 2] rfl) kE kR
        · have hF := am_pos hc8 hF
          refine lv_iload_n hx hb dX11_planetOn_23 rfl (lv_at hl 0 rfl) ?_
          have hF := kR _ (Option.some.inj hF).symm
          exact am_iret X hr hh (fun t ht => am_qp (mk := oI) hF ht) (Nat.le_of_ble_eq_true rfl) (Nat.le_of_ble_eq_true rfl) dX11_planetOn_24
  obtain ⟨z9, hz10, hF⟩ := am_bind hF
  refine hlp2 2000 (0 : Int32) ab H locs ls z9 hz10 hh (lv_sub hl [0, 1, 2] rfl) (fun y1 ab H locs ls hz hh hl => ?_) (fun r hz => ?_)
  · subst hz
    have hF := am_zl hF
    refine lv_iconst (v := (-1 : Int32)) hx hb dX11_planetOn_31 (by decide) ?_
    exact am_iret X hr hh (fun t ht => am_qp (mk := oI) hF ht) (Nat.le_of_ble_eq_true rfl) (Nat.le_of_ble_eq_true rfl) dX11_planetOn_32
  · subst hz
    have hF := am_zr hF
    exact hF
set_option maxHeartbeats 4000000 in
set_option maxRecDepth 100000 in
theorem c_X11_addsPlanet (l : Launch) (G : GG) {w : Wd} {x1 : Int32} {r0 : Int32} {w1 : Wd} (hF : f_X11_addsPlanet w x1 = some (r0, w1)) : Met l yX11_addsPlanet wsX11_addsPlanet ({ frames := 2, cells := 0, slots := 0, locals := 43 } : Room) (va_Pc [.ref (gAd G 141), .int x1] (Rel G w)) (amQ G (oI r0) w1) 0 0 (gA G) := by
  refine am_met (own := RX11) (cc := cX11_addsPlanet) (maxL := 3) (ret := (some .int)) (by decide +kernel) rfl rfl (Nat.le_of_ble_eq_true rfl) ?_
  intro p e s m args below meth c ab H locs ls X hr hh hl
  have hx := X.1.1; have hb := X.1.2.1; have hml := X.1.2.2.1; have hown := X.1.2.2.2.1; have hts := X.1.2.2.2.2
  have hl : lv_has ls 3 [(0, .ref (gAd G 141)), (1, .int x1)] := hl
  have hwRX11 : ∀ z ∈ u_ws RX11 TX11 18, z ∈ wsX11_addsPlanet := by decide +kernel
  unfold f_X11_addsPlanet at hF
  refine lv_aload_n hx hb dX11_addsPlanet_0 rfl (lv_at hl 0 rfl) ?_
  refine lv_iload_n hx hb dX11_addsPlanet_1 rfl (lv_at hl 1 rfl) ?_
  obtain ⟨r2, hk1, hF⟩ := am_bind hF
  refine am_call X hh (va_runV (As := [.int x1]) (rest := []) X.1 (c_X11_isGear l G hk1) (cwV 1 hts gX11_addsPlanet_X11_isGear rfl rfl rfl (by decide +kernel) ⟨Nat.le_of_ble_eq_true rfl, Nat.le_of_ble_eq_true rfl⟩) (am_preV X hh 141 12 (by decide) rfl rfl) rfl rfl hl.1 rfl (lv_room (Nat.le_of_ble_eq_true rfl)) dX11_addsPlanet_2 ⟨Nat.le_of_ble_eq_true rfl, Nat.le_of_ble_eq_true rfl⟩) (fun ab H locs hh => ?_)
  refine lv_if_ne (tgt := 14) hx hb dX11_addsPlanet_5 (by decide) (fun hc3 => ?_) (fun hc3 => ?_)
  · have hF := am_neg hc3 hF
    refine lv_aload_n hx hb dX11_addsPlanet_14 rfl (lv_at hl 0 rfl) ?_
    refine lv_iconst (v := (1 : Int32)) hx hb dX11_addsPlanet_15 (by decide) ?_
    obtain ⟨r5, hk4, hF⟩ := am_bind hF
    refine am_call X hh (va_runV (As := [.int (1 : Int32)]) (rest := []) X.1 (c_X11_at l G hk4) (cwV 1 hts gX11_addsPlanet_X11_at rfl rfl rfl (by decide +kernel) ⟨Nat.le_of_ble_eq_true rfl, Nat.le_of_ble_eq_true rfl⟩) (am_preV X hh 141 12 (by decide) rfl rfl) rfl rfl hl.1 rfl (lv_room (Nat.le_of_ble_eq_true rfl)) dX11_addsPlanet_16 ⟨Nat.le_of_ble_eq_true rfl, Nat.le_of_ble_eq_true rfl⟩) (fun ab H locs hh => ?_)
    refine lv_istore_n (lv' := [(2, .int r5), (0, .ref (gAd G 141)), (1, .int x1)]) hx hb dX11_addsPlanet_19 rfl hl (by decide) rfl (fun ls hl => ?_)
    refine lv_iload_n hx hb dX11_addsPlanet_20 rfl (lv_at hl 0 rfl) ?_
    refine lv_bipush (v := (6 : Int32)) hx hb dX11_addsPlanet_21 (by decide) ?_
    refine lv_icmp_eq (tgt := 35) hx hb dX11_addsPlanet_23 (by decide) (fun hc6 => ?_) (fun hc6 => ?_)
    · have hF := am_pos hc6 hF
      refine lv_aload_n hx hb dX11_addsPlanet_35 rfl (lv_at hl 1 rfl) ?_
      refine lv_iconst (v := (2 : Int32)) hx hb dX11_addsPlanet_36 (by decide) ?_
      obtain ⟨⟨r8, w9⟩, hk7, hF⟩ := am_bind hF
      have hF := am_u2 hF
      refine am_call X hh (va_runV (As := [.int (2 : Int32)]) (rest := []) X.1 (c_X11_fails l G hk7) (cwV 1 hts gX11_addsPlanet_X11_fails rfl rfl rfl (by decide +kernel) ⟨Nat.le_of_ble_eq_true rfl, Nat.le_of_ble_eq_true rfl⟩) (am_preV X hh 141 12 (by decide) rfl rfl) rfl rfl hl.1 rfl (lv_room (Nat.le_of_ble_eq_true rfl)) dX11_addsPlanet_37 ⟨Nat.le_of_ble_eq_true rfl, Nat.le_of_ble_eq_true rfl⟩) (fun ab H locs hh => ?_)
      exact am_iret X hr hh (fun t ht => am_qw (mk := oI) hF ht) (Nat.le_of_ble_eq_true rfl) (Nat.le_of_ble_eq_true rfl) dX11_addsPlanet_40
    · have hF := am_neg hc6 hF
      refine lv_aload_n hx hb dX11_addsPlanet_26 rfl (lv_at hl 1 rfl) ?_
      refine lv_iload_n hx hb dX11_addsPlanet_27 rfl (lv_at hl 2 rfl) ?_
      obtain ⟨r12, hk11, hF⟩ := am_bind hF
      refine am_call X hh (va_runV (As := [.int x1]) (rest := []) X.1 (c_X11_planetOn l G hk11) (cwV 1 hts gX11_addsPlanet_X11_planetOn rfl rfl rfl (by decide +kernel) ⟨Nat.le_of_ble_eq_true rfl, Nat.le_of_ble_eq_true rfl⟩) (am_preV X hh 141 12 (by decide) rfl rfl) rfl rfl hl.1 rfl (lv_room (Nat.le_of_ble_eq_true rfl)) dX11_addsPlanet_28 ⟨Nat.le_of_ble_eq_true rfl, Nat.le_of_ble_eq_true rfl⟩) (fun ab H locs hh => ?_)
      refine lv_iconst (v := (-1 : Int32)) hx hb dX11_addsPlanet_31 (by decide) ?_
      refine lv_icmp_eq (tgt := 41) hx hb dX11_addsPlanet_32 (by decide) (fun hc13 => ?_) (fun hc13 => ?_)
      · have hF := am_pos hc13 hF
        refine lv_aload_n hx hb dX11_addsPlanet_41 rfl (lv_at hl 1 rfl) ?_
        refine am_getR X hh 141 12 0 142 (by decide) rfl rfl (by decide) hwRX11 (show Cond.fieldLink RX11 7 "PlanetWorkshopModel" "g" "[J" ∈ wsX11_addsPlanet by decide +kernel) rfl dX11_addsPlanet_42 ?_
        refine lv_bipush (v := (86 : Int32)) hx hb dX11_addsPlanet_45 (by decide) ?_
        refine lv_iload_n hx hb dX11_addsPlanet_47 rfl (lv_at hl 0 rfl) ?_
        refine lv_iadd hx hb dX11_addsPlanet_48 ?_
        refine lv_iload_n hx hb dX11_addsPlanet_49 rfl (lv_at hl 2 rfl) ?_
        refine lv_i2l hx hb dX11_addsPlanet_50 rfl ?_
        obtain ⟨hq14, hF⟩ := am_ifR hF
        refine am_last X hh 142 (by decide) rfl hq14 dX11_addsPlanet_51 (fun H locs hh => ?_)
        obtain ⟨w15, hw15, hF⟩ := am_wl hF
        have hh := AH_eq hw15 hh
        refine lv_aload_n hx hb dX11_addsPlanet_52 rfl (lv_at hl 1 rfl) ?_
        refine am_getR X hh 141 12 0 142 (by decide) rfl rfl (by decide) hwRX11 (show Cond.fieldLink RX11 7 "PlanetWorkshopModel" "g" "[J" ∈ wsX11_addsPlanet by decide +kernel) rfl dX11_addsPlanet_53 ?_
        refine lv_iconst (v := (1 : Int32)) hx hb dX11_addsPlanet_56 (by decide) ?_
        refine lv_dup2_11 hx hb dX11_addsPlanet_57 rfl rfl ?_
        obtain ⟨hq16, hF⟩ := am_ifR hF
        refine am_lald X hh 142 (by decide) rfl hq16 dX11_addsPlanet_58 ?_
        refine lv_lconst (v := (1 : Int64)) hx hb dX11_addsPlanet_59 (by decide) ?_
        refine lv_ladd hx hb dX11_addsPlanet_60 ?_
        obtain ⟨hq17, hF⟩ := am_ifR hF
        refine am_last X hh 142 (by decide) rfl hq17 dX11_addsPlanet_61 (fun H locs hh => ?_)
        obtain ⟨w18, hw18, hF⟩ := am_wl hF
        have hh := AH_eq hw18 hh
        refine lv_aload_n hx hb dX11_addsPlanet_62 rfl (lv_at hl 1 rfl) ?_
        refine lv_iload_n hx hb dX11_addsPlanet_63 rfl (lv_at hl 0 rfl) ?_
        obtain ⟨⟨r20, w21⟩, hk19, hF⟩ := am_bind hF
        have hF := am_u2 hF
        refine am_call X hh (va_runV (As := [.int r5]) (rest := []) X.1 (c_X11_done l G hk19) (cwV 1 hts gX11_addsPlanet_X11_done rfl rfl rfl (by decide +kernel) ⟨Nat.le_of_ble_eq_true rfl, Nat.le_of_ble_eq_true rfl⟩) (am_preV X hh 141 12 (by decide) rfl rfl) rfl rfl hl.1 rfl (lv_room (Nat.le_of_ble_eq_true rfl)) dX11_addsPlanet_64 ⟨Nat.le_of_ble_eq_true rfl, Nat.le_of_ble_eq_true rfl⟩) (fun ab H locs hh => ?_)
        exact am_iret X hr hh (fun t ht => am_qw (mk := oI) hF ht) (Nat.le_of_ble_eq_true rfl) (Nat.le_of_ble_eq_true rfl) dX11_addsPlanet_67
      · have hF := am_neg hc13 hF
        refine lv_aload_n hx hb dX11_addsPlanet_35 rfl (lv_at hl 1 rfl) ?_
        refine lv_iconst (v := (2 : Int32)) hx hb dX11_addsPlanet_36 (by decide) ?_
        obtain ⟨⟨r24, w25⟩, hk23, hF⟩ := am_bind hF
        have hF := am_u2 hF
        refine am_call X hh (va_runV (As := [.int (2 : Int32)]) (rest := []) X.1 (c_X11_fails l G hk23) (cwV 1 hts gX11_addsPlanet_X11_fails rfl rfl rfl (by decide +kernel) ⟨Nat.le_of_ble_eq_true rfl, Nat.le_of_ble_eq_true rfl⟩) (am_preV X hh 141 12 (by decide) rfl rfl) rfl rfl hl.1 rfl (lv_room (Nat.le_of_ble_eq_true rfl)) dX11_addsPlanet_37 ⟨Nat.le_of_ble_eq_true rfl, Nat.le_of_ble_eq_true rfl⟩) (fun ab H locs hh => ?_)
        exact am_iret X hr hh (fun t ht => am_qw (mk := oI) hF ht) (Nat.le_of_ble_eq_true rfl) (Nat.le_of_ble_eq_true rfl) dX11_addsPlanet_40
  · have hF := am_pos hc3 hF
    refine lv_aload_n hx hb dX11_addsPlanet_8 rfl (lv_at hl 0 rfl) ?_
    refine lv_iconst (v := (1 : Int32)) hx hb dX11_addsPlanet_9 (by decide) ?_
    obtain ⟨⟨r28, w29⟩, hk27, hF⟩ := am_bind hF
    have hF := am_u2 hF
    refine am_call X hh (va_runV (As := [.int (1 : Int32)]) (rest := []) X.1 (c_X11_fails l G hk27) (cwV 1 hts gX11_addsPlanet_X11_fails rfl rfl rfl (by decide +kernel) ⟨Nat.le_of_ble_eq_true rfl, Nat.le_of_ble_eq_true rfl⟩) (am_preV X hh 141 12 (by decide) rfl rfl) rfl rfl hl.1 rfl (lv_room (Nat.le_of_ble_eq_true rfl)) dX11_addsPlanet_10 ⟨Nat.le_of_ble_eq_true rfl, Nat.le_of_ble_eq_true rfl⟩) (fun ab H locs hh => ?_)
    exact am_iret X hr hh (fun t ht => am_qw (mk := oI) hF ht) (Nat.le_of_ble_eq_true rfl) (Nat.le_of_ble_eq_true rfl) dX11_addsPlanet_13
set_option maxHeartbeats 4000000 in
set_option maxRecDepth 100000 in
theorem c_X11_addPlanet (l : Launch) (G : GG) {w : Wd} {x1 : Int32} {r0 : Int32} {w1 : Wd} (hF : f_X11_addPlanet w x1 = some (r0, w1)) : Met l yX11_addPlanet wsX11_addPlanet ({ frames := 3, cells := 0, slots := 0, locals := 65 } : Room) (va_Pc [.ref (gAd G 141), .int x1] (Rel G w)) (amQ G (oI r0) w1) 0 0 (gA G) := by
  refine am_met (own := RX11) (cc := cX11_addPlanet) (maxL := 2) (ret := (some .int)) (by decide +kernel) rfl rfl (Nat.le_of_ble_eq_true rfl) ?_
  intro p e s m args below meth c ab H locs ls X hr hh hl
  have hx := X.1.1; have hb := X.1.2.1; have hml := X.1.2.2.1; have hown := X.1.2.2.2.1; have hts := X.1.2.2.2.2
  have hl : lv_has ls 2 [(0, .ref (gAd G 141)), (1, .int x1)] := hl
  unfold f_X11_addPlanet at hF
  refine lv_aload_n hx hb dX11_addPlanet_0 rfl (lv_at hl 0 rfl) ?_
  obtain ⟨w3, hk1, hF⟩ := am_bind hF
  refine am_call X hh (va_runV (As := []) (rest := []) X.1 (c_X11_begin l G hk1) (cwV 0 hts gX11_addPlanet_X11_begin rfl rfl rfl (by decide +kernel) ⟨Nat.le_of_ble_eq_true rfl, Nat.le_of_ble_eq_true rfl⟩) (am_preV X hh 141 12 (by decide) rfl rfl) rfl rfl hl.1 rfl (lv_room (Nat.le_of_ble_eq_true rfl)) dX11_addPlanet_1 ⟨Nat.le_of_ble_eq_true rfl, Nat.le_of_ble_eq_true rfl⟩) (fun ab H locs hh => ?_)
  refine lv_aload_n hx hb dX11_addPlanet_4 rfl (lv_at hl 0 rfl) ?_
  refine lv_aload_n hx hb dX11_addPlanet_5 rfl (lv_at hl 0 rfl) ?_
  refine lv_iload_n hx hb dX11_addPlanet_6 rfl (lv_at hl 1 rfl) ?_
  obtain ⟨⟨r5, w6⟩, hk4, hF⟩ := am_bind hF
  have hF := am_u2 hF
  refine am_call X hh (va_runV (As := [.int x1]) (rest := [.ref (gAd G 141)]) X.1 (c_X11_addsPlanet l G hk4) (cwV 1 hts gX11_addPlanet_X11_addsPlanet rfl rfl rfl (by decide +kernel) ⟨Nat.le_of_ble_eq_true rfl, Nat.le_of_ble_eq_true rfl⟩) (am_preV X hh 141 12 (by decide) rfl rfl) rfl rfl hl.1 rfl (lv_room (Nat.le_of_ble_eq_true rfl)) dX11_addPlanet_7 ⟨Nat.le_of_ble_eq_true rfl, Nat.le_of_ble_eq_true rfl⟩) (fun ab H locs hh => ?_)
  obtain ⟨⟨r9, w10⟩, hk8, hF⟩ := am_bind hF
  have hF := am_u2 hF
  refine am_call X hh (va_runV (As := [.int r5]) (rest := []) X.1 (c_X11_kept l G hk8) (cwV 1 hts gX11_addPlanet_X11_kept rfl rfl rfl (by decide +kernel) ⟨Nat.le_of_ble_eq_true rfl, Nat.le_of_ble_eq_true rfl⟩) (am_preV X hh 141 12 (by decide) rfl rfl) rfl rfl hl.1 rfl (lv_room (Nat.le_of_ble_eq_true rfl)) dX11_addPlanet_10 ⟨Nat.le_of_ble_eq_true rfl, Nat.le_of_ble_eq_true rfl⟩) (fun ab H locs hh => ?_)
  exact am_iret X hr hh (fun t ht => am_qw (mk := oI) hF ht) (Nat.le_of_ble_eq_true rfl) (Nat.le_of_ble_eq_true rfl) dX11_addPlanet_13
set_option maxHeartbeats 4000000 in
set_option maxRecDepth 100000 in
theorem c_X11_gearCount (l : Launch) (G : GG) {w : Wd} {r0 : Int32} {w1 : Wd} (hF : f_X11_gearCount w = some (r0, w1)) : Met l yX11_gearCount wsX11_gearCount ({ frames := 1, cells := 0, slots := 0, locals := 21 } : Room) (va_Pc [.ref (gAd G 141)] (Rel G w)) (amQ G (oI r0) w1) 0 0 (gA G) := by
  refine am_met (own := RX11) (cc := cX11_gearCount) (maxL := 1) (ret := (some .int)) (by decide +kernel) rfl rfl (Nat.le_of_ble_eq_true rfl) ?_
  intro p e s m args below meth c ab H locs ls X hr hh hl
  have hx := X.1.1; have hb := X.1.2.1; have hml := X.1.2.2.1; have hown := X.1.2.2.2.1; have hts := X.1.2.2.2.2
  have hl : lv_has ls 1 [(0, .ref (gAd G 141))] := hl
  unfold f_X11_gearCount at hF
  refine lv_aload_n hx hb dX11_gearCount_0 rfl (lv_at hl 0 rfl) ?_
  refine lv_aload_n hx hb dX11_gearCount_1 rfl (lv_at hl 0 rfl) ?_
  refine lv_iconst (v := (0 : Int32)) hx hb dX11_gearCount_2 (by decide) ?_
  obtain ⟨r2, hk1, hF⟩ := am_bind hF
  refine am_call X hh (va_runV (As := [.int (0 : Int32)]) (rest := [.ref (gAd G 141)]) X.1 (c_X11_at l G hk1) (cwV 1 hts gX11_gearCount_X11_at rfl rfl rfl (by decide +kernel) ⟨Nat.le_of_ble_eq_true rfl, Nat.le_of_ble_eq_true rfl⟩) (am_preV X hh 141 12 (by decide) rfl rfl) rfl rfl hl.1 rfl (lv_room (Nat.le_of_ble_eq_true rfl)) dX11_gearCount_3 ⟨Nat.le_of_ble_eq_true rfl, Nat.le_of_ble_eq_true rfl⟩) (fun ab H locs hh => ?_)
  obtain ⟨⟨r4, w5⟩, hk3, hF⟩ := am_bind hF
  have hF := am_u2 hF
  refine am_call X hh (va_runV (As := [.int r2]) (rest := []) X.1 (c_X11_done l G hk3) (cwV 1 hts gX11_gearCount_X11_done rfl rfl rfl (by decide +kernel) ⟨Nat.le_of_ble_eq_true rfl, Nat.le_of_ble_eq_true rfl⟩) (am_preV X hh 141 12 (by decide) rfl rfl) rfl rfl hl.1 rfl (lv_room (Nat.le_of_ble_eq_true rfl)) dX11_gearCount_6 ⟨Nat.le_of_ble_eq_true rfl, Nat.le_of_ble_eq_true rfl⟩) (fun ab H locs hh => ?_)
  exact am_iret X hr hh (fun t ht => am_qw (mk := oI) hF ht) (Nat.le_of_ble_eq_true rfl) (Nat.le_of_ble_eq_true rfl) dX11_gearCount_9
set_option maxHeartbeats 4000000 in
set_option maxRecDepth 100000 in
theorem c_X11_teeth (l : Launch) (G : GG) {w : Wd} {x1 : Int32} {r0 : Int32} {w1 : Wd} (hF : f_X11_teeth w x1 = some (r0, w1)) : Met l yX11_teeth wsX11_teeth ({ frames := 2, cells := 0, slots := 0, locals := 43 } : Room) (va_Pc [.ref (gAd G 141), .int x1] (Rel G w)) (amQ G (oI r0) w1) 0 0 (gA G) := by
  refine am_met (own := RX11) (cc := cX11_teeth) (maxL := 2) (ret := (some .int)) (by decide +kernel) rfl rfl (Nat.le_of_ble_eq_true rfl) ?_
  intro p e s m args below meth c ab H locs ls X hr hh hl
  have hx := X.1.1; have hb := X.1.2.1; have hml := X.1.2.2.1; have hown := X.1.2.2.2.1; have hts := X.1.2.2.2.2
  have hl : lv_has ls 2 [(0, .ref (gAd G 141)), (1, .int x1)] := hl
  unfold f_X11_teeth at hF
  refine lv_aload_n hx hb dX11_teeth_0 rfl (lv_at hl 0 rfl) ?_
  refine lv_iload_n hx hb dX11_teeth_1 rfl (lv_at hl 1 rfl) ?_
  obtain ⟨r2, hk1, hF⟩ := am_bind hF
  refine am_call X hh (va_runV (As := [.int x1]) (rest := []) X.1 (c_X11_isGear l G hk1) (cwV 1 hts gX11_teeth_X11_isGear rfl rfl rfl (by decide +kernel) ⟨Nat.le_of_ble_eq_true rfl, Nat.le_of_ble_eq_true rfl⟩) (am_preV X hh 141 12 (by decide) rfl rfl) rfl rfl hl.1 rfl (lv_room (Nat.le_of_ble_eq_true rfl)) dX11_teeth_2 ⟨Nat.le_of_ble_eq_true rfl, Nat.le_of_ble_eq_true rfl⟩) (fun ab H locs hh => ?_)
  refine lv_if_eq (tgt := 23) hx hb dX11_teeth_5 (by decide) (fun hc3 => ?_) (fun hc3 => ?_)
  · have hF := am_pos hc3 hF
    refine lv_aload_n hx hb dX11_teeth_23 rfl (lv_at hl 0 rfl) ?_
    refine lv_iconst (v := (1 : Int32)) hx hb dX11_teeth_24 (by decide) ?_
    obtain ⟨⟨r5, w6⟩, hk4, hF⟩ := am_bind hF
    have hF := am_u2 hF
    refine am_call X hh (va_runV (As := [.int (1 : Int32)]) (rest := []) X.1 (c_X11_fails l G hk4) (cwV 1 hts gX11_teeth_X11_fails rfl rfl rfl (by decide +kernel) ⟨Nat.le_of_ble_eq_true rfl, Nat.le_of_ble_eq_true rfl⟩) (am_preV X hh 141 12 (by decide) rfl rfl) rfl rfl hl.1 rfl (lv_room (Nat.le_of_ble_eq_true rfl)) dX11_teeth_25 ⟨Nat.le_of_ble_eq_true rfl, Nat.le_of_ble_eq_true rfl⟩) (fun ab H locs hh => ?_)
    exact am_iret X hr hh (fun t ht => am_qw (mk := oI) hF ht) (Nat.le_of_ble_eq_true rfl) (Nat.le_of_ble_eq_true rfl) dX11_teeth_28
  · have hF := am_neg hc3 hF
    refine lv_aload_n hx hb dX11_teeth_8 rfl (lv_at hl 0 rfl) ?_
    refine lv_aload_n hx hb dX11_teeth_9 rfl (lv_at hl 0 rfl) ?_
    refine lv_bipush (v := (6 : Int32)) hx hb dX11_teeth_10 (by decide) ?_
    refine lv_iload_n hx hb dX11_teeth_12 rfl (lv_at hl 1 rfl) ?_
    refine lv_iadd hx hb dX11_teeth_13 ?_
    obtain ⟨r9, hk8, hF⟩ := am_bind hF
    refine am_call X hh (va_runV (As := [.int ((6 : Int32) + x1)]) (rest := [.ref (gAd G 141)]) X.1 (c_X11_at l G hk8) (cwV 1 hts gX11_teeth_X11_at rfl rfl rfl (by decide +kernel) ⟨Nat.le_of_ble_eq_true rfl, Nat.le_of_ble_eq_true rfl⟩) (am_preV X hh 141 12 (by decide) rfl rfl) rfl rfl hl.1 rfl (lv_room (Nat.le_of_ble_eq_true rfl)) dX11_teeth_14 ⟨Nat.le_of_ble_eq_true rfl, Nat.le_of_ble_eq_true rfl⟩) (fun ab H locs hh => ?_)
    obtain ⟨⟨r11, w12⟩, hk10, hF⟩ := am_bind hF
    have hF := am_u2 hF
    refine am_call X hh (va_runV (As := [.int r9]) (rest := []) X.1 (c_X11_done l G hk10) (cwV 1 hts gX11_teeth_X11_done rfl rfl rfl (by decide +kernel) ⟨Nat.le_of_ble_eq_true rfl, Nat.le_of_ble_eq_true rfl⟩) (am_preV X hh 141 12 (by decide) rfl rfl) rfl rfl hl.1 rfl (lv_room (Nat.le_of_ble_eq_true rfl)) dX11_teeth_17 ⟨Nat.le_of_ble_eq_true rfl, Nat.le_of_ble_eq_true rfl⟩) (fun ab H locs hh => ?_)
    refine lv_goto (tgt := 28) hx hb dX11_teeth_20 (by decide) ?_
    exact am_iret X hr hh (fun t ht => am_qw (mk := oI) hF ht) (Nat.le_of_ble_eq_true rfl) (Nat.le_of_ble_eq_true rfl) dX11_teeth_28
