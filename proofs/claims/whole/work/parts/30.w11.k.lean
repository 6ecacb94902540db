set_option maxHeartbeats 4000000 in
set_option maxRecDepth 100000 in
theorem c_X11_runScript (l : Launch) (G : GG) {w : Wd} {r0 : Int32} {wz : Wd} (hF : f_X11_runScript w = some (r0, wz)) : Met l yX11_runScript wsX11_runScript ({ frames := 7, cells := 0, slots := 0, locals := 159 } : Room) (va_Pc [.ref (gAd G 141)] (Rel G w)) (amQ G (oI r0) wz) 0 0 (gA G) := by
  refine am_met (own := RX11) (cc := cX11_runScript) (maxL := 5) (ret := (some .int)) (by decide +kernel) rfl rfl (Nat.le_of_ble_eq_true rfl) ?_
  intro p e s m args below meth c ab H locs ls X hr hh hl
  have hx := X.1.1; have hb := X.1.2.1; have hml := X.1.2.2.1; have hown := X.1.2.2.2.1; have hts := X.1.2.2.2.2
  have hl : lv_has ls 5 [(0, .ref (gAd G 141))] := hl
  have hwRX11 : ∀ z ∈ u_ws RX11 TX11 18, z ∈ wsX11_runScript := by decide +kernel
  unfold f_X11_runScript at hF
  refine lv_aload_n hx hb dX11_runScript_0 rfl (lv_at hl 0 rfl) ?_
  refine lv_iconst (v := (0 : Int32)) hx hb dX11_runScript_1 (by decide) ?_
  refine am_putI X hh 141 12 15 (by decide) rfl rfl (by decide) hwRX11 tyX11 tyX11_ok nmX11 (show Cond.fieldLink RX11 231 "PlanetWorkshopModel" "spot" "I" ∈ wsX11_runScript by decide +kernel) rfl rfl rfl rfl dX11_runScript_2 (fun H locs hh => ?_)
  obtain ⟨w1, hw1, hF⟩ := am_wl hF
  have hh := AH_eq hw1 hh
  refine lv_aload_n hx hb dX11_runScript_5 rfl (lv_at hl 0 rfl) ?_
  refine lv_iconst (v := (0 : Int32)) hx hb dX11_runScript_6 (by decide) ?_
  refine am_putI X hh 141 12 16 (by decide) rfl rfl (by decide) hwRX11 tyX11 tyX11_ok nmX11 (show Cond.fieldLink RX11 234 "PlanetWorkshopModel" "isWrong" "Z" ∈ wsX11_runScript by decide +kernel) rfl rfl rfl rfl dX11_runScript_7 (fun H locs hh => ?_)
  obtain ⟨w2, hw2, hF⟩ := am_wl hF
  have hh := AH_eq hw2 hh
  refine lv_iconst (v := (0 : Int32)) hx hb dX11_runScript_10 (by decide) ?_
  refine lv_istore_n (lv' := [(1, .int (0 : Int32)), (0, .ref (gAd G 141))]) hx hb dX11_runScript_11 rfl hl (by decide) rfl (fun ls hl => ?_)
  refine lv_iconst (v := (1 : Int32)) hx hb dX11_runScript_12 (by decide) ?_
  refine lv_istore_n (lv' := [(2, .int (1 : Int32)), (1, .int (0 : Int32)), (0, .ref (gAd G 141))]) hx hb dX11_runScript_13 rfl hl (by decide) rfl (fun ls hl => ?_)
  have hlp14 : ∀ (n : Nat) (y3 : Int32) (y4 : Int32) (w5 : Wd) (ab : Nat) (H : Heap) (locs : List Loc) (ls : Array Slot) (z : (Int32 × Int32 × Wd) ⊕ Unit), p_X11_runScript_14 n y3 y4 w5 = some z → AH G s.heap w5 ab H locs → lv_has ls 5 [(1, .int y3), (2, .int y4), (0, .ref (gAd G 141))] → (∀ (y3 : Int32) (y4 : Int32) (w5 : Wd) (ab : Nat) (H : Heap) (locs : List Loc) (ls : Array Slot), z = .inl (y3, y4, w5) → AH G s.heap w5 ab H locs → lv_has ls 5 [(1, .int y3), (2, .int y4), (0, .ref (gAd G 141))] → W p l e ({ frames := 7, cells := 0, slots := 0, locals := 159 } : Room) s m args below meth c H locs 0 0 (MQ below (amQ G (oI r0) wz) args s 0 0 (gA G)) (F0 m 71 ls [])) → W p l e ({ frames := 7, cells := 0, slots := 0, locals := 159 } : Room) s m args below meth c H locs 0 0 (MQ below (amQ G (oI r0) wz) args s 0 0 (gA G)) (F0 m 14 ls []) := by
    intro n
    induction n with
    | zero =>
      intro y3 y4 w5 ab H locs ls z hF
      unfold p_X11_runScript_14 at hF
      cases hF
    | succ n ih =>
      intro y3 y4 w5 ab H locs ls z hF hh hl kE
      unfold p_X11_runScript_14 at hF
      refine lv_iload_n hx hb dX11_runScript_14 rfl (lv_at hl 1 rfl) ?_
      refine lv_if_eq (tgt := 71) hx hb dX11_runScript_15 (by decide) (fun hc7 => ?_) (fun hc7 => ?_)
      · have hF := am_pos hc7 hF
        exact kE y3 y4 w5 ab H locs ls (Option.some.inj hF).symm hh (lv_sub hl [0, 1, 2] rfl)
      · have hF := am_neg hc7 hF
        refine lv_aload_n hx hb dX11_runScript_18 rfl (lv_at hl 2 rfl) ?_
        refine lv_iconst (v := (3 : Int32)) hx hb dX11_runScript_19 (by decide) ?_
        refine lv_iload_n hx hb dX11_runScript_20 rfl (lv_at hl 0 rfl) ?_
        refine lv_imul hx hb dX11_runScript_21 ?_
        obtain ⟨w10, hk8, hF⟩ := am_bind hF
        refine am_call X hh (va_runV (As := [.int ((3 : Int32) * y3)]) (rest := []) X.1 (c_X11_parsesCommand l G hk8) (cwV 1 hts gX11_runScript_X11_parsesCommand rfl rfl rfl (by decide +kernel) ⟨Nat.le_of_ble_eq_true rfl, Nat.le_of_ble_eq_true rfl⟩) (am_preV X hh 141 12 (by decide) rfl rfl) rfl rfl hl.1 rfl (lv_room (Nat.le_of_ble_eq_true rfl)) dX11_runScript_22 ⟨Nat.le_of_ble_eq_true rfl, Nat.le_of_ble_eq_true rfl⟩) (fun ab H locs hh => ?_)
        refine lv_iinc (v := (y3 + (1 : Int32))) (lv' := [(1, .int (y3 + (1 : Int32))), (2, .int y4), (0, .ref (gAd G 141))]) hx hb dX11_runScript_25 hl (k := 0) rfl rfl (by decide) rfl (fun ls hl => ?_)
        refine lv_aload_n hx hb dX11_runScript_28 rfl (lv_at hl 2 rfl) ?_
        refine am_getI X hh 141 12 16 (by decide) rfl rfl (by decide) hwRX11 (show Cond.fieldLink RX11 234 "PlanetWorkshopModel" "isWrong" "Z" ∈ wsX11_runScript by decide +kernel) rfl dX11_runScript_29 ?_
        refine lv_if_ne (tgt := 48) hx hb dX11_runScript_32 (by decide) (fun hc11 => ?_) (fun hc11 => ?_)
        · have hF := am_neg hc11 hF
          refine lv_iconst (v := (0 : Int32)) hx hb dX11_runScript_48 (by decide) ?_
          refine lv_istore_n (lv' := [(2, .int (0 : Int32)), (1, .int (y3 + (1 : Int32))), (0, .ref (gAd G 141))]) hx hb dX11_runScript_49 rfl hl (by decide) rfl (fun ls hl => ?_)
          refine lv_aload_n hx hb dX11_runScript_50 rfl (lv_at hl 2 rfl) ?_
          refine lv_dup hx hb dX11_runScript_51 rfl ?_
          refine am_getI X hh 141 12 15 (by decide) rfl rfl (by decide) hwRX11 (show Cond.fieldLink RX11 231 "PlanetWorkshopModel" "spot" "I" ∈ wsX11_runScript by decide +kernel) rfl dX11_runScript_52 ?_
          refine lv_iload_n hx hb dX11_runScript_55 rfl (lv_at hl 0 rfl) ?_
          refine lv_if_eq (tgt := 63) hx hb dX11_runScript_56 (by decide) (fun _ => ?_) (fun hz => absurd (by decide) hz)
          refine lv_iconst (v := (0 : Int32)) hx hb dX11_runScript_63 (by decide) ?_
          refine lv_iadd hx hb dX11_runScript_64 ?_
          refine am_putI X hh 141 12 15 (by decide) rfl rfl (by decide) hwRX11 tyX11 tyX11_ok nmX11 (show Cond.fieldLink RX11 231 "PlanetWorkshopModel" "spot" "I" ∈ wsX11_runScript by decide +kernel) rfl rfl rfl rfl dX11_runScript_65 (fun H locs hh => ?_)
          obtain ⟨w12, hw12, hF⟩ := am_wl hF
          have hh := AH_eq hw12 hh
          refine lv_goto (tgt := 14) hx hb dX11_runScript_68 (by decide) ?_
          exact ih (y3 + (1 : Int32)) (0 : Int32) w12 ab H locs ls _ hF hh (lv_sub hl [1, 0, 2] rfl) kE
        · have hF := am_pos hc11 hF
          refine lv_aload_n hx hb dX11_runScript_35 rfl (lv_at hl 2 rfl) ?_
          obtain ⟨r14, hk13, hF⟩ := am_bind hF
          refine am_call X hh (va_runV (As := []) (rest := []) X.1 (c_X11_here l G hk13) (cwV 0 hts gX11_runScript_X11_here rfl rfl rfl (by decide +kernel) ⟨Nat.le_of_ble_eq_true rfl, Nat.le_of_ble_eq_true rfl⟩) (am_preV X hh 141 12 (by decide) rfl rfl) rfl rfl hl.1 rfl (lv_room (Nat.le_of_ble_eq_true rfl)) dX11_runScript_36 ⟨Nat.le_of_ble_eq_true rfl, Nat.le_of_ble_eq_true rfl⟩) (fun ab H locs hh => ?_)
          refine lv_bipush (v := (59 : Int32)) hx hb dX11_runScript_39 (by decide) ?_
          refine lv_icmp_ne (tgt := 48) hx hb dX11_runScript_41 (by decide) (fun hc15 => ?_) (fun hc15 => ?_)
          · have hF := am_neg hc15 hF
            refine lv_iconst (v := (0 : Int32)) hx hb dX11_runScript_48 (by decide) ?_
            refine lv_istore_n (lv' := [(2, .int (0 : Int32)), (1, .int (y3 + (1 : Int32))), (0, .ref (gAd G 141))]) hx hb dX11_runScript_49 rfl hl (by decide) rfl (fun ls hl => ?_)
            refine lv_aload_n hx hb dX11_runScript_50 rfl (lv_at hl 2 rfl) ?_
            refine lv_dup hx hb dX11_runScript_51 rfl ?_
            refine am_getI X hh 141 12 15 (by decide) rfl rfl (by decide) hwRX11 (show Cond.fieldLink RX11 231 "PlanetWorkshopModel" "spot" "I" ∈ wsX11_runScript by decide +kernel) rfl dX11_runScript_52 ?_
            refine lv_iload_n hx hb dX11_runScript_55 rfl (lv_at hl 0 rfl) ?_
            refine lv_if_eq (tgt := 63) hx hb dX11_runScript_56 (by decide) (fun _ => ?_) (fun hz => absurd (by decide) hz)
            refine lv_iconst (v := (0 : Int32)) hx hb dX11_runScript_63 (by decide) ?_
            refine lv_iadd hx hb dX11_runScript_64 ?_
            refine am_putI X hh 141 12 15 (by decide) rfl rfl (by decide) hwRX11 tyX11 tyX11_ok nmX11 (show Cond.fieldLink RX11 231 "PlanetWorkshopModel" "spot" "I" ∈ wsX11_runScript by decide +kernel) rfl rfl rfl rfl dX11_runScript_65 (fun H locs hh => ?_)
            obtain ⟨w16, hw16, hF⟩ := am_wl hF
            have hh := AH_eq hw16 hh
            refine lv_goto (tgt := 14) hx hb dX11_runScript_68 (by decide) ?_
            exact ih (y3 + (1 : Int32)) (0 : Int32) w16 ab H locs ls _ hF hh (lv_sub hl [1, 0, 2] rfl) kE
          · have hF := am_pos hc15 hF
            refine lv_iconst (v := (1 : Int32)) hx hb dX11_runScript_44 (by decide) ?_
            refine lv_goto (tgt := 49) hx hb dX11_runScript_45 (by decide) ?_
            refine lv_istore_n (lv' := [(2, .int (1 : Int32)), (1, .int (y3 + (1 : Int32))), (0, .ref (gAd G 141))]) hx hb dX11_runScript_49 rfl hl (by decide) rfl (fun ls hl => ?_)
            refine lv_aload_n hx hb dX11_runScript_50 rfl (lv_at hl 2 rfl) ?_
            refine lv_dup hx hb dX11_runScript_51 rfl ?_
            refine am_getI X hh 141 12 15 (by decide) rfl rfl (by decide) hwRX11 (show Cond.fieldLink RX11 231 "PlanetWorkshopModel" "spot" "I" ∈ wsX11_runScript by decide +kernel) rfl dX11_runScript_52 ?_
            refine lv_iload_n hx hb dX11_runScript_55 rfl (lv_at hl 0 rfl) ?_
            refine lv_if_eq (tgt := 63) hx hb dX11_runScript_56 (by decide) (fun hz => absurd hz (by decide)) (fun _ => ?_)
            refine lv_iconst (v := (1 : Int32)) hx hb dX11_runScript_59 (by decide) ?_
            refine lv_goto (tgt := 64) hx hb dX11_runScript_60 (by decide) ?_
            refine lv_iadd hx hb dX11_runScript_64 ?_
            refine am_putI X hh 141 12 15 (by decide) rfl rfl (by decide) hwRX11 tyX11 tyX11_ok nmX11 (show Cond.fieldLink RX11 231 "PlanetWorkshopModel" "spot" "I" ∈ wsX11_runScript by decide +kernel) rfl rfl rfl rfl dX11_runScript_65 (fun H locs hh => ?_)
            obtain ⟨w17, hw17, hF⟩ := am_wl hF
            have hh := AH_eq hw17 hh
            refine lv_goto (tgt := 14) hx hb dX11_runScript_68 (by decide) ?_
            exact ih (y3 + (1 : Int32)) (1 : Int32) w17 ab H locs ls _ hF hh (lv_sub hl [1, 0, 2] rfl) kE
  obtain ⟨z18, hz19, hF⟩ := am_bind hF
  refine hlp14 2000 (0 : Int32) (1 : Int32) w2 ab H locs ls z18 hz19 hh (lv_sub hl [1, 0, 2] rfl) (fun y3 y4 w5 ab H locs ls hz hh hl => ?_)
  · subst hz
    have hF := am_zl hF
    have hF := am_u3 hF
    refine lv_aload_n hx hb dX11_runScript_71 rfl (lv_at hl 2 rfl) ?_
    refine lv_aload_n hx hb dX11_runScript_72 rfl (lv_at hl 2 rfl) ?_
    refine am_getI X hh 141 12 16 (by decide) rfl rfl (by decide) hwRX11 (show Cond.fieldLink RX11 234 "PlanetWorkshopModel" "isWrong" "Z" ∈ wsX11_runScript by decide +kernel) rfl dX11_runScript_73 ?_
    refine lv_if_ne (tgt := 90) hx hb dX11_runScript_76 (by decide) (fun hc20 => ?_) (fun hc20 => ?_)
    · have hF := am_neg hc20 hF
      refine lv_iconst (v := (1 : Int32)) hx hb dX11_runScript_90 (by decide) ?_
      refine lv_goto (tgt := 95) hx hb dX11_runScript_91 (by decide) ?_
      refine am_putI X hh 141 12 16 (by decide) rfl rfl (by decide) hwRX11 tyX11 tyX11_ok nmX11 (show Cond.fieldLink RX11 234 "PlanetWorkshopModel" "isWrong" "Z" ∈ wsX11_runScript by decide +kernel) rfl rfl rfl rfl dX11_runScript_95 (fun H locs hh => ?_)
      obtain ⟨w21, hw21, hF⟩ := am_wl hF
      have hh := AH_eq hw21 hh
      refine lv_aload_n hx hb dX11_runScript_98 rfl (lv_at hl 2 rfl) ?_
      refine lv_iconst (v := (0 : Int32)) hx hb dX11_runScript_99 (by decide) ?_
      refine am_putI X hh 141 12 7 (by decide) rfl rfl (by decide) hwRX11 tyX11 tyX11_ok nmX11 (show Cond.fieldLink RX11 228 "PlanetWorkshopModel" "typed" "I" ∈ wsX11_runScript by decide +kernel) rfl rfl rfl rfl dX11_runScript_100 (fun H locs hh => ?_)
      obtain ⟨w22, hw22, hF⟩ := am_wl hF
      have hh := AH_eq hw22 hh
      refine lv_aload_n hx hb dX11_runScript_103 rfl (lv_at hl 2 rfl) ?_
      refine am_getI X hh 141 12 16 (by decide) rfl rfl (by decide) hwRX11 (show Cond.fieldLink RX11 234 "PlanetWorkshopModel" "isWrong" "Z" ∈ wsX11_runScript by decide +kernel) rfl dX11_runScript_104 ?_
      refine lv_if_eq (tgt := 124) hx hb dX11_runScript_107 (by decide) (fun hc23 => ?_) (fun hc23 => ?_)
      · have hF := am_pos hc23 hF
        refine lv_aload_n hx hb dX11_runScript_124 rfl (lv_at hl 2 rfl) ?_
        obtain ⟨w26, hk24, hF⟩ := am_bind hF
        refine am_call X hh (va_runV (As := []) (rest := []) X.1 (c_X11_begin l G hk24) (cwV 0 hts gX11_runScript_X11_begin rfl rfl rfl (by decide +kernel) ⟨Nat.le_of_ble_eq_true rfl, Nat.le_of_ble_eq_true rfl⟩) (am_preV X hh 141 12 (by decide) rfl rfl) rfl rfl hl.1 rfl (lv_room (Nat.le_of_ble_eq_true rfl)) dX11_runScript_125 ⟨Nat.le_of_ble_eq_true rfl, Nat.le_of_ble_eq_true rfl⟩) (fun ab H locs hh => ?_)
        refine lv_iconst (v := (0 : Int32)) hx hb dX11_runScript_128 (by decide) ?_
        refine lv_istore_n (lv' := [(3, .int (0 : Int32)), (1, .int y3), (2, .int y4), (0, .ref (gAd G 141))]) hx hb dX11_runScript_129 rfl hl (by decide) rfl (fun ls hl => ?_)
        have hlp130 : ∀ (n : Nat) (y27 : Int32) (w28 : Wd) (ab : Nat) (H : Heap) (locs : List Loc) (ls : Array Slot) (z : (Int32 × Wd) ⊕ (Int32 × Wd)), p_X11_runScript_130 y3 n y27 w28 = some z → AH G s.heap w28 ab H locs → lv_has ls 5 [(3, .int y27), (1, .int y3), (2, .int y4), (0, .ref (gAd G 141))] → (∀ (y27 : Int32) (w28 : Wd) (ab : Nat) (H : Heap) (locs : List Loc) (ls : Array Slot), z = .inl (y27, w28) → AH G s.heap w28 ab H locs → lv_has ls 5 [(3, .int y27), (1, .int y3), (2, .int y4), (0, .ref (gAd G 141))] → W p l e ({ frames := 7, cells := 0, slots := 0, locals := 159 } : Room) s m args below meth c H locs 0 0 (MQ below (amQ G (oI r0) wz) args s 0 0 (gA G)) (F0 m 174 ls [])) → (∀ r, z = .inr r → some r = some (r0, wz)) → W p l e ({ frames := 7, cells := 0, slots := 0, locals := 159 } : Room) s m args below meth c H locs 0 0 (MQ below (amQ G (oI r0) wz) args s 0 0 (gA G)) (F0 m 130 ls []) := by
          intro n
          induction n with
          | zero =>
            intro y27 w28 ab H locs ls z hF
            unfold p_X11_runScript_130 at hF
            cases hF
          | succ n ih =>
            intro y27 w28 ab H locs ls z hF hh hl kE kR
            unfold p_X11_runScript_130 at hF
            refine lv_iload_n hx hb dX11_runScript_130 rfl (lv_at hl 0 rfl) ?_
            refine lv_iload_n hx hb dX11_runScript_131 rfl (lv_at hl 1 rfl) ?_
            refine lv_icmp_ge (tgt := 174) hx hb dX11_runScript_132 (by decide) (fun hc30 => ?_) (fun hc30 => ?_)
            · have hF := am_pos hc30 hF
              exact kE y27 w28 ab H locs ls (Option.some.inj hF).symm hh (lv_sub hl [0, 1, 2, 3] rfl)
            · have hF := am_neg hc30 hF
              refine lv_aload_n hx hb dX11_runScript_135 rfl (lv_at hl 3 rfl) ?_
              refine lv_iconst (v := (3 : Int32)) hx hb dX11_runScript_136 (by decide) ?_
              refine lv_iload_n hx hb dX11_runScript_137 rfl (lv_at hl 0 rfl) ?_
              refine lv_imul hx hb dX11_runScript_138 ?_
              obtain ⟨⟨r32, w33⟩, hk31, hF⟩ := am_bind hF
              have hF := am_u2 hF
              refine am_call X hh (va_runV (As := [.int ((3 : Int32) * y27)]) (rest := []) X.1 (c_X11_carriesOut l G hk31) (cwV 1 hts gX11_runScript_X11_carriesOut rfl rfl rfl (by decide +kernel) ⟨Nat.le_of_ble_eq_true rfl, Nat.le_of_ble_eq_true rfl⟩) (am_preV X hh 141 12 (by decide) rfl rfl) rfl rfl hl.1 rfl (lv_room (Nat.le_of_ble_eq_true rfl)) dX11_runScript_139 ⟨Nat.le_of_ble_eq_true rfl, Nat.le_of_ble_eq_true rfl⟩) (fun ab H locs hh => ?_)
              refine lv_istore (lv' := [(4, .int r32), (3, .int y27), (1, .int y3), (2, .int y4), (0, .ref (gAd G 141))]) hx hb dX11_runScript_142 hl (by decide) rfl (fun ls hl => ?_)
              refine lv_aload_n hx hb dX11_runScript_144 rfl (lv_at hl 4 rfl) ?_
              refine am_getI X hh 141 12 12 (by decide) rfl rfl (by decide) hwRX11 (show Cond.fieldLink RX11 49 "PlanetWorkshopModel" "thrown" "I" ∈ wsX11_runScript by decide +kernel) rfl dX11_runScript_145 ?_
              refine lv_if_eq (tgt := 168) hx hb dX11_runScript_148 (by decide) (fun hc35 => ?_) (fun hc35 => ?_)
              · have hF := am_pos hc35 hF
                refine lv_iinc (v := (y27 + (1 : Int32))) (lv' := [(3, .int (y27 + (1 : Int32))), (4, .int r32), (1, .int y3), (2, .int y4), (0, .ref (gAd G 141))]) hx hb dX11_runScript_168 hl (k := 1) rfl rfl (by decide) rfl (fun ls hl => ?_)
                refine lv_goto (tgt := 130) hx hb dX11_runScript_171 (by decide) ?_
                exact ih (y27 + (1 : Int32)) w33 ab H locs ls _ hF hh (lv_sub hl [0, 2, 3, 4] rfl) kE kR
              · have hF := am_neg hc35 hF
                refine lv_aload_n hx hb dX11_runScript_151 rfl (lv_at hl 4 rfl) ?_
                refine lv_iload_n hx hb dX11_runScript_152 rfl (lv_at hl 1 rfl) ?_
                refine am_putI X hh 141 12 9 (by decide) rfl rfl (by decide) hwRX11 tyX11 tyX11_ok nmX11 (show Cond.fieldLink RX11 30 "PlanetWorkshopModel" "failedAt" "I" ∈ wsX11_runScript by decide +kernel) rfl rfl rfl rfl dX11_runScript_153 (fun H locs hh => ?_)
                obtain ⟨w36, hw36, hF⟩ := am_wl hF
                have hh := AH_eq hw36 hh
                refine lv_aload_n hx hb dX11_runScript_156 rfl (lv_at hl 4 rfl) ?_
                refine lv_iconst (v := (2 : Int32)) hx hb dX11_runScript_157 (by decide) ?_
                refine am_putI X hh 141 12 12 (by decide) rfl rfl (by decide) hwRX11 tyX11 tyX11_ok nmX11 (show Cond.fieldLink RX11 49 "PlanetWorkshopModel" "thrown" "I" ∈ wsX11_runScript by decide +kernel) rfl rfl rfl rfl dX11_runScript_158 (fun H locs hh => ?_)
                obtain ⟨w37, hw37, hF⟩ := am_wl hF
                have hh := AH_eq hw37 hh
                refine lv_aload_n hx hb dX11_runScript_161 rfl (lv_at hl 4 rfl) ?_
                refine lv_iload hx hb dX11_runScript_162 (lv_at hl 0 rfl) ?_
                obtain ⟨⟨r39, w40⟩, hk38, hF⟩ := am_bind hF
                have hF := am_u2 hF
                refine am_call X hh (va_runV (As := [.int r32]) (rest := []) X.1 (c_X11_kept l G hk38) (cwV 1 hts gX11_runScript_X11_kept rfl rfl rfl (by decide +kernel) ⟨Nat.le_of_ble_eq_true rfl, Nat.le_of_ble_eq_true rfl⟩) (am_preV X hh 141 12 (by decide) rfl rfl) rfl rfl hl.1 rfl (lv_room (Nat.le_of_ble_eq_true rfl)) dX11_runScript_164 ⟨Nat.le_of_ble_eq_true rfl, Nat.le_of_ble_eq_true rfl⟩) (fun ab H locs hh => ?_)
                have hF := kR _ (Option.some.inj hF).symm
                exact am_iret X hr hh (fun t ht => am_qw (mk := oI) hF ht) (Nat.le_of_ble_eq_true rfl) (Nat.le_of_ble_eq_true rfl) dX11_runScript_167
        obtain ⟨z42, hz43, hF⟩ := am_bind hF
        refine hlp130 2000 (0 : Int32) w26 ab H locs ls z42 hz43 hh (lv_sub hl [0, 1, 2, 3] rfl) (fun y27 w28 ab H locs ls hz hh hl => ?_) (fun r hz => ?_)
        · subst hz
          have hF := am_zl hF
          have hF := am_u2 hF
          refine lv_aload_n hx hb dX11_runScript_174 rfl (lv_at hl 3 rfl) ?_
          refine lv_aload_n hx hb dX11_runScript_175 rfl (lv_at hl 3 rfl) ?_
          refine lv_iload_n hx hb dX11_runScript_176 rfl (lv_at hl 1 rfl) ?_
          obtain ⟨⟨r45, w46⟩, hk44, hF⟩ := am_bind hF
          have hF := am_u2 hF
          refine am_call X hh (va_runV (As := [.int y3]) (rest := [.ref (gAd G 141)]) X.1 (c_X11_done l G hk44) (cwV 1 hts gX11_runScript_X11_done rfl rfl rfl (by decide +kernel) ⟨Nat.le_of_ble_eq_true rfl, Nat.le_of_ble_eq_true rfl⟩) (am_preV X hh 141 12 (by decide) rfl rfl) rfl rfl hl.1 rfl (lv_room (Nat.le_of_ble_eq_true rfl)) dX11_runScript_177 ⟨Nat.le_of_ble_eq_true rfl, Nat.le_of_ble_eq_true rfl⟩) (fun ab H locs hh => ?_)
          obtain ⟨⟨r49, w50⟩, hk48, hF⟩ := am_bind hF
          have hF := am_u2 hF
          refine am_call X hh (va_runV (As := [.int r45]) (rest := []) X.1 (c_X11_kept l G hk48) (cwV 1 hts gX11_runScript_X11_kept rfl rfl rfl (by decide +kernel) ⟨Nat.le_of_ble_eq_true rfl, Nat.le_of_ble_eq_true rfl⟩) (am_preV X hh 141 12 (by decide) rfl rfl) rfl rfl hl.1 rfl (lv_room (Nat.le_of_ble_eq_true rfl)) dX11_runScript_180 ⟨Nat.le_of_ble_eq_true rfl, Nat.le_of_ble_eq_true rfl⟩) (fun ab H locs hh => ?_)
          exact am_iret X hr hh (fun t ht => am_qw (mk := oI) hF ht) (Nat.le_of_ble_eq_true rfl) (Nat.le_of_ble_eq_true rfl) dX11_runScript_183
        · subst hz
          have hF := am_zr hF
          exact hF
      · have hF := am_neg hc23 hF
        refine lv_aload_n hx hb dX11_runScript_110 rfl (lv_at hl 2 rfl) ?_
        refine lv_aload_n hx hb dX11_runScript_111 rfl (lv_at hl 2 rfl) ?_
        refine am_getI X hh 141 12 15 (by decide) rfl rfl (by decide) hwRX11 (show Cond.fieldLink RX11 231 "PlanetWorkshopModel" "spot" "I" ∈ wsX11_runScript by decide +kernel) rfl dX11_runScript_112 ?_
        refine am_putI X hh 141 12 8 (by decide) rfl rfl (by decide) hwRX11 tyX11 tyX11_ok nmX11 (show Cond.fieldLink RX11 26 "PlanetWorkshopModel" "errorAt" "I" ∈ wsX11_runScript by decide +kernel) rfl rfl rfl rfl dX11_runScript_115 (fun H locs hh => ?_)
        obtain ⟨w52, hw52, hF⟩ := am_wl hF
        have hh := AH_eq hw52 hh
        refine lv_aload_n hx hb dX11_runScript_118 rfl (lv_at hl 2 rfl) ?_
        refine lv_iconst (v := (1 : Int32)) hx hb dX11_runScript_119 (by decide) ?_
        obtain ⟨⟨r54, w55⟩, hk53, hF⟩ := am_bind hF
        have hF := am_u2 hF
        refine am_call X hh (va_runV (As := [.int (1 : Int32)]) (rest := []) X.1 (c_X11_fails l G hk53) (cwV 1 hts gX11_runScript_X11_fails rfl rfl rfl (by decide +kernel) ⟨Nat.le_of_ble_eq_true rfl, Nat.le_of_ble_eq_true rfl⟩) (am_preV X hh 141 12 (by decide) rfl rfl) rfl rfl hl.1 rfl (lv_room (Nat.le_of_ble_eq_true rfl)) dX11_runScript_120 ⟨Nat.le_of_ble_eq_true rfl, Nat.le_of_ble_eq_true rfl⟩) (fun ab H locs hh => ?_)
        exact am_iret X hr hh (fun t ht => am_qw (mk := oI) hF ht) (Nat.le_of_ble_eq_true rfl) (Nat.le_of_ble_eq_true rfl) dX11_runScript_123
    · have hF := am_pos hc20 hF
      refine lv_aload_n hx hb dX11_runScript_79 rfl (lv_at hl 2 rfl) ?_
      refine am_getI X hh 141 12 15 (by decide) rfl rfl (by decide) hwRX11 (show Cond.fieldLink RX11 231 "PlanetWorkshopModel" "spot" "I" ∈ wsX11_runScript by decide +kernel) rfl dX11_runScript_80 ?_
      refine lv_aload_n hx hb dX11_runScript_83 rfl (lv_at hl 2 rfl) ?_
      refine am_getI X hh 141 12 7 (by decide) rfl rfl (by decide) hwRX11 (show Cond.fieldLink RX11 228 "PlanetWorkshopModel" "typed" "I" ∈ wsX11_runScript by decide +kernel) rfl dX11_runScript_84 ?_
      refine lv_icmp_ge (tgt := 94) hx hb dX11_runScript_87 (by decide) (fun hc57 => ?_) (fun hc57 => ?_)
      · have hF := am_pos hc57 hF
        refine lv_iconst (v := (0 : Int32)) hx hb dX11_runScript_94 (by decide) ?_
        refine am_putI X hh 141 12 16 (by decide) rfl rfl (by decide) hwRX11 tyX11 tyX11_ok nmX11 (show Cond.fieldLink RX11 234 "PlanetWorkshopModel" "isWrong" "Z" ∈ wsX11_runScript by decide +kernel) rfl rfl rfl rfl dX11_runScript_95 (fun H locs hh => ?_)
        obtain ⟨w58, hw58, hF⟩ := am_wl hF
        have hh := AH_eq hw58 hh
        refine lv_aload_n hx hb dX11_runScript_98 rfl (lv_at hl 2 rfl) ?_
        refine lv_iconst (v := (0 : Int32)) hx hb dX11_runScript_99 (by decide) ?_
        refine am_putI X hh 141 12 7 (by decide) rfl rfl (by decide) hwRX11 tyX11 tyX11_ok nmX11 (show Cond.fieldLink RX11 228 "PlanetWorkshopModel" "typed" "I" ∈ wsX11_runScript by decide +kernel) rfl rfl rfl rfl dX11_runScript_100 (fun H locs hh => ?_)
        obtain ⟨w59, hw59, hF⟩ := am_wl hF
        have hh := AH_eq hw59 hh
        refine lv_aload_n hx hb dX11_runScript_103 rfl (lv_at hl 2 rfl) ?_
        refine am_getI X hh 141 12 16 (by decide) rfl rfl (by decide) hwRX11 (show Cond.fieldLink RX11 234 "PlanetWorkshopModel" "isWrong" "Z" ∈ wsX11_runScript by decide +kernel) rfl dX11_runScript_104 ?_
        refine lv_if_eq (tgt := 124) hx hb dX11_runScript_107 (by decide) (fun hc60 => ?_) (fun hc60 => ?_)
        · have hF := am_pos hc60 hF
          refine lv_aload_n hx hb dX11_runScript_124 rfl (lv_at hl 2 rfl) ?_
          obtain ⟨w63, hk61, hF⟩ := am_bind hF
          refine am_call X hh (va_runV (As := []) (rest := []) X.1 (c_X11_begin l G hk61) (cwV 0 hts gX11_runScript_X11_begin rfl rfl rfl (by decide +kernel) ⟨Nat.le_of_ble_eq_true rfl, Nat.le_of_ble_eq_true rfl⟩) (am_preV X hh 141 12 (by decide) rfl rfl) rfl rfl hl.1 rfl (lv_room (Nat.le_of_ble_eq_true rfl)) dX11_runScript_125 ⟨Nat.le_of_ble_eq_true rfl, Nat.le_of_ble_eq_true rfl⟩) (fun ab H locs hh => ?_)
          refine lv_iconst (v := (0 : Int32)) hx hb dX11_runScript_128 (by decide) ?_
          refine lv_istore_n (lv' := [(3, .int (0 : Int32)), (1, .int y3), (2, .int y4), (0, .ref (gAd G 141))]) hx hb dX11_runScript_129 rfl hl (by decide) rfl (fun ls hl => ?_)
          have hlp130 : ∀ (n : Nat) (y64 : Int32) (w65 : Wd) (ab : Nat) (H : Heap) (locs : List Loc) (ls : Array Slot) (z : (Int32 × Wd) ⊕ (Int32 × Wd)), p_X11_runScript_130 y3 n y64 w65 = some z → AH G s.heap w65 ab H locs → lv_has ls 5 [(3, .int y64), (1, .int y3), (2, .int y4), (0, .ref (gAd G 141))] → (∀ (y64 : Int32) (w65 : Wd) (ab : Nat) (H : Heap) (locs : List Loc) (ls : Array Slot), z = .inl (y64, w65) → AH G s.heap w65 ab H locs → lv_has ls 5 [(3, .int y64), (1, .int y3), (2, .int y4), (0, .ref (gAd G 141))] → W p l e ({ frames := 7, cells := 0, slots := 0, locals := 159 } : Room) s m args below meth c H locs 0 0 (MQ below (amQ G (oI r0) wz) args s 0 0 (gA G)) (F0 m 174 ls [])) → (∀ r, z = .inr r → some r = some (r0, wz)) → W p l e ({ frames := 7, cells := 0, slots := 0, locals := 159 } : Room) s m args below meth c H locs 0 0 (MQ below (amQ G (oI r0) wz) args s 0 0 (gA G)) (F0 m 130 ls []) := by
            intro n
            induction n with
            | zero =>
              intro y64 w65 ab H locs ls z hF
              unfold p_X11_runScript_130 at hF
              cases hF
            | succ n ih =>
              intro y64 w65 ab H locs ls z hF hh hl kE kR
              unfold p_X11_runScript_130 at hF
              refine lv_iload_n hx hb dX11_runScript_130 rfl (lv_at hl 0 rfl) ?_
              refine lv_iload_n hx hb dX11_runScript_131 rfl (lv_at hl 1 rfl) ?_
              refine lv_icmp_ge (tgt := 174) hx hb dX11_runScript_132 (by decide) (fun hc67 => ?_) (fun hc67 => ?_)
              · have hF := am_pos hc67 hF
                exact kE y64 w65 ab H locs ls (Option.some.inj hF).symm hh (lv_sub hl [0, 1, 2, 3] rfl)
              · have hF := am_neg hc67 hF
                refine lv_aload_n hx hb dX11_runScript_135 rfl (lv_at hl 3 rfl) ?_
                refine lv_iconst (v := (3 : Int32)) hx hb dX11_runScript_136 (by decide) ?_
                refine lv_iload_n hx hb dX11_runScript_137 rfl (lv_at hl 0 rfl) ?_
                refine lv_imul hx hb dX11_runScript_138 ?_
                obtain ⟨⟨r69, w70⟩, hk68, hF⟩ := am_bind hF
                have hF := am_u2 hF
                refine am_call X hh (va_runV (As := [.int ((3 : Int32) * y64)]) (rest := []) X.1 (c_X11_carriesOut l G hk68) (cwV 1 hts gX11_runScript_X11_carriesOut rfl rfl rfl (by decide +kernel) ⟨Nat.le_of_ble_eq_true rfl, Nat.le_of_ble_eq_true rfl⟩) (am_preV X hh 141 12 (by decide) rfl rfl) rfl rfl hl.1 rfl (lv_room (Nat.le_of_ble_eq_true rfl)) dX11_runScript_139 ⟨Nat.le_of_ble_eq_true rfl, Nat.le_of_ble_eq_true rfl⟩) (fun ab H locs hh => ?_)
                refine lv_istore (lv' := [(4, .int r69), (3, .int y64), (1, .int y3), (2, .int y4), (0, .ref (gAd G 141))]) hx hb dX11_runScript_142 hl (by decide) rfl (fun ls hl => ?_)
                refine lv_aload_n hx hb dX11_runScript_144 rfl (lv_at hl 4 rfl) ?_
                refine am_getI X hh 141 12 12 (by decide) rfl rfl (by decide) hwRX11 (show Cond.fieldLink RX11 49 "PlanetWorkshopModel" "thrown" "I" ∈ wsX11_runScript by decide +kernel) rfl dX11_runScript_145 ?_
                refine lv_if_eq (tgt := 168) hx hb dX11_runScript_148 (by decide) (fun hc72 => ?_) (fun hc72 => ?_)
                · have hF := am_pos hc72 hF
                  refine lv_iinc (v := (y64 + (1 : Int32))) (lv' := [(3, .int (y64 + (1 : Int32))), (4, .int r69), (1, .int y3), (2, .int y4), (0, .ref (gAd G 141))]) hx hb dX11_runScript_168 hl (k := 1) rfl rfl (by decide) rfl (fun ls hl => ?_)
                  refine lv_goto (tgt := 130) hx hb dX11_runScript_171 (by decide) ?_
                  exact ih (y64 + (1 : Int32)) w70 ab H locs ls _ hF hh (lv_sub hl [0, 2, 3, 4] rfl) kE kR
                · have hF := am_neg hc72 hF
                  refine lv_aload_n hx hb dX11_runScript_151 rfl (lv_at hl 4 rfl) ?_
                  refine lv_iload_n hx hb dX11_runScript_152 rfl (lv_at hl 1 rfl) ?_
                  refine am_putI X hh 141 12 9 (by decide) rfl rfl (by decide) hwRX11 tyX11 tyX11_ok nmX11 (show Cond.fieldLink RX11 30 "PlanetWorkshopModel" "failedAt" "I" ∈ wsX11_runScript by decide +kernel) rfl rfl rfl rfl dX11_runScript_153 (fun H locs hh => ?_)
                  obtain ⟨w73, hw73, hF⟩ := am_wl hF
                  have hh := AH_eq hw73 hh
                  refine lv_aload_n hx hb dX11_runScript_156 rfl (lv_at hl 4 rfl) ?_
                  refine lv_iconst (v := (2 : Int32)) hx hb dX11_runScript_157 (by decide) ?_
                  refine am_putI X hh 141 12 12 (by decide) rfl rfl (by decide) hwRX11 tyX11 tyX11_ok nmX11 (show Cond.fieldLink RX11 49 "PlanetWorkshopModel" "thrown" "I" ∈ wsX11_runScript by decide +kernel) rfl rfl rfl rfl dX11_runScript_158 (fun H locs hh => ?_)
                  obtain ⟨w74, hw74, hF⟩ := am_wl hF
                  have hh := AH_eq hw74 hh
                  refine lv_aload_n hx hb dX11_runScript_161 rfl (lv_at hl 4 rfl) ?_
                  refine lv_iload hx hb dX11_runScript_162 (lv_at hl 0 rfl) ?_
                  obtain ⟨⟨r76, w77⟩, hk75, hF⟩ := am_bind hF
                  have hF := am_u2 hF
                  refine am_call X hh (va_runV (As := [.int r69]) (rest := []) X.1 (c_X11_kept l G hk75) (cwV 1 hts gX11_runScript_X11_kept rfl rfl rfl (by decide +kernel) ⟨Nat.le_of_ble_eq_true rfl, Nat.le_of_ble_eq_true rfl⟩) (am_preV X hh 141 12 (by decide) rfl rfl) rfl rfl hl.1 rfl (lv_room (Nat.le_of_ble_eq_true rfl)) dX11_runScript_164 ⟨Nat.le_of_ble_eq_true rfl, Nat.le_of_ble_eq_true rfl⟩) (fun ab H locs hh => ?_)
                  have hF := kR _ (Option.some.inj hF).symm
                  exact am_iret X hr hh (fun t ht => am_qw (mk := oI) hF ht) (Nat.le_of_ble_eq_true rfl) (Nat.le_of_ble_eq_true rfl) dX11_runScript_167
          obtain ⟨z79, hz80, hF⟩ := am_bind hF
          refine hlp130 2000 (0 : Int32) w63 ab H locs ls z79 hz80 hh (lv_sub hl [0, 1, 2, 3] rfl) (fun y64 w65 ab H locs ls hz hh hl => ?_) (fun r hz => ?_)
          · subst hz
            have hF := am_zl hF
            have hF := am_u2 hF
            refine lv_aload_n hx hb dX11_runScript_174 rfl (lv_at hl 3 rfl) ?_
            refine lv_aload_n hx hb dX11_runScript_175 rfl (lv_at hl 3 rfl) ?_
            refine lv_iload_n hx hb dX11_runScript_176 rfl (lv_at hl 1 rfl) ?_
            obtain ⟨⟨r82, w83⟩, hk81, hF⟩ := am_bind hF
            have hF := am_u2 hF
            refine am_call X hh (va_runV (As := [.int y3]) (rest := [.ref (gAd G 141)]) X.1 (c_X11_done l G hk81) (cwV 1 hts gX11_runScript_X11_done rfl rfl rfl (by decide +kernel) ⟨Nat.le_of_ble_eq_true rfl, Nat.le_of_ble_eq_true rfl⟩) (am_preV X hh 141 12 (by decide) rfl rfl) rfl rfl hl.1 rfl (lv_room (Nat.le_of_ble_eq_true rfl)) dX11_runScript_177 ⟨Nat.le_of_ble_eq_true rfl, Nat.le_of_ble_eq_true rfl⟩) (fun ab H locs hh => ?_)
            obtain ⟨⟨r86, w87⟩, hk85, hF⟩ := am_bind hF
            have hF := am_u2 hF
            refine am_call X hh (va_runV (As := [.int r82]) (rest := []) X.1 (c_X11_kept l G hk85) (cwV 1 hts gX11_runScript_X11_kept rfl rfl rfl (by decide +kernel) ⟨Nat.le_of_ble_eq_true rfl, Nat.le_of_ble_eq_true rfl⟩) (am_preV X hh 141 12 (by decide) rfl rfl) rfl rfl hl.1 rfl (lv_room (Nat.le_of_ble_eq_true rfl)) dX11_runScript_180 ⟨Nat.le_of_ble_eq_true rfl, Nat.le_of_ble_eq_true rfl⟩) (fun ab H locs hh => ?_)
            exact am_iret X hr hh (fun t ht => am_qw (mk := oI) hF ht) (Nat.le_of_ble_eq_true rfl) (Nat.le_of_ble_eq_true rfl) dX11_runScript_183
          · subst hz
            have hF := am_zr hF
            exact hF
        · have hF := am_neg hc60 hF
          refine lv_aload_n hx hb dX11_runScript_110 rfl (lv_at hl 2 rfl) ?_
          refine lv_aload_n hx hb dX11_runScript_111 rfl (lv_at hl 2 rfl) ?_
          refine am_getI X hh 141 12 15 (by decide) rfl rfl (by decide) hwRX11 (show Cond.fieldLink RX11 231 "PlanetWorkshopModel" "spot" "I" ∈ wsX11_runScript by decide +kernel) rfl dX11_runScript_112 ?_
          refine am_putI X hh 141 12 8 (by decide) rfl rfl (by decide) hwRX11 tyX11 tyX11_ok nmX11 (show Cond.fieldLink RX11 26 "PlanetWorkshopModel" "errorAt" "I" ∈ wsX11_runScript by decide +kernel) rfl rfl rfl rfl dX11_runScript_115 (fun H locs hh => ?_)
          obtain ⟨w89, hw89, hF⟩ := am_wl hF
          have hh := AH_eq hw89 hh
          refine lv_aload_n hx hb dX11_runScript_118 rfl (lv_at hl 2 rfl) ?_
          refine lv_iconst (v := (1 : Int32)) hx hb dX11_runScript_119 (by decide) ?_
          obtain ⟨⟨r91, w92⟩, hk90, hF⟩ := am_bind hF
          have hF := am_u2 hF
          refine am_call X hh (va_runV (As := [.int (1 : Int32)]) (rest := []) X.1 (c_X11_fails l G hk90) (cwV 1 hts gX11_runScript_X11_fails rfl rfl rfl (by decide +kernel) ⟨Nat.le_of_ble_eq_true rfl, Nat.le_of_ble_eq_true rfl⟩) (am_preV X hh 141 12 (by decide) rfl rfl) rfl rfl hl.1 rfl (lv_room (Nat.le_of_ble_eq_true rfl)) dX11_runScript_120 ⟨Nat.le_of_ble_eq_true rfl, Nat.le_of_ble_eq_true rfl⟩) (fun ab H locs hh => ?_)
          exact am_iret X hr hh (fun t ht => am_qw (mk := oI) hF ht) (Nat.le_of_ble_eq_true rfl) (Nat.le_of_ble_eq_true rfl) dX11_runScript_123
      · have hF := am_neg hc57 hF
        refine lv_iconst (v := (1 : Int32)) hx hb dX11_runScript_90 (by decide) ?_
        refine lv_goto (tgt := 95) hx hb dX11_runScript_91 (by decide) ?_
        refine am_putI X hh 141 12 16 (by decide) rfl rfl (by decide) hwRX11 tyX11 tyX11_ok nmX11 (show Cond.fieldLink RX11 234 "PlanetWorkshopModel" "isWrong" "Z" ∈ wsX11_runScript by decide +kernel) rfl rfl rfl rfl dX11_runScript_95 (fun H locs hh => ?_)
        obtain ⟨w94, hw94, hF⟩ := am_wl hF
        have hh := AH_eq hw94 hh
        refine lv_aload_n hx hb dX11_runScript_98 rfl (lv_at hl 2 rfl) ?_
        refine lv_iconst (v := (0 : Int32)) hx hb dX11_runScript_99 (by decide) ?_
        refine am_putI X hh 141 12 7 (by decide) rfl rfl (by decide) hwRX11 tyX11 tyX11_ok nmX11 (show Cond.fieldLink RX11 228 "PlanetWorkshopModel" "typed" "I" ∈ wsX11_runScript by decide +kernel) rfl rfl rfl rfl dX11_runScript_100 (fun H locs hh => ?_)
        obtain ⟨w95, hw95, hF⟩ := am_wl hF
        have hh := AH_eq hw95 hh
        refine lv_aload_n hx hb dX11_runScript_103 rfl (lv_at hl 2 rfl) ?_
        refine am_getI X hh 141 12 16 (by decide) rfl rfl (by decide) hwRX11 (show Cond.fieldLink RX11 234 "PlanetWorkshopModel" "isWrong" "Z" ∈ wsX11_runScript by decide +kernel) rfl dX11_runScript_104 ?_
        refine lv_if_eq (tgt := 124) hx hb dX11_runScript_107 (by decide) (fun hc96 => ?_) (fun hc96 => ?_)
        · have hF := am_pos hc96 hF
          refine lv_aload_n hx hb dX11_runScript_124 rfl (lv_at hl 2 rfl) ?_
          obtain ⟨w99, hk97, hF⟩ := am_bind hF
          refine am_call X hh (va_runV (As := []) (rest := []) X.1 (c_X11_begin l G hk97) (cwV 0 hts gX11_runScript_X11_begin rfl rfl rfl (by decide +kernel) ⟨Nat.le_of_ble_eq_true rfl, Nat.le_of_ble_eq_true rfl⟩) (am_preV X hh 141 12 (by decide) rfl rfl) rfl rfl hl.1 rfl (lv_room (Nat.le_of_ble_eq_true rfl)) dX11_runScript_125 ⟨Nat.le_of_ble_eq_true rfl, Nat.le_of_ble_eq_true rfl⟩) (fun ab H locs hh => ?_)
          refine lv_iconst (v := (0 : Int32)) hx hb dX11_runScript_128 (by decide) ?_
          refine lv_istore_n (lv' := [(3, .int (0 : Int32)), (1, .int y3), (2, .int y4), (0, .ref (gAd G 141))]) hx hb dX11_runScript_129 rfl hl (by decide) rfl (fun ls hl => ?_)
          have hlp130 : ∀ (n : Nat) (y100 : Int32) (w101 : Wd) (ab : Nat) (H : Heap) (locs : List Loc) (ls : Array Slot) (z : (Int32 × Wd) ⊕ (Int32 × Wd)), p_X11_runScript_130 y3 n y100 w101 = some z → AH G s.heap w101 ab H locs → lv_has ls 5 [(3, .int y100), (1, .int y3), (2, .int y4), (0, .ref (gAd G 141))] → (∀ (y100 : Int32) (w101 : Wd) (ab : Nat) (H : Heap) (locs : List Loc) (ls : Array Slot), z = .inl (y100, w101) → AH G s.heap w101 ab H locs → lv_has ls 5 [(3, .int y100), (1, .int y3), (2, .int y4), (0, .ref (gAd G 141))] → W p l e ({ frames := 7, cells := 0, slots := 0, locals := 159 } : Room) s m args below meth c H locs 0 0 (MQ below (amQ G (oI r0) wz) args s 0 0 (gA G)) (F0 m 174 ls [])) → (∀ r, z = .inr r → some r = some (r0, wz)) → W p l e ({ frames := 7, cells := 0, slots := 0, locals := 159 } : Room) s m args below meth c H locs 0 0 (MQ below (amQ G (oI r0) wz) args s 0 0 (gA G)) (F0 m 130 ls []) := by
            intro n
            induction n with
            | zero =>
              intro y100 w101 ab H locs ls z hF
              unfold p_X11_runScript_130 at hF
              cases hF
            | succ n ih =>
              intro y100 w101 ab H locs ls z hF hh hl kE kR
              unfold p_X11_runScript_130 at hF
              refine lv_iload_n hx hb dX11_runScript_130 rfl (lv_at hl 0 rfl) ?_
              refine lv_iload_n hx hb dX11_runScript_131 rfl (lv_at hl 1 rfl) ?_
              refine lv_icmp_ge (tgt := 174) hx hb dX11_runScript_132 (by decide) (fun hc103 => ?_) (fun hc103 => ?_)
              · have hF := am_pos hc103 hF
                exact kE y100 w101 ab H locs ls (Option.some.inj hF).symm hh (lv_sub hl [0, 1, 2, 3] rfl)
              · have hF := am_neg hc103 hF
                refine lv_aload_n hx hb dX11_runScript_135 rfl (lv_at hl 3 rfl) ?_
                refine lv_iconst (v := (3 : Int32)) hx hb dX11_runScript_136 (by decide) ?_
                refine lv_iload_n hx hb dX11_runScript_137 rfl (lv_at hl 0 rfl) ?_
                refine lv_imul hx hb dX11_runScript_138 ?_
                obtain ⟨⟨r105, w106⟩, hk104, hF⟩ := am_bind hF
                have hF := am_u2 hF
                refine am_call X hh (va_runV (As := [.int ((3 : Int32) * y100)]) (rest := []) X.1 (c_X11_carriesOut l G hk104) (cwV 1 hts gX11_runScript_X11_carriesOut rfl rfl rfl (by decide +kernel) ⟨Nat.le_of_ble_eq_true rfl, Nat.le_of_ble_eq_true rfl⟩) (am_preV X hh 141 12 (by decide) rfl rfl) rfl rfl hl.1 rfl (lv_room (Nat.le_of_ble_eq_true rfl)) dX11_runScript_139 ⟨Nat.le_of_ble_eq_true rfl, Nat.le_of_ble_eq_true rfl⟩) (fun ab H locs hh => ?_)
                refine lv_istore (lv' := [(4, .int r105), (3, .int y100), (1, .int y3), (2, .int y4), (0, .ref (gAd G 141))]) hx hb dX11_runScript_142 hl (by decide) rfl (fun ls hl => ?_)
                refine lv_aload_n hx hb dX11_runScript_144 rfl (lv_at hl 4 rfl) ?_
                refine am_getI X hh 141 12 12 (by decide) rfl rfl (by decide) hwRX11 (show Cond.fieldLink RX11 49 "PlanetWorkshopModel" "thrown" "I" ∈ wsX11_runScript by decide +kernel) rfl dX11_runScript_145 ?_
                refine lv_if_eq (tgt := 168) hx hb dX11_runScript_148 (by decide) (fun hc108 => ?_) (fun hc108 => ?_)
                · have hF := am_pos hc108 hF
                  refine lv_iinc (v := (y100 + (1 : Int32))) (lv' := [(3, .int (y100 + (1 : Int32))), (4, .int r105), (1, .int y3), (2, .int y4), (0, .ref (gAd G 141))]) hx hb dX11_runScript_168 hl (k := 1) rfl rfl (by decide) rfl (fun ls hl => ?_)
                  refine lv_goto (tgt := 130) hx hb dX11_runScript_171 (by decide) ?_
                  exact ih (y100 + (1 : Int32)) w106 ab H locs ls _ hF hh (lv_sub hl [0, 2, 3, 4] rfl) kE kR
                · have hF := am_neg hc108 hF
                  refine lv_aload_n hx hb dX11_runScript_151 rfl (lv_at hl 4 rfl) ?_
                  refine lv_iload_n hx hb dX11_runScript_152 rfl (lv_at hl 1 rfl) ?_
                  refine am_putI X hh 141 12 9 (by decide) rfl rfl (by decide) hwRX11 tyX11 tyX11_ok nmX11 (show Cond.fieldLink RX11 30 "PlanetWorkshopModel" "failedAt" "I" ∈ wsX11_runScript by decide +kernel) rfl rfl rfl rfl dX11_runScript_153 (fun H locs hh => ?_)
                  obtain ⟨w109, hw109, hF⟩ := am_wl hF
                  have hh := AH_eq hw109 hh
                  refine lv_aload_n hx hb dX11_runScript_156 rfl (lv_at hl 4 rfl) ?_
                  refine lv_iconst (v := (2 : Int32)) hx hb dX11_runScript_157 (by decide) ?_
                  refine am_putI X hh 141 12 12 (by decide) rfl rfl (by decide) hwRX11 tyX11 tyX11_ok nmX11 (show Cond.fieldLink RX11 49 "PlanetWorkshopModel" "thrown" "I" ∈ wsX11_runScript by decide +kernel) rfl rfl rfl rfl dX11_runScript_158 (fun H locs hh => ?_)
                  obtain ⟨w110, hw110, hF⟩ := am_wl hF
                  have hh := AH_eq hw110 hh
                  refine lv_aload_n hx hb dX11_runScript_161 rfl (lv_at hl 4 rfl) ?_
                  refine lv_iload hx hb dX11_runScript_162 (lv_at hl 0 rfl) ?_
                  obtain ⟨⟨r112, w113⟩, hk111, hF⟩ := am_bind hF
                  have hF := am_u2 hF
                  refine am_call X hh (va_runV (As := [.int r105]) (rest := []) X.1 (c_X11_kept l G hk111) (cwV 1 hts gX11_runScript_X11_kept rfl rfl rfl (by decide +kernel) ⟨Nat.le_of_ble_eq_true rfl, Nat.le_of_ble_eq_true rfl⟩) (am_preV X hh 141 12 (by decide) rfl rfl) rfl rfl hl.1 rfl (lv_room (Nat.le_of_ble_eq_true rfl)) dX11_runScript_164 ⟨Nat.le_of_ble_eq_true rfl, Nat.le_of_ble_eq_true rfl⟩) (fun ab H locs hh => ?_)
                  have hF := kR _ (Option.some.inj hF).symm
                  exact am_iret X hr hh (fun t ht => am_qw (mk := oI) hF ht) (Nat.le_of_ble_eq_true rfl) (Nat.le_of_ble_eq_true rfl) dX11_runScript_167
          obtain ⟨z115, hz116, hF⟩ := am_bind hF
          refine hlp130 2000 (0 : Int32) w99 ab H locs ls z115 hz116 hh (lv_sub hl [0, 1, 2, 3] rfl) (fun y100 w101 ab H locs ls hz hh hl => ?_) (fun r hz => ?_)
          · subst hz
            have hF := am_zl hF
            have hF := am_u2 hF
            refine lv_aload_n hx hb dX11_runScript_174 rfl (lv_at hl 3 rfl) ?_
            refine lv_aload_n hx hb dX11_runScript_175 rfl (lv_at hl 3 rfl) ?_
            refine lv_iload_n hx hb dX11_runScript_176 rfl (lv_at hl 1 rfl) ?_
            obtain ⟨⟨r118, w119⟩, hk117, hF⟩ := am_bind hF
            have hF := am_u2 hF
            refine am_call X hh (va_runV (As := [.int y3]) (rest := [.ref (gAd G 141)]) X.1 (c_X11_done l G hk117) (cwV 1 hts gX11_runScript_X11_done rfl rfl rfl (by decide +kernel) ⟨Nat.le_of_ble_eq_true rfl, Nat.le_of_ble_eq_true rfl⟩) (am_preV X hh 141 12 (by decide) rfl rfl) rfl rfl hl.1 rfl (lv_room (Nat.le_of_ble_eq_true rfl)) dX11_runScript_177 ⟨Nat.le_of_ble_eq_true rfl, Nat.le_of_ble_eq_true rfl⟩) (fun ab H locs hh => ?_)
            obtain ⟨⟨r122, w123⟩, hk121, hF⟩ := am_bind hF
            have hF := am_u2 hF
            refine am_call X hh (va_runV (As := [.int r118]) (rest := []) X.1 (c_X11_kept l G hk121) (cwV 1 hts gX11_runScript_X11_kept rfl rfl rfl (by decide +kernel) ⟨Nat.le_of_ble_eq_true rfl, Nat.le_of_ble_eq_true rfl⟩) (am_preV X hh 141 12 (by decide) rfl rfl) rfl rfl hl.1 rfl (lv_room (Nat.le_of_ble_eq_true rfl)) dX11_runScript_180 ⟨Nat.le_of_ble_eq_true rfl, Nat.le_of_ble_eq_true rfl⟩) (fun ab H locs hh => ?_)
            exact am_iret X hr hh (fun t ht => am_qw (mk := oI) hF ht) (Nat.le_of_ble_eq_true rfl) (Nat.le_of_ble_eq_true rfl) dX11_runScript_183
          · subst hz
            have hF := am_zr hF
            exact hF
        · have hF := am_neg hc96 hF
          refine lv_aload_n hx hb dX11_runScript_110 rfl (lv_at hl 2 rfl) ?_
          refine lv_aload_n hx hb dX11_runScript_111 rfl (lv_at hl 2 rfl) ?_
          refine am_getI X hh 141 12 15 (by decide) rfl rfl (by decide) hwRX11 (show Cond.fieldLink RX11 231 "PlanetWorkshopModel" "spot" "I" ∈ wsX11_runScript by decide +kernel) rfl dX11_runScript_112 ?_
          refine am_putI X hh 141 12 8 (by decide) rfl rfl (by decide) hwRX11 tyX11 tyX11_ok nmX11 (show Cond.fieldLink RX11 26 "PlanetWorkshopModel" "errorAt" "I" ∈ wsX11_runScript by decide +kernel) rfl rfl rfl rfl dX11_runScript_115 (fun H locs hh => ?_)
          obtain ⟨w125, hw125, hF⟩ := am_wl hF
          have hh := AH_eq hw125 hh
          refine lv_aload_n hx hb dX11_runScript_118 rfl (lv_at hl 2 rfl) ?_
          refine lv_iconst (v := (1 : Int32)) hx hb dX11_runScript_119 (by decide) ?_
          obtain ⟨⟨r127, w128⟩, hk126, hF⟩ := am_bind hF
          have hF := am_u2 hF
          refine am_call X hh (va_runV (As := [.int (1 : Int32)]) (rest := []) X.1 (c_X11_fails l G hk126) (cwV 1 hts gX11_runScript_X11_fails rfl rfl rfl (by decide +kernel) ⟨Nat.le_of_ble_eq_true rfl, Nat.le_of_ble_eq_true rfl⟩) (am_preV X hh 141 12 (by decide) rfl rfl) rfl rfl hl.1 rfl (lv_room (Nat.le_of_ble_eq_true rfl)) dX11_runScript_120 ⟨Nat.le_of_ble_eq_true rfl, Nat.le_of_ble_eq_true rfl⟩) (fun ab H locs hh => ?_)
          exact am_iret X hr hh (fun t ht => am_qw (mk := oI) hF ht) (Nat.le_of_ble_eq_true rfl) (Nat.le_of_ble_eq_true rfl) dX11_runScript_123
set_option maxHeartbeats 4000000 in
set_option maxRecDepth 100000 in
theorem c_X11_errorPosition (l : Launch) (G : GG) {w : Wd} {r0 : Int32} {w1 : Wd} (hF : f_X11_errorPosition w = some (r0, w1)) : Met l yX11_errorPosition wsX11_errorPosition ({ frames := 1, cells := 0, slots := 0, locals := 21 } : Room) (va_Pc [.ref (gAd G 141)] (Rel G w)) (amQ G (oI r0) w1) 0 0 (gA G) := by
  refine am_met (own := RX11) (cc := cX11_errorPosition) (maxL := 1) (ret := (some .int)) (by decide +kernel) rfl rfl (Nat.le_of_ble_eq_true rfl) ?_
  intro p e s m args below meth c ab H locs ls X hr hh hl
  have hx := X.1.1; have hb := X.1.2.1; have hml := X.1.2.2.1; have hown := X.1.2.2.2.1; have hts := X.1.2.2.2.2
  have hl : lv_has ls 1 [(0, .ref (gAd G 141))] := hl
  have hwRX11 : ∀ z ∈ u_ws RX11 TX11 18, z ∈ wsX11_errorPosition := by decide +kernel
  unfold f_X11_errorPosition at hF
  refine lv_aload_n hx hb dX11_errorPosition_0 rfl (lv_at hl 0 rfl) ?_
  refine am_getI X hh 141 12 8 (by decide) rfl rfl (by decide) hwRX11 (show Cond.fieldLink RX11 26 "PlanetWorkshopModel" "errorAt" "I" ∈ wsX11_errorPosition by decide +kernel) rfl dX11_errorPosition_1 ?_
  refine lv_iconst (v := (-1 : Int32)) hx hb dX11_errorPosition_4 (by decide) ?_
  refine lv_icmp_ne (tgt := 16) hx hb dX11_errorPosition_5 (by decide) (fun hc1 => ?_) (fun hc1 => ?_)
  · have hF := am_neg hc1 hF
    refine lv_aload_n hx hb dX11_errorPosition_16 rfl (lv_at hl 0 rfl) ?_
    refine lv_aload_n hx hb dX11_errorPosition_17 rfl (lv_at hl 0 rfl) ?_
    refine am_getI X hh 141 12 8 (by decide) rfl rfl (by decide) hwRX11 (show Cond.fieldLink RX11 26 "PlanetWorkshopModel" "errorAt" "I" ∈ wsX11_errorPosition by decide +kernel) rfl dX11_errorPosition_18 ?_
    obtain ⟨⟨r3, w4⟩, hk2, hF⟩ := am_bind hF
    have hF := am_u2 hF
    refine am_call X hh (va_runV (As := [.int (gI w 141 8)]) (rest := []) X.1 (c_X11_done l G hk2) (cwV 1 hts gX11_errorPosition_X11_done rfl rfl rfl (by decide +kernel) ⟨Nat.le_of_ble_eq_true rfl, Nat.le_of_ble_eq_true rfl⟩) (am_preV X hh 141 12 (by decide) rfl rfl) rfl rfl hl.1 rfl (lv_room (Nat.le_of_ble_eq_true rfl)) dX11_errorPosition_21 ⟨Nat.le_of_ble_eq_true rfl, Nat.le_of_ble_eq_true rfl⟩) (fun ab H locs hh => ?_)
    exact am_iret X hr hh (fun t ht => am_qw (mk := oI) hF ht) (Nat.le_of_ble_eq_true rfl) (Nat.le_of_ble_eq_true rfl) dX11_errorPosition_24
  · have hF := am_pos hc1 hF
    refine lv_aload_n hx hb dX11_errorPosition_8 rfl (lv_at hl 0 rfl) ?_
    refine lv_iconst (v := (1 : Int32)) hx hb dX11_errorPosition_9 (by decide) ?_
    obtain ⟨⟨r7, w8⟩, hk6, hF⟩ := am_bind hF
    have hF := am_u2 hF
    refine am_call X hh (va_runV (As := [.int (1 : Int32)]) (rest := []) X.1 (c_X11_fails l G hk6) (cwV 1 hts gX11_errorPosition_X11_fails rfl rfl rfl (by decide +kernel) ⟨Nat.le_of_ble_eq_true rfl, Nat.le_of_ble_eq_true rfl⟩) (am_preV X hh 141 12 (by decide) rfl rfl) rfl rfl hl.1 rfl (lv_room (Nat.le_of_ble_eq_true rfl)) dX11_errorPosition_10 ⟨Nat.le_of_ble_eq_true rfl, Nat.le_of_ble_eq_true rfl⟩) (fun ab H locs hh => ?_)
    refine lv_goto (tgt := 24) hx hb dX11_errorPosition_13 (by decide) ?_
    exact am_iret X hr hh (fun t ht => am_qw (mk := oI) hF ht) (Nat.le_of_ble_eq_true rfl) (Nat.le_of_ble_eq_true rfl) dX11_errorPosition_24
set_option maxHeartbeats 4000000 in
set_option maxRecDepth 100000 in
theorem c_X11_failedCommand (l : Launch) (G : GG) {w : Wd} {r0 : Int32} {w1 : Wd} (hF : f_X11_failedCommand w = some (r0, w1)) : Met l yX11_failedCommand wsX11_failedCommand ({ frames := 1, cells := 0, slots := 0, locals := 21 } : Room) (va_Pc [.ref (gAd G 141)] (Rel G w)) (amQ G (oI r0) w1) 0 0 (gA G) := by
  refine am_met (own := RX11) (cc := cX11_failedCommand) (maxL := 1) (ret := (some .int)) (by decide +kernel) rfl rfl (Nat.le_of_ble_eq_true rfl) ?_
  intro p e s m args below meth c ab H locs ls X hr hh hl
  have hx := X.1.1; have hb := X.1.2.1; have hml := X.1.2.2.1; have hown := X.1.2.2.2.1; have hts := X.1.2.2.2.2
  have hl : lv_has ls 1 [(0, .ref (gAd G 141))] := hl
  have hwRX11 : ∀ z ∈ u_ws RX11 TX11 18, z ∈ wsX11_failedCommand := by decide +kernel
  unfold f_X11_failedCommand at hF
  refine lv_aload_n hx hb dX11_failedCommand_0 rfl (lv_at hl 0 rfl) ?_
  refine am_getI X hh 141 12 9 (by decide) rfl rfl (by decide) hwRX11 (show Cond.fieldLink RX11 30 "PlanetWorkshopModel" "failedAt" "I" ∈ wsX11_failedCommand by decide +kernel) rfl dX11_failedCommand_1 ?_
  refine lv_iconst (v := (-1 : Int32)) hx hb dX11_failedCommand_4 (by decide) ?_
  refine lv_icmp_ne (tgt := 16) hx hb dX11_failedCommand_5 (by decide) (fun hc1 => ?_) (fun hc1 => ?_)
  · have hF := am_neg hc1 hF
    refine lv_aload_n hx hb dX11_failedCommand_16 rfl (lv_at hl 0 rfl) ?_
    refine lv_aload_n hx hb dX11_failedCommand_17 rfl (lv_at hl 0 rfl) ?_
    refine am_getI X hh 141 12 9 (by decide) rfl rfl (by decide) hwRX11 (show Cond.fieldLink RX11 30 "PlanetWorkshopModel" "failedAt" "I" ∈ wsX11_failedCommand by decide +kernel) rfl dX11_failedCommand_18 ?_
    obtain ⟨⟨r3, w4⟩, hk2, hF⟩ := am_bind hF
    have hF := am_u2 hF
    refine am_call X hh (va_runV (As := [.int (gI w 141 9)]) (rest := []) X.1 (c_X11_done l G hk2) (cwV 1 hts gX11_failedCommand_X11_done rfl rfl rfl (by decide +kernel) ⟨Nat.le_of_ble_eq_true rfl, Nat.le_of_ble_eq_true rfl⟩) (am_preV X hh 141 12 (by decide) rfl rfl) rfl rfl hl.1 rfl (lv_room (Nat.le_of_ble_eq_true rfl)) dX11_failedCommand_21 ⟨Nat.le_of_ble_eq_true rfl, Nat.le_of_ble_eq_true rfl⟩) (fun ab H locs hh => ?_)
    exact am_iret X hr hh (fun t ht => am_qw (mk := oI) hF ht) (Nat.le_of_ble_eq_true rfl) (Nat.le_of_ble_eq_true rfl) dX11_failedCommand_24
  · have hF := am_pos hc1 hF
    refine lv_aload_n hx hb dX11_failedCommand_8 rfl (lv_at hl 0 rfl) ?_
    refine lv_iconst (v := (1 : Int32)) hx hb dX11_failedCommand_9 (by decide) ?_
    obtain ⟨⟨r7, w8⟩, hk6, hF⟩ := am_bind hF
    have hF := am_u2 hF
    refine am_call X hh (va_runV (As := [.int (1 : Int32)]) (rest := []) X.1 (c_X11_fails l G hk6) (cwV 1 hts gX11_failedCommand_X11_fails rfl rfl rfl (by decide +kernel) ⟨Nat.le_of_ble_eq_true rfl, Nat.le_of_ble_eq_true rfl⟩) (am_preV X hh 141 12 (by decide) rfl rfl) rfl rfl hl.1 rfl (lv_room (Nat.le_of_ble_eq_true rfl)) dX11_failedCommand_10 ⟨Nat.le_of_ble_eq_true rfl, Nat.le_of_ble_eq_true rfl⟩) (fun ab H locs hh => ?_)
    refine lv_goto (tgt := 24) hx hb dX11_failedCommand_13 (by decide) ?_
    exact am_iret X hr hh (fun t ht => am_qw (mk := oI) hF ht) (Nat.le_of_ble_eq_true rfl) (Nat.le_of_ble_eq_true rfl) dX11_failedCommand_24
set_option maxHeartbeats 4000000 in
set_option maxRecDepth 100000 in
theorem c_X11_undo (l : Launch) (G : GG) {w : Wd} {r0 : Int32} {w1 : Wd} (hF : f_X11_undo w = some (r0, w1)) : Met l yX11_undo wsX11_undo ({ frames := 1, cells := 0, slots := 0, locals := 24 } : Room) (va_Pc [.ref (gAd G 141)] (Rel G w)) (amQ G (oI r0) w1) 0 0 (gA G) := by
  refine am_met (own := RX11) (cc := cX11_undo) (maxL := 1) (ret := (some .int)) (by decide +kernel) rfl rfl (Nat.le_of_ble_eq_true rfl) ?_
  intro p e s m args below meth c ab H locs ls X hr hh hl
  have hx := X.1.1; have hb := X.1.2.1; have hml := X.1.2.2.1; have hown := X.1.2.2.2.1; have hts := X.1.2.2.2.2
  have hl : lv_has ls 1 [(0, .ref (gAd G 141))] := hl
  have hwRX11 : ∀ z ∈ u_ws RX11 TX11 18, z ∈ wsX11_undo := by decide +kernel
  unfold f_X11_undo at hF
  refine lv_aload_n hx hb dX11_undo_0 rfl (lv_at hl 0 rfl) ?_
  refine am_getI X hh 141 12 3 (by decide) rfl rfl (by decide) hwRX11 (show Cond.fieldLink RX11 58 "PlanetWorkshopModel" "changes" "I" ∈ wsX11_undo by decide +kernel) rfl dX11_undo_1 ?_
  refine lv_if_ne (tgt := 13) hx hb dX11_undo_4 (by decide) (fun hc1 => ?_) (fun hc1 => ?_)
  · have hF := am_neg hc1 hF
    refine lv_aload_n hx hb dX11_undo_13 rfl (lv_at hl 0 rfl) ?_
    refine lv_dup hx hb dX11_undo_14 rfl ?_
    refine am_getI X hh 141 12 3 (by decide) rfl rfl (by decide) hwRX11 (show Cond.fieldLink RX11 58 "PlanetWorkshopModel" "changes" "I" ∈ wsX11_undo by decide +kernel) rfl dX11_undo_15 ?_
    refine lv_iconst (v := (1 : Int32)) hx hb dX11_undo_18 (by decide) ?_
    refine lv_isub hx hb dX11_undo_19 ?_
    refine am_putI X hh 141 12 3 (by decide) rfl rfl (by decide) hwRX11 tyX11 tyX11_ok nmX11 (show Cond.fieldLink RX11 58 "PlanetWorkshopModel" "changes" "I" ∈ wsX11_undo by decide +kernel) rfl rfl rfl rfl dX11_undo_20 (fun H locs hh => ?_)
    obtain ⟨w2, hw2, hF⟩ := am_wl hF
    have hh := AH_eq hw2 hh
    refine lv_aload_n hx hb dX11_undo_23 rfl (lv_at hl 0 rfl) ?_
    refine am_getR X hh 141 12 2 144 (by decide) rfl rfl (by decide) hwRX11 (show Cond.fieldLink RX11 16 "PlanetWorkshopModel" "history" "[J" ∈ wsX11_undo by decide +kernel) rfl dX11_undo_24 ?_
    refine lv_aload_n hx hb dX11_undo_27 rfl (lv_at hl 0 rfl) ?_
    refine am_getI X hh 141 12 3 (by decide) rfl rfl (by decide) hwRX11 (show Cond.fieldLink RX11 58 "PlanetWorkshopModel" "changes" "I" ∈ wsX11_undo by decide +kernel) rfl dX11_undo_28 ?_
    refine lv_sipush (v := (192 : Int32)) hx hb dX11_undo_31 (by decide) ?_
    refine lv_imul hx hb dX11_undo_34 ?_
    refine lv_aload_n hx hb dX11_undo_35 rfl (lv_at hl 0 rfl) ?_
    refine am_getR X hh 141 12 0 142 (by decide) rfl rfl (by decide) hwRX11 (show Cond.fieldLink RX11 7 "PlanetWorkshopModel" "g" "[J" ∈ wsX11_undo by decide +kernel) rfl dX11_undo_36 ?_
    refine lv_iconst (v := (0 : Int32)) hx hb dX11_undo_39 (by decide) ?_
    obtain ⟨w5, hk3, hF⟩ := am_bind hF
    refine am_call X hh (va_runS (As := [.ref (gAd G 144), .int ((gI w2 141 3) * (192 : Int32)), .ref (gAd G 142), .int (0 : Int32)]) (rest := []) X.1 (c_X11_copy l G (la_of (by decide) (by decide) (fun _ => rfl)) (la_of (by decide) (by decide) (fun _ => rfl)) hk3) (va_cwS 4 hts gX11_undo_X11_copy rfl rfl rfl (by decide +kernel) ⟨Nat.le_of_ble_eq_true rfl, Nat.le_of_ble_eq_true rfl⟩) (am_preS X hh) rfl rfl hl.1 rfl (lv_room (Nat.le_of_ble_eq_true rfl)) dX11_undo_40 ⟨Nat.le_of_ble_eq_true rfl, Nat.le_of_ble_eq_true rfl⟩) (fun ab H locs hh => ?_)
    refine lv_aload_n hx hb dX11_undo_43 rfl (lv_at hl 0 rfl) ?_
    refine lv_aload_n hx hb dX11_undo_44 rfl (lv_at hl 0 rfl) ?_
    refine am_getI X hh 141 12 3 (by decide) rfl rfl (by decide) hwRX11 (show Cond.fieldLink RX11 58 "PlanetWorkshopModel" "changes" "I" ∈ wsX11_undo by decide +kernel) rfl dX11_undo_45 ?_
    obtain ⟨⟨r7, w8⟩, hk6, hF⟩ := am_bind hF
    have hF := am_u2 hF
    refine am_call X hh (va_runV (As := [.int (gI w5 141 3)]) (rest := []) X.1 (c_X11_done l G hk6) (cwV 1 hts gX11_undo_X11_done rfl rfl rfl (by decide +kernel) ⟨Nat.le_of_ble_eq_true rfl, Nat.le_of_ble_eq_true rfl⟩) (am_preV X hh 141 12 (by decide) rfl rfl) rfl rfl hl.1 rfl (lv_room (Nat.le_of_ble_eq_true rfl)) dX11_undo_48 ⟨Nat.le_of_ble_eq_true rfl, Nat.le_of_ble_eq_true rfl⟩) (fun ab H locs hh => ?_)
    exact am_iret X hr hh (fun t ht => am_qw (mk := oI) hF ht) (Nat.le_of_ble_eq_true rfl) (Nat.le_of_ble_eq_true rfl) dX11_undo_51
  · have hF := am_pos hc1 hF
    refine lv_aload_n hx hb dX11_undo_7 rfl (lv_at hl 0 rfl) ?_
    refine lv_iconst (v := (1 : Int32)) hx hb dX11_undo_8 (by decide) ?_
    obtain ⟨⟨r11, w12⟩, hk10, hF⟩ := am_bind hF
    have hF := am_u2 hF
    refine am_call X hh (va_runV (As := [.int (1 : Int32)]) (rest := []) X.1 (c_X11_fails l G hk10) (cwV 1 hts gX11_undo_X11_fails rfl rfl rfl (by decide +kernel) ⟨Nat.le_of_ble_eq_true rfl, Nat.le_of_ble_eq_true rfl⟩) (am_preV X hh 141 12 (by decide) rfl rfl) rfl rfl hl.1 rfl (lv_room (Nat.le_of_ble_eq_true rfl)) dX11_undo_9 ⟨Nat.le_of_ble_eq_true rfl, Nat.le_of_ble_eq_true rfl⟩) (fun ab H locs hh => ?_)
    exact am_iret X hr hh (fun t ht => am_qw (mk := oI) hF ht) (Nat.le_of_ble_eq_true rfl) (Nat.le_of_ble_eq_true rfl) dX11_undo_12
set_option maxHeartbeats 4000000 in
set_option maxRecDepth 100000 in
theorem c_X11_save (l : Launch) (G : GG) {w : Wd} {r0 : Int32} {w1 : Wd} (hF : f_X11_save w = some (r0, w1)) : Met l yX11_save wsX11_save ({ frames := 1, cells := 0, slots := 0, locals := 24 } : Room) (va_Pc [.ref (gAd G 141)] (Rel G w)) (amQ G (oI r0) w1) 0 0 (gA G) := by
  refine am_met (own := RX11) (cc := cX11_save) (maxL := 1) (ret := (some .int)) (by decide +kernel) rfl rfl (Nat.le_of_ble_eq_true rfl) ?_
  intro p e s m args below meth c ab H locs ls X hr hh hl
  have hx := X.1.1; have hb := X.1.2.1; have hml := X.1.2.2.1; have hown := X.1.2.2.2.1; have hts := X.1.2.2.2.2
  have hl : lv_has ls 1 [(0, .ref (gAd G 141))] := hl
  have hwRX11 : ∀ z ∈ u_ws RX11 TX11 18, z ∈ wsX11_save := by decide +kernel
  unfold f_X11_save at hF
  refine lv_aload_n hx hb dX11_save_0 rfl (lv_at hl 0 rfl) ?_
  refine am_getR X hh 141 12 0 142 (by decide) rfl rfl (by decide) hwRX11 (show Cond.fieldLink RX11 7 "PlanetWorkshopModel" "g" "[J" ∈ wsX11_save by decide +kernel) rfl dX11_save_1 ?_
  refine lv_iconst (v := (0 : Int32)) hx hb dX11_save_4 (by decide) ?_
  refine lv_aload_n hx hb dX11_save_5 rfl (lv_at hl 0 rfl) ?_
  refine am_getR X hh 141 12 4 145 (by decide) rfl rfl (by decide) hwRX11 (show Cond.fieldLink RX11 19 "PlanetWorkshopModel" "savedState" "[J" ∈ wsX11_save by decide +kernel) rfl dX11_save_6 ?_
  refine lv_iconst (v := (0 : Int32)) hx hb dX11_save_9 (by decide) ?_
  obtain ⟨w3, hk1, hF⟩ := am_bind hF
  refine am_call X hh (va_runS (As := [.ref (gAd G 142), .int (0 : Int32), .ref (gAd G 145), .int (0 : Int32)]) (rest := []) X.1 (c_X11_copy l G (la_of (by decide) (by decide) (fun _ => rfl)) (la_of (by decide) (by decide) (fun _ => rfl)) hk1) (va_cwS 4 hts gX11_save_X11_copy rfl rfl rfl (by decide +kernel) ⟨Nat.le_of_ble_eq_true rfl, Nat.le_of_ble_eq_true rfl⟩) (am_preS X hh) rfl rfl hl.1 rfl (lv_room (Nat.le_of_ble_eq_true rfl)) dX11_save_10 ⟨Nat.le_of_ble_eq_true rfl, Nat.le_of_ble_eq_true rfl⟩) (fun ab H locs hh => ?_)
  refine lv_aload_n hx hb dX11_save_13 rfl (lv_at hl 0 rfl) ?_
  refine lv_iconst (v := (1 : Int32)) hx hb dX11_save_14 (by decide) ?_
  refine am_putI X hh 141 12 5 (by decide) rfl rfl (by decide) hwRX11 tyX11 tyX11_ok nmX11 (show Cond.fieldLink RX11 269 "PlanetWorkshopModel" "hasSaved" "Z" ∈ wsX11_save by decide +kernel) rfl rfl rfl rfl dX11_save_15 (fun H locs hh => ?_)
  obtain ⟨w4, hw4, hF⟩ := am_wl hF
  have hh := AH_eq hw4 hh
  refine lv_aload_n hx hb dX11_save_18 rfl (lv_at hl 0 rfl) ?_
  refine lv_aload_n hx hb dX11_save_19 rfl (lv_at hl 0 rfl) ?_
  refine lv_iconst (v := (0 : Int32)) hx hb dX11_save_20 (by decide) ?_
  obtain ⟨r6, hk5, hF⟩ := am_bind hF
  refine am_call X hh (va_runV (As := [.int (0 : Int32)]) (rest := [.ref (gAd G 141)]) X.1 (c_X11_at l G hk5) (cwV 1 hts gX11_save_X11_at rfl rfl rfl (by decide +kernel) ⟨Nat.le_of_ble_eq_true rfl, Nat.le_of_ble_eq_true rfl⟩) (am_preV X hh 141 12 (by decide) rfl rfl) rfl rfl hl.1 rfl (lv_room (Nat.le_of_ble_eq_true rfl)) dX11_save_21 ⟨Nat.le_of_ble_eq_true rfl, Nat.le_of_ble_eq_true rfl⟩) (fun ab H locs hh => ?_)
  obtain ⟨⟨r8, w9⟩, hk7, hF⟩ := am_bind hF
  have hF := am_u2 hF
  refine am_call X hh (va_runV (As := [.int r6]) (rest := []) X.1 (c_X11_done l G hk7) (cwV 1 hts gX11_save_X11_done rfl rfl rfl (by decide +kernel) ⟨Nat.le_of_ble_eq_true rfl, Nat.le_of_ble_eq_true rfl⟩) (am_preV X hh 141 12 (by decide) rfl rfl) rfl rfl hl.1 rfl (lv_room (Nat.le_of_ble_eq_true rfl)) dX11_save_24 ⟨Nat.le_of_ble_eq_true rfl, Nat.le_of_ble_eq_true rfl⟩) (fun ab H locs hh => ?_)
  exact am_iret X hr hh (fun t ht => am_qw (mk := oI) hF ht) (Nat.le_of_ble_eq_true rfl) (Nat.le_of_ble_eq_true rfl) dX11_save_27
set_option maxHeartbeats 4000000 in
set_option maxRecDepth 100000 in
theorem c_X11_restore (l : Launch) (G : GG) {w : Wd} {r0 : Int32} {w1 : Wd} (hF : f_X11_restore w = some (r0, w1)) : Met l yX11_restore wsX11_restore ({ frames := 1, cells := 0, slots := 0, locals := 24 } : Room) (va_Pc [.ref (gAd G 141)] (Rel G w)) (amQ G (oI r0) w1) 0 0 (gA G) := by
  refine am_met (own := RX11) (cc := cX11_restore) (maxL := 1) (ret := (some .int)) (by decide +kernel) rfl rfl (Nat.le_of_ble_eq_true rfl) ?_
  intro p e s m args below meth c ab H locs ls X hr hh hl
  have hx := X.1.1; have hb := X.1.2.1; have hml := X.1.2.2.1; have hown := X.1.2.2.2.1; have hts := X.1.2.2.2.2
  have hl : lv_has ls 1 [(0, .ref (gAd G 141))] := hl
  have hwRX11 : ∀ z ∈ u_ws RX11 TX11 18, z ∈ wsX11_restore := by decide +kernel
  unfold f_X11_restore at hF
  refine lv_aload_n hx hb dX11_restore_0 rfl (lv_at hl 0 rfl) ?_
  refine am_getI X hh 141 12 5 (by decide) rfl rfl (by decide) hwRX11 (show Cond.fieldLink RX11 269 "PlanetWorkshopModel" "hasSaved" "Z" ∈ wsX11_restore by decide +kernel) rfl dX11_restore_1 ?_
  refine lv_if_ne (tgt := 13) hx hb dX11_restore_4 (by decide) (fun hc1 => ?_) (fun hc1 => ?_)
  · have hF := am_neg hc1 hF
    refine lv_aload_n hx hb dX11_restore_13 rfl (lv_at hl 0 rfl) ?_
    refine am_getR X hh 141 12 4 145 (by decide) rfl rfl (by decide) hwRX11 (show Cond.fieldLink RX11 19 "PlanetWorkshopModel" "savedState" "[J" ∈ wsX11_restore by decide +kernel) rfl dX11_restore_14 ?_
    refine lv_iconst (v := (0 : Int32)) hx hb dX11_restore_17 (by decide) ?_
    refine lv_aload_n hx hb dX11_restore_18 rfl (lv_at hl 0 rfl) ?_
    refine am_getR X hh 141 12 0 142 (by decide) rfl rfl (by decide) hwRX11 (show Cond.fieldLink RX11 7 "PlanetWorkshopModel" "g" "[J" ∈ wsX11_restore by decide +kernel) rfl dX11_restore_19 ?_
    refine lv_iconst (v := (0 : Int32)) hx hb dX11_restore_22 (by decide) ?_
    obtain ⟨w4, hk2, hF⟩ := am_bind hF
    refine am_call X hh (va_runS (As := [.ref (gAd G 145), .int (0 : Int32), .ref (gAd G 142), .int (0 : Int32)]) (rest := []) X.1 (c_X11_copy l G (la_of (by decide) (by decide) (fun _ => rfl)) (la_of (by decide) (by decide) (fun _ => rfl)) hk2) (va_cwS 4 hts gX11_restore_X11_copy rfl rfl rfl (by decide +kernel) ⟨Nat.le_of_ble_eq_true rfl, Nat.le_of_ble_eq_true rfl⟩) (am_preS X hh) rfl rfl hl.1 rfl (lv_room (Nat.le_of_ble_eq_true rfl)) dX11_restore_23 ⟨Nat.le_of_ble_eq_true rfl, Nat.le_of_ble_eq_true rfl⟩) (fun ab H locs hh => ?_)
    refine lv_aload_n hx hb dX11_restore_26 rfl (lv_at hl 0 rfl) ?_
    refine lv_iconst (v := (0 : Int32)) hx hb dX11_restore_27 (by decide) ?_
    refine am_putI X hh 141 12 3 (by decide) rfl rfl (by decide) hwRX11 tyX11 tyX11_ok nmX11 (show Cond.fieldLink RX11 58 "PlanetWorkshopModel" "changes" "I" ∈ wsX11_restore by decide +kernel) rfl rfl rfl rfl dX11_restore_28 (fun H locs hh => ?_)
    obtain ⟨w5, hw5, hF⟩ := am_wl hF
    have hh := AH_eq hw5 hh
    refine lv_aload_n hx hb dX11_restore_31 rfl (lv_at hl 0 rfl) ?_
    refine lv_aload_n hx hb dX11_restore_32 rfl (lv_at hl 0 rfl) ?_
    refine lv_iconst (v := (0 : Int32)) hx hb dX11_restore_33 (by decide) ?_
    obtain ⟨r7, hk6, hF⟩ := am_bind hF
    refine am_call X hh (va_runV (As := [.int (0 : Int32)]) (rest := [.ref (gAd G 141)]) X.1 (c_X11_at l G hk6) (cwV 1 hts gX11_restore_X11_at rfl rfl rfl (by decide +kernel) ⟨Nat.le_of_ble_eq_true rfl, Nat.le_of_ble_eq_true rfl⟩) (am_preV X hh 141 12 (by decide) rfl rfl) rfl rfl hl.1 rfl (lv_room (Nat.le_of_ble_eq_true rfl)) dX11_restore_34 ⟨Nat.le_of_ble_eq_true rfl, Nat.le_of_ble_eq_true rfl⟩) (fun ab H locs hh => ?_)
    obtain ⟨⟨r9, w10⟩, hk8, hF⟩ := am_bind hF
    have hF := am_u2 hF
    refine am_call X hh (va_runV (As := [.int r7]) (rest := []) X.1 (c_X11_done l G hk8) (cwV 1 hts gX11_restore_X11_done rfl rfl rfl (by decide +kernel) ⟨Nat.le_of_ble_eq_true rfl, Nat.le_of_ble_eq_true rfl⟩) (am_preV X hh 141 12 (by decide) rfl rfl) rfl rfl hl.1 rfl (lv_room (Nat.le_of_ble_eq_true rfl)) dX11_restore_37 ⟨Nat.le_of_ble_eq_true rfl, Nat.le_of_ble_eq_true rfl⟩) (fun ab H locs hh => ?_)
    exact am_iret X hr hh (fun t ht => am_qw (mk := oI) hF ht) (Nat.le_of_ble_eq_true rfl) (Nat.le_of_ble_eq_true rfl) dX11_restore_40
  · have hF := am_pos hc1 hF
    refine lv_aload_n hx hb dX11_restore_7 rfl (lv_at hl 0 rfl) ?_
    refine lv_iconst (v := (1 : Int32)) hx hb dX11_restore_8 (by decide) ?_
    obtain ⟨⟨r13, w14⟩, hk12, hF⟩ := am_bind hF
    have hF := am_u2 hF
    refine am_call X hh (va_runV (As := [.int (1 : Int32)]) (rest := []) X.1 (c_X11_fails l G hk12) (cwV 1 hts gX11_restore_X11_fails rfl rfl rfl (by decide +kernel) ⟨Nat.le_of_ble_eq_true rfl, Nat.le_of_ble_eq_true rfl⟩) (am_preV X hh 141 12 (by decide) rfl rfl) rfl rfl hl.1 rfl (lv_room (Nat.le_of_ble_eq_true rfl)) dX11_restore_9 ⟨Nat.le_of_ble_eq_true rfl, Nat.le_of_ble_eq_true rfl⟩) (fun ab H locs hh => ?_)
    exact am_iret X hr hh (fun t ht => am_qw (mk := oI) hF ht) (Nat.le_of_ble_eq_true rfl) (Nat.le_of_ble_eq_true rfl) dX11_restore_12
