set_option maxHeartbeats 4000000 in
set_option maxRecDepth 100000 in
theorem c_X11_parsesCommand (l : Launch) (G : GG) {w : Wd} {x1 : Int32} {w1 : Wd} (hF : f_X11_parsesCommand w x1 = some w1) : Met l yX11_parsesCommand wsX11_parsesCommand ({ frames := 5, cells := 0, slots := 0, locals := 108 } : Room) (va_Pc [.ref (gAd G 141), .int x1] (Rel G w)) (amQ G none w1) 0 0 (gA G) := by
  refine am_met (own := RX11) (cc := cX11_parsesCommand) (maxL := 3) (ret := none) (by decide +kernel) rfl rfl (Nat.le_of_ble_eq_true rfl) ?_
  intro p e s m args below meth c ab H locs ls X hr hh hl
  have hx := X.1.1; have hb := X.1.2.1; have hml := X.1.2.2.1; have hown := X.1.2.2.2.1; have hts := X.1.2.2.2.2
  have hl : lv_has ls 3 [(0, .ref (gAd G 141)), (1, .int x1)] := hl
  have hwRX11 : ∀ z ∈ u_ws RX11 TX11 18, z ∈ wsX11_parsesCommand := by decide +kernel
  unfold f_X11_parsesCommand at hF
  refine lv_aload_n hx hb dX11_parsesCommand_0 rfl (lv_at hl 0 rfl) ?_
  obtain ⟨r2, hk1, hF⟩ := am_bind hF
  refine am_call X hh (va_runV (As := []) (rest := []) X.1 (c_X11_here l G hk1) (cwV 0 hts gX11_parsesCommand_X11_here rfl rfl rfl (by decide +kernel) ⟨Nat.le_of_ble_eq_true rfl, Nat.le_of_ble_eq_true rfl⟩) (am_preV X hh 141 12 (by decide) rfl rfl) rfl rfl hl.1 rfl (lv_room (Nat.le_of_ble_eq_true rfl)) dX11_parsesCommand_1 ⟨Nat.le_of_ble_eq_true rfl, Nat.le_of_ble_eq_true rfl⟩) (fun ab H locs hh => ?_)
  refine lv_istore_n (lv' := [(2, .int r2), (0, .ref (gAd G 141)), (1, .int x1)]) hx hb dX11_parsesCommand_4 rfl hl (by decide) rfl (fun ls hl => ?_)
  refine lv_aload_n hx hb dX11_parsesCommand_5 rfl (lv_at hl 1 rfl) ?_
  refine lv_dup hx hb dX11_parsesCommand_6 rfl ?_
  refine am_getI X hh 141 12 15 (by decide) rfl rfl (by decide) hwRX11 (show Cond.fieldLink RX11 231 "PlanetWorkshopModel" "spot" "I" ∈ wsX11_parsesCommand by decide +kernel) rfl dX11_parsesCommand_7 ?_
  refine lv_iconst (v := (1 : Int32)) hx hb dX11_parsesCommand_10 (by decide) ?_
  refine lv_iadd hx hb dX11_parsesCommand_11 ?_
  refine am_putI X hh 141 12 15 (by decide) rfl rfl (by decide) hwRX11 tyX11 tyX11_ok nmX11 (show Cond.fieldLink RX11 231 "PlanetWorkshopModel" "spot" "I" ∈ wsX11_parsesCommand by decide +kernel) rfl rfl rfl rfl dX11_parsesCommand_12 (fun H locs hh => ?_)
  obtain ⟨w3, hw3, hF⟩ := am_wl hF
  have hh := AH_eq hw3 hh
  refine lv_aload_n hx hb dX11_parsesCommand_15 rfl (lv_at hl 1 rfl) ?_
  refine am_getR X hh 141 12 17 150 (by decide) rfl rfl (by decide) hwRX11 (show Cond.fieldLink RX11 43 "PlanetWorkshopModel" "parsed" "[I" ∈ wsX11_parsesCommand by decide +kernel) rfl dX11_parsesCommand_16 ?_
  refine lv_iload_n hx hb dX11_parsesCommand_19 rfl (lv_at hl 2 rfl) ?_
  refine lv_iload_n hx hb dX11_parsesCommand_20 rfl (lv_at hl 0 rfl) ?_
  obtain ⟨hq4, hF⟩ := am_ifR hF
  refine am_iast X hh 150 (by decide) rfl hq4 dX11_parsesCommand_21 (fun H locs hh => ?_)
  obtain ⟨w5, hw5, hF⟩ := am_wl hF
  have hh := AH_eq hw5 hh
  refine lv_iload_n hx hb dX11_parsesCommand_22 rfl (lv_at hl 0 rfl) ?_
  by_cases hs6 : r2 = (97 : Int32)
  · have hF := am_pos hs6 hF
    refine am_tableIn (k := 0) (tgt := 172) hx hb dX11_parsesCommand_23 hs6 (by decide) rfl (by decide) ?_
    refine lv_aload_n hx hb dX11_parsesCommand_172 rfl (lv_at hl 1 rfl) ?_
    refine lv_bipush (v := (120 : Int32)) hx hb dX11_parsesCommand_173 (by decide) ?_
    refine lv_bipush (v := (108 : Int32)) hx hb dX11_parsesCommand_175 (by decide) ?_
    refine lv_bipush (v := (101 : Int32)) hx hb dX11_parsesCommand_177 (by decide) ?_
    obtain ⟨w9, hk7, hF⟩ := am_bind hF
    refine am_call X hh (va_runV (As := [.int (120 : Int32), .int (108 : Int32), .int (101 : Int32)]) (rest := []) X.1 (c_X11_needsThree l G hk7) (cwV 3 hts gX11_parsesCommand_X11_needsThree rfl rfl rfl (by decide +kernel) ⟨Nat.le_of_ble_eq_true rfl, Nat.le_of_ble_eq_true rfl⟩) (am_preV X hh 141 12 (by decide) rfl rfl) rfl rfl hl.1 rfl (lv_room (Nat.le_of_ble_eq_true rfl)) dX11_parsesCommand_179 ⟨Nat.le_of_ble_eq_true rfl, Nat.le_of_ble_eq_true rfl⟩) (fun ab H locs hh => ?_)
    refine lv_aload_n hx hb dX11_parsesCommand_182 rfl (lv_at hl 1 rfl) ?_
    refine lv_iload_n hx hb dX11_parsesCommand_183 rfl (lv_at hl 2 rfl) ?_
    obtain ⟨w12, hk10, hF⟩ := am_bind hF
    refine am_call X hh (va_runV (As := [.int x1]) (rest := []) X.1 (c_X11_parsesTwo l G hk10) (cwV 1 hts gX11_parsesCommand_X11_parsesTwo rfl rfl rfl (by decide +kernel) ⟨Nat.le_of_ble_eq_true rfl, Nat.le_of_ble_eq_true rfl⟩) (am_preV X hh 141 12 (by decide) rfl rfl) rfl rfl hl.1 rfl (lv_room (Nat.le_of_ble_eq_true rfl)) dX11_parsesCommand_184 ⟨Nat.le_of_ble_eq_true rfl, Nat.le_of_ble_eq_true rfl⟩) (fun ab H locs hh => ?_)
    refine lv_goto (tgt := 401) hx hb dX11_parsesCommand_187 (by decide) ?_
    exact am_vret X hr hh (fun t ht => am_qv hF ht) (Nat.le_of_ble_eq_true rfl) (Nat.le_of_ble_eq_true rfl) dX11_parsesCommand_401
  · have hF := am_neg hs6 hF
    by_cases hs13 : r2 = (98 : Int32)
    · have hF := am_pos hs13 hF
      refine am_tableIn (k := 1) (tgt := 320) hx hb dX11_parsesCommand_23 hs13 (by decide) rfl (by decide) ?_
      refine lv_aload_n hx hb dX11_parsesCommand_320 rfl (lv_at hl 1 rfl) ?_
      refine lv_bipush (v := (117 : Int32)) hx hb dX11_parsesCommand_321 (by decide) ?_
      obtain ⟨w16, hk14, hF⟩ := am_bind hF
      refine am_call X hh (va_runV (As := [.int (117 : Int32)]) (rest := []) X.1 (c_X11_needs l G hk14) (cwV 1 hts gX11_parsesCommand_X11_needs rfl rfl rfl (by decide +kernel) ⟨Nat.le_of_ble_eq_true rfl, Nat.le_of_ble_eq_true rfl⟩) (am_preV X hh 141 12 (by decide) rfl rfl) rfl rfl hl.1 rfl (lv_room (Nat.le_of_ble_eq_true rfl)) dX11_parsesCommand_323 ⟨Nat.le_of_ble_eq_true rfl, Nat.le_of_ble_eq_true rfl⟩) (fun ab H locs hh => ?_)
      refine lv_aload_n hx hb dX11_parsesCommand_326 rfl (lv_at hl 1 rfl) ?_
      refine lv_bipush (v := (121 : Int32)) hx hb dX11_parsesCommand_327 (by decide) ?_
      obtain ⟨w19, hk17, hF⟩ := am_bind hF
      refine am_call X hh (va_runV (As := [.int (121 : Int32)]) (rest := []) X.1 (c_X11_needs l G hk17) (cwV 1 hts gX11_parsesCommand_X11_needs rfl rfl rfl (by decide +kernel) ⟨Nat.le_of_ble_eq_true rfl, Nat.le_of_ble_eq_true rfl⟩) (am_preV X hh 141 12 (by decide) rfl rfl) rfl rfl hl.1 rfl (lv_room (Nat.le_of_ble_eq_true rfl)) dX11_parsesCommand_329 ⟨Nat.le_of_ble_eq_true rfl, Nat.le_of_ble_eq_true rfl⟩) (fun ab H locs hh => ?_)
      refine lv_aload_n hx hb dX11_parsesCommand_332 rfl (lv_at hl 1 rfl) ?_
      refine am_getR X hh 141 12 17 150 (by decide) rfl rfl (by decide) hwRX11 (show Cond.fieldLink RX11 43 "PlanetWorkshopModel" "parsed" "[I" ∈ wsX11_parsesCommand by decide +kernel) rfl dX11_parsesCommand_333 ?_
      refine lv_iload_n hx hb dX11_parsesCommand_336 rfl (lv_at hl 2 rfl) ?_
      refine lv_iconst (v := (1 : Int32)) hx hb dX11_parsesCommand_337 (by decide) ?_
      refine lv_iadd hx hb dX11_parsesCommand_338 ?_
      refine lv_aload_n hx hb dX11_parsesCommand_339 rfl (lv_at hl 1 rfl) ?_
      refine lv_iconst (v := (3 : Int32)) hx hb dX11_parsesCommand_340 (by decide) ?_
      obtain ⟨⟨r21, w22⟩, hk20, hF⟩ := am_bind hF
      have hF := am_u2 hF
      refine am_call X hh (va_runV (As := [.int (3 : Int32)]) (rest := [.int (x1 + (1 : Int32)), .ref (gAd G 150)]) X.1 (c_X11_digitsAfter l G hk20) (cwV 1 hts gX11_parsesCommand_X11_digitsAfter rfl rfl rfl (by decide +kernel) ⟨Nat.le_of_ble_eq_true rfl, Nat.le_of_ble_eq_true rfl⟩) (am_preV X hh 141 12 (by decide) rfl rfl) rfl rfl hl.1 rfl (lv_room (Nat.le_of_ble_eq_true rfl)) dX11_parsesCommand_341 ⟨Nat.le_of_ble_eq_true rfl, Nat.le_of_ble_eq_true rfl⟩) (fun ab H locs hh => ?_)
      obtain ⟨hq24, hF⟩ := am_ifR hF
      refine am_iast X hh 150 (by decide) rfl hq24 dX11_parsesCommand_344 (fun H locs hh => ?_)
      obtain ⟨w25, hw25, hF⟩ := am_wl hF
      have hh := AH_eq hw25 hh
      refine lv_goto (tgt := 401) hx hb dX11_parsesCommand_345 (by decide) ?_
      exact am_vret X hr hh (fun t ht => am_qv hF ht) (Nat.le_of_ble_eq_true rfl) (Nat.le_of_ble_eq_true rfl) dX11_parsesCommand_401
    · have hF := am_neg hs13 hF
      by_cases hs26 : r2 = (99 : Int32)
      · have hF := am_pos hs26 hF
        refine am_tableIn (k := 2) (tgt := 190) hx hb dX11_parsesCommand_23 hs26 (by decide) rfl (by decide) ?_
        refine lv_aload_n hx hb dX11_parsesCommand_190 rfl (lv_at hl 1 rfl) ?_
        refine lv_bipush (v := (117 : Int32)) hx hb dX11_parsesCommand_191 (by decide) ?_
        obtain ⟨w29, hk27, hF⟩ := am_bind hF
        refine am_call X hh (va_runV (As := [.int (117 : Int32)]) (rest := []) X.1 (c_X11_needs l G hk27) (cwV 1 hts gX11_parsesCommand_X11_needs rfl rfl rfl (by decide +kernel) ⟨Nat.le_of_ble_eq_true rfl, Nat.le_of_ble_eq_true rfl⟩) (am_preV X hh 141 12 (by decide) rfl rfl) rfl rfl hl.1 rfl (lv_room (Nat.le_of_ble_eq_true rfl)) dX11_parsesCommand_193 ⟨Nat.le_of_ble_eq_true rfl, Nat.le_of_ble_eq_true rfl⟩) (fun ab H locs hh => ?_)
        refine lv_aload_n hx hb dX11_parsesCommand_196 rfl (lv_at hl 1 rfl) ?_
        refine lv_bipush (v := (116 : Int32)) hx hb dX11_parsesCommand_197 (by decide) ?_
        obtain ⟨w32, hk30, hF⟩ := am_bind hF
        refine am_call X hh (va_runV (As := [.int (116 : Int32)]) (rest := []) X.1 (c_X11_needs l G hk30) (cwV 1 hts gX11_parsesCommand_X11_needs rfl rfl rfl (by decide +kernel) ⟨Nat.le_of_ble_eq_true rfl, Nat.le_of_ble_eq_true rfl⟩) (am_preV X hh 141 12 (by decide) rfl rfl) rfl rfl hl.1 rfl (lv_room (Nat.le_of_ble_eq_true rfl)) dX11_parsesCommand_199 ⟨Nat.le_of_ble_eq_true rfl, Nat.le_of_ble_eq_true rfl⟩) (fun ab H locs hh => ?_)
        refine lv_aload_n hx hb dX11_parsesCommand_202 rfl (lv_at hl 1 rfl) ?_
        refine lv_iload_n hx hb dX11_parsesCommand_203 rfl (lv_at hl 2 rfl) ?_
        obtain ⟨w35, hk33, hF⟩ := am_bind hF
        refine am_call X hh (va_runV (As := [.int x1]) (rest := []) X.1 (c_X11_parsesTwo l G hk33) (cwV 1 hts gX11_parsesCommand_X11_parsesTwo rfl rfl rfl (by decide +kernel) ⟨Nat.le_of_ble_eq_true rfl, Nat.le_of_ble_eq_true rfl⟩) (am_preV X hh 141 12 (by decide) rfl rfl) rfl rfl hl.1 rfl (lv_room (Nat.le_of_ble_eq_true rfl)) dX11_parsesCommand_204 ⟨Nat.le_of_ble_eq_true rfl, Nat.le_of_ble_eq_true rfl⟩) (fun ab H locs hh => ?_)
        refine lv_goto (tgt := 401) hx hb dX11_parsesCommand_207 (by decide) ?_
        exact am_vret X hr hh (fun t ht => am_qv hF ht) (Nat.le_of_ble_eq_true rfl) (Nat.le_of_ble_eq_true rfl) dX11_parsesCommand_401
      · have hF := am_neg hs26 hF
        by_cases hs36 : r2 = (102 : Int32)
        · have hF := am_pos hs36 hF
          refine am_tableIn (k := 5) (tgt := 266) hx hb dX11_parsesCommand_23 hs36 (by decide) rfl (by decide) ?_
          refine lv_aload_n hx hb dX11_parsesCommand_266 rfl (lv_at hl 1 rfl) ?_
          refine lv_bipush (v := (114 : Int32)) hx hb dX11_parsesCommand_267 (by decide) ?_
          refine lv_bipush (v := (101 : Int32)) hx hb dX11_parsesCommand_269 (by decide) ?_
          refine lv_bipush (v := (101 : Int32)) hx hb dX11_parsesCommand_271 (by decide) ?_
          obtain ⟨w39, hk37, hF⟩ := am_bind hF
          refine am_call X hh (va_runV (As := [.int (114 : Int32), .int (101 : Int32), .int (101 : Int32)]) (rest := []) X.1 (c_X11_needsThree l G hk37) (cwV 3 hts gX11_parsesCommand_X11_needsThree rfl rfl rfl (by decide +kernel) ⟨Nat.le_of_ble_eq_true rfl, Nat.le_of_ble_eq_true rfl⟩) (am_preV X hh 141 12 (by decide) rfl rfl) rfl rfl hl.1 rfl (lv_room (Nat.le_of_ble_eq_true rfl)) dX11_parsesCommand_273 ⟨Nat.le_of_ble_eq_true rfl, Nat.le_of_ble_eq_true rfl⟩) (fun ab H locs hh => ?_)
          refine lv_aload_n hx hb dX11_parsesCommand_276 rfl (lv_at hl 1 rfl) ?_
          refine am_getR X hh 141 12 17 150 (by decide) rfl rfl (by decide) hwRX11 (show Cond.fieldLink RX11 43 "PlanetWorkshopModel" "parsed" "[I" ∈ wsX11_parsesCommand by decide +kernel) rfl dX11_parsesCommand_277 ?_
          refine lv_iload_n hx hb dX11_parsesCommand_280 rfl (lv_at hl 2 rfl) ?_
          refine lv_iconst (v := (1 : Int32)) hx hb dX11_parsesCommand_281 (by decide) ?_
          refine lv_iadd hx hb dX11_parsesCommand_282 ?_
          refine lv_aload_n hx hb dX11_parsesCommand_283 rfl (lv_at hl 1 rfl) ?_
          refine lv_iconst (v := (1 : Int32)) hx hb dX11_parsesCommand_284 (by decide) ?_
          obtain ⟨⟨r41, w42⟩, hk40, hF⟩ := am_bind hF
          have hF := am_u2 hF
          refine am_call X hh (va_runV (As := [.int (1 : Int32)]) (rest := [.int (x1 + (1 : Int32)), .ref (gAd G 150)]) X.1 (c_X11_digitsAfter l G hk40) (cwV 1 hts gX11_parsesCommand_X11_digitsAfter rfl rfl rfl (by decide +kernel) ⟨Nat.le_of_ble_eq_true rfl, Nat.le_of_ble_eq_true rfl⟩) (am_preV X hh 141 12 (by decide) rfl rfl) rfl rfl hl.1 rfl (lv_room (Nat.le_of_ble_eq_true rfl)) dX11_parsesCommand_285 ⟨Nat.le_of_ble_eq_true rfl, Nat.le_of_ble_eq_true rfl⟩) (fun ab H locs hh => ?_)
          obtain ⟨hq44, hF⟩ := am_ifR hF
          refine am_iast X hh 150 (by decide) rfl hq44 dX11_parsesCommand_288 (fun H locs hh => ?_)
          obtain ⟨w45, hw45, hF⟩ := am_wl hF
          have hh := AH_eq hw45 hh
          refine lv_goto (tgt := 401) hx hb dX11_parsesCommand_289 (by decide) ?_
          exact am_vret X hr hh (fun t ht => am_qv hF ht) (Nat.le_of_ble_eq_true rfl) (Nat.le_of_ble_eq_true rfl) dX11_parsesCommand_401
        · have hF := am_neg hs36 hF
          by_cases hs46 : r2 = (103 : Int32)
          · have hF := am_pos hs46 hF
            refine am_tableIn (k := 6) (tgt := 128) hx hb dX11_parsesCommand_23 hs46 (by decide) rfl (by decide) ?_
            refine lv_aload_n hx hb dX11_parsesCommand_128 rfl (lv_at hl 1 rfl) ?_
            refine lv_bipush (v := (101 : Int32)) hx hb dX11_parsesCommand_129 (by decide) ?_
            refine lv_bipush (v := (97 : Int32)) hx hb dX11_parsesCommand_131 (by decide) ?_
            refine lv_bipush (v := (114 : Int32)) hx hb dX11_parsesCommand_133 (by decide) ?_
            obtain ⟨w49, hk47, hF⟩ := am_bind hF
            refine am_call X hh (va_runV (As := [.int (101 : Int32), .int (97 : Int32), .int (114 : Int32)]) (rest := []) X.1 (c_X11_needsThree l G hk47) (cwV 3 hts gX11_parsesCommand_X11_needsThree rfl rfl rfl (by decide +kernel) ⟨Nat.le_of_ble_eq_true rfl, Nat.le_of_ble_eq_true rfl⟩) (am_preV X hh 141 12 (by decide) rfl rfl) rfl rfl hl.1 rfl (lv_room (Nat.le_of_ble_eq_true rfl)) dX11_parsesCommand_135 ⟨Nat.le_of_ble_eq_true rfl, Nat.le_of_ble_eq_true rfl⟩) (fun ab H locs hh => ?_)
            refine lv_aload_n hx hb dX11_parsesCommand_138 rfl (lv_at hl 1 rfl) ?_
            refine am_getR X hh 141 12 17 150 (by decide) rfl rfl (by decide) hwRX11 (show Cond.fieldLink RX11 43 "PlanetWorkshopModel" "parsed" "[I" ∈ wsX11_parsesCommand by decide +kernel) rfl dX11_parsesCommand_139 ?_
            refine lv_iload_n hx hb dX11_parsesCommand_142 rfl (lv_at hl 2 rfl) ?_
            refine lv_iconst (v := (1 : Int32)) hx hb dX11_parsesCommand_143 (by decide) ?_
            refine lv_iadd hx hb dX11_parsesCommand_144 ?_
            refine lv_aload_n hx hb dX11_parsesCommand_145 rfl (lv_at hl 1 rfl) ?_
            refine lv_iconst (v := (3 : Int32)) hx hb dX11_parsesCommand_146 (by decide) ?_
            obtain ⟨⟨r51, w52⟩, hk50, hF⟩ := am_bind hF
            have hF := am_u2 hF
            refine am_call X hh (va_runV (As := [.int (3 : Int32)]) (rest := [.int (x1 + (1 : Int32)), .ref (gAd G 150)]) X.1 (c_X11_digitsAfter l G hk50) (cwV 1 hts gX11_parsesCommand_X11_digitsAfter rfl rfl rfl (by decide +kernel) ⟨Nat.le_of_ble_eq_true rfl, Nat.le_of_ble_eq_true rfl⟩) (am_preV X hh 141 12 (by decide) rfl rfl) rfl rfl hl.1 rfl (lv_room (Nat.le_of_ble_eq_true rfl)) dX11_parsesCommand_147 ⟨Nat.le_of_ble_eq_true rfl, Nat.le_of_ble_eq_true rfl⟩) (fun ab H locs hh => ?_)
            obtain ⟨hq54, hF⟩ := am_ifR hF
            refine am_iast X hh 150 (by decide) rfl hq54 dX11_parsesCommand_150 (fun H locs hh => ?_)
            obtain ⟨w55, hw55, hF⟩ := am_wl hF
            have hh := AH_eq hw55 hh
            refine lv_goto (tgt := 401) hx hb dX11_parsesCommand_151 (by decide) ?_
            exact am_vret X hr hh (fun t ht => am_qv hF ht) (Nat.le_of_ble_eq_true rfl) (Nat.le_of_ble_eq_true rfl) dX11_parsesCommand_401
          · have hF := am_neg hs46 hF
            by_cases hs56 : r2 = (109 : Int32)
            · have hF := am_pos hs56 hF
              refine am_tableIn (k := 12) (tgt := 154) hx hb dX11_parsesCommand_23 hs56 (by decide) rfl (by decide) ?_
              refine lv_aload_n hx hb dX11_parsesCommand_154 rfl (lv_at hl 1 rfl) ?_
              refine lv_bipush (v := (101 : Int32)) hx hb dX11_parsesCommand_155 (by decide) ?_
              refine lv_bipush (v := (115 : Int32)) hx hb dX11_parsesCommand_157 (by decide) ?_
              refine lv_bipush (v := (104 : Int32)) hx hb dX11_parsesCommand_159 (by decide) ?_
              obtain ⟨w59, hk57, hF⟩ := am_bind hF
              refine am_call X hh (va_runV (As := [.int (101 : Int32), .int (115 : Int32), .int (104 : Int32)]) (rest := []) X.1 (c_X11_needsThree l G hk57) (cwV 3 hts gX11_parsesCommand_X11_needsThree rfl rfl rfl (by decide +kernel) ⟨Nat.le_of_ble_eq_true rfl, Nat.le_of_ble_eq_true rfl⟩) (am_preV X hh 141 12 (by decide) rfl rfl) rfl rfl hl.1 rfl (lv_room (Nat.le_of_ble_eq_true rfl)) dX11_parsesCommand_161 ⟨Nat.le_of_ble_eq_true rfl, Nat.le_of_ble_eq_true rfl⟩) (fun ab H locs hh => ?_)
              refine lv_aload_n hx hb dX11_parsesCommand_164 rfl (lv_at hl 1 rfl) ?_
              refine lv_iload_n hx hb dX11_parsesCommand_165 rfl (lv_at hl 2 rfl) ?_
              obtain ⟨w62, hk60, hF⟩ := am_bind hF
              refine am_call X hh (va_runV (As := [.int x1]) (rest := []) X.1 (c_X11_parsesTwo l G hk60) (cwV 1 hts gX11_parsesCommand_X11_parsesTwo rfl rfl rfl (by decide +kernel) ⟨Nat.le_of_ble_eq_true rfl, Nat.le_of_ble_eq_true rfl⟩) (am_preV X hh 141 12 (by decide) rfl rfl) rfl rfl hl.1 rfl (lv_room (Nat.le_of_ble_eq_true rfl)) dX11_parsesCommand_166 ⟨Nat.le_of_ble_eq_true rfl, Nat.le_of_ble_eq_true rfl⟩) (fun ab H locs hh => ?_)
              refine lv_goto (tgt := 401) hx hb dX11_parsesCommand_169 (by decide) ?_
              exact am_vret X hr hh (fun t ht => am_qv hF ht) (Nat.le_of_ble_eq_true rfl) (Nat.le_of_ble_eq_true rfl) dX11_parsesCommand_401
            · have hF := am_neg hs56 hF
              by_cases hs63 : r2 = (111 : Int32)
              · have hF := am_pos hs63 hF
                refine am_tableIn (k := 14) (tgt := 292) hx hb dX11_parsesCommand_23 hs63 (by decide) rfl (by decide) ?_
                refine lv_aload_n hx hb dX11_parsesCommand_292 rfl (lv_at hl 1 rfl) ?_
                refine lv_bipush (v := (105 : Int32)) hx hb dX11_parsesCommand_293 (by decide) ?_
                obtain ⟨w66, hk64, hF⟩ := am_bind hF
                refine am_call X hh (va_runV (As := [.int (105 : Int32)]) (rest := []) X.1 (c_X11_needs l G hk64) (cwV 1 hts gX11_parsesCommand_X11_needs rfl rfl rfl (by decide +kernel) ⟨Nat.le_of_ble_eq_true rfl, Nat.le_of_ble_eq_true rfl⟩) (am_preV X hh 141 12 (by decide) rfl rfl) rfl rfl hl.1 rfl (lv_room (Nat.le_of_ble_eq_true rfl)) dX11_parsesCommand_295 ⟨Nat.le_of_ble_eq_true rfl, Nat.le_of_ble_eq_true rfl⟩) (fun ab H locs hh => ?_)
                refine lv_aload_n hx hb dX11_parsesCommand_298 rfl (lv_at hl 1 rfl) ?_
                refine lv_bipush (v := (108 : Int32)) hx hb dX11_parsesCommand_299 (by decide) ?_
                obtain ⟨w69, hk67, hF⟩ := am_bind hF
                refine am_call X hh (va_runV (As := [.int (108 : Int32)]) (rest := []) X.1 (c_X11_needs l G hk67) (cwV 1 hts gX11_parsesCommand_X11_needs rfl rfl rfl (by decide +kernel) ⟨Nat.le_of_ble_eq_true rfl, Nat.le_of_ble_eq_true rfl⟩) (am_preV X hh 141 12 (by decide) rfl rfl) rfl rfl hl.1 rfl (lv_room (Nat.le_of_ble_eq_true rfl)) dX11_parsesCommand_301 ⟨Nat.le_of_ble_eq_true rfl, Nat.le_of_ble_eq_true rfl⟩) (fun ab H locs hh => ?_)
                refine lv_aload_n hx hb dX11_parsesCommand_304 rfl (lv_at hl 1 rfl) ?_
                refine am_getR X hh 141 12 17 150 (by decide) rfl rfl (by decide) hwRX11 (show Cond.fieldLink RX11 43 "PlanetWorkshopModel" "parsed" "[I" ∈ wsX11_parsesCommand by decide +kernel) rfl dX11_parsesCommand_305 ?_
                refine lv_iload_n hx hb dX11_parsesCommand_308 rfl (lv_at hl 2 rfl) ?_
                refine lv_iconst (v := (1 : Int32)) hx hb dX11_parsesCommand_309 (by decide) ?_
                refine lv_iadd hx hb dX11_parsesCommand_310 ?_
                refine lv_aload_n hx hb dX11_parsesCommand_311 rfl (lv_at hl 1 rfl) ?_
                refine lv_iconst (v := (1 : Int32)) hx hb dX11_parsesCommand_312 (by decide) ?_
                obtain ⟨⟨r71, w72⟩, hk70, hF⟩ := am_bind hF
                have hF := am_u2 hF
                refine am_call X hh (va_runV (As := [.int (1 : Int32)]) (rest := [.int (x1 + (1 : Int32)), .ref (gAd G 150)]) X.1 (c_X11_digitsAfter l G hk70) (cwV 1 hts gX11_parsesCommand_X11_digitsAfter rfl rfl rfl (by decide +kernel) ⟨Nat.le_of_ble_eq_true rfl, Nat.le_of_ble_eq_true rfl⟩) (am_preV X hh 141 12 (by decide) rfl rfl) rfl rfl hl.1 rfl (lv_room (Nat.le_of_ble_eq_true rfl)) dX11_parsesCommand_313 ⟨Nat.le_of_ble_eq_true rfl, Nat.le_of_ble_eq_true rfl⟩) (fun ab H locs hh => ?_)
                obtain ⟨hq74, hF⟩ := am_ifR hF
                refine am_iast X hh 150 (by decide) rfl hq74 dX11_parsesCommand_316 (fun H locs hh => ?_)
                obtain ⟨w75, hw75, hF⟩ := am_wl hF
                have hh := AH_eq hw75 hh
                refine lv_goto (tgt := 401) hx hb dX11_parsesCommand_317 (by decide) ?_
                exact am_vret X hr hh (fun t ht => am_qv hF ht) (Nat.le_of_ble_eq_true rfl) (Nat.le_of_ble_eq_true rfl) dX11_parsesCommand_401
              · have hF := am_neg hs63 hF
                by_cases hs76 : r2 = (112 : Int32)
                · have hF := am_pos hs76 hF
                  refine am_tableIn (k := 15) (tgt := 348) hx hb dX11_parsesCommand_23 hs76 (by decide) rfl (by decide) ?_
                  refine lv_aload_n hx hb dX11_parsesCommand_348 rfl (lv_at hl 1 rfl) ?_
                  refine lv_bipush (v := (108 : Int32)) hx hb dX11_parsesCommand_349 (by decide) ?_
                  refine lv_bipush (v := (97 : Int32)) hx hb dX11_parsesCommand_351 (by decide) ?_
                  refine lv_bipush (v := (110 : Int32)) hx hb dX11_parsesCommand_353 (by decide) ?_
                  obtain ⟨w79, hk77, hF⟩ := am_bind hF
                  refine am_call X hh (va_runV (As := [.int (108 : Int32), .int (97 : Int32), .int (110 : Int32)]) (rest := []) X.1 (c_X11_needsThree l G hk77) (cwV 3 hts gX11_parsesCommand_X11_needsThree rfl rfl rfl (by decide +kernel) ⟨Nat.le_of_ble_eq_true rfl, Nat.le_of_ble_eq_true rfl⟩) (am_preV X hh 141 12 (by decide) rfl rfl) rfl rfl hl.1 rfl (lv_room (Nat.le_of_ble_eq_true rfl)) dX11_parsesCommand_355 ⟨Nat.le_of_ble_eq_true rfl, Nat.le_of_ble_eq_true rfl⟩) (fun ab H locs hh => ?_)
                  refine lv_aload_n hx hb dX11_parsesCommand_358 rfl (lv_at hl 1 rfl) ?_
                  refine lv_bipush (v := (101 : Int32)) hx hb dX11_parsesCommand_359 (by decide) ?_
                  obtain ⟨w82, hk80, hF⟩ := am_bind hF
                  refine am_call X hh (va_runV (As := [.int (101 : Int32)]) (rest := []) X.1 (c_X11_needs l G hk80) (cwV 1 hts gX11_parsesCommand_X11_needs rfl rfl rfl (by decide +kernel) ⟨Nat.le_of_ble_eq_true rfl, Nat.le_of_ble_eq_true rfl⟩) (am_preV X hh 141 12 (by decide) rfl rfl) rfl rfl hl.1 rfl (lv_room (Nat.le_of_ble_eq_true rfl)) dX11_parsesCommand_361 ⟨Nat.le_of_ble_eq_true rfl, Nat.le_of_ble_eq_true rfl⟩) (fun ab H locs hh => ?_)
                  refine lv_aload_n hx hb dX11_parsesCommand_364 rfl (lv_at hl 1 rfl) ?_
                  refine lv_bipush (v := (116 : Int32)) hx hb dX11_parsesCommand_365 (by decide) ?_
                  obtain ⟨w85, hk83, hF⟩ := am_bind hF
                  refine am_call X hh (va_runV (As := [.int (116 : Int32)]) (rest := []) X.1 (c_X11_needs l G hk83) (cwV 1 hts gX11_parsesCommand_X11_needs rfl rfl rfl (by decide +kernel) ⟨Nat.le_of_ble_eq_true rfl, Nat.le_of_ble_eq_true rfl⟩) (am_preV X hh 141 12 (by decide) rfl rfl) rfl rfl hl.1 rfl (lv_room (Nat.le_of_ble_eq_true rfl)) dX11_parsesCommand_367 ⟨Nat.le_of_ble_eq_true rfl, Nat.le_of_ble_eq_true rfl⟩) (fun ab H locs hh => ?_)
                  refine lv_aload_n hx hb dX11_parsesCommand_370 rfl (lv_at hl 1 rfl) ?_
                  refine am_getR X hh 141 12 17 150 (by decide) rfl rfl (by decide) hwRX11 (show Cond.fieldLink RX11 43 "PlanetWorkshopModel" "parsed" "[I" ∈ wsX11_parsesCommand by decide +kernel) rfl dX11_parsesCommand_371 ?_
                  refine lv_iload_n hx hb dX11_parsesCommand_374 rfl (lv_at hl 2 rfl) ?_
                  refine lv_iconst (v := (1 : Int32)) hx hb dX11_parsesCommand_375 (by decide) ?_
                  refine lv_iadd hx hb dX11_parsesCommand_376 ?_
                  refine lv_aload_n hx hb dX11_parsesCommand_377 rfl (lv_at hl 1 rfl) ?_
                  refine lv_iconst (v := (1 : Int32)) hx hb dX11_parsesCommand_378 (by decide) ?_
                  obtain ⟨⟨r87, w88⟩, hk86, hF⟩ := am_bind hF
                  have hF := am_u2 hF
                  refine am_call X hh (va_runV (As := [.int (1 : Int32)]) (rest := [.int (x1 + (1 : Int32)), .ref (gAd G 150)]) X.1 (c_X11_digitsAfter l G hk86) (cwV 1 hts gX11_parsesCommand_X11_digitsAfter rfl rfl rfl (by decide +kernel) ⟨Nat.le_of_ble_eq_true rfl, Nat.le_of_ble_eq_true rfl⟩) (am_preV X hh 141 12 (by decide) rfl rfl) rfl rfl hl.1 rfl (lv_room (Nat.le_of_ble_eq_true rfl)) dX11_parsesCommand_379 ⟨Nat.le_of_ble_eq_true rfl, Nat.le_of_ble_eq_true rfl⟩) (fun ab H locs hh => ?_)
                  obtain ⟨hq90, hF⟩ := am_ifR hF
                  refine am_iast X hh 150 (by decide) rfl hq90 dX11_parsesCommand_382 (fun H locs hh => ?_)
                  obtain ⟨w91, hw91, hF⟩ := am_wl hF
                  have hh := AH_eq hw91 hh
                  refine lv_goto (tgt := 401) hx hb dX11_parsesCommand_383 (by decide) ?_
                  exact am_vret X hr hh (fun t ht => am_qv hF ht) (Nat.le_of_ble_eq_true rfl) (Nat.le_of_ble_eq_true rfl) dX11_parsesCommand_401
                · have hF := am_neg hs76 hF
                  by_cases hs92 : r2 = (114 : Int32)
                  · have hF := am_pos hs92 hF
                    refine am_tableIn (k := 17) (tgt := 258) hx hb dX11_parsesCommand_23 hs92 (by decide) rfl (by decide) ?_
                    refine lv_aload_n hx hb dX11_parsesCommand_258 rfl (lv_at hl 1 rfl) ?_
                    refine lv_iload_n hx hb dX11_parsesCommand_259 rfl (lv_at hl 2 rfl) ?_
                    obtain ⟨w95, hk93, hF⟩ := am_bind hF
                    refine am_call X hh (va_runV (As := [.int x1]) (rest := []) X.1 (c_X11_parsesR l G hk93) (cwV 1 hts gX11_parsesCommand_X11_parsesR rfl rfl rfl (by decide +kernel) ⟨Nat.le_of_ble_eq_true rfl, Nat.le_of_ble_eq_true rfl⟩) (am_preV X hh 141 12 (by decide) rfl rfl) rfl rfl hl.1 rfl (lv_room (Nat.le_of_ble_eq_true rfl)) dX11_parsesCommand_260 ⟨Nat.le_of_ble_eq_true rfl, Nat.le_of_ble_eq_true rfl⟩) (fun ab H locs hh => ?_)
                    refine lv_goto (tgt := 401) hx hb dX11_parsesCommand_263 (by decide) ?_
                    exact am_vret X hr hh (fun t ht => am_qv hF ht) (Nat.le_of_ble_eq_true rfl) (Nat.le_of_ble_eq_true rfl) dX11_parsesCommand_401
                  · have hF := am_neg hs92 hF
                    by_cases hs96 : r2 = (115 : Int32)
                    · have hF := am_pos hs96 hF
                      refine am_tableIn (k := 18) (tgt := 210) hx hb dX11_parsesCommand_23 hs96 (by decide) rfl (by decide) ?_
                      refine lv_aload_n hx hb dX11_parsesCommand_210 rfl (lv_at hl 1 rfl) ?_
                      refine lv_bipush (v := (112 : Int32)) hx hb dX11_parsesCommand_211 (by decide) ?_
                      refine lv_bipush (v := (114 : Int32)) hx hb dX11_parsesCommand_213 (by decide) ?_
                      refine lv_bipush (v := (105 : Int32)) hx hb dX11_parsesCommand_215 (by decide) ?_
                      obtain ⟨w99, hk97, hF⟩ := am_bind hF
                      refine am_call X hh (va_runV (As := [.int (112 : Int32), .int (114 : Int32), .int (105 : Int32)]) (rest := []) X.1 (c_X11_needsThree l G hk97) (cwV 3 hts gX11_parsesCommand_X11_needsThree rfl rfl rfl (by decide +kernel) ⟨Nat.le_of_ble_eq_true rfl, Nat.le_of_ble_eq_true rfl⟩) (am_preV X hh 141 12 (by decide) rfl rfl) rfl rfl hl.1 rfl (lv_room (Nat.le_of_ble_eq_true rfl)) dX11_parsesCommand_217 ⟨Nat.le_of_ble_eq_true rfl, Nat.le_of_ble_eq_true rfl⟩) (fun ab H locs hh => ?_)
                      refine lv_aload_n hx hb dX11_parsesCommand_220 rfl (lv_at hl 1 rfl) ?_
                      refine lv_bipush (v := (110 : Int32)) hx hb dX11_parsesCommand_221 (by decide) ?_
                      obtain ⟨w102, hk100, hF⟩ := am_bind hF
                      refine am_call X hh (va_runV (As := [.int (110 : Int32)]) (rest := []) X.1 (c_X11_needs l G hk100) (cwV 1 hts gX11_parsesCommand_X11_needs rfl rfl rfl (by decide +kernel) ⟨Nat.le_of_ble_eq_true rfl, Nat.le_of_ble_eq_true rfl⟩) (am_preV X hh 141 12 (by decide) rfl rfl) rfl rfl hl.1 rfl (lv_room (Nat.le_of_ble_eq_true rfl)) dX11_parsesCommand_223 ⟨Nat.le_of_ble_eq_true rfl, Nat.le_of_ble_eq_true rfl⟩) (fun ab H locs hh => ?_)
                      refine lv_aload_n hx hb dX11_parsesCommand_226 rfl (lv_at hl 1 rfl) ?_
                      refine lv_bipush (v := (103 : Int32)) hx hb dX11_parsesCommand_227 (by decide) ?_
                      obtain ⟨w105, hk103, hF⟩ := am_bind hF
                      refine am_call X hh (va_runV (As := [.int (103 : Int32)]) (rest := []) X.1 (c_X11_needs l G hk103) (cwV 1 hts gX11_parsesCommand_X11_needs rfl rfl rfl (by decide +kernel) ⟨Nat.le_of_ble_eq_true rfl, Nat.le_of_ble_eq_true rfl⟩) (am_preV X hh 141 12 (by decide) rfl rfl) rfl rfl hl.1 rfl (lv_room (Nat.le_of_ble_eq_true rfl)) dX11_parsesCommand_229 ⟨Nat.le_of_ble_eq_true rfl, Nat.le_of_ble_eq_true rfl⟩) (fun ab H locs hh => ?_)
                      refine lv_aload_n hx hb dX11_parsesCommand_232 rfl (lv_at hl 1 rfl) ?_
                      refine lv_iload_n hx hb dX11_parsesCommand_233 rfl (lv_at hl 2 rfl) ?_
                      obtain ⟨w108, hk106, hF⟩ := am_bind hF
                      refine am_call X hh (va_runV (As := [.int x1]) (rest := []) X.1 (c_X11_parsesValue l G hk106) (cwV 1 hts gX11_parsesCommand_X11_parsesValue rfl rfl rfl (by decide +kernel) ⟨Nat.le_of_ble_eq_true rfl, Nat.le_of_ble_eq_true rfl⟩) (am_preV X hh 141 12 (by decide) rfl rfl) rfl rfl hl.1 rfl (lv_room (Nat.le_of_ble_eq_true rfl)) dX11_parsesCommand_234 ⟨Nat.le_of_ble_eq_true rfl, Nat.le_of_ble_eq_true rfl⟩) (fun ab H locs hh => ?_)
                      refine lv_goto (tgt := 401) hx hb dX11_parsesCommand_237 (by decide) ?_
                      exact am_vret X hr hh (fun t ht => am_qv hF ht) (Nat.le_of_ble_eq_true rfl) (Nat.le_of_ble_eq_true rfl) dX11_parsesCommand_401
                    · have hF := am_neg hs96 hF
                      by_cases hs109 : r2 = (119 : Int32)
                      · have hF := am_pos hs109 hF
                        refine am_tableIn (k := 22) (tgt := 240) hx hb dX11_parsesCommand_23 hs109 (by decide) rfl (by decide) ?_
                        refine lv_aload_n hx hb dX11_parsesCommand_240 rfl (lv_at hl 1 rfl) ?_
                        refine lv_bipush (v := (105 : Int32)) hx hb dX11_parsesCommand_241 (by decide) ?_
                        refine lv_bipush (v := (110 : Int32)) hx hb dX11_parsesCommand_243 (by decide) ?_
                        refine lv_bipush (v := (100 : Int32)) hx hb dX11_parsesCommand_245 (by decide) ?_
                        obtain ⟨w112, hk110, hF⟩ := am_bind hF
                        refine am_call X hh (va_runV (As := [.int (105 : Int32), .int (110 : Int32), .int (100 : Int32)]) (rest := []) X.1 (c_X11_needsThree l G hk110) (cwV 3 hts gX11_parsesCommand_X11_needsThree rfl rfl rfl (by decide +kernel) ⟨Nat.le_of_ble_eq_true rfl, Nat.le_of_ble_eq_true rfl⟩) (am_preV X hh 141 12 (by decide) rfl rfl) rfl rfl hl.1 rfl (lv_room (Nat.le_of_ble_eq_true rfl)) dX11_parsesCommand_247 ⟨Nat.le_of_ble_eq_true rfl, Nat.le_of_ble_eq_true rfl⟩) (fun ab H locs hh => ?_)
                        refine lv_aload_n hx hb dX11_parsesCommand_250 rfl (lv_at hl 1 rfl) ?_
                        refine lv_iload_n hx hb dX11_parsesCommand_251 rfl (lv_at hl 2 rfl) ?_
                        obtain ⟨w115, hk113, hF⟩ := am_bind hF
                        refine am_call X hh (va_runV (As := [.int x1]) (rest := []) X.1 (c_X11_parsesValue l G hk113) (cwV 1 hts gX11_parsesCommand_X11_parsesValue rfl rfl rfl (by decide +kernel) ⟨Nat.le_of_ble_eq_true rfl, Nat.le_of_ble_eq_true rfl⟩) (am_preV X hh 141 12 (by decide) rfl rfl) rfl rfl hl.1 rfl (lv_room (Nat.le_of_ble_eq_true rfl)) dX11_parsesCommand_252 ⟨Nat.le_of_ble_eq_true rfl, Nat.le_of_ble_eq_true rfl⟩) (fun ab H locs hh => ?_)
                        refine lv_goto (tgt := 401) hx hb dX11_parsesCommand_255 (by decide) ?_
                        exact am_vret X hr hh (fun t ht => am_qv hF ht) (Nat.le_of_ble_eq_true rfl) (Nat.le_of_ble_eq_true rfl) dX11_parsesCommand_401
                      · have hF := am_neg hs109 hF
                        refine am_tableD (keys := [(97 : Int32), (98 : Int32), (99 : Int32), (102 : Int32), (103 : Int32), (109 : Int32), (111 : Int32), (112 : Int32), (114 : Int32), (115 : Int32), (119 : Int32)]) (tgt := 386) hx hb dX11_parsesCommand_23 (List.forall_mem_cons.mpr ⟨hs6, List.forall_mem_cons.mpr ⟨hs13, List.forall_mem_cons.mpr ⟨hs26, List.forall_mem_cons.mpr ⟨hs36, List.forall_mem_cons.mpr ⟨hs46, List.forall_mem_cons.mpr ⟨hs56, List.forall_mem_cons.mpr ⟨hs63, List.forall_mem_cons.mpr ⟨hs76, List.forall_mem_cons.mpr ⟨hs92, List.forall_mem_cons.mpr ⟨hs96, List.forall_mem_cons.mpr ⟨hs109, List.forall_mem_nil _⟩⟩⟩⟩⟩⟩⟩⟩⟩⟩⟩) (by decide +kernel) (by decide) (by decide) ?_
                        refine lv_aload_n hx hb dX11_parsesCommand_386 rfl (lv_at hl 1 rfl) ?_
                        refine lv_iconst (v := (1 : Int32)) hx hb dX11_parsesCommand_387 (by decide) ?_
                        refine am_putI X hh 141 12 16 (by decide) rfl rfl (by decide) hwRX11 tyX11 tyX11_ok nmX11 (show Cond.fieldLink RX11 234 "PlanetWorkshopModel" "isWrong" "Z" ∈ wsX11_parsesCommand by decide +kernel) rfl rfl rfl rfl dX11_parsesCommand_388 (fun H locs hh => ?_)
                        obtain ⟨w116, hw116, hF⟩ := am_wl hF
                        have hh := AH_eq hw116 hh
                        refine lv_aload_n hx hb dX11_parsesCommand_391 rfl (lv_at hl 1 rfl) ?_
                        refine lv_dup hx hb dX11_parsesCommand_392 rfl ?_
                        refine am_getI X hh 141 12 15 (by decide) rfl rfl (by decide) hwRX11 (show Cond.fieldLink RX11 231 "PlanetWorkshopModel" "spot" "I" ∈ wsX11_parsesCommand by decide +kernel) rfl dX11_parsesCommand_393 ?_
                        refine lv_iconst (v := (1 : Int32)) hx hb dX11_parsesCommand_396 (by decide) ?_
                        refine lv_isub hx hb dX11_parsesCommand_397 ?_
                        refine am_putI X hh 141 12 15 (by decide) rfl rfl (by decide) hwRX11 tyX11 tyX11_ok nmX11 (show Cond.fieldLink RX11 231 "PlanetWorkshopModel" "spot" "I" ∈ wsX11_parsesCommand by decide +kernel) rfl rfl rfl rfl dX11_parsesCommand_398 (fun H locs hh => ?_)
                        obtain ⟨w117, hw117, hF⟩ := am_wl hF
                        have hh := AH_eq hw117 hh
                        exact am_vret X hr hh (fun t ht => am_qv hF ht) (Nat.le_of_ble_eq_true rfl) (Nat.le_of_ble_eq_true rfl) dX11_parsesCommand_401
set_option maxHeartbeats 4000000 in
set_option maxRecDepth 100000 in
theorem c_X11_carriesOut (l : Launch) (G : GG) {w : Wd} {x1 : Int32} {r0 : Int32} {w1 : Wd} (hF : f_X11_carriesOut w x1 = some (r0, w1)) : Met l yX11_carriesOut wsX11_carriesOut ({ frames := 6, cells := 0, slots := 0, locals := 136 } : Room) (va_Pc [.ref (gAd G 141), .int x1] (Rel G w)) (amQ G (oI r0) w1) 0 0 (gA G) := by
  refine am_met (own := RX11) (cc := cX11_carriesOut) (maxL := 4) (ret := (some .int)) (by decide +kernel) rfl rfl (Nat.le_of_ble_eq_true rfl) ?_
  intro p e s m args below meth c ab H locs ls X hr hh hl
  have hx := X.1.1; have hb := X.1.2.1; have hml := X.1.2.2.1; have hown := X.1.2.2.2.1; have hts := X.1.2.2.2.2
  have hl : lv_has ls 4 [(0, .ref (gAd G 141)), (1, .int x1)] := hl
  have hwRX11 : ∀ z ∈ u_ws RX11 TX11 18, z ∈ wsX11_carriesOut := by decide +kernel
  unfold f_X11_carriesOut at hF
  refine lv_aload_n hx hb dX11_carriesOut_0 rfl (lv_at hl 0 rfl) ?_
  refine am_getR X hh 141 12 17 150 (by decide) rfl rfl (by decide) hwRX11 (show Cond.fieldLink RX11 43 "PlanetWorkshopModel" "parsed" "[I" ∈ wsX11_carriesOut by decide +kernel) rfl dX11_carriesOut_1 ?_
  refine lv_iload_n hx hb dX11_carriesOut_4 rfl (lv_at hl 1 rfl) ?_
  refine lv_iconst (v := (1 : Int32)) hx hb dX11_carriesOut_5 (by decide) ?_
  refine lv_iadd hx hb dX11_carriesOut_6 ?_
  obtain ⟨hq1, hF⟩ := am_ifR hF
  refine am_iald X hh 150 (by decide) rfl hq1 dX11_carriesOut_7 ?_
  refine lv_istore_n (lv' := [(2, .int (gI w 150 ((x1 + (1 : Int32))).toNatClampNeg)), (0, .ref (gAd G 141)), (1, .int x1)]) hx hb dX11_carriesOut_8 rfl hl (by decide) rfl (fun ls hl => ?_)
  refine lv_aload_n hx hb dX11_carriesOut_9 rfl (lv_at hl 1 rfl) ?_
  refine am_getR X hh 141 12 17 150 (by decide) rfl rfl (by decide) hwRX11 (show Cond.fieldLink RX11 43 "PlanetWorkshopModel" "parsed" "[I" ∈ wsX11_carriesOut by decide +kernel) rfl dX11_carriesOut_10 ?_
  refine lv_iload_n hx hb dX11_carriesOut_13 rfl (lv_at hl 2 rfl) ?_
  refine lv_iconst (v := (2 : Int32)) hx hb dX11_carriesOut_14 (by decide) ?_
  refine lv_iadd hx hb dX11_carriesOut_15 ?_
  obtain ⟨hq2, hF⟩ := am_ifR hF
  refine am_iald X hh 150 (by decide) rfl hq2 dX11_carriesOut_16 ?_
  refine lv_istore_n (lv' := [(3, .int (gI w 150 ((x1 + (2 : Int32))).toNatClampNeg)), (2, .int (gI w 150 ((x1 + (1 : Int32))).toNatClampNeg)), (0, .ref (gAd G 141)), (1, .int x1)]) hx hb dX11_carriesOut_17 rfl hl (by decide) rfl (fun ls hl => ?_)
  refine lv_aload_n hx hb dX11_carriesOut_18 rfl (lv_at hl 2 rfl) ?_
  refine am_getR X hh 141 12 17 150 (by decide) rfl rfl (by decide) hwRX11 (show Cond.fieldLink RX11 43 "PlanetWorkshopModel" "parsed" "[I" ∈ wsX11_carriesOut by decide +kernel) rfl dX11_carriesOut_19 ?_
  refine lv_iload_n hx hb dX11_carriesOut_22 rfl (lv_at hl 3 rfl) ?_
  obtain ⟨hq3, hF⟩ := am_ifR hF
  refine am_iald X hh 150 (by decide) rfl hq3 dX11_carriesOut_23 ?_
  by_cases hs4 : (gI w 150 (x1).toNatClampNeg) = (97 : Int32)
  · have hF := am_pos hs4 hF
    refine am_tableIn (k := 0) (tgt := 146) hx hb dX11_carriesOut_24 hs4 (by decide) rfl (by decide) ?_
    refine lv_aload_n hx hb dX11_carriesOut_146 rfl (lv_at hl 2 rfl) ?_
    refine lv_iload_n hx hb dX11_carriesOut_147 rfl (lv_at hl 1 rfl) ?_
    refine lv_iload_n hx hb dX11_carriesOut_148 rfl (lv_at hl 0 rfl) ?_
    refine lv_iconst (v := (2 : Int32)) hx hb dX11_carriesOut_149 (by decide) ?_
    obtain ⟨⟨r6, w7⟩, hk5, hF⟩ := am_bind hF
    have hF := am_u2 hF
    refine am_call X hh (va_runV (As := [.int (gI w 150 ((x1 + (1 : Int32))).toNatClampNeg), .int (gI w 150 ((x1 + (2 : Int32))).toNatClampNeg), .int (2 : Int32)]) (rest := []) X.1 (c_X11_joins l G hk5) (cwV 3 hts gX11_carriesOut_X11_joins rfl rfl rfl (by decide +kernel) ⟨Nat.le_of_ble_eq_true rfl, Nat.le_of_ble_eq_true rfl⟩) (am_preV X hh 141 12 (by decide) rfl rfl) rfl rfl hl.1 rfl (lv_room (Nat.le_of_ble_eq_true rfl)) dX11_carriesOut_150 ⟨Nat.le_of_ble_eq_true rfl, Nat.le_of_ble_eq_true rfl⟩) (fun ab H locs hh => ?_)
    exact am_iret X hr hh (fun t ht => am_qw (mk := oI) hF ht) (Nat.le_of_ble_eq_true rfl) (Nat.le_of_ble_eq_true rfl) dX11_carriesOut_153
  · have hF := am_neg hs4 hF
    by_cases hs9 : (gI w 150 (x1).toNatClampNeg) = (98 : Int32)
    · have hF := am_pos hs9 hF
      refine am_tableIn (k := 1) (tgt := 208) hx hb dX11_carriesOut_24 hs9 (by decide) rfl (by decide) ?_
      refine lv_aload_n hx hb dX11_carriesOut_208 rfl (lv_at hl 2 rfl) ?_
      refine lv_iload_n hx hb dX11_carriesOut_209 rfl (lv_at hl 1 rfl) ?_
      obtain ⟨⟨r11, w12⟩, hk10, hF⟩ := am_bind hF
      have hF := am_u2 hF
      refine am_call X hh (va_runV (As := [.int (gI w 150 ((x1 + (1 : Int32))).toNatClampNeg)]) (rest := []) X.1 (c_X11_buys l G hk10) (cwV 1 hts gX11_carriesOut_X11_buys rfl rfl rfl (by decide +kernel) ⟨Nat.le_of_ble_eq_true rfl, Nat.le_of_ble_eq_true rfl⟩) (am_preV X hh 141 12 (by decide) rfl rfl) rfl rfl hl.1 rfl (lv_room (Nat.le_of_ble_eq_true rfl)) dX11_carriesOut_210 ⟨Nat.le_of_ble_eq_true rfl, Nat.le_of_ble_eq_true rfl⟩) (fun ab H locs hh => ?_)
      exact am_iret X hr hh (fun t ht => am_qw (mk := oI) hF ht) (Nat.le_of_ble_eq_true rfl) (Nat.le_of_ble_eq_true rfl) dX11_carriesOut_213
    · have hF := am_neg hs9 hF
      by_cases hs14 : (gI w 150 (x1).toNatClampNeg) = (99 : Int32)
      · have hF := am_pos hs14 hF
        refine am_tableIn (k := 2) (tgt := 154) hx hb dX11_carriesOut_24 hs14 (by decide) rfl (by decide) ?_
        refine lv_aload_n hx hb dX11_carriesOut_154 rfl (lv_at hl 2 rfl) ?_
        refine lv_iload_n hx hb dX11_carriesOut_155 rfl (lv_at hl 1 rfl) ?_
        refine lv_iload_n hx hb dX11_carriesOut_156 rfl (lv_at hl 0 rfl) ?_
        obtain ⟨⟨r16, w17⟩, hk15, hF⟩ := am_bind hF
        have hF := am_u2 hF
        refine am_call X hh (va_runV (As := [.int (gI w 150 ((x1 + (1 : Int32))).toNatClampNeg), .int (gI w 150 ((x1 + (2 : Int32))).toNatClampNeg)]) (rest := []) X.1 (c_X11_parts l G hk15) (cwV 2 hts gX11_carriesOut_X11_parts rfl rfl rfl (by decide +kernel) ⟨Nat.le_of_ble_eq_true rfl, Nat.le_of_ble_eq_true rfl⟩) (am_preV X hh 141 12 (by decide) rfl rfl) rfl rfl hl.1 rfl (lv_room (Nat.le_of_ble_eq_true rfl)) dX11_carriesOut_157 ⟨Nat.le_of_ble_eq_true rfl, Nat.le_of_ble_eq_true rfl⟩) (fun ab H locs hh => ?_)
        exact am_iret X hr hh (fun t ht => am_qw (mk := oI) hF ht) (Nat.le_of_ble_eq_true rfl) (Nat.le_of_ble_eq_true rfl) dX11_carriesOut_160
      · have hF := am_neg hs14 hF
        by_cases hs19 : (gI w 150 (x1).toNatClampNeg) = (102 : Int32)
        · have hF := am_pos hs19 hF
          refine am_tableIn (k := 5) (tgt := 195) hx hb dX11_carriesOut_24 hs19 (by decide) rfl (by decide) ?_
          refine lv_aload_n hx hb dX11_carriesOut_195 rfl (lv_at hl 2 rfl) ?_
          refine lv_iload_n hx hb dX11_carriesOut_196 rfl (lv_at hl 1 rfl) ?_
          refine lv_iconst (v := (0 : Int32)) hx hb dX11_carriesOut_197 (by decide) ?_
          obtain ⟨⟨r21, w22⟩, hk20, hF⟩ := am_bind hF
          have hF := am_u2 hF
          refine am_call X hh (va_runV (As := [.int (gI w 150 ((x1 + (1 : Int32))).toNatClampNeg), .int (0 : Int32)]) (rest := []) X.1 (c_X11_ratchets l G hk20) (cwV 2 hts gX11_carriesOut_X11_ratchets rfl rfl rfl (by decide +kernel) ⟨Nat.le_of_ble_eq_true rfl, Nat.le_of_ble_eq_true rfl⟩) (am_preV X hh 141 12 (by decide) rfl rfl) rfl rfl hl.1 rfl (lv_room (Nat.le_of_ble_eq_true rfl)) dX11_carriesOut_198 ⟨Nat.le_of_ble_eq_true rfl, Nat.le_of_ble_eq_true rfl⟩) (fun ab H locs hh => ?_)
          exact am_iret X hr hh (fun t ht => am_qw (mk := oI) hF ht) (Nat.le_of_ble_eq_true rfl) (Nat.le_of_ble_eq_true rfl) dX11_carriesOut_201
        · have hF := am_neg hs19 hF
          by_cases hs24 : (gI w 150 (x1).toNatClampNeg) = (103 : Int32)
          · have hF := am_pos hs24 hF
            refine am_tableIn (k := 6) (tgt := 132) hx hb dX11_carriesOut_24 hs24 (by decide) rfl (by decide) ?_
            refine lv_aload_n hx hb dX11_carriesOut_132 rfl (lv_at hl 2 rfl) ?_
            refine lv_iload_n hx hb dX11_carriesOut_133 rfl (lv_at hl 1 rfl) ?_
            obtain ⟨⟨r26, w27⟩, hk25, hF⟩ := am_bind hF
            have hF := am_u2 hF
            refine am_call X hh (va_runV (As := [.int (gI w 150 ((x1 + (1 : Int32))).toNatClampNeg)]) (rest := []) X.1 (c_X11_addsGear l G hk25) (cwV 1 hts gX11_carriesOut_X11_addsGear rfl rfl rfl (by decide +kernel) ⟨Nat.le_of_ble_eq_true rfl, Nat.le_of_ble_eq_true rfl⟩) (am_preV X hh 141 12 (by decide) rfl rfl) rfl rfl hl.1 rfl (lv_room (Nat.le_of_ble_eq_true rfl)) dX11_carriesOut_134 ⟨Nat.le_of_ble_eq_true rfl, Nat.le_of_ble_eq_true rfl⟩) (fun ab H locs hh => ?_)
            exact am_iret X hr hh (fun t ht => am_qw (mk := oI) hF ht) (Nat.le_of_ble_eq_true rfl) (Nat.le_of_ble_eq_true rfl) dX11_carriesOut_137
          · have hF := am_neg hs24 hF
            by_cases hs29 : (gI w 150 (x1).toNatClampNeg) = (109 : Int32)
            · have hF := am_pos hs29 hF
              refine am_tableIn (k := 12) (tgt := 138) hx hb dX11_carriesOut_24 hs29 (by decide) rfl (by decide) ?_
              refine lv_aload_n hx hb dX11_carriesOut_138 rfl (lv_at hl 2 rfl) ?_
              refine lv_iload_n hx hb dX11_carriesOut_139 rfl (lv_at hl 1 rfl) ?_
              refine lv_iload_n hx hb dX11_carriesOut_140 rfl (lv_at hl 0 rfl) ?_
              refine lv_iconst (v := (1 : Int32)) hx hb dX11_carriesOut_141 (by decide) ?_
              obtain ⟨⟨r31, w32⟩, hk30, hF⟩ := am_bind hF
              have hF := am_u2 hF
              refine am_call X hh (va_runV (As := [.int (gI w 150 ((x1 + (1 : Int32))).toNatClampNeg), .int (gI w 150 ((x1 + (2 : Int32))).toNatClampNeg), .int (1 : Int32)]) (rest := []) X.1 (c_X11_joins l G hk30) (cwV 3 hts gX11_carriesOut_X11_joins rfl rfl rfl (by decide +kernel) ⟨Nat.le_of_ble_eq_true rfl, Nat.le_of_ble_eq_true rfl⟩) (am_preV X hh 141 12 (by decide) rfl rfl) rfl rfl hl.1 rfl (lv_room (Nat.le_of_ble_eq_true rfl)) dX11_carriesOut_142 ⟨Nat.le_of_ble_eq_true rfl, Nat.le_of_ble_eq_true rfl⟩) (fun ab H locs hh => ?_)
              exact am_iret X hr hh (fun t ht => am_qw (mk := oI) hF ht) (Nat.le_of_ble_eq_true rfl) (Nat.le_of_ble_eq_true rfl) dX11_carriesOut_145
            · have hF := am_neg hs29 hF
              by_cases hs34 : (gI w 150 (x1).toNatClampNeg) = (111 : Int32)
              · have hF := am_pos hs34 hF
                refine am_tableIn (k := 14) (tgt := 202) hx hb dX11_carriesOut_24 hs34 (by decide) rfl (by decide) ?_
                refine lv_aload_n hx hb dX11_carriesOut_202 rfl (lv_at hl 2 rfl) ?_
                refine lv_iload_n hx hb dX11_carriesOut_203 rfl (lv_at hl 1 rfl) ?_
                obtain ⟨⟨r36, w37⟩, hk35, hF⟩ := am_bind hF
                have hF := am_u2 hF
                refine am_call X hh (va_runV (As := [.int (gI w 150 ((x1 + (1 : Int32))).toNatClampNeg)]) (rest := []) X.1 (c_X11_oils l G hk35) (cwV 1 hts gX11_carriesOut_X11_oils rfl rfl rfl (by decide +kernel) ⟨Nat.le_of_ble_eq_true rfl, Nat.le_of_ble_eq_true rfl⟩) (am_preV X hh 141 12 (by decide) rfl rfl) rfl rfl hl.1 rfl (lv_room (Nat.le_of_ble_eq_true rfl)) dX11_carriesOut_204 ⟨Nat.le_of_ble_eq_true rfl, Nat.le_of_ble_eq_true rfl⟩) (fun ab H locs hh => ?_)
                exact am_iret X hr hh (fun t ht => am_qw (mk := oI) hF ht) (Nat.le_of_ble_eq_true rfl) (Nat.le_of_ble_eq_true rfl) dX11_carriesOut_207
              · have hF := am_neg hs34 hF
                by_cases hs39 : (gI w 150 (x1).toNatClampNeg) = (114 : Int32)
                · have hF := am_pos hs39 hF
                  refine am_tableIn (k := 17) (tgt := 175) hx hb dX11_carriesOut_24 hs39 (by decide) rfl (by decide) ?_
                  refine lv_aload_n hx hb dX11_carriesOut_175 rfl (lv_at hl 2 rfl) ?_
                  refine lv_iload_n hx hb dX11_carriesOut_176 rfl (lv_at hl 1 rfl) ?_
                  obtain ⟨⟨r41, w42⟩, hk40, hF⟩ := am_bind hF
                  have hF := am_u2 hF
                  refine am_call X hh (va_runV (As := [.int (gI w 150 ((x1 + (1 : Int32))).toNatClampNeg)]) (rest := []) X.1 (c_X11_reverses l G hk40) (cwV 1 hts gX11_carriesOut_X11_reverses rfl rfl rfl (by decide +kernel) ⟨Nat.le_of_ble_eq_true rfl, Nat.le_of_ble_eq_true rfl⟩) (am_preV X hh 141 12 (by decide) rfl rfl) rfl rfl hl.1 rfl (lv_room (Nat.le_of_ble_eq_true rfl)) dX11_carriesOut_177 ⟨Nat.le_of_ble_eq_true rfl, Nat.le_of_ble_eq_true rfl⟩) (fun ab H locs hh => ?_)
                  exact am_iret X hr hh (fun t ht => am_qw (mk := oI) hF ht) (Nat.le_of_ble_eq_true rfl) (Nat.le_of_ble_eq_true rfl) dX11_carriesOut_180
                · have hF := am_neg hs39 hF
                  by_cases hs44 : (gI w 150 (x1).toNatClampNeg) = (115 : Int32)
                  · have hF := am_pos hs44 hF
                    refine am_tableIn (k := 18) (tgt := 161) hx hb dX11_carriesOut_24 hs44 (by decide) rfl (by decide) ?_
                    refine lv_aload_n hx hb dX11_carriesOut_161 rfl (lv_at hl 2 rfl) ?_
                    refine lv_iload_n hx hb dX11_carriesOut_162 rfl (lv_at hl 1 rfl) ?_
                    refine lv_iload_n hx hb dX11_carriesOut_163 rfl (lv_at hl 0 rfl) ?_
                    obtain ⟨⟨r46, w47⟩, hk45, hF⟩ := am_bind hF
                    have hF := am_u2 hF
                    refine am_call X hh (va_runV (As := [.int (gI w 150 ((x1 + (1 : Int32))).toNatClampNeg), .int (gI w 150 ((x1 + (2 : Int32))).toNatClampNeg)]) (rest := []) X.1 (c_X11_sets l G hk45) (cwV 2 hts gX11_carriesOut_X11_sets rfl rfl rfl (by decide +kernel) ⟨Nat.le_of_ble_eq_true rfl, Nat.le_of_ble_eq_true rfl⟩) (am_preV X hh 141 12 (by decide) rfl rfl) rfl rfl hl.1 rfl (lv_room (Nat.le_of_ble_eq_true rfl)) dX11_carriesOut_164 ⟨Nat.le_of_ble_eq_true rfl, Nat.le_of_ble_eq_true rfl⟩) (fun ab H locs hh => ?_)
                    exact am_iret X hr hh (fun t ht => am_qw (mk := oI) hF ht) (Nat.le_of_ble_eq_true rfl) (Nat.le_of_ble_eq_true rfl) dX11_carriesOut_167
                  · have hF := am_neg hs44 hF
                    by_cases hs49 : (gI w 150 (x1).toNatClampNeg) = (116 : Int32)
                    · have hF := am_pos hs49 hF
                      refine am_tableIn (k := 19) (tgt := 188) hx hb dX11_carriesOut_24 hs49 (by decide) rfl (by decide) ?_
                      refine lv_aload_n hx hb dX11_carriesOut_188 rfl (lv_at hl 2 rfl) ?_
                      refine lv_iload_n hx hb dX11_carriesOut_189 rfl (lv_at hl 1 rfl) ?_
                      refine lv_iconst (v := (1 : Int32)) hx hb dX11_carriesOut_190 (by decide) ?_
                      obtain ⟨⟨r51, w52⟩, hk50, hF⟩ := am_bind hF
                      have hF := am_u2 hF
                      refine am_call X hh (va_runV (As := [.int (gI w 150 ((x1 + (1 : Int32))).toNatClampNeg), .int (1 : Int32)]) (rest := []) X.1 (c_X11_ratchets l G hk50) (cwV 2 hts gX11_carriesOut_X11_ratchets rfl rfl rfl (by decide +kernel) ⟨Nat.le_of_ble_eq_true rfl, Nat.le_of_ble_eq_true rfl⟩) (am_preV X hh 141 12 (by decide) rfl rfl) rfl rfl hl.1 rfl (lv_room (Nat.le_of_ble_eq_true rfl)) dX11_carriesOut_191 ⟨Nat.le_of_ble_eq_true rfl, Nat.le_of_ble_eq_true rfl⟩) (fun ab H locs hh => ?_)
                      exact am_iret X hr hh (fun t ht => am_qw (mk := oI) hF ht) (Nat.le_of_ble_eq_true rfl) (Nat.le_of_ble_eq_true rfl) dX11_carriesOut_194
                    · have hF := am_neg hs49 hF
                      by_cases hs54 : (gI w 150 (x1).toNatClampNeg) = (117 : Int32)
                      · have hF := am_pos hs54 hF
                        refine am_tableIn (k := 20) (tgt := 181) hx hb dX11_carriesOut_24 hs54 (by decide) rfl (by decide) ?_
                        refine lv_aload_n hx hb dX11_carriesOut_181 rfl (lv_at hl 2 rfl) ?_
                        refine lv_iload_n hx hb dX11_carriesOut_182 rfl (lv_at hl 1 rfl) ?_
                        refine lv_iload_n hx hb dX11_carriesOut_183 rfl (lv_at hl 0 rfl) ?_
                        obtain ⟨⟨r56, w57⟩, hk55, hF⟩ := am_bind hF
                        have hF := am_u2 hF
                        refine am_call X hh (va_runV (As := [.int (gI w 150 ((x1 + (1 : Int32))).toNatClampNeg), .int (gI w 150 ((x1 + (2 : Int32))).toNatClampNeg)]) (rest := []) X.1 (c_X11_releases l G hk55) (cwV 2 hts gX11_carriesOut_X11_releases rfl rfl rfl (by decide +kernel) ⟨Nat.le_of_ble_eq_true rfl, Nat.le_of_ble_eq_true rfl⟩) (am_preV X hh 141 12 (by decide) rfl rfl) rfl rfl hl.1 rfl (lv_room (Nat.le_of_ble_eq_true rfl)) dX11_carriesOut_184 ⟨Nat.le_of_ble_eq_true rfl, Nat.le_of_ble_eq_true rfl⟩) (fun ab H locs hh => ?_)
                        exact am_iret X hr hh (fun t ht => am_qw (mk := oI) hF ht) (Nat.le_of_ble_eq_true rfl) (Nat.le_of_ble_eq_true rfl) dX11_carriesOut_187
                      · have hF := am_neg hs54 hF
                        by_cases hs59 : (gI w 150 (x1).toNatClampNeg) = (119 : Int32)
                        · have hF := am_pos hs59 hF
                          refine am_tableIn (k := 22) (tgt := 168) hx hb dX11_carriesOut_24 hs59 (by decide) rfl (by decide) ?_
                          refine lv_aload_n hx hb dX11_carriesOut_168 rfl (lv_at hl 2 rfl) ?_
                          refine lv_iload_n hx hb dX11_carriesOut_169 rfl (lv_at hl 1 rfl) ?_
                          refine lv_iload_n hx hb dX11_carriesOut_170 rfl (lv_at hl 0 rfl) ?_
                          obtain ⟨⟨r61, w62⟩, hk60, hF⟩ := am_bind hF
                          have hF := am_u2 hF
                          refine am_call X hh (va_runV (As := [.int (gI w 150 ((x1 + (1 : Int32))).toNatClampNeg), .int (gI w 150 ((x1 + (2 : Int32))).toNatClampNeg)]) (rest := []) X.1 (c_X11_winds l G hk60) (cwV 2 hts gX11_carriesOut_X11_winds rfl rfl rfl (by decide +kernel) ⟨Nat.le_of_ble_eq_true rfl, Nat.le_of_ble_eq_true rfl⟩) (am_preV X hh 141 12 (by decide) rfl rfl) rfl rfl hl.1 rfl (lv_room (Nat.le_of_ble_eq_true rfl)) dX11_carriesOut_171 ⟨Nat.le_of_ble_eq_true rfl, Nat.le_of_ble_eq_true rfl⟩) (fun ab H locs hh => ?_)
                          exact am_iret X hr hh (fun t ht => am_qw (mk := oI) hF ht) (Nat.le_of_ble_eq_true rfl) (Nat.le_of_ble_eq_true rfl) dX11_carriesOut_174
                        · have hF := am_neg hs59 hF
                          refine am_tableD (keys := [(97 : Int32), (98 : Int32), (99 : Int32), (102 : Int32), (103 : Int32), (109 : Int32), (111 : Int32), (114 : Int32), (115 : Int32), (116 : Int32), (117 : Int32), (119 : Int32)]) (tgt := 214) hx hb dX11_carriesOut_24 (List.forall_mem_cons.mpr ⟨hs4, List.forall_mem_cons.mpr ⟨hs9, List.forall_mem_cons.mpr ⟨hs14, List.forall_mem_cons.mpr ⟨hs19, List.forall_mem_cons.mpr ⟨hs24, List.forall_mem_cons.mpr ⟨hs29, List.forall_mem_cons.mpr ⟨hs34, List.forall_mem_cons.mpr ⟨hs39, List.forall_mem_cons.mpr ⟨hs44, List.forall_mem_cons.mpr ⟨hs49, List.forall_mem_cons.mpr ⟨hs54, List.forall_mem_cons.mpr ⟨hs59, List.forall_mem_nil _⟩⟩⟩⟩⟩⟩⟩⟩⟩⟩⟩⟩) (by decide +kernel) (by decide) (by decide) ?_
                          refine lv_aload_n hx hb dX11_carriesOut_214 rfl (lv_at hl 2 rfl) ?_
                          refine lv_iload_n hx hb dX11_carriesOut_215 rfl (lv_at hl 1 rfl) ?_
                          obtain ⟨⟨r65, w66⟩, hk64, hF⟩ := am_bind hF
                          have hF := am_u2 hF
                          refine am_call X hh (va_runV (As := [.int (gI w 150 ((x1 + (1 : Int32))).toNatClampNeg)]) (rest := []) X.1 (c_X11_addsPlanet l G hk64) (cwV 1 hts gX11_carriesOut_X11_addsPlanet rfl rfl rfl (by decide +kernel) ⟨Nat.le_of_ble_eq_true rfl, Nat.le_of_ble_eq_true rfl⟩) (am_preV X hh 141 12 (by decide) rfl rfl) rfl rfl hl.1 rfl (lv_room (Nat.le_of_ble_eq_true rfl)) dX11_carriesOut_216 ⟨Nat.le_of_ble_eq_true rfl, Nat.le_of_ble_eq_true rfl⟩) (fun ab H locs hh => ?_)
                          exact am_iret X hr hh (fun t ht => am_qw (mk := oI) hF ht) (Nat.le_of_ble_eq_true rfl) (Nat.le_of_ble_eq_true rfl) dX11_carriesOut_219
