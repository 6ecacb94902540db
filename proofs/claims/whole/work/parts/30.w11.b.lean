set_option maxHeartbeats 4000000 in
set_option maxRecDepth 100000 in
theorem c_X11_rubs (l : Launch) (G : GG) {w : Wd} {x1 : Int32} {r0 : Int32} {w1 : Wd} (hF : f_X11_rubs w x1 = some (r0, w1)) : Met l yX11_rubs wsX11_rubs ({ frames := 4, cells := 0, slots := 0, locals := 88 } : Room) (va_Pc [.ref (gAd G 141), .int x1] (Rel G w)) (amQ G (oI r0) w1) 0 0 (gA G) := by
  refine am_met (own := RX11) (cc := cX11_rubs) (maxL := 4) (ret := (some .int)) (by decide +kernel) rfl rfl (Nat.le_of_ble_eq_true rfl) ?_
  intro p e s m args below meth c ab H locs ls X hr hh hl
  have hx := X.1.1; have hb := X.1.2.1; have hml := X.1.2.2.1; have hown := X.1.2.2.2.1; have hts := X.1.2.2.2.2
  have hl : lv_has ls 4 [(0, .ref (gAd G 141)), (1, .int x1)] := hl
  have hwRX11 : ∀ z ∈ u_ws RX11 TX11 18, z ∈ wsX11_rubs := by decide +kernel
  unfold f_X11_rubs at hF
  refine lv_aload_n hx hb dX11_rubs_0 rfl (lv_at hl 0 rfl) ?_
  refine lv_iload_n hx hb dX11_rubs_1 rfl (lv_at hl 1 rfl) ?_
  obtain ⟨w3, hk1, hF⟩ := am_bind hF
  refine am_call X hh (va_runV (As := [.int x1]) (rest := []) X.1 (c_X11_turns l G hk1) (cwV 1 hts gX11_rubs_X11_turns rfl rfl rfl (by decide +kernel) ⟨Nat.le_of_ble_eq_true rfl, Nat.le_of_ble_eq_true rfl⟩) (am_preV X hh 141 12 (by decide) rfl rfl) rfl rfl hl.1 rfl (lv_room (Nat.le_of_ble_eq_true rfl)) dX11_rubs_2 ⟨Nat.le_of_ble_eq_true rfl, Nat.le_of_ble_eq_true rfl⟩) (fun ab H locs hh => ?_)
  refine lv_aload_n hx hb dX11_rubs_5 rfl (lv_at hl 0 rfl) ?_
  obtain ⟨r5, hk4, hF⟩ := am_bind hF
  refine am_call X hh (va_runV (As := []) (rest := []) X.1 (c_X11_members l G hk4) (cwV 0 hts gX11_rubs_X11_members rfl rfl rfl (by decide +kernel) ⟨Nat.le_of_ble_eq_true rfl, Nat.le_of_ble_eq_true rfl⟩) (am_preV X hh 141 12 (by decide) rfl rfl) rfl rfl hl.1 rfl (lv_room (Nat.le_of_ble_eq_true rfl)) dX11_rubs_6 ⟨Nat.le_of_ble_eq_true rfl, Nat.le_of_ble_eq_true rfl⟩) (fun ab H locs hh => ?_)
  refine lv_istore_n (lv' := [(2, .int r5), (0, .ref (gAd G 141)), (1, .int x1)]) hx hb dX11_rubs_9 rfl hl (by decide) rfl (fun ls hl => ?_)
  refine lv_iconst (v := (0 : Int32)) hx hb dX11_rubs_10 (by decide) ?_
  refine lv_istore_n (lv' := [(3, .int (0 : Int32)), (2, .int r5), (0, .ref (gAd G 141)), (1, .int x1)]) hx hb dX11_rubs_11 rfl hl (by decide) rfl (fun ls hl => ?_)
  have hlp12 : ∀ (n : Nat) (y6 : Int32) (y7 : Int32) (ab : Nat) (H : Heap) (locs : List Loc) (ls : Array Slot) (z : (Int32 × Int32) ⊕ Unit), p_X11_rubs_12 w3 n y6 y7 = some z → AH G s.heap w3 ab H locs → lv_has ls 4 [(2, .int y6), (3, .int y7), (0, .ref (gAd G 141)), (1, .int x1)] → (∀ (y6 : Int32) (y7 : Int32) (ab : Nat) (H : Heap) (locs : List Loc) (ls : Array Slot), z = .inl (y6, y7) → AH G s.heap w3 ab H locs → lv_has ls 4 [(2, .int y6), (3, .int y7), (0, .ref (gAd G 141)), (1, .int x1)] → W p l e ({ frames := 4, cells := 0, slots := 0, locals := 88 } : Room) s m args below meth c H locs 0 0 (MQ below (amQ G (oI r0) w1) args s 0 0 (gA G)) (F0 m 55 ls [])) → W p l e ({ frames := 4, cells := 0, slots := 0, locals := 88 } : Room) s m args below meth c H locs 0 0 (MQ below (amQ G (oI r0) w1) args s 0 0 (gA G)) (F0 m 12 ls []) := by
    intro n
    induction n with
    | zero =>
      intro y6 y7 ab H locs ls z hF
      unfold p_X11_rubs_12 at hF
      cases hF
    | succ n ih =>
      intro y6 y7 ab H locs ls z hF hh hl kE
      unfold p_X11_rubs_12 at hF
      refine lv_iload_n hx hb dX11_rubs_12 rfl (lv_at hl 1 rfl) ?_
      refine lv_bipush (v := (10 : Int32)) hx hb dX11_rubs_13 (by decide) ?_
      refine lv_icmp_ge (tgt := 55) hx hb dX11_rubs_15 (by decide) (fun hc9 => ?_) (fun hc9 => ?_)
      · have hF := am_pos hc9 hF
        exact kE y6 y7 ab H locs ls (Option.some.inj hF).symm hh (lv_sub hl [0, 1, 2, 3] rfl)
      · have hF := am_neg hc9 hF
        refine lv_iload_n hx hb dX11_rubs_18 rfl (lv_at hl 0 rfl) ?_
        refine lv_aload_n hx hb dX11_rubs_19 rfl (lv_at hl 2 rfl) ?_
        refine am_getR X hh 141 12 14 149 (by decide) rfl rfl (by decide) hwRX11 (show Cond.fieldLink RX11 39 "PlanetWorkshopModel" "isKnown" "[Z" ∈ wsX11_rubs by decide +kernel) rfl dX11_rubs_20 ?_
        refine lv_iload_n hx hb dX11_rubs_23 rfl (lv_at hl 1 rfl) ?_
        obtain ⟨hq10, hF⟩ := am_ifR hF
        refine am_zald X hh 149 (by decide) rfl hq10 dX11_rubs_24 ?_
        refine lv_if_eq (tgt := 46) hx hb dX11_rubs_25 (by decide) (fun hc11 => ?_) (fun hc11 => ?_)
        · have hF := am_pos hc11 hF
          refine lv_iconst (v := (0 : Int32)) hx hb dX11_rubs_46 (by decide) ?_
          refine lv_iadd hx hb dX11_rubs_47 ?_
          refine lv_istore_n (lv' := [(2, .int (y6 + (0 : Int32))), (3, .int y7), (0, .ref (gAd G 141)), (1, .int x1)]) hx hb dX11_rubs_48 rfl hl (by decide) rfl (fun ls hl => ?_)
          refine lv_iinc (v := (y7 + (1 : Int32))) (lv' := [(3, .int (y7 + (1 : Int32))), (2, .int (y6 + (0 : Int32))), (0, .ref (gAd G 141)), (1, .int x1)]) hx hb dX11_rubs_49 hl (k := 1) rfl rfl (by decide) rfl (fun ls hl => ?_)
          refine lv_goto (tgt := 12) hx hb dX11_rubs_52 (by decide) ?_
          exact ih (y6 + (0 : Int32)) (y7 + (1 : Int32)) ab H locs ls _ hF hh (lv_sub hl [1, 0, 2, 3] rfl) kE
        · have hF := am_neg hc11 hF
          refine lv_aload_n hx hb dX11_rubs_28 rfl (lv_at hl 2 rfl) ?_
          refine am_getR X hh 141 12 0 142 (by decide) rfl rfl (by decide) hwRX11 (show Cond.fieldLink RX11 7 "PlanetWorkshopModel" "g" "[J" ∈ wsX11_rubs by decide +kernel) rfl dX11_rubs_29 ?_
          refine lv_bipush (v := (66 : Int32)) hx hb dX11_rubs_32 (by decide) ?_
          refine lv_iload_n hx hb dX11_rubs_34 rfl (lv_at hl 1 rfl) ?_
          refine lv_iadd hx hb dX11_rubs_35 ?_
          obtain ⟨hq12, hF⟩ := am_ifR hF
          refine am_lald X hh 142 (by decide) rfl hq12 dX11_rubs_36 ?_
          refine lv_lconst (v := (0 : Int64)) hx hb dX11_rubs_37 (by decide) ?_
          refine am_lcmp_ne (tgt := 46) hx hb dX11_rubs_38 dX11_rubs_39 (by decide) (fun hc13 => ?_) (fun hc13 => ?_)
          · have hF := am_neg hc13 hF
            refine lv_iconst (v := (0 : Int32)) hx hb dX11_rubs_46 (by decide) ?_
            refine lv_iadd hx hb dX11_rubs_47 ?_
            refine lv_istore_n (lv' := [(2, .int (y6 + (0 : Int32))), (3, .int y7), (0, .ref (gAd G 141)), (1, .int x1)]) hx hb dX11_rubs_48 rfl hl (by decide) rfl (fun ls hl => ?_)
            refine lv_iinc (v := (y7 + (1 : Int32))) (lv' := [(3, .int (y7 + (1 : Int32))), (2, .int (y6 + (0 : Int32))), (0, .ref (gAd G 141)), (1, .int x1)]) hx hb dX11_rubs_49 hl (k := 1) rfl rfl (by decide) rfl (fun ls hl => ?_)
            refine lv_goto (tgt := 12) hx hb dX11_rubs_52 (by decide) ?_
            exact ih (y6 + (0 : Int32)) (y7 + (1 : Int32)) ab H locs ls _ hF hh (lv_sub hl [1, 0, 2, 3] rfl) kE
          · have hF := am_pos hc13 hF
            refine lv_iconst (v := (1 : Int32)) hx hb dX11_rubs_42 (by decide) ?_
            refine lv_goto (tgt := 47) hx hb dX11_rubs_43 (by decide) ?_
            refine lv_iadd hx hb dX11_rubs_47 ?_
            refine lv_istore_n (lv' := [(2, .int (y6 + (1 : Int32))), (3, .int y7), (0, .ref (gAd G 141)), (1, .int x1)]) hx hb dX11_rubs_48 rfl hl (by decide) rfl (fun ls hl => ?_)
            refine lv_iinc (v := (y7 + (1 : Int32))) (lv' := [(3, .int (y7 + (1 : Int32))), (2, .int (y6 + (1 : Int32))), (0, .ref (gAd G 141)), (1, .int x1)]) hx hb dX11_rubs_49 hl (k := 1) rfl rfl (by decide) rfl (fun ls hl => ?_)
            refine lv_goto (tgt := 12) hx hb dX11_rubs_52 (by decide) ?_
            exact ih (y6 + (1 : Int32)) (y7 + (1 : Int32)) ab H locs ls _ hF hh (lv_sub hl [1, 0, 2, 3] rfl) kE
  obtain ⟨z14, hz15, hF⟩ := am_bind hF
  refine hlp12 2000 r5 (0 : Int32) ab H locs ls z14 hz15 hh (lv_sub hl [1, 0, 2, 3] rfl) (fun y6 y7 ab H locs ls hz hh hl => ?_)
  · subst hz
    have hF := am_zl hF
    have hF := am_u2 hF
    refine lv_iload_n hx hb dX11_rubs_55 rfl (lv_at hl 0 rfl) ?_
    exact am_iret X hr hh (fun t ht => am_qw (mk := oI) hF ht) (Nat.le_of_ble_eq_true rfl) (Nat.le_of_ble_eq_true rfl) dX11_rubs_56
set_option maxHeartbeats 4000000 in
set_option maxRecDepth 100000 in
theorem c_X11_mayHave (l : Launch) (G : GG) {w : Wd} {x0 : Int32} {r0 : Int32} (hF : f_X11_mayHave w x0 = some r0) : Met l yX11_mayHave wsX11_mayHave ({ frames := 0, cells := 0, slots := 0, locals := 0 } : Room) (va_Pc [.int x0] (Rel G w)) (amQ G (oI r0) w) 0 0 (gA G) := by
  refine am_met (own := RX11) (cc := cX11_mayHave) (maxL := 1) (ret := (some .boolean)) (by decide +kernel) rfl rfl (Nat.le_of_ble_eq_true rfl) ?_
  intro p e s m args below meth c ab H locs ls X hr hh hl
  have hx := X.1.1; have hb := X.1.2.1; have hml := X.1.2.2.1; have hown := X.1.2.2.2.1; have hts := X.1.2.2.2.2
  have hl : lv_has ls 1 [(0, .int x0)] := hl
  unfold f_X11_mayHave at hF
  refine lv_iload_n hx hb dX11_mayHave_0 rfl (lv_at hl 0 rfl) ?_
  refine lv_bipush (v := (6 : Int32)) hx hb dX11_mayHave_1 (by decide) ?_
  refine lv_icmp_eq (tgt := 60) hx hb dX11_mayHave_3 (by decide) (fun hc1 => ?_) (fun hc1 => ?_)
  · have hF := am_pos hc1 hF
    refine lv_iconst (v := (1 : Int32)) hx hb dX11_mayHave_60 (by decide) ?_
    refine lv_goto (tgt := 65) hx hb dX11_mayHave_61 (by decide) ?_
    exact am_zret (v' := (1 : Int32)) X hr rfl hh (fun t ht => am_qp (mk := oI) hF ht) (Nat.le_of_ble_eq_true rfl) (Nat.le_of_ble_eq_true rfl) dX11_mayHave_65
  · have hF := am_neg hc1 hF
    refine lv_iload_n hx hb dX11_mayHave_6 rfl (lv_at hl 0 rfl) ?_
    refine lv_bipush (v := (8 : Int32)) hx hb dX11_mayHave_7 (by decide) ?_
    refine lv_icmp_eq (tgt := 60) hx hb dX11_mayHave_9 (by decide) (fun hc2 => ?_) (fun hc2 => ?_)
    · have hF := am_pos hc2 hF
      refine lv_iconst (v := (1 : Int32)) hx hb dX11_mayHave_60 (by decide) ?_
      refine lv_goto (tgt := 65) hx hb dX11_mayHave_61 (by decide) ?_
      exact am_zret (v' := (1 : Int32)) X hr rfl hh (fun t ht => am_qp (mk := oI) hF ht) (Nat.le_of_ble_eq_true rfl) (Nat.le_of_ble_eq_true rfl) dX11_mayHave_65
    · have hF := am_neg hc2 hF
      refine lv_iload_n hx hb dX11_mayHave_12 rfl (lv_at hl 0 rfl) ?_
      refine lv_bipush (v := (10 : Int32)) hx hb dX11_mayHave_13 (by decide) ?_
      refine lv_icmp_eq (tgt := 60) hx hb dX11_mayHave_15 (by decide) (fun hc3 => ?_) (fun hc3 => ?_)
      · have hF := am_pos hc3 hF
        refine lv_iconst (v := (1 : Int32)) hx hb dX11_mayHave_60 (by decide) ?_
        refine lv_goto (tgt := 65) hx hb dX11_mayHave_61 (by decide) ?_
        exact am_zret (v' := (1 : Int32)) X hr rfl hh (fun t ht => am_qp (mk := oI) hF ht) (Nat.le_of_ble_eq_true rfl) (Nat.le_of_ble_eq_true rfl) dX11_mayHave_65
      · have hF := am_neg hc3 hF
        refine lv_iload_n hx hb dX11_mayHave_18 rfl (lv_at hl 0 rfl) ?_
        refine lv_bipush (v := (12 : Int32)) hx hb dX11_mayHave_19 (by decide) ?_
        refine lv_icmp_eq (tgt := 60) hx hb dX11_mayHave_21 (by decide) (fun hc4 => ?_) (fun hc4 => ?_)
        · have hF := am_pos hc4 hF
          refine lv_iconst (v := (1 : Int32)) hx hb dX11_mayHave_60 (by decide) ?_
          refine lv_goto (tgt := 65) hx hb dX11_mayHave_61 (by decide) ?_
          exact am_zret (v' := (1 : Int32)) X hr rfl hh (fun t ht => am_qp (mk := oI) hF ht) (Nat.le_of_ble_eq_true rfl) (Nat.le_of_ble_eq_true rfl) dX11_mayHave_65
        · have hF := am_neg hc4 hF
          refine lv_iload_n hx hb dX11_mayHave_24 rfl (lv_at hl 0 rfl) ?_
          refine lv_bipush (v := (15 : Int32)) hx hb dX11_mayHave_25 (by decide) ?_
          refine lv_icmp_eq (tgt := 60) hx hb dX11_mayHave_27 (by decide) (fun hc5 => ?_) (fun hc5 => ?_)
          · have hF := am_pos hc5 hF
            refine lv_iconst (v := (1 : Int32)) hx hb dX11_mayHave_60 (by decide) ?_
            refine lv_goto (tgt := 65) hx hb dX11_mayHave_61 (by decide) ?_
            exact am_zret (v' := (1 : Int32)) X hr rfl hh (fun t ht => am_qp (mk := oI) hF ht) (Nat.le_of_ble_eq_true rfl) (Nat.le_of_ble_eq_true rfl) dX11_mayHave_65
          · have hF := am_neg hc5 hF
            refine lv_iload_n hx hb dX11_mayHave_30 rfl (lv_at hl 0 rfl) ?_
            refine lv_bipush (v := (20 : Int32)) hx hb dX11_mayHave_31 (by decide) ?_
            refine lv_icmp_eq (tgt := 60) hx hb dX11_mayHave_33 (by decide) (fun hc6 => ?_) (fun hc6 => ?_)
            · have hF := am_pos hc6 hF
              refine lv_iconst (v := (1 : Int32)) hx hb dX11_mayHave_60 (by decide) ?_
              refine lv_goto (tgt := 65) hx hb dX11_mayHave_61 (by decide) ?_
              exact am_zret (v' := (1 : Int32)) X hr rfl hh (fun t ht => am_qp (mk := oI) hF ht) (Nat.le_of_ble_eq_true rfl) (Nat.le_of_ble_eq_true rfl) dX11_mayHave_65
            · have hF := am_neg hc6 hF
              refine lv_iload_n hx hb dX11_mayHave_36 rfl (lv_at hl 0 rfl) ?_
              refine lv_bipush (v := (24 : Int32)) hx hb dX11_mayHave_37 (by decide) ?_
              refine lv_icmp_eq (tgt := 60) hx hb dX11_mayHave_39 (by decide) (fun hc7 => ?_) (fun hc7 => ?_)
              · have hF := am_pos hc7 hF
                refine lv_iconst (v := (1 : Int32)) hx hb dX11_mayHave_60 (by decide) ?_
                refine lv_goto (tgt := 65) hx hb dX11_mayHave_61 (by decide) ?_
                exact am_zret (v' := (1 : Int32)) X hr rfl hh (fun t ht => am_qp (mk := oI) hF ht) (Nat.le_of_ble_eq_true rfl) (Nat.le_of_ble_eq_true rfl) dX11_mayHave_65
              · have hF := am_neg hc7 hF
                refine lv_iload_n hx hb dX11_mayHave_42 rfl (lv_at hl 0 rfl) ?_
                refine lv_bipush (v := (30 : Int32)) hx hb dX11_mayHave_43 (by decide) ?_
                refine lv_icmp_eq (tgt := 60) hx hb dX11_mayHave_45 (by decide) (fun hc8 => ?_) (fun hc8 => ?_)
                · have hF := am_pos hc8 hF
                  refine lv_iconst (v := (1 : Int32)) hx hb dX11_mayHave_60 (by decide) ?_
                  refine lv_goto (tgt := 65) hx hb dX11_mayHave_61 (by decide) ?_
                  exact am_zret (v' := (1 : Int32)) X hr rfl hh (fun t ht => am_qp (mk := oI) hF ht) (Nat.le_of_ble_eq_true rfl) (Nat.le_of_ble_eq_true rfl) dX11_mayHave_65
                · have hF := am_neg hc8 hF
                  refine lv_iload_n hx hb dX11_mayHave_48 rfl (lv_at hl 0 rfl) ?_
                  refine lv_bipush (v := (40 : Int32)) hx hb dX11_mayHave_49 (by decide) ?_
                  refine lv_icmp_eq (tgt := 60) hx hb dX11_mayHave_51 (by decide) (fun hc9 => ?_) (fun hc9 => ?_)
                  · have hF := am_pos hc9 hF
                    refine lv_iconst (v := (1 : Int32)) hx hb dX11_mayHave_60 (by decide) ?_
                    refine lv_goto (tgt := 65) hx hb dX11_mayHave_61 (by decide) ?_
                    exact am_zret (v' := (1 : Int32)) X hr rfl hh (fun t ht => am_qp (mk := oI) hF ht) (Nat.le_of_ble_eq_true rfl) (Nat.le_of_ble_eq_true rfl) dX11_mayHave_65
                  · have hF := am_neg hc9 hF
                    refine lv_iload_n hx hb dX11_mayHave_54 rfl (lv_at hl 0 rfl) ?_
                    refine lv_bipush (v := (60 : Int32)) hx hb dX11_mayHave_55 (by decide) ?_
                    refine lv_icmp_ne (tgt := 64) hx hb dX11_mayHave_57 (by decide) (fun hc10 => ?_) (fun hc10 => ?_)
                    · have hF := am_neg hc10 hF
                      refine lv_iconst (v := (0 : Int32)) hx hb dX11_mayHave_64 (by decide) ?_
                      exact am_zret (v' := (0 : Int32)) X hr rfl hh (fun t ht => am_qp (mk := oI) hF ht) (Nat.le_of_ble_eq_true rfl) (Nat.le_of_ble_eq_true rfl) dX11_mayHave_65
                    · have hF := am_pos hc10 hF
                      refine lv_iconst (v := (1 : Int32)) hx hb dX11_mayHave_60 (by decide) ?_
                      refine lv_goto (tgt := 65) hx hb dX11_mayHave_61 (by decide) ?_
                      exact am_zret (v' := (1 : Int32)) X hr rfl hh (fun t ht => am_qp (mk := oI) hF ht) (Nat.le_of_ble_eq_true rfl) (Nat.le_of_ble_eq_true rfl) dX11_mayHave_65
set_option maxHeartbeats 4000000 in
set_option maxRecDepth 100000 in
theorem c_X11_addsGear (l : Launch) (G : GG) {w : Wd} {x1 : Int32} {r0 : Int32} {w1 : Wd} (hF : f_X11_addsGear w x1 = some (r0, w1)) : Met l yX11_addsGear wsX11_addsGear ({ frames := 1, cells := 0, slots := 0, locals := 21 } : Room) (va_Pc [.ref (gAd G 141), .int x1] (Rel G w)) (amQ G (oI r0) w1) 0 0 (gA G) := by
  refine am_met (own := RX11) (cc := cX11_addsGear) (maxL := 3) (ret := (some .int)) (by decide +kernel) rfl rfl (Nat.le_of_ble_eq_true rfl) ?_
  intro p e s m args below meth c ab H locs ls X hr hh hl
  have hx := X.1.1; have hb := X.1.2.1; have hml := X.1.2.2.1; have hown := X.1.2.2.2.1; have hts := X.1.2.2.2.2
  have hl : lv_has ls 3 [(0, .ref (gAd G 141)), (1, .int x1)] := hl
  have hwRX11 : ∀ z ∈ u_ws RX11 TX11 18, z ∈ wsX11_addsGear := by decide +kernel
  unfold f_X11_addsGear at hF
  refine lv_iload_n hx hb dX11_addsGear_0 rfl (lv_at hl 1 rfl) ?_
  obtain ⟨r2, hk1, hF⟩ := am_bind hF
  refine am_call X hh (va_runS (As := [.int x1]) (rest := []) X.1 (c_X11_mayHave l G hk1) (va_cwS 1 hts gX11_addsGear_X11_mayHave rfl rfl rfl (by decide +kernel) ⟨Nat.le_of_ble_eq_true rfl, Nat.le_of_ble_eq_true rfl⟩) (am_preS X hh) rfl rfl hl.1 rfl (lv_room (Nat.le_of_ble_eq_true rfl)) dX11_addsGear_1 ⟨Nat.le_of_ble_eq_true rfl, Nat.le_of_ble_eq_true rfl⟩) (fun ab H locs hh => ?_)
  refine lv_if_ne (tgt := 13) hx hb dX11_addsGear_4 (by decide) (fun hc3 => ?_) (fun hc3 => ?_)
  · have hF := am_neg hc3 hF
    refine lv_aload_n hx hb dX11_addsGear_13 rfl (lv_at hl 0 rfl) ?_
    refine lv_iconst (v := (0 : Int32)) hx hb dX11_addsGear_14 (by decide) ?_
    obtain ⟨r5, hk4, hF⟩ := am_bind hF
    refine am_call X hh (va_runV (As := [.int (0 : Int32)]) (rest := []) X.1 (c_X11_at l G hk4) (cwV 1 hts gX11_addsGear_X11_at rfl rfl rfl (by decide +kernel) ⟨Nat.le_of_ble_eq_true rfl, Nat.le_of_ble_eq_true rfl⟩) (am_preV X hh 141 12 (by decide) rfl rfl) rfl rfl hl.1 rfl (lv_room (Nat.le_of_ble_eq_true rfl)) dX11_addsGear_15 ⟨Nat.le_of_ble_eq_true rfl, Nat.le_of_ble_eq_true rfl⟩) (fun ab H locs hh => ?_)
    refine lv_istore_n (lv' := [(2, .int r5), (0, .ref (gAd G 141)), (1, .int x1)]) hx hb dX11_addsGear_18 rfl hl (by decide) rfl (fun ls hl => ?_)
    refine lv_iload_n hx hb dX11_addsGear_19 rfl (lv_at hl 0 rfl) ?_
    refine lv_bipush (v := (10 : Int32)) hx hb dX11_addsGear_20 (by decide) ?_
    refine lv_icmp_ne (tgt := 31) hx hb dX11_addsGear_22 (by decide) (fun hc6 => ?_) (fun hc6 => ?_)
    · have hF := am_neg hc6 hF
      refine lv_aload_n hx hb dX11_addsGear_31 rfl (lv_at hl 1 rfl) ?_
      refine am_getR X hh 141 12 0 142 (by decide) rfl rfl (by decide) hwRX11 (show Cond.fieldLink RX11 7 "PlanetWorkshopModel" "g" "[J" ∈ wsX11_addsGear by decide +kernel) rfl dX11_addsGear_32 ?_
      refine lv_bipush (v := (6 : Int32)) hx hb dX11_addsGear_35 (by decide) ?_
      refine lv_iload_n hx hb dX11_addsGear_37 rfl (lv_at hl 0 rfl) ?_
      refine lv_iadd hx hb dX11_addsGear_38 ?_
      refine lv_iload_n hx hb dX11_addsGear_39 rfl (lv_at hl 2 rfl) ?_
      refine lv_i2l hx hb dX11_addsGear_40 rfl ?_
      obtain ⟨hq7, hF⟩ := am_ifR hF
      refine am_last X hh 142 (by decide) rfl hq7 dX11_addsGear_41 (fun H locs hh => ?_)
      obtain ⟨w8, hw8, hF⟩ := am_wl hF
      have hh := AH_eq hw8 hh
      refine lv_aload_n hx hb dX11_addsGear_42 rfl (lv_at hl 1 rfl) ?_
      refine am_getR X hh 141 12 0 142 (by decide) rfl rfl (by decide) hwRX11 (show Cond.fieldLink RX11 7 "PlanetWorkshopModel" "g" "[J" ∈ wsX11_addsGear by decide +kernel) rfl dX11_addsGear_43 ?_
      refine lv_iconst (v := (0 : Int32)) hx hb dX11_addsGear_46 (by decide) ?_
      refine lv_dup2_11 hx hb dX11_addsGear_47 rfl rfl ?_
      obtain ⟨hq9, hF⟩ := am_ifR hF
      refine am_lald X hh 142 (by decide) rfl hq9 dX11_addsGear_48 ?_
      refine lv_lconst (v := (1 : Int64)) hx hb dX11_addsGear_49 (by decide) ?_
      refine lv_ladd hx hb dX11_addsGear_50 ?_
      obtain ⟨hq10, hF⟩ := am_ifR hF
      refine am_last X hh 142 (by decide) rfl hq10 dX11_addsGear_51 (fun H locs hh => ?_)
      obtain ⟨w11, hw11, hF⟩ := am_wl hF
      have hh := AH_eq hw11 hh
      refine lv_aload_n hx hb dX11_addsGear_52 rfl (lv_at hl 1 rfl) ?_
      refine lv_iload_n hx hb dX11_addsGear_53 rfl (lv_at hl 0 rfl) ?_
      obtain ⟨⟨r13, w14⟩, hk12, hF⟩ := am_bind hF
      have hF := am_u2 hF
      refine am_call X hh (va_runV (As := [.int r5]) (rest := []) X.1 (c_X11_done l G hk12) (cwV 1 hts gX11_addsGear_X11_done rfl rfl rfl (by decide +kernel) ⟨Nat.le_of_ble_eq_true rfl, Nat.le_of_ble_eq_true rfl⟩) (am_preV X hh 141 12 (by decide) rfl rfl) rfl rfl hl.1 rfl (lv_room (Nat.le_of_ble_eq_true rfl)) dX11_addsGear_54 ⟨Nat.le_of_ble_eq_true rfl, Nat.le_of_ble_eq_true rfl⟩) (fun ab H locs hh => ?_)
      exact am_iret X hr hh (fun t ht => am_qw (mk := oI) hF ht) (Nat.le_of_ble_eq_true rfl) (Nat.le_of_ble_eq_true rfl) dX11_addsGear_57
    · have hF := am_pos hc6 hF
      refine lv_aload_n hx hb dX11_addsGear_25 rfl (lv_at hl 1 rfl) ?_
      refine lv_iconst (v := (2 : Int32)) hx hb dX11_addsGear_26 (by decide) ?_
      obtain ⟨⟨r17, w18⟩, hk16, hF⟩ := am_bind hF
      have hF := am_u2 hF
      refine am_call X hh (va_runV (As := [.int (2 : Int32)]) (rest := []) X.1 (c_X11_fails l G hk16) (cwV 1 hts gX11_addsGear_X11_fails rfl rfl rfl (by decide +kernel) ⟨Nat.le_of_ble_eq_true rfl, Nat.le_of_ble_eq_true rfl⟩) (am_preV X hh 141 12 (by decide) rfl rfl) rfl rfl hl.1 rfl (lv_room (Nat.le_of_ble_eq_true rfl)) dX11_addsGear_27 ⟨Nat.le_of_ble_eq_true rfl, Nat.le_of_ble_eq_true rfl⟩) (fun ab H locs hh => ?_)
      exact am_iret X hr hh (fun t ht => am_qw (mk := oI) hF ht) (Nat.le_of_ble_eq_true rfl) (Nat.le_of_ble_eq_true rfl) dX11_addsGear_30
  · have hF := am_pos hc3 hF
    refine lv_aload_n hx hb dX11_addsGear_7 rfl (lv_at hl 0 rfl) ?_
    refine lv_iconst (v := (1 : Int32)) hx hb dX11_addsGear_8 (by decide) ?_
    obtain ⟨⟨r21, w22⟩, hk20, hF⟩ := am_bind hF
    have hF := am_u2 hF
    refine am_call X hh (va_runV (As := [.int (1 : Int32)]) (rest := []) X.1 (c_X11_fails l G hk20) (cwV 1 hts gX11_addsGear_X11_fails rfl rfl rfl (by decide +kernel) ⟨Nat.le_of_ble_eq_true rfl, Nat.le_of_ble_eq_true rfl⟩) (am_preV X hh 141 12 (by decide) rfl rfl) rfl rfl hl.1 rfl (lv_room (Nat.le_of_ble_eq_true rfl)) dX11_addsGear_9 ⟨Nat.le_of_ble_eq_true rfl, Nat.le_of_ble_eq_true rfl⟩) (fun ab H locs hh => ?_)
    exact am_iret X hr hh (fun t ht => am_qw (mk := oI) hF ht) (Nat.le_of_ble_eq_true rfl) (Nat.le_of_ble_eq_true rfl) dX11_addsGear_12
set_option maxHeartbeats 4000000 in
set_option maxRecDepth 100000 in
theorem c_X11_addGear (l : Launch) (G : GG) {w : Wd} {x1 : Int32} {r0 : Int32} {w1 : Wd} (hF : f_X11_addGear w x1 = some (r0, w1)) : Met l yX11_addGear wsX11_addGear ({ frames := 2, cells := 0, slots := 0, locals := 46 } : Room) (va_Pc [.ref (gAd G 141), .int x1] (Rel G w)) (amQ G (oI r0) w1) 0 0 (gA G) := by
  refine am_met (own := RX11) (cc := cX11_addGear) (maxL := 2) (ret := (some .int)) (by decide +kernel) rfl rfl (Nat.le_of_ble_eq_true rfl) ?_
  intro p e s m args below meth c ab H locs ls X hr hh hl
  have hx := X.1.1; have hb := X.1.2.1; have hml := X.1.2.2.1; have hown := X.1.2.2.2.1; have hts := X.1.2.2.2.2
  have hl : lv_has ls 2 [(0, .ref (gAd G 141)), (1, .int x1)] := hl
  unfold f_X11_addGear at hF
  refine lv_aload_n hx hb dX11_addGear_0 rfl (lv_at hl 0 rfl) ?_
  obtain ⟨w3, hk1, hF⟩ := am_bind hF
  refine am_call X hh (va_runV (As := []) (rest := []) X.1 (c_X11_begin l G hk1) (cwV 0 hts gX11_addGear_X11_begin rfl rfl rfl (by decide +kernel) ⟨Nat.le_of_ble_eq_true rfl, Nat.le_of_ble_eq_true rfl⟩) (am_preV X hh 141 12 (by decide) rfl rfl) rfl rfl hl.1 rfl (lv_room (Nat.le_of_ble_eq_true rfl)) dX11_addGear_1 ⟨Nat.le_of_ble_eq_true rfl, Nat.le_of_ble_eq_true rfl⟩) (fun ab H locs hh => ?_)
  refine lv_aload_n hx hb dX11_addGear_4 rfl (lv_at hl 0 rfl) ?_
  refine lv_aload_n hx hb dX11_addGear_5 rfl (lv_at hl 0 rfl) ?_
  refine lv_iload_n hx hb dX11_addGear_6 rfl (lv_at hl 1 rfl) ?_
  obtain ⟨⟨r5, w6⟩, hk4, hF⟩ := am_bind hF
  have hF := am_u2 hF
  refine am_call X hh (va_runV (As := [.int x1]) (rest := [.ref (gAd G 141)]) X.1 (c_X11_addsGear l G hk4) (cwV 1 hts gX11_addGear_X11_addsGear rfl rfl rfl (by decide +kernel) ⟨Nat.le_of_ble_eq_true rfl, Nat.le_of_ble_eq_true rfl⟩) (am_preV X hh 141 12 (by decide) rfl rfl) rfl rfl hl.1 rfl (lv_room (Nat.le_of_ble_eq_true rfl)) dX11_addGear_7 ⟨Nat.le_of_ble_eq_true rfl, Nat.le_of_ble_eq_true rfl⟩) (fun ab H locs hh => ?_)
  obtain ⟨⟨r9, w10⟩, hk8, hF⟩ := am_bind hF
  have hF := am_u2 hF
  refine am_call X hh (va_runV (As := [.int r5]) (rest := []) X.1 (c_X11_kept l G hk8) (cwV 1 hts gX11_addGear_X11_kept rfl rfl rfl (by decide +kernel) ⟨Nat.le_of_ble_eq_true rfl, Nat.le_of_ble_eq_true rfl⟩) (am_preV X hh 141 12 (by decide) rfl rfl) rfl rfl hl.1 rfl (lv_room (Nat.le_of_ble_eq_true rfl)) dX11_addGear_10 ⟨Nat.le_of_ble_eq_true rfl, Nat.le_of_ble_eq_true rfl⟩) (fun ab H locs hh => ?_)
  exact am_iret X hr hh (fun t ht => am_qw (mk := oI) hF ht) (Nat.le_of_ble_eq_true rfl) (Nat.le_of_ble_eq_true rfl) dX11_addGear_13
set_option maxHeartbeats 4000000 in
set_option maxRecDepth 100000 in
theorem c_X11_haveSprings (l : Launch) (G : GG) {w : Wd} {x1 : Int32} {x2 : Int32} {r0 : Int32} {w1 : Wd} (hF : f_X11_haveSprings w x1 x2 = some (r0, w1)) : Met l yX11_haveSprings wsX11_haveSprings ({ frames := 4, cells := 0, slots := 0, locals := 88 } : Room) (va_Pc [.ref (gAd G 141), .int x1, .int x2] (Rel G w)) (amQ G (oI r0) w1) 0 0 (gA G) := by
  refine am_met (own := RX11) (cc := cX11_haveSprings) (maxL := 4) (ret := (some .boolean)) (by decide +kernel) rfl rfl (Nat.le_of_ble_eq_true rfl) ?_
  intro p e s m args below meth c ab H locs ls X hr hh hl
  have hx := X.1.1; have hb := X.1.2.1; have hml := X.1.2.2.1; have hown := X.1.2.2.2.1; have hts := X.1.2.2.2.2
  have hl : lv_has ls 4 [(0, .ref (gAd G 141)), (1, .int x1), (2, .int x2)] := hl
  have hwRX11 : ∀ z ∈ u_ws RX11 TX11 18, z ∈ wsX11_haveSprings := by decide +kernel
  unfold f_X11_haveSprings at hF
  refine lv_aload_n hx hb dX11_haveSprings_0 rfl (lv_at hl 0 rfl) ?_
  refine lv_iload_n hx hb dX11_haveSprings_1 rfl (lv_at hl 2 rfl) ?_
  obtain ⟨w3, hk1, hF⟩ := am_bind hF
  refine am_call X hh (va_runV (As := [.int x2]) (rest := []) X.1 (c_X11_turns l G hk1) (cwV 1 hts gX11_haveSprings_X11_turns rfl rfl rfl (by decide +kernel) ⟨Nat.le_of_ble_eq_true rfl, Nat.le_of_ble_eq_true rfl⟩) (am_preV X hh 141 12 (by decide) rfl rfl) rfl rfl hl.1 rfl (lv_room (Nat.le_of_ble_eq_true rfl)) dX11_haveSprings_2 ⟨Nat.le_of_ble_eq_true rfl, Nat.le_of_ble_eq_true rfl⟩) (fun ab H locs hh => ?_)
  refine lv_aload_n hx hb dX11_haveSprings_5 rfl (lv_at hl 0 rfl) ?_
  obtain ⟨r5, hk4, hF⟩ := am_bind hF
  refine am_call X hh (va_runV (As := []) (rest := []) X.1 (c_X11_springIn l G hk4) (cwV 0 hts gX11_haveSprings_X11_springIn rfl rfl rfl (by decide +kernel) ⟨Nat.le_of_ble_eq_true rfl, Nat.le_of_ble_eq_true rfl⟩) (am_preV X hh 141 12 (by decide) rfl rfl) rfl rfl hl.1 rfl (lv_room (Nat.le_of_ble_eq_true rfl)) dX11_haveSprings_6 ⟨Nat.le_of_ble_eq_true rfl, Nat.le_of_ble_eq_true rfl⟩) (fun ab H locs hh => ?_)
  refine lv_iconst (v := (-1 : Int32)) hx hb dX11_haveSprings_9 (by decide) ?_
  refine lv_icmp_eq (tgt := 17) hx hb dX11_haveSprings_10 (by decide) (fun hc6 => ?_) (fun hc6 => ?_)
  · have hF := am_pos hc6 hF
    refine lv_iconst (v := (0 : Int32)) hx hb dX11_haveSprings_17 (by decide) ?_
    refine lv_istore_n (lv' := [(3, .int (0 : Int32)), (0, .ref (gAd G 141)), (1, .int x1), (2, .int x2)]) hx hb dX11_haveSprings_18 rfl hl (by decide) rfl (fun ls hl => ?_)
    refine lv_aload_n hx hb dX11_haveSprings_19 rfl (lv_at hl 1 rfl) ?_
    refine lv_iload_n hx hb dX11_haveSprings_20 rfl (lv_at hl 2 rfl) ?_
    obtain ⟨w9, hk7, hF⟩ := am_bind hF
    refine am_call X hh (va_runV (As := [.int x1]) (rest := []) X.1 (c_X11_turns l G hk7) (cwV 1 hts gX11_haveSprings_X11_turns rfl rfl rfl (by decide +kernel) ⟨Nat.le_of_ble_eq_true rfl, Nat.le_of_ble_eq_true rfl⟩) (am_preV X hh 141 12 (by decide) rfl rfl) rfl rfl hl.1 rfl (lv_room (Nat.le_of_ble_eq_true rfl)) dX11_haveSprings_21 ⟨Nat.le_of_ble_eq_true rfl, Nat.le_of_ble_eq_true rfl⟩) (fun ab H locs hh => ?_)
    refine lv_aload_n hx hb dX11_haveSprings_24 rfl (lv_at hl 1 rfl) ?_
    refine am_getR X hh 141 12 14 149 (by decide) rfl rfl (by decide) hwRX11 (show Cond.fieldLink RX11 39 "PlanetWorkshopModel" "isKnown" "[Z" ∈ wsX11_haveSprings by decide +kernel) rfl dX11_haveSprings_25 ?_
    refine lv_iload_n hx hb dX11_haveSprings_28 rfl (lv_at hl 3 rfl) ?_
    obtain ⟨hq10, hF⟩ := am_ifR hF
    refine am_zald X hh 149 (by decide) rfl hq10 dX11_haveSprings_29 ?_
    refine lv_if_ne (tgt := 49) hx hb dX11_haveSprings_30 (by decide) (fun hc11 => ?_) (fun hc11 => ?_)
    · have hF := am_neg hc11 hF
      refine lv_iconst (v := (0 : Int32)) hx hb dX11_haveSprings_49 (by decide) ?_
      exact am_zret (v' := (0 : Int32)) X hr rfl hh (fun t ht => am_qw (mk := oI) hF ht) (Nat.le_of_ble_eq_true rfl) (Nat.le_of_ble_eq_true rfl) dX11_haveSprings_50
    · have hF := am_pos hc11 hF
      refine lv_iload_n hx hb dX11_haveSprings_33 rfl (lv_at hl 0 rfl) ?_
      refine lv_if_eq (tgt := 49) hx hb dX11_haveSprings_34 (by decide) (fun _ => ?_) (fun hz => absurd (by decide) hz)
      refine lv_iconst (v := (0 : Int32)) hx hb dX11_haveSprings_49 (by decide) ?_
      exact am_zret (v' := (0 : Int32)) X hr rfl hh (fun t ht => am_qw (mk := oI) hF ht) (Nat.le_of_ble_eq_true rfl) (Nat.le_of_ble_eq_true rfl) dX11_haveSprings_50
  · have hF := am_neg hc6 hF
    refine lv_iconst (v := (1 : Int32)) hx hb dX11_haveSprings_13 (by decide) ?_
    refine lv_goto (tgt := 18) hx hb dX11_haveSprings_14 (by decide) ?_
    refine lv_istore_n (lv' := [(3, .int (1 : Int32)), (0, .ref (gAd G 141)), (1, .int x1), (2, .int x2)]) hx hb dX11_haveSprings_18 rfl hl (by decide) rfl (fun ls hl => ?_)
    refine lv_aload_n hx hb dX11_haveSprings_19 rfl (lv_at hl 1 rfl) ?_
    refine lv_iload_n hx hb dX11_haveSprings_20 rfl (lv_at hl 2 rfl) ?_
    obtain ⟨w14, hk12, hF⟩ := am_bind hF
    refine am_call X hh (va_runV (As := [.int x1]) (rest := []) X.1 (c_X11_turns l G hk12) (cwV 1 hts gX11_haveSprings_X11_turns rfl rfl rfl (by decide +kernel) ⟨Nat.le_of_ble_eq_true rfl, Nat.le_of_ble_eq_true rfl⟩) (am_preV X hh 141 12 (by decide) rfl rfl) rfl rfl hl.1 rfl (lv_room (Nat.le_of_ble_eq_true rfl)) dX11_haveSprings_21 ⟨Nat.le_of_ble_eq_true rfl, Nat.le_of_ble_eq_true rfl⟩) (fun ab H locs hh => ?_)
    refine lv_aload_n hx hb dX11_haveSprings_24 rfl (lv_at hl 1 rfl) ?_
    refine am_getR X hh 141 12 14 149 (by decide) rfl rfl (by decide) hwRX11 (show Cond.fieldLink RX11 39 "PlanetWorkshopModel" "isKnown" "[Z" ∈ wsX11_haveSprings by decide +kernel) rfl dX11_haveSprings_25 ?_
    refine lv_iload_n hx hb dX11_haveSprings_28 rfl (lv_at hl 3 rfl) ?_
    obtain ⟨hq15, hF⟩ := am_ifR hF
    refine am_zald X hh 149 (by decide) rfl hq15 dX11_haveSprings_29 ?_
    refine lv_if_ne (tgt := 49) hx hb dX11_haveSprings_30 (by decide) (fun hc16 => ?_) (fun hc16 => ?_)
    · have hF := am_neg hc16 hF
      refine lv_iconst (v := (0 : Int32)) hx hb dX11_haveSprings_49 (by decide) ?_
      exact am_zret (v' := (0 : Int32)) X hr rfl hh (fun t ht => am_qw (mk := oI) hF ht) (Nat.le_of_ble_eq_true rfl) (Nat.le_of_ble_eq_true rfl) dX11_haveSprings_50
    · have hF := am_pos hc16 hF
      refine lv_iload_n hx hb dX11_haveSprings_33 rfl (lv_at hl 0 rfl) ?_
      refine lv_if_eq (tgt := 49) hx hb dX11_haveSprings_34 (by decide) (fun hz => absurd hz (by decide)) (fun _ => ?_)
      refine lv_aload_n hx hb dX11_haveSprings_37 rfl (lv_at hl 1 rfl) ?_
      obtain ⟨r18, hk17, hF⟩ := am_bind hF
      refine am_call X hh (va_runV (As := []) (rest := []) X.1 (c_X11_springIn l G hk17) (cwV 0 hts gX11_haveSprings_X11_springIn rfl rfl rfl (by decide +kernel) ⟨Nat.le_of_ble_eq_true rfl, Nat.le_of_ble_eq_true rfl⟩) (am_preV X hh 141 12 (by decide) rfl rfl) rfl rfl hl.1 rfl (lv_room (Nat.le_of_ble_eq_true rfl)) dX11_haveSprings_38 ⟨Nat.le_of_ble_eq_true rfl, Nat.le_of_ble_eq_true rfl⟩) (fun ab H locs hh => ?_)
      refine lv_iconst (v := (-1 : Int32)) hx hb dX11_haveSprings_41 (by decide) ?_
      refine lv_icmp_eq (tgt := 49) hx hb dX11_haveSprings_42 (by decide) (fun hc19 => ?_) (fun hc19 => ?_)
      · have hF := am_pos hc19 hF
        refine lv_iconst (v := (0 : Int32)) hx hb dX11_haveSprings_49 (by decide) ?_
        exact am_zret (v' := (0 : Int32)) X hr rfl hh (fun t ht => am_qw (mk := oI) hF ht) (Nat.le_of_ble_eq_true rfl) (Nat.le_of_ble_eq_true rfl) dX11_haveSprings_50
      · have hF := am_neg hc19 hF
        refine lv_iconst (v := (1 : Int32)) hx hb dX11_haveSprings_45 (by decide) ?_
        refine lv_goto (tgt := 50) hx hb dX11_haveSprings_46 (by decide) ?_
        exact am_zret (v' := (1 : Int32)) X hr rfl hh (fun t ht => am_qw (mk := oI) hF ht) (Nat.le_of_ble_eq_true rfl) (Nat.le_of_ble_eq_true rfl) dX11_haveSprings_50
set_option maxHeartbeats 4000000 in
set_option maxRecDepth 100000 in
theorem c_X11_joins (l : Launch) (G : GG) {w : Wd} {x1 : Int32} {x2 : Int32} {x3 : Int32} {r0 : Int32} {w1 : Wd} (hF : f_X11_joins w x1 x2 x3 = some (r0, w1)) : Met l yX11_joins wsX11_joins ({ frames := 5, cells := 0, slots := 0, locals := 111 } : Room) (va_Pc [.ref (gAd G 141), .int x1, .int x2, .int x3] (Rel G w)) (amQ G (oI r0) w1) 0 0 (gA G) := by
  refine am_met (own := RX11) (cc := cX11_joins) (maxL := 6) (ret := (some .int)) (by decide +kernel) rfl rfl (Nat.le_of_ble_eq_true rfl) ?_
  intro p e s m args below meth c ab H locs ls X hr hh hl
  have hx := X.1.1; have hb := X.1.2.1; have hml := X.1.2.2.1; have hown := X.1.2.2.2.1; have hts := X.1.2.2.2.2
  have hl : lv_has ls 6 [(0, .ref (gAd G 141)), (1, .int x1), (2, .int x2), (3, .int x3)] := hl
  have hwRX11 : ∀ z ∈ u_ws RX11 TX11 18, z ∈ wsX11_joins := by decide +kernel
  unfold f_X11_joins at hF
  refine lv_aload_n hx hb dX11_joins_0 rfl (lv_at hl 0 rfl) ?_
  refine lv_iload_n hx hb dX11_joins_1 rfl (lv_at hl 1 rfl) ?_
  refine lv_iload_n hx hb dX11_joins_2 rfl (lv_at hl 2 rfl) ?_
  obtain ⟨r2, hk1, hF⟩ := am_bind hF
  refine am_call X hh (va_runV (As := [.int x1, .int x2]) (rest := []) X.1 (c_X11_areGears l G hk1) (cwV 2 hts gX11_joins_X11_areGears rfl rfl rfl (by decide +kernel) ⟨Nat.le_of_ble_eq_true rfl, Nat.le_of_ble_eq_true rfl⟩) (am_preV X hh 141 12 (by decide) rfl rfl) rfl rfl hl.1 rfl (lv_room (Nat.le_of_ble_eq_true rfl)) dX11_joins_3 ⟨Nat.le_of_ble_eq_true rfl, Nat.le_of_ble_eq_true rfl⟩) (fun ab H locs hh => ?_)
  refine lv_if_ne (tgt := 15) hx hb dX11_joins_6 (by decide) (fun hc3 => ?_) (fun hc3 => ?_)
  · have hF := am_neg hc3 hF
    refine lv_iload_n hx hb dX11_joins_15 rfl (lv_at hl 1 rfl) ?_
    refine lv_iload_n hx hb dX11_joins_16 rfl (lv_at hl 2 rfl) ?_
    refine lv_icmp_ne (tgt := 26) hx hb dX11_joins_17 (by decide) (fun hc4 => ?_) (fun hc4 => ?_)
    · have hF := am_neg hc4 hF
      refine lv_aload_n hx hb dX11_joins_26 rfl (lv_at hl 0 rfl) ?_
      refine lv_iload_n hx hb dX11_joins_27 rfl (lv_at hl 1 rfl) ?_
      refine lv_iload_n hx hb dX11_joins_28 rfl (lv_at hl 2 rfl) ?_
      obtain ⟨r6, hk5, hF⟩ := am_bind hF
      refine am_call X hh (va_runV (As := [.int x1, .int x2]) (rest := []) X.1 (c_X11_jointOf l G hk5) (cwV 2 hts gX11_joins_X11_jointOf rfl rfl rfl (by decide +kernel) ⟨Nat.le_of_ble_eq_true rfl, Nat.le_of_ble_eq_true rfl⟩) (am_preV X hh 141 12 (by decide) rfl rfl) rfl rfl hl.1 rfl (lv_room (Nat.le_of_ble_eq_true rfl)) dX11_joins_29 ⟨Nat.le_of_ble_eq_true rfl, Nat.le_of_ble_eq_true rfl⟩) (fun ab H locs hh => ?_)
      refine lv_if_ne (tgt := 53) hx hb dX11_joins_32 (by decide) (fun hc7 => ?_) (fun hc7 => ?_)
      · have hF := am_neg hc7 hF
        refine lv_aload_n hx hb dX11_joins_53 rfl (lv_at hl 0 rfl) ?_
        refine lv_iconst (v := (3 : Int32)) hx hb dX11_joins_54 (by decide) ?_
        obtain ⟨⟨r9, w10⟩, hk8, hF⟩ := am_bind hF
        have hF := am_u2 hF
        refine am_call X hh (va_runV (As := [.int (3 : Int32)]) (rest := []) X.1 (c_X11_fails l G hk8) (cwV 1 hts gX11_joins_X11_fails rfl rfl rfl (by decide +kernel) ⟨Nat.le_of_ble_eq_true rfl, Nat.le_of_ble_eq_true rfl⟩) (am_preV X hh 141 12 (by decide) rfl rfl) rfl rfl hl.1 rfl (lv_room (Nat.le_of_ble_eq_true rfl)) dX11_joins_55 ⟨Nat.le_of_ble_eq_true rfl, Nat.le_of_ble_eq_true rfl⟩) (fun ab H locs hh => ?_)
        exact am_iret X hr hh (fun t ht => am_qw (mk := oI) hF ht) (Nat.le_of_ble_eq_true rfl) (Nat.le_of_ble_eq_true rfl) dX11_joins_58
      · have hF := am_pos hc7 hF
        refine lv_aload_n hx hb dX11_joins_35 rfl (lv_at hl 0 rfl) ?_
        obtain ⟨r13, hk12, hF⟩ := am_bind hF
        refine am_call X hh (va_runV (As := []) (rest := []) X.1 (c_X11_joints l G hk12) (cwV 0 hts gX11_joins_X11_joints rfl rfl rfl (by decide +kernel) ⟨Nat.le_of_ble_eq_true rfl, Nat.le_of_ble_eq_true rfl⟩) (am_preV X hh 141 12 (by decide) rfl rfl) rfl rfl hl.1 rfl (lv_room (Nat.le_of_ble_eq_true rfl)) dX11_joins_36 ⟨Nat.le_of_ble_eq_true rfl, Nat.le_of_ble_eq_true rfl⟩) (fun ab H locs hh => ?_)
        refine lv_bipush (v := (15 : Int32)) hx hb dX11_joins_39 (by decide) ?_
        refine lv_icmp_eq (tgt := 53) hx hb dX11_joins_41 (by decide) (fun hc14 => ?_) (fun hc14 => ?_)
        · have hF := am_pos hc14 hF
          refine lv_aload_n hx hb dX11_joins_53 rfl (lv_at hl 0 rfl) ?_
          refine lv_iconst (v := (3 : Int32)) hx hb dX11_joins_54 (by decide) ?_
          obtain ⟨⟨r16, w17⟩, hk15, hF⟩ := am_bind hF
          have hF := am_u2 hF
          refine am_call X hh (va_runV (As := [.int (3 : Int32)]) (rest := []) X.1 (c_X11_fails l G hk15) (cwV 1 hts gX11_joins_X11_fails rfl rfl rfl (by decide +kernel) ⟨Nat.le_of_ble_eq_true rfl, Nat.le_of_ble_eq_true rfl⟩) (am_preV X hh 141 12 (by decide) rfl rfl) rfl rfl hl.1 rfl (lv_room (Nat.le_of_ble_eq_true rfl)) dX11_joins_55 ⟨Nat.le_of_ble_eq_true rfl, Nat.le_of_ble_eq_true rfl⟩) (fun ab H locs hh => ?_)
          exact am_iret X hr hh (fun t ht => am_qw (mk := oI) hF ht) (Nat.le_of_ble_eq_true rfl) (Nat.le_of_ble_eq_true rfl) dX11_joins_58
        · have hF := am_neg hc14 hF
          refine lv_aload_n hx hb dX11_joins_44 rfl (lv_at hl 0 rfl) ?_
          refine lv_iload_n hx hb dX11_joins_45 rfl (lv_at hl 1 rfl) ?_
          refine lv_iload_n hx hb dX11_joins_46 rfl (lv_at hl 2 rfl) ?_
          obtain ⟨⟨r20, w21⟩, hk19, hF⟩ := am_bind hF
          have hF := am_u2 hF
          refine am_call X hh (va_runV (As := [.int x1, .int x2]) (rest := []) X.1 (c_X11_haveSprings l G hk19) (cwV 2 hts gX11_joins_X11_haveSprings rfl rfl rfl (by decide +kernel) ⟨Nat.le_of_ble_eq_true rfl, Nat.le_of_ble_eq_true rfl⟩) (am_preV X hh 141 12 (by decide) rfl rfl) rfl rfl hl.1 rfl (lv_room (Nat.le_of_ble_eq_true rfl)) dX11_joins_47 ⟨Nat.le_of_ble_eq_true rfl, Nat.le_of_ble_eq_true rfl⟩) (fun ab H locs hh => ?_)
          refine lv_if_eq (tgt := 59) hx hb dX11_joins_50 (by decide) (fun hc23 => ?_) (fun hc23 => ?_)
          · have hF := am_pos hc23 hF
            refine lv_iload_n hx hb dX11_joins_59 rfl (lv_at hl 3 rfl) ?_
            refine lv_iconst (v := (2 : Int32)) hx hb dX11_joins_60 (by decide) ?_
            refine lv_icmp_ne (tgt := 70) hx hb dX11_joins_61 (by decide) (fun hc24 => ?_) (fun hc24 => ?_)
            · have hF := am_neg hc24 hF
              refine lv_ldc2 (v := (-24883200000 : Int64)) hx hb hown (hts _ (show Cond.constantLong RX11 122 (-24883200000) ∈ wsX11_joins by decide +kernel)) dX11_joins_70 ?_
              refine lv_aload_n hx hb dX11_joins_73 rfl (lv_at hl 0 rfl) ?_
              refine am_getR X hh 141 12 0 142 (by decide) rfl rfl (by decide) hwRX11 (show Cond.fieldLink RX11 7 "PlanetWorkshopModel" "g" "[J" ∈ wsX11_joins by decide +kernel) rfl dX11_joins_74 ?_
              refine lv_bipush (v := (6 : Int32)) hx hb dX11_joins_77 (by decide) ?_
              refine lv_iload_n hx hb dX11_joins_79 rfl (lv_at hl 1 rfl) ?_
              refine lv_iadd hx hb dX11_joins_80 ?_
              obtain ⟨hq25, hF⟩ := am_ifR hF
              refine am_lald X hh 142 (by decide) rfl hq25 dX11_joins_81 ?_
              refine lv_lmul hx hb dX11_joins_82 ?_
              refine lv_aload_n hx hb dX11_joins_83 rfl (lv_at hl 0 rfl) ?_
              refine am_getR X hh 141 12 0 142 (by decide) rfl rfl (by decide) hwRX11 (show Cond.fieldLink RX11 7 "PlanetWorkshopModel" "g" "[J" ∈ wsX11_joins by decide +kernel) rfl dX11_joins_84 ?_
              refine lv_bipush (v := (6 : Int32)) hx hb dX11_joins_87 (by decide) ?_
              refine lv_iload_n hx hb dX11_joins_89 rfl (lv_at hl 2 rfl) ?_
              refine lv_iadd hx hb dX11_joins_90 ?_
              obtain ⟨hq26, hF⟩ := am_ifR hF
              refine am_lald X hh 142 (by decide) rfl hq26 dX11_joins_91 ?_
              obtain ⟨hq27, hF⟩ := am_if hF
              refine lv_ldiv hx hb dX11_joins_92 hq27 ?_
              refine lv_lstore (lv' := [(4, .long (((-24883200000 : Int64) * (gL w21 142 (((6 : Int32) + x1)).toNatClampNeg)) / (gL w21 142 (((6 : Int32) + x2)).toNatClampNeg))), (0, .ref (gAd G 141)), (1, .int x1), (2, .int x2), (3, .int x3)]) hx hb dX11_joins_93 hl (by decide) rfl (fun ls hl => ?_)
              refine lv_aload_n hx hb dX11_joins_95 rfl (lv_at hl 1 rfl) ?_
              refine lv_iload_n hx hb dX11_joins_96 rfl (lv_at hl 2 rfl) ?_
              obtain ⟨w30, hk28, hF⟩ := am_bind hF
              refine am_call X hh (va_runV (As := [.int x1]) (rest := []) X.1 (c_X11_turns l G hk28) (cwV 1 hts gX11_joins_X11_turns rfl rfl rfl (by decide +kernel) ⟨Nat.le_of_ble_eq_true rfl, Nat.le_of_ble_eq_true rfl⟩) (am_preV X hh 141 12 (by decide) rfl rfl) rfl rfl hl.1 rfl (lv_room (Nat.le_of_ble_eq_true rfl)) dX11_joins_97 ⟨Nat.le_of_ble_eq_true rfl, Nat.le_of_ble_eq_true rfl⟩) (fun ab H locs hh => ?_)
              refine lv_aload_n hx hb dX11_joins_100 rfl (lv_at hl 1 rfl) ?_
              refine am_getR X hh 141 12 14 149 (by decide) rfl rfl (by decide) hwRX11 (show Cond.fieldLink RX11 39 "PlanetWorkshopModel" "isKnown" "[Z" ∈ wsX11_joins by decide +kernel) rfl dX11_joins_101 ?_
              refine lv_iload_n hx hb dX11_joins_104 rfl (lv_at hl 3 rfl) ?_
              obtain ⟨hq31, hF⟩ := am_ifR hF
              refine am_zald X hh 149 (by decide) rfl hq31 dX11_joins_105 ?_
              refine lv_if_eq (tgt := 127) hx hb dX11_joins_106 (by decide) (fun hc32 => ?_) (fun hc32 => ?_)
              · have hF := am_pos hc32 hF
                refine lv_aload_n hx hb dX11_joins_127 rfl (lv_at hl 1 rfl) ?_
                refine am_getR X hh 141 12 0 142 (by decide) rfl rfl (by decide) hwRX11 (show Cond.fieldLink RX11 7 "PlanetWorkshopModel" "g" "[J" ∈ wsX11_joins by decide +kernel) rfl dX11_joins_128 ?_
                refine lv_bipush (v := (92 : Int32)) hx hb dX11_joins_131 (by decide) ?_
                refine lv_bipush (v := (10 : Int32)) hx hb dX11_joins_133 (by decide) ?_
                refine lv_iload_n hx hb dX11_joins_135 rfl (lv_at hl 2 rfl) ?_
                refine lv_imul hx hb dX11_joins_136 ?_
                refine lv_iadd hx hb dX11_joins_137 ?_
                refine lv_iload_n hx hb dX11_joins_138 rfl (lv_at hl 3 rfl) ?_
                refine lv_iadd hx hb dX11_joins_139 ?_
                refine lv_iload_n hx hb dX11_joins_140 rfl (lv_at hl 4 rfl) ?_
                refine lv_i2l hx hb dX11_joins_141 rfl ?_
                obtain ⟨hq33, hF⟩ := am_ifR hF
                refine am_last X hh 142 (by decide) rfl hq33 dX11_joins_142 (fun H locs hh => ?_)
                obtain ⟨w34, hw34, hF⟩ := am_wl hF
                have hh := AH_eq hw34 hh
                refine lv_aload_n hx hb dX11_joins_143 rfl (lv_at hl 1 rfl) ?_
                refine am_getR X hh 141 12 0 142 (by decide) rfl rfl (by decide) hwRX11 (show Cond.fieldLink RX11 7 "PlanetWorkshopModel" "g" "[J" ∈ wsX11_joins by decide +kernel) rfl dX11_joins_144 ?_
                refine lv_bipush (v := (92 : Int32)) hx hb dX11_joins_147 (by decide) ?_
                refine lv_bipush (v := (10 : Int32)) hx hb dX11_joins_149 (by decide) ?_
                refine lv_iload_n hx hb dX11_joins_151 rfl (lv_at hl 3 rfl) ?_
                refine lv_imul hx hb dX11_joins_152 ?_
                refine lv_iadd hx hb dX11_joins_153 ?_
                refine lv_iload_n hx hb dX11_joins_154 rfl (lv_at hl 2 rfl) ?_
                refine lv_iadd hx hb dX11_joins_155 ?_
                refine lv_iload_n hx hb dX11_joins_156 rfl (lv_at hl 4 rfl) ?_
                refine lv_i2l hx hb dX11_joins_157 rfl ?_
                obtain ⟨hq35, hF⟩ := am_ifR hF
                refine am_last X hh 142 (by decide) rfl hq35 dX11_joins_158 (fun H locs hh => ?_)
                obtain ⟨w36, hw36, hF⟩ := am_wl hF
                have hh := AH_eq hw36 hh
                refine lv_aload_n hx hb dX11_joins_159 rfl (lv_at hl 1 rfl) ?_
                refine lv_iload_n hx hb dX11_joins_160 rfl (lv_at hl 2 rfl) ?_
                obtain ⟨w39, hk37, hF⟩ := am_bind hF
                refine am_call X hh (va_runV (As := [.int x1]) (rest := []) X.1 (c_X11_turns l G hk37) (cwV 1 hts gX11_joins_X11_turns rfl rfl rfl (by decide +kernel) ⟨Nat.le_of_ble_eq_true rfl, Nat.le_of_ble_eq_true rfl⟩) (am_preV X hh 141 12 (by decide) rfl rfl) rfl rfl hl.1 rfl (lv_room (Nat.le_of_ble_eq_true rfl)) dX11_joins_161 ⟨Nat.le_of_ble_eq_true rfl, Nat.le_of_ble_eq_true rfl⟩) (fun ab H locs hh => ?_)
                refine lv_aload_n hx hb dX11_joins_164 rfl (lv_at hl 1 rfl) ?_
                refine lv_aload_n hx hb dX11_joins_165 rfl (lv_at hl 1 rfl) ?_
                obtain ⟨r41, hk40, hF⟩ := am_bind hF
                refine am_call X hh (va_runV (As := []) (rest := [.ref (gAd G 141)]) X.1 (c_X11_members l G hk40) (cwV 0 hts gX11_joins_X11_members rfl rfl rfl (by decide +kernel) ⟨Nat.le_of_ble_eq_true rfl, Nat.le_of_ble_eq_true rfl⟩) (am_preV X hh 141 12 (by decide) rfl rfl) rfl rfl hl.1 rfl (lv_room (Nat.le_of_ble_eq_true rfl)) dX11_joins_166 ⟨Nat.le_of_ble_eq_true rfl, Nat.le_of_ble_eq_true rfl⟩) (fun ab H locs hh => ?_)
                obtain ⟨⟨r43, w44⟩, hk42, hF⟩ := am_bind hF
                have hF := am_u2 hF
                refine am_call X hh (va_runV (As := [.int r41]) (rest := []) X.1 (c_X11_done l G hk42) (cwV 1 hts gX11_joins_X11_done rfl rfl rfl (by decide +kernel) ⟨Nat.le_of_ble_eq_true rfl, Nat.le_of_ble_eq_true rfl⟩) (am_preV X hh 141 12 (by decide) rfl rfl) rfl rfl hl.1 rfl (lv_room (Nat.le_of_ble_eq_true rfl)) dX11_joins_169 ⟨Nat.le_of_ble_eq_true rfl, Nat.le_of_ble_eq_true rfl⟩) (fun ab H locs hh => ?_)
                exact am_iret X hr hh (fun t ht => am_qw (mk := oI) hF ht) (Nat.le_of_ble_eq_true rfl) (Nat.le_of_ble_eq_true rfl) dX11_joins_172
              · have hF := am_neg hc32 hF
                refine lv_aload_n hx hb dX11_joins_109 rfl (lv_at hl 1 rfl) ?_
                refine am_getR X hh 141 12 13 148 (by decide) rfl rfl (by decide) hwRX11 (show Cond.fieldLink RX11 36 "PlanetWorkshopModel" "units" "[J" ∈ wsX11_joins by decide +kernel) rfl dX11_joins_110 ?_
                refine lv_iload_n hx hb dX11_joins_113 rfl (lv_at hl 3 rfl) ?_
                obtain ⟨hq46, hF⟩ := am_ifR hF
                refine am_lald X hh 148 (by decide) rfl hq46 dX11_joins_114 ?_
                refine lv_lload hx hb dX11_joins_115 (lv_at hl 0 rfl) ?_
                refine am_lcmp_eq (tgt := 127) hx hb dX11_joins_117 dX11_joins_118 (by decide) (fun hc47 => ?_) (fun hc47 => ?_)
                · have hF := am_pos hc47 hF
                  refine lv_aload_n hx hb dX11_joins_127 rfl (lv_at hl 1 rfl) ?_
                  refine am_getR X hh 141 12 0 142 (by decide) rfl rfl (by decide) hwRX11 (show Cond.fieldLink RX11 7 "PlanetWorkshopModel" "g" "[J" ∈ wsX11_joins by decide +kernel) rfl dX11_joins_128 ?_
                  refine lv_bipush (v := (92 : Int32)) hx hb dX11_joins_131 (by decide) ?_
                  refine lv_bipush (v := (10 : Int32)) hx hb dX11_joins_133 (by decide) ?_
                  refine lv_iload_n hx hb dX11_joins_135 rfl (lv_at hl 2 rfl) ?_
                  refine lv_imul hx hb dX11_joins_136 ?_
                  refine lv_iadd hx hb dX11_joins_137 ?_
                  refine lv_iload_n hx hb dX11_joins_138 rfl (lv_at hl 3 rfl) ?_
                  refine lv_iadd hx hb dX11_joins_139 ?_
                  refine lv_iload_n hx hb dX11_joins_140 rfl (lv_at hl 4 rfl) ?_
                  refine lv_i2l hx hb dX11_joins_141 rfl ?_
                  obtain ⟨hq48, hF⟩ := am_ifR hF
                  refine am_last X hh 142 (by decide) rfl hq48 dX11_joins_142 (fun H locs hh => ?_)
                  obtain ⟨w49, hw49, hF⟩ := am_wl hF
                  have hh := AH_eq hw49 hh
                  refine lv_aload_n hx hb dX11_joins_143 rfl (lv_at hl 1 rfl) ?_
                  refine am_getR X hh 141 12 0 142 (by decide) rfl rfl (by decide) hwRX11 (show Cond.fieldLink RX11 7 "PlanetWorkshopModel" "g" "[J" ∈ wsX11_joins by decide +kernel) rfl dX11_joins_144 ?_
                  refine lv_bipush (v := (92 : Int32)) hx hb dX11_joins_147 (by decide) ?_
                  refine lv_bipush (v := (10 : Int32)) hx hb dX11_joins_149 (by decide) ?_
                  refine lv_iload_n hx hb dX11_joins_151 rfl (lv_at hl 3 rfl) ?_
                  refine lv_imul hx hb dX11_joins_152 ?_
                  refine lv_iadd hx hb dX11_joins_153 ?_
                  refine lv_iload_n hx hb dX11_joins_154 rfl (lv_at hl 2 rfl) ?_
                  refine lv_iadd hx hb dX11_joins_155 ?_
                  refine lv_iload_n hx hb dX11_joins_156 rfl (lv_at hl 4 rfl) ?_
                  refine lv_i2l hx hb dX11_joins_157 rfl ?_
                  obtain ⟨hq50, hF⟩ := am_ifR hF
                  refine am_last X hh 142 (by decide) rfl hq50 dX11_joins_158 (fun H locs hh => ?_)
                  obtain ⟨w51, hw51, hF⟩ := am_wl hF
                  have hh := AH_eq hw51 hh
                  refine lv_aload_n hx hb dX11_joins_159 rfl (lv_at hl 1 rfl) ?_
                  refine lv_iload_n hx hb dX11_joins_160 rfl (lv_at hl 2 rfl) ?_
                  obtain ⟨w54, hk52, hF⟩ := am_bind hF
                  refine am_call X hh (va_runV (As := [.int x1]) (rest := []) X.1 (c_X11_turns l G hk52) (cwV 1 hts gX11_joins_X11_turns rfl rfl rfl (by decide +kernel) ⟨Nat.le_of_ble_eq_true rfl, Nat.le_of_ble_eq_true rfl⟩) (am_preV X hh 141 12 (by decide) rfl rfl) rfl rfl hl.1 rfl (lv_room (Nat.le_of_ble_eq_true rfl)) dX11_joins_161 ⟨Nat.le_of_ble_eq_true rfl, Nat.le_of_ble_eq_true rfl⟩) (fun ab H locs hh => ?_)
                  refine lv_aload_n hx hb dX11_joins_164 rfl (lv_at hl 1 rfl) ?_
                  refine lv_aload_n hx hb dX11_joins_165 rfl (lv_at hl 1 rfl) ?_
                  obtain ⟨r56, hk55, hF⟩ := am_bind hF
                  refine am_call X hh (va_runV (As := []) (rest := [.ref (gAd G 141)]) X.1 (c_X11_members l G hk55) (cwV 0 hts gX11_joins_X11_members rfl rfl rfl (by decide +kernel) ⟨Nat.le_of_ble_eq_true rfl, Nat.le_of_ble_eq_true rfl⟩) (am_preV X hh 141 12 (by decide) rfl rfl) rfl rfl hl.1 rfl (lv_room (Nat.le_of_ble_eq_true rfl)) dX11_joins_166 ⟨Nat.le_of_ble_eq_true rfl, Nat.le_of_ble_eq_true rfl⟩) (fun ab H locs hh => ?_)
                  obtain ⟨⟨r58, w59⟩, hk57, hF⟩ := am_bind hF
                  have hF := am_u2 hF
                  refine am_call X hh (va_runV (As := [.int r56]) (rest := []) X.1 (c_X11_done l G hk57) (cwV 1 hts gX11_joins_X11_done rfl rfl rfl (by decide +kernel) ⟨Nat.le_of_ble_eq_true rfl, Nat.le_of_ble_eq_true rfl⟩) (am_preV X hh 141 12 (by decide) rfl rfl) rfl rfl hl.1 rfl (lv_room (Nat.le_of_ble_eq_true rfl)) dX11_joins_169 ⟨Nat.le_of_ble_eq_true rfl, Nat.le_of_ble_eq_true rfl⟩) (fun ab H locs hh => ?_)
                  exact am_iret X hr hh (fun t ht => am_qw (mk := oI) hF ht) (Nat.le_of_ble_eq_true rfl) (Nat.le_of_ble_eq_true rfl) dX11_joins_172
                · have hF := am_neg hc47 hF
                  refine lv_aload_n hx hb dX11_joins_121 rfl (lv_at hl 1 rfl) ?_
                  refine lv_iconst (v := (4 : Int32)) hx hb dX11_joins_122 (by decide) ?_
                  obtain ⟨⟨r62, w63⟩, hk61, hF⟩ := am_bind hF
                  have hF := am_u2 hF
                  refine am_call X hh (va_runV (As := [.int (4 : Int32)]) (rest := []) X.1 (c_X11_fails l G hk61) (cwV 1 hts gX11_joins_X11_fails rfl rfl rfl (by decide +kernel) ⟨Nat.le_of_ble_eq_true rfl, Nat.le_of_ble_eq_true rfl⟩) (am_preV X hh 141 12 (by decide) rfl rfl) rfl rfl hl.1 rfl (lv_room (Nat.le_of_ble_eq_true rfl)) dX11_joins_123 ⟨Nat.le_of_ble_eq_true rfl, Nat.le_of_ble_eq_true rfl⟩) (fun ab H locs hh => ?_)
                  exact am_iret X hr hh (fun t ht => am_qw (mk := oI) hF ht) (Nat.le_of_ble_eq_true rfl) (Nat.le_of_ble_eq_true rfl) dX11_joins_126
            · have hF := am_pos hc24 hF
              refine lv_ldc2 (v := (24883200000 : Int64)) hx hb hown (hts _ (show Cond.constantLong RX11 52 (24883200000) ∈ wsX11_joins by decide +kernel)) dX11_joins_64 ?_
              refine lv_goto (tgt := 93) hx hb dX11_joins_67 (by decide) ?_
              refine lv_lstore (lv' := [(4, .long (24883200000 : Int64)), (0, .ref (gAd G 141)), (1, .int x1), (2, .int x2), (3, .int x3)]) hx hb dX11_joins_93 hl (by decide) rfl (fun ls hl => ?_)
              refine lv_aload_n hx hb dX11_joins_95 rfl (lv_at hl 1 rfl) ?_
              refine lv_iload_n hx hb dX11_joins_96 rfl (lv_at hl 2 rfl) ?_
              obtain ⟨w67, hk65, hF⟩ := am_bind hF
              refine am_call X hh (va_runV (As := [.int x1]) (rest := []) X.1 (c_X11_turns l G hk65) (cwV 1 hts gX11_joins_X11_turns rfl rfl rfl (by decide +kernel) ⟨Nat.le_of_ble_eq_true rfl, Nat.le_of_ble_eq_true rfl⟩) (am_preV X hh 141 12 (by decide) rfl rfl) rfl rfl hl.1 rfl (lv_room (Nat.le_of_ble_eq_true rfl)) dX11_joins_97 ⟨Nat.le_of_ble_eq_true rfl, Nat.le_of_ble_eq_true rfl⟩) (fun ab H locs hh => ?_)
              refine lv_aload_n hx hb dX11_joins_100 rfl (lv_at hl 1 rfl) ?_
              refine am_getR X hh 141 12 14 149 (by decide) rfl rfl (by decide) hwRX11 (show Cond.fieldLink RX11 39 "PlanetWorkshopModel" "isKnown" "[Z" ∈ wsX11_joins by decide +kernel) rfl dX11_joins_101 ?_
              refine lv_iload_n hx hb dX11_joins_104 rfl (lv_at hl 3 rfl) ?_
              obtain ⟨hq68, hF⟩ := am_ifR hF
              refine am_zald X hh 149 (by decide) rfl hq68 dX11_joins_105 ?_
              refine lv_if_eq (tgt := 127) hx hb dX11_joins_106 (by decide) (fun hc69 => ?_) (fun hc69 => ?_)
              · have hF := am_pos hc69 hF
                refine lv_aload_n hx hb dX11_joins_127 rfl (lv_at hl 1 rfl) ?_
                refine am_getR X hh 141 12 0 142 (by decide) rfl rfl (by decide) hwRX11 (show Cond.fieldLink RX11 7 "PlanetWorkshopModel" "g" "[J" ∈ wsX11_joins by decide +kernel) rfl dX11_joins_128 ?_
                refine lv_bipush (v := (92 : Int32)) hx hb dX11_joins_131 (by decide) ?_
                refine lv_bipush (v := (10 : Int32)) hx hb dX11_joins_133 (by decide) ?_
                refine lv_iload_n hx hb dX11_joins_135 rfl (lv_at hl 2 rfl) ?_
                refine lv_imul hx hb dX11_joins_136 ?_
                refine lv_iadd hx hb dX11_joins_137 ?_
                refine lv_iload_n hx hb dX11_joins_138 rfl (lv_at hl 3 rfl) ?_
                refine lv_iadd hx hb dX11_joins_139 ?_
                refine lv_iload_n hx hb dX11_joins_140 rfl (lv_at hl 4 rfl) ?_
                refine lv_i2l hx hb dX11_joins_141 rfl ?_
                obtain ⟨hq70, hF⟩ := am_ifR hF
                refine am_last X hh 142 (by decide) rfl hq70 dX11_joins_142 (fun H locs hh => ?_)
                obtain ⟨w71, hw71, hF⟩ := am_wl hF
                have hh := AH_eq hw71 hh
                refine lv_aload_n hx hb dX11_joins_143 rfl (lv_at hl 1 rfl) ?_
                refine am_getR X hh 141 12 0 142 (by decide) rfl rfl (by decide) hwRX11 (show Cond.fieldLink RX11 7 "PlanetWorkshopModel" "g" "[J" ∈ wsX11_joins by decide +kernel) rfl dX11_joins_144 ?_
                refine lv_bipush (v := (92 : Int32)) hx hb dX11_joins_147 (by decide) ?_
                refine lv_bipush (v := (10 : Int32)) hx hb dX11_joins_149 (by decide) ?_
                refine lv_iload_n hx hb dX11_joins_151 rfl (lv_at hl 3 rfl) ?_
                refine lv_imul hx hb dX11_joins_152 ?_
                refine lv_iadd hx hb dX11_joins_153 ?_
                refine lv_iload_n hx hb dX11_joins_154 rfl (lv_at hl 2 rfl) ?_
                refine lv_iadd hx hb dX11_joins_155 ?_
                refine lv_iload_n hx hb dX11_joins_156 rfl (lv_at hl 4 rfl) ?_
                refine lv_i2l hx hb dX11_joins_157 rfl ?_
                obtain ⟨hq72, hF⟩ := am_ifR hF
                refine am_last X hh 142 (by decide) rfl hq72 dX11_joins_158 (fun H locs hh => ?_)
                obtain ⟨w73, hw73, hF⟩ := am_wl hF
                have hh := AH_eq hw73 hh
                refine lv_aload_n hx hb dX11_joins_159 rfl (lv_at hl 1 rfl) ?_
                refine lv_iload_n hx hb dX11_joins_160 rfl (lv_at hl 2 rfl) ?_
                obtain ⟨w76, hk74, hF⟩ := am_bind hF
                refine am_call X hh (va_runV (As := [.int x1]) (rest := []) X.1 (c_X11_turns l G hk74) (cwV 1 hts gX11_joins_X11_turns rfl rfl rfl (by decide +kernel) ⟨Nat.le_of_ble_eq_true rfl, Nat.le_of_ble_eq_true rfl⟩) (am_preV X hh 141 12 (by decide) rfl rfl) rfl rfl hl.1 rfl (lv_room (Nat.le_of_ble_eq_true rfl)) dX11_joins_161 ⟨Nat.le_of_ble_eq_true rfl, Nat.le_of_ble_eq_true rfl⟩) (fun ab H locs hh => ?_)
                refine lv_aload_n hx hb dX11_joins_164 rfl (lv_at hl 1 rfl) ?_
                refine lv_aload_n hx hb dX11_joins_165 rfl (lv_at hl 1 rfl) ?_
                obtain ⟨r78, hk77, hF⟩ := am_bind hF
                refine am_call X hh (va_runV (As := []) (rest := [.ref (gAd G 141)]) X.1 (c_X11_members l G hk77) (cwV 0 hts gX11_joins_X11_members rfl rfl rfl (by decide +kernel) ⟨Nat.le_of_ble_eq_true rfl, Nat.le_of_ble_eq_true rfl⟩) (am_preV X hh 141 12 (by decide) rfl rfl) rfl rfl hl.1 rfl (lv_room (Nat.le_of_ble_eq_true rfl)) dX11_joins_166 ⟨Nat.le_of_ble_eq_true rfl, Nat.le_of_ble_eq_true rfl⟩) (fun ab H locs hh => ?_)
                obtain ⟨⟨r80, w81⟩, hk79, hF⟩ := am_bind hF
                have hF := am_u2 hF
                refine am_call X hh (va_runV (As := [.int r78]) (rest := []) X.1 (c_X11_done l G hk79) (cwV 1 hts gX11_joins_X11_done rfl rfl rfl (by decide +kernel) ⟨Nat.le_of_ble_eq_true rfl, Nat.le_of_ble_eq_true rfl⟩) (am_preV X hh 141 12 (by decide) rfl rfl) rfl rfl hl.1 rfl (lv_room (Nat.le_of_ble_eq_true rfl)) dX11_joins_169 ⟨Nat.le_of_ble_eq_true rfl, Nat.le_of_ble_eq_true rfl⟩) (fun ab H locs hh => ?_)
                exact am_iret X hr hh (fun t ht => am_qw (mk := oI) hF ht) (Nat.le_of_ble_eq_true rfl) (Nat.le_of_ble_eq_true rfl) dX11_joins_172
              · have hF := am_neg hc69 hF
                refine lv_aload_n hx hb dX11_joins_109 rfl (lv_at hl 1 rfl) ?_
                refine am_getR X hh 141 12 13 148 (by decide) rfl rfl (by decide) hwRX11 (show Cond.fieldLink RX11 36 "PlanetWorkshopModel" "units" "[J" ∈ wsX11_joins by decide +kernel) rfl dX11_joins_110 ?_
                refine lv_iload_n hx hb dX11_joins_113 rfl (lv_at hl 3 rfl) ?_
                obtain ⟨hq83, hF⟩ := am_ifR hF
                refine am_lald X hh 148 (by decide) rfl hq83 dX11_joins_114 ?_
                refine lv_lload hx hb dX11_joins_115 (lv_at hl 0 rfl) ?_
                refine am_lcmp_eq (tgt := 127) hx hb dX11_joins_117 dX11_joins_118 (by decide) (fun hc84 => ?_) (fun hc84 => ?_)
                · have hF := am_pos hc84 hF
                  refine lv_aload_n hx hb dX11_joins_127 rfl (lv_at hl 1 rfl) ?_
                  refine am_getR X hh 141 12 0 142 (by decide) rfl rfl (by decide) hwRX11 (show Cond.fieldLink RX11 7 "PlanetWorkshopModel" "g" "[J" ∈ wsX11_joins by decide +kernel) rfl dX11_joins_128 ?_
                  refine lv_bipush (v := (92 : Int32)) hx hb dX11_joins_131 (by decide) ?_
                  refine lv_bipush (v := (10 : Int32)) hx hb dX11_joins_133 (by decide) ?_
                  refine lv_iload_n hx hb dX11_joins_135 rfl (lv_at hl 2 rfl) ?_
                  refine lv_imul hx hb dX11_joins_136 ?_
                  refine lv_iadd hx hb dX11_joins_137 ?_
                  refine lv_iload_n hx hb dX11_joins_138 rfl (lv_at hl 3 rfl) ?_
                  refine lv_iadd hx hb dX11_joins_139 ?_
                  refine lv_iload_n hx hb dX11_joins_140 rfl (lv_at hl 4 rfl) ?_
                  refine lv_i2l hx hb dX11_joins_141 rfl ?_
                  obtain ⟨hq85, hF⟩ := am_ifR hF
                  refine am_last X hh 142 (by decide) rfl hq85 dX11_joins_142 (fun H locs hh => ?_)
                  obtain ⟨w86, hw86, hF⟩ := am_wl hF
                  have hh := AH_eq hw86 hh
                  refine lv_aload_n hx hb dX11_joins_143 rfl (lv_at hl 1 rfl) ?_
                  refine am_getR X hh 141 12 0 142 (by decide) rfl rfl (by decide) hwRX11 (show Cond.fieldLink RX11 7 "PlanetWorkshopModel" "g" "[J" ∈ wsX11_joins by decide +kernel) rfl dX11_joins_144 ?_
                  refine lv_bipush (v := (92 : Int32)) hx hb dX11_joins_147 (by decide) ?_
                  refine lv_bipush (v := (10 : Int32)) hx hb dX11_joins_149 (by decide) ?_
                  refine lv_iload_n hx hb dX11_joins_151 rfl (lv_at hl 3 rfl) ?_
                  refine lv_imul hx hb dX11_joins_152 ?_
                  refine lv_iadd hx hb dX11_joins_153 ?_
                  refine lv_iload_n hx hb dX11_joins_154 rfl (lv_at hl 2 rfl) ?_
                  refine lv_iadd hx hb dX11_joins_155 ?_
                  refine lv_iload_n hx hb dX11_joins_156 rfl (lv_at hl 4 rfl) ?_
                  refine lv_i2l hx hb dX11_joins_157 rfl ?_
                  obtain ⟨hq87, hF⟩ := am_ifR hF
                  refine am_last X hh 142 (by decide) rfl hq87 dX11_joins_158 (fun H locs hh => ?_)
                  obtain ⟨w88, hw88, hF⟩ := am_wl hF
                  have hh := AH_eq hw88 hh
                  refine lv_aload_n hx hb dX11_joins_159 rfl (lv_at hl 1 rfl) ?_
                  refine lv_iload_n hx hb dX11_joins_160 rfl (lv_at hl 2 rfl) ?_
                  obtain ⟨w91, hk89, hF⟩ := am_bind hF
                  refine am_call X hh (va_runV (As := [.int x1]) (rest := []) X.1 (c_X11_turns l G hk89) (cwV 1 hts gX11_joins_X11_turns rfl rfl rfl (by decide +kernel) ⟨Nat.le_of_ble_eq_true rfl, Nat.le_of_ble_eq_true rfl⟩) (am_preV X hh 141 12 (by decide) rfl rfl) rfl rfl hl.1 rfl (lv_room (Nat.le_of_ble_eq_true rfl)) dX11_joins_161 ⟨Nat.le_of_ble_eq_true rfl, Nat.le_of_ble_eq_true rfl⟩) (fun ab H locs hh => ?_)
                  refine lv_aload_n hx hb dX11_joins_164 rfl (lv_at hl 1 rfl) ?_
                  refine lv_aload_n hx hb dX11_joins_165 rfl (lv_at hl 1 rfl) ?_
                  obtain ⟨r93, hk92, hF⟩ := am_bind hF
                  refine am_call X hh (va_runV (As := []) (rest := [.ref (gAd G 141)]) X.1 (c_X11_members l G hk92) (cwV 0 hts gX11_joins_X11_members rfl rfl rfl (by decide +kernel) ⟨Nat.le_of_ble_eq_true rfl, Nat.le_of_ble_eq_true rfl⟩) (am_preV X hh 141 12 (by decide) rfl rfl) rfl rfl hl.1 rfl (lv_room (Nat.le_of_ble_eq_true rfl)) dX11_joins_166 ⟨Nat.le_of_ble_eq_true rfl, Nat.le_of_ble_eq_true rfl⟩) (fun ab H locs hh => ?_)
                  obtain ⟨⟨r95, w96⟩, hk94, hF⟩ := am_bind hF
                  have hF := am_u2 hF
                  refine am_call X hh (va_runV (As := [.int r93]) (rest := []) X.1 (c_X11_done l G hk94) (cwV 1 hts gX11_joins_X11_done rfl rfl rfl (by decide +kernel) ⟨Nat.le_of_ble_eq_true rfl, Nat.le_of_ble_eq_true rfl⟩) (am_preV X hh 141 12 (by decide) rfl rfl) rfl rfl hl.1 rfl (lv_room (Nat.le_of_ble_eq_true rfl)) dX11_joins_169 ⟨Nat.le_of_ble_eq_true rfl, Nat.le_of_ble_eq_true rfl⟩) (fun ab H locs hh => ?_)
                  exact am_iret X hr hh (fun t ht => am_qw (mk := oI) hF ht) (Nat.le_of_ble_eq_true rfl) (Nat.le_of_ble_eq_true rfl) dX11_joins_172
                · have hF := am_neg hc84 hF
                  refine lv_aload_n hx hb dX11_joins_121 rfl (lv_at hl 1 rfl) ?_
                  refine lv_iconst (v := (4 : Int32)) hx hb dX11_joins_122 (by decide) ?_
                  obtain ⟨⟨r99, w100⟩, hk98, hF⟩ := am_bind hF
                  have hF := am_u2 hF
                  refine am_call X hh (va_runV (As := [.int (4 : Int32)]) (rest := []) X.1 (c_X11_fails l G hk98) (cwV 1 hts gX11_joins_X11_fails rfl rfl rfl (by decide +kernel) ⟨Nat.le_of_ble_eq_true rfl, Nat.le_of_ble_eq_true rfl⟩) (am_preV X hh 141 12 (by decide) rfl rfl) rfl rfl hl.1 rfl (lv_room (Nat.le_of_ble_eq_true rfl)) dX11_joins_123 ⟨Nat.le_of_ble_eq_true rfl, Nat.le_of_ble_eq_true rfl⟩) (fun ab H locs hh => ?_)
                  exact am_iret X hr hh (fun t ht => am_qw (mk := oI) hF ht) (Nat.le_of_ble_eq_true rfl) (Nat.le_of_ble_eq_true rfl) dX11_joins_126
          · have hF := am_neg hc23 hF
            refine lv_aload_n hx hb dX11_joins_53 rfl (lv_at hl 0 rfl) ?_
            refine lv_iconst (v := (3 : Int32)) hx hb dX11_joins_54 (by decide) ?_
            obtain ⟨⟨r103, w104⟩, hk102, hF⟩ := am_bind hF
            have hF := am_u2 hF
            refine am_call X hh (va_runV (As := [.int (3 : Int32)]) (rest := []) X.1 (c_X11_fails l G hk102) (cwV 1 hts gX11_joins_X11_fails rfl rfl rfl (by decide +kernel) ⟨Nat.le_of_ble_eq_true rfl, Nat.le_of_ble_eq_true rfl⟩) (am_preV X hh 141 12 (by decide) rfl rfl) rfl rfl hl.1 rfl (lv_room (Nat.le_of_ble_eq_true rfl)) dX11_joins_55 ⟨Nat.le_of_ble_eq_true rfl, Nat.le_of_ble_eq_true rfl⟩) (fun ab H locs hh => ?_)
            exact am_iret X hr hh (fun t ht => am_qw (mk := oI) hF ht) (Nat.le_of_ble_eq_true rfl) (Nat.le_of_ble_eq_true rfl) dX11_joins_58
    · have hF := am_pos hc4 hF
      refine lv_aload_n hx hb dX11_joins_20 rfl (lv_at hl 0 rfl) ?_
      refine lv_iconst (v := (2 : Int32)) hx hb dX11_joins_21 (by decide) ?_
      obtain ⟨⟨r107, w108⟩, hk106, hF⟩ := am_bind hF
      have hF := am_u2 hF
      refine am_call X hh (va_runV (As := [.int (2 : Int32)]) (rest := []) X.1 (c_X11_fails l G hk106) (cwV 1 hts gX11_joins_X11_fails rfl rfl rfl (by decide +kernel) ⟨Nat.le_of_ble_eq_true rfl, Nat.le_of_ble_eq_true rfl⟩) (am_preV X hh 141 12 (by decide) rfl rfl) rfl rfl hl.1 rfl (lv_room (Nat.le_of_ble_eq_true rfl)) dX11_joins_22 ⟨Nat.le_of_ble_eq_true rfl, Nat.le_of_ble_eq_true rfl⟩) (fun ab H locs hh => ?_)
      exact am_iret X hr hh (fun t ht => am_qw (mk := oI) hF ht) (Nat.le_of_ble_eq_true rfl) (Nat.le_of_ble_eq_true rfl) dX11_joins_25
  · have hF := am_pos hc3 hF
    refine lv_aload_n hx hb dX11_joins_9 rfl (lv_at hl 0 rfl) ?_
    refine lv_iconst (v := (1 : Int32)) hx hb dX11_joins_10 (by decide) ?_
    obtain ⟨⟨r111, w112⟩, hk110, hF⟩ := am_bind hF
    have hF := am_u2 hF
    refine am_call X hh (va_runV (As := [.int (1 : Int32)]) (rest := []) X.1 (c_X11_fails l G hk110) (cwV 1 hts gX11_joins_X11_fails rfl rfl rfl (by decide +kernel) ⟨Nat.le_of_ble_eq_true rfl, Nat.le_of_ble_eq_true rfl⟩) (am_preV X hh 141 12 (by decide) rfl rfl) rfl rfl hl.1 rfl (lv_room (Nat.le_of_ble_eq_true rfl)) dX11_joins_11 ⟨Nat.le_of_ble_eq_true rfl, Nat.le_of_ble_eq_true rfl⟩) (fun ab H locs hh => ?_)
    exact am_iret X hr hh (fun t ht => am_qw (mk := oI) hF ht) (Nat.le_of_ble_eq_true rfl) (Nat.le_of_ble_eq_true rfl) dX11_joins_14
set_option maxHeartbeats 4000000 in
set_option maxRecDepth 100000 in
theorem c_X11_mesh (l : Launch) (G : GG) {w : Wd} {x1 : Int32} {x2 : Int32} {r0 : Int32} {w1 : Wd} (hF : f_X11_mesh w x1 x2 = some (r0, w1)) : Met l yX11_mesh wsX11_mesh ({ frames := 6, cells := 0, slots := 0, locals := 136 } : Room) (va_Pc [.ref (gAd G 141), .int x1, .int x2] (Rel G w)) (amQ G (oI r0) w1) 0 0 (gA G) := by
  refine am_met (own := RX11) (cc := cX11_mesh) (maxL := 3) (ret := (some .int)) (by decide +kernel) rfl rfl (Nat.le_of_ble_eq_true rfl) ?_
  intro p e s m args below meth c ab H locs ls X hr hh hl
  have hx := X.1.1; have hb := X.1.2.1; have hml := X.1.2.2.1; have hown := X.1.2.2.2.1; have hts := X.1.2.2.2.2
  have hl : lv_has ls 3 [(0, .ref (gAd G 141)), (1, .int x1), (2, .int x2)] := hl
  unfold f_X11_mesh at hF
  refine lv_aload_n hx hb dX11_mesh_0 rfl (lv_at hl 0 rfl) ?_
  obtain ⟨w3, hk1, hF⟩ := am_bind hF
  refine am_call X hh (va_runV (As := []) (rest := []) X.1 (c_X11_begin l G hk1) (cwV 0 hts gX11_mesh_X11_begin rfl rfl rfl (by decide +kernel) ⟨Nat.le_of_ble_eq_true rfl, Nat.le_of_ble_eq_true rfl⟩) (am_preV X hh 141 12 (by decide) rfl rfl) rfl rfl hl.1 rfl (lv_room (Nat.le_of_ble_eq_true rfl)) dX11_mesh_1 ⟨Nat.le_of_ble_eq_true rfl, Nat.le_of_ble_eq_true rfl⟩) (fun ab H locs hh => ?_)
  refine lv_aload_n hx hb dX11_mesh_4 rfl (lv_at hl 0 rfl) ?_
  refine lv_aload_n hx hb dX11_mesh_5 rfl (lv_at hl 0 rfl) ?_
  refine lv_iload_n hx hb dX11_mesh_6 rfl (lv_at hl 1 rfl) ?_
  refine lv_iload_n hx hb dX11_mesh_7 rfl (lv_at hl 2 rfl) ?_
  refine lv_iconst (v := (1 : Int32)) hx hb dX11_mesh_8 (by decide) ?_
  obtain ⟨⟨r5, w6⟩, hk4, hF⟩ := am_bind hF
  have hF := am_u2 hF
  refine am_call X hh (va_runV (As := [.int x1, .int x2, .int (1 : Int32)]) (rest := [.ref (gAd G 141)]) X.1 (c_X11_joins l G hk4) (cwV 3 hts gX11_mesh_X11_joins rfl rfl rfl (by decide +kernel) ⟨Nat.le_of_ble_eq_true rfl, Nat.le_of_ble_eq_true rfl⟩) (am_preV X hh 141 12 (by decide) rfl rfl) rfl rfl hl.1 rfl (lv_room (Nat.le_of_ble_eq_true rfl)) dX11_mesh_9 ⟨Nat.le_of_ble_eq_true rfl, Nat.le_of_ble_eq_true rfl⟩) (fun ab H locs hh => ?_)
  obtain ⟨⟨r9, w10⟩, hk8, hF⟩ := am_bind hF
  have hF := am_u2 hF
  refine am_call X hh (va_runV (As := [.int r5]) (rest := []) X.1 (c_X11_kept l G hk8) (cwV 1 hts gX11_mesh_X11_kept rfl rfl rfl (by decide +kernel) ⟨Nat.le_of_ble_eq_true rfl, Nat.le_of_ble_eq_true rfl⟩) (am_preV X hh 141 12 (by decide) rfl rfl) rfl rfl hl.1 rfl (lv_room (Nat.le_of_ble_eq_true rfl)) dX11_mesh_12 ⟨Nat.le_of_ble_eq_true rfl, Nat.le_of_ble_eq_true rfl⟩) (fun ab H locs hh => ?_)
  exact am_iret X hr hh (fun t ht => am_qw (mk := oI) hF ht) (Nat.le_of_ble_eq_true rfl) (Nat.le_of_ble_eq_true rfl) dX11_mesh_15
set_option maxHeartbeats 4000000 in
set_option maxRecDepth 100000 in
theorem c_X11_shareAxle (l : Launch) (G : GG) {w : Wd} {x1 : Int32} {x2 : Int32} {r0 : Int32} {w1 : Wd} (hF : f_X11_shareAxle w x1 x2 = some (r0, w1)) : Met l yX11_shareAxle wsX11_shareAxle ({ frames := 6, cells := 0, slots := 0, locals := 136 } : Room) (va_Pc [.ref (gAd G 141), .int x1, .int x2] (Rel G w)) (amQ G (oI r0) w1) 0 0 (gA G) := by
  refine am_met (own := RX11) (cc := cX11_shareAxle) (maxL := 3) (ret := (some .int)) (by decide +kernel) rfl rfl (Nat.le_of_ble_eq_true rfl) ?_
  intro p e s m args below meth c ab H locs ls X hr hh hl
  have hx := X.1.1; have hb := X.1.2.1; have hml := X.1.2.2.1; have hown := X.1.2.2.2.1; have hts := X.1.2.2.2.2
  have hl : lv_has ls 3 [(0, .ref (gAd G 141)), (1, .int x1), (2, .int x2)] := hl
  unfold f_X11_shareAxle at hF
  refine lv_aload_n hx hb dX11_shareAxle_0 rfl (lv_at hl 0 rfl) ?_
  obtain ⟨w3, hk1, hF⟩ := am_bind hF
  refine am_call X hh (va_runV (As := []) (rest := []) X.1 (c_X11_begin l G hk1) (cwV 0 hts gX11_shareAxle_X11_begin rfl rfl rfl (by decide +kernel) ⟨Nat.le_of_ble_eq_true rfl, Nat.le_of_ble_eq_true rfl⟩) (am_preV X hh 141 12 (by decide) rfl rfl) rfl rfl hl.1 rfl (lv_room (Nat.le_of_ble_eq_true rfl)) dX11_shareAxle_1 ⟨Nat.le_of_ble_eq_true rfl, Nat.le_of_ble_eq_true rfl⟩) (fun ab H locs hh => ?_)
  refine lv_aload_n hx hb dX11_shareAxle_4 rfl (lv_at hl 0 rfl) ?_
  refine lv_aload_n hx hb dX11_shareAxle_5 rfl (lv_at hl 0 rfl) ?_
  refine lv_iload_n hx hb dX11_shareAxle_6 rfl (lv_at hl 1 rfl) ?_
  refine lv_iload_n hx hb dX11_shareAxle_7 rfl (lv_at hl 2 rfl) ?_
  refine lv_iconst (v := (2 : Int32)) hx hb dX11_shareAxle_8 (by decide) ?_
  obtain ⟨⟨r5, w6⟩, hk4, hF⟩ := am_bind hF
  have hF := am_u2 hF
  refine am_call X hh (va_runV (As := [.int x1, .int x2, .int (2 : Int32)]) (rest := [.ref (gAd G 141)]) X.1 (c_X11_joins l G hk4) (cwV 3 hts gX11_shareAxle_X11_joins rfl rfl rfl (by decide +kernel) ⟨Nat.le_of_ble_eq_true rfl, Nat.le_of_ble_eq_true rfl⟩) (am_preV X hh 141 12 (by decide) rfl rfl) rfl rfl hl.1 rfl (lv_room (Nat.le_of_ble_eq_true rfl)) dX11_shareAxle_9 ⟨Nat.le_of_ble_eq_true rfl, Nat.le_of_ble_eq_true rfl⟩) (fun ab H locs hh => ?_)
  obtain ⟨⟨r9, w10⟩, hk8, hF⟩ := am_bind hF
  have hF := am_u2 hF
  refine am_call X hh (va_runV (As := [.int r5]) (rest := []) X.1 (c_X11_kept l G hk8) (cwV 1 hts gX11_shareAxle_X11_kept rfl rfl rfl (by decide +kernel) ⟨Nat.le_of_ble_eq_true rfl, Nat.le_of_ble_eq_true rfl⟩) (am_preV X hh 141 12 (by decide) rfl rfl) rfl rfl hl.1 rfl (lv_room (Nat.le_of_ble_eq_true rfl)) dX11_shareAxle_12 ⟨Nat.le_of_ble_eq_true rfl, Nat.le_of_ble_eq_true rfl⟩) (fun ab H locs hh => ?_)
  exact am_iret X hr hh (fun t ht => am_qw (mk := oI) hF ht) (Nat.le_of_ble_eq_true rfl) (Nat.le_of_ble_eq_true rfl) dX11_shareAxle_15
set_option maxHeartbeats 4000000 in
set_option maxRecDepth 100000 in
theorem c_X11_parts (l : Launch) (G : GG) {w : Wd} {x1 : Int32} {x2 : Int32} {r0 : Int32} {w1 : Wd} (hF : f_X11_parts w x1 x2 = some (r0, w1)) : Met l yX11_parts wsX11_parts ({ frames := 3, cells := 0, slots := 0, locals := 65 } : Room) (va_Pc [.ref (gAd G 141), .int x1, .int x2] (Rel G w)) (amQ G (oI r0) w1) 0 0 (gA G) := by
  refine am_met (own := RX11) (cc := cX11_parts) (maxL := 3) (ret := (some .int)) (by decide +kernel) rfl rfl (Nat.le_of_ble_eq_true rfl) ?_
  intro p e s m args below meth c ab H locs ls X hr hh hl
  have hx := X.1.1; have hb := X.1.2.1; have hml := X.1.2.2.1; have hown := X.1.2.2.2.1; have hts := X.1.2.2.2.2
  have hl : lv_has ls 3 [(0, .ref (gAd G 141)), (1, .int x1), (2, .int x2)] := hl
  have hwRX11 : ∀ z ∈ u_ws RX11 TX11 18, z ∈ wsX11_parts := by decide +kernel
  unfold f_X11_parts at hF
  refine lv_aload_n hx hb dX11_parts_0 rfl (lv_at hl 0 rfl) ?_
  refine lv_iload_n hx hb dX11_parts_1 rfl (lv_at hl 1 rfl) ?_
  refine lv_iload_n hx hb dX11_parts_2 rfl (lv_at hl 2 rfl) ?_
  obtain ⟨r2, hk1, hF⟩ := am_bind hF
  refine am_call X hh (va_runV (As := [.int x1, .int x2]) (rest := []) X.1 (c_X11_areGears l G hk1) (cwV 2 hts gX11_parts_X11_areGears rfl rfl rfl (by decide +kernel) ⟨Nat.le_of_ble_eq_true rfl, Nat.le_of_ble_eq_true rfl⟩) (am_preV X hh 141 12 (by decide) rfl rfl) rfl rfl hl.1 rfl (lv_room (Nat.le_of_ble_eq_true rfl)) dX11_parts_3 ⟨Nat.le_of_ble_eq_true rfl, Nat.le_of_ble_eq_true rfl⟩) (fun ab H locs hh => ?_)
  refine lv_if_ne (tgt := 15) hx hb dX11_parts_6 (by decide) (fun hc3 => ?_) (fun hc3 => ?_)
  · have hF := am_neg hc3 hF
    refine lv_aload_n hx hb dX11_parts_15 rfl (lv_at hl 0 rfl) ?_
    refine lv_iload_n hx hb dX11_parts_16 rfl (lv_at hl 1 rfl) ?_
    refine lv_iload_n hx hb dX11_parts_17 rfl (lv_at hl 2 rfl) ?_
    obtain ⟨r5, hk4, hF⟩ := am_bind hF
    refine am_call X hh (va_runV (As := [.int x1, .int x2]) (rest := []) X.1 (c_X11_jointOf l G hk4) (cwV 2 hts gX11_parts_X11_jointOf rfl rfl rfl (by decide +kernel) ⟨Nat.le_of_ble_eq_true rfl, Nat.le_of_ble_eq_true rfl⟩) (am_preV X hh 141 12 (by decide) rfl rfl) rfl rfl hl.1 rfl (lv_room (Nat.le_of_ble_eq_true rfl)) dX11_parts_18 ⟨Nat.le_of_ble_eq_true rfl, Nat.le_of_ble_eq_true rfl⟩) (fun ab H locs hh => ?_)
    refine lv_if_ne (tgt := 30) hx hb dX11_parts_21 (by decide) (fun hc6 => ?_) (fun hc6 => ?_)
    · have hF := am_neg hc6 hF
      refine lv_aload_n hx hb dX11_parts_30 rfl (lv_at hl 0 rfl) ?_
      refine am_getR X hh 141 12 0 142 (by decide) rfl rfl (by decide) hwRX11 (show Cond.fieldLink RX11 7 "PlanetWorkshopModel" "g" "[J" ∈ wsX11_parts by decide +kernel) rfl dX11_parts_31 ?_
      refine lv_bipush (v := (92 : Int32)) hx hb dX11_parts_34 (by decide) ?_
      refine lv_bipush (v := (10 : Int32)) hx hb dX11_parts_36 (by decide) ?_
      refine lv_iload_n hx hb dX11_parts_38 rfl (lv_at hl 1 rfl) ?_
      refine lv_imul hx hb dX11_parts_39 ?_
      refine lv_iadd hx hb dX11_parts_40 ?_
      refine lv_iload_n hx hb dX11_parts_41 rfl (lv_at hl 2 rfl) ?_
      refine lv_iadd hx hb dX11_parts_42 ?_
      refine lv_lconst (v := (0 : Int64)) hx hb dX11_parts_43 (by decide) ?_
      obtain ⟨hq7, hF⟩ := am_ifR hF
      refine am_last X hh 142 (by decide) rfl hq7 dX11_parts_44 (fun H locs hh => ?_)
      obtain ⟨w8, hw8, hF⟩ := am_wl hF
      have hh := AH_eq hw8 hh
      refine lv_aload_n hx hb dX11_parts_45 rfl (lv_at hl 0 rfl) ?_
      refine am_getR X hh 141 12 0 142 (by decide) rfl rfl (by decide) hwRX11 (show Cond.fieldLink RX11 7 "PlanetWorkshopModel" "g" "[J" ∈ wsX11_parts by decide +kernel) rfl dX11_parts_46 ?_
      refine lv_bipush (v := (92 : Int32)) hx hb dX11_parts_49 (by decide) ?_
      refine lv_bipush (v := (10 : Int32)) hx hb dX11_parts_51 (by decide) ?_
      refine lv_iload_n hx hb dX11_parts_53 rfl (lv_at hl 2 rfl) ?_
      refine lv_imul hx hb dX11_parts_54 ?_
      refine lv_iadd hx hb dX11_parts_55 ?_
      refine lv_iload_n hx hb dX11_parts_56 rfl (lv_at hl 1 rfl) ?_
      refine lv_iadd hx hb dX11_parts_57 ?_
      refine lv_lconst (v := (0 : Int64)) hx hb dX11_parts_58 (by decide) ?_
      obtain ⟨hq9, hF⟩ := am_ifR hF
      refine am_last X hh 142 (by decide) rfl hq9 dX11_parts_59 (fun H locs hh => ?_)
      obtain ⟨w10, hw10, hF⟩ := am_wl hF
      have hh := AH_eq hw10 hh
      refine lv_aload_n hx hb dX11_parts_60 rfl (lv_at hl 0 rfl) ?_
      refine lv_aload_n hx hb dX11_parts_61 rfl (lv_at hl 0 rfl) ?_
      obtain ⟨r12, hk11, hF⟩ := am_bind hF
      refine am_call X hh (va_runV (As := []) (rest := [.ref (gAd G 141)]) X.1 (c_X11_joints l G hk11) (cwV 0 hts gX11_parts_X11_joints rfl rfl rfl (by decide +kernel) ⟨Nat.le_of_ble_eq_true rfl, Nat.le_of_ble_eq_true rfl⟩) (am_preV X hh 141 12 (by decide) rfl rfl) rfl rfl hl.1 rfl (lv_room (Nat.le_of_ble_eq_true rfl)) dX11_parts_62 ⟨Nat.le_of_ble_eq_true rfl, Nat.le_of_ble_eq_true rfl⟩) (fun ab H locs hh => ?_)
      obtain ⟨⟨r14, w15⟩, hk13, hF⟩ := am_bind hF
      have hF := am_u2 hF
      refine am_call X hh (va_runV (As := [.int r12]) (rest := []) X.1 (c_X11_done l G hk13) (cwV 1 hts gX11_parts_X11_done rfl rfl rfl (by decide +kernel) ⟨Nat.le_of_ble_eq_true rfl, Nat.le_of_ble_eq_true rfl⟩) (am_preV X hh 141 12 (by decide) rfl rfl) rfl rfl hl.1 rfl (lv_room (Nat.le_of_ble_eq_true rfl)) dX11_parts_65 ⟨Nat.le_of_ble_eq_true rfl, Nat.le_of_ble_eq_true rfl⟩) (fun ab H locs hh => ?_)
      exact am_iret X hr hh (fun t ht => am_qw (mk := oI) hF ht) (Nat.le_of_ble_eq_true rfl) (Nat.le_of_ble_eq_true rfl) dX11_parts_68
    · have hF := am_pos hc6 hF
      refine lv_aload_n hx hb dX11_parts_24 rfl (lv_at hl 0 rfl) ?_
      refine lv_iconst (v := (2 : Int32)) hx hb dX11_parts_25 (by decide) ?_
      obtain ⟨⟨r18, w19⟩, hk17, hF⟩ := am_bind hF
      have hF := am_u2 hF
      refine am_call X hh (va_runV (As := [.int (2 : Int32)]) (rest := []) X.1 (c_X11_fails l G hk17) (cwV 1 hts gX11_parts_X11_fails rfl rfl rfl (by decide +kernel) ⟨Nat.le_of_ble_eq_true rfl, Nat.le_of_ble_eq_true rfl⟩) (am_preV X hh 141 12 (by decide) rfl rfl) rfl rfl hl.1 rfl (lv_room (Nat.le_of_ble_eq_true rfl)) dX11_parts_26 ⟨Nat.le_of_ble_eq_true rfl, Nat.le_of_ble_eq_true rfl⟩) (fun ab H locs hh => ?_)
      exact am_iret X hr hh (fun t ht => am_qw (mk := oI) hF ht) (Nat.le_of_ble_eq_true rfl) (Nat.le_of_ble_eq_true rfl) dX11_parts_29
  · have hF := am_pos hc3 hF
    refine lv_aload_n hx hb dX11_parts_9 rfl (lv_at hl 0 rfl) ?_
    refine lv_iconst (v := (1 : Int32)) hx hb dX11_parts_10 (by decide) ?_
    obtain ⟨⟨r22, w23⟩, hk21, hF⟩ := am_bind hF
    have hF := am_u2 hF
    refine am_call X hh (va_runV (As := [.int (1 : Int32)]) (rest := []) X.1 (c_X11_fails l G hk21) (cwV 1 hts gX11_parts_X11_fails rfl rfl rfl (by decide +kernel) ⟨Nat.le_of_ble_eq_true rfl, Nat.le_of_ble_eq_true rfl⟩) (am_preV X hh 141 12 (by decide) rfl rfl) rfl rfl hl.1 rfl (lv_room (Nat.le_of_ble_eq_true rfl)) dX11_parts_11 ⟨Nat.le_of_ble_eq_true rfl, Nat.le_of_ble_eq_true rfl⟩) (fun ab H locs hh => ?_)
    exact am_iret X hr hh (fun t ht => am_qw (mk := oI) hF ht) (Nat.le_of_ble_eq_true rfl) (Nat.le_of_ble_eq_true rfl) dX11_parts_14
set_option maxHeartbeats 4000000 in
set_option maxRecDepth 100000 in
theorem c_X11_separate (l : Launch) (G : GG) {w : Wd} {x1 : Int32} {x2 : Int32} {r0 : Int32} {w1 : Wd} (hF : f_X11_separate w x1 x2 = some (r0, w1)) : Met l yX11_separate wsX11_separate ({ frames := 4, cells := 0, slots := 0, locals := 87 } : Room) (va_Pc [.ref (gAd G 141), .int x1, .int x2] (Rel G w)) (amQ G (oI r0) w1) 0 0 (gA G) := by
  refine am_met (own := RX11) (cc := cX11_separate) (maxL := 3) (ret := (some .int)) (by decide +kernel) rfl rfl (Nat.le_of_ble_eq_true rfl) ?_
  intro p e s m args below meth c ab H locs ls X hr hh hl
  have hx := X.1.1; have hb := X.1.2.1; have hml := X.1.2.2.1; have hown := X.1.2.2.2.1; have hts := X.1.2.2.2.2
  have hl : lv_has ls 3 [(0, .ref (gAd G 141)), (1, .int x1), (2, .int x2)] := hl
  unfold f_X11_separate at hF
  refine lv_aload_n hx hb dX11_separate_0 rfl (lv_at hl 0 rfl) ?_
  obtain ⟨w3, hk1, hF⟩ := am_bind hF
  refine am_call X hh (va_runV (As := []) (rest := []) X.1 (c_X11_begin l G hk1) (cwV 0 hts gX11_separate_X11_begin rfl rfl rfl (by decide +kernel) ⟨Nat.le_of_ble_eq_true rfl, Nat.le_of_ble_eq_true rfl⟩) (am_preV X hh 141 12 (by decide) rfl rfl) rfl rfl hl.1 rfl (lv_room (Nat.le_of_ble_eq_true rfl)) dX11_separate_1 ⟨Nat.le_of_ble_eq_true rfl, Nat.le_of_ble_eq_true rfl⟩) (fun ab H locs hh => ?_)
  refine lv_aload_n hx hb dX11_separate_4 rfl (lv_at hl 0 rfl) ?_
  refine lv_aload_n hx hb dX11_separate_5 rfl (lv_at hl 0 rfl) ?_
  refine lv_iload_n hx hb dX11_separate_6 rfl (lv_at hl 1 rfl) ?_
  refine lv_iload_n hx hb dX11_separate_7 rfl (lv_at hl 2 rfl) ?_
  obtain ⟨⟨r5, w6⟩, hk4, hF⟩ := am_bind hF
  have hF := am_u2 hF
  refine am_call X hh (va_runV (As := [.int x1, .int x2]) (rest := [.ref (gAd G 141)]) X.1 (c_X11_parts l G hk4) (cwV 2 hts gX11_separate_X11_parts rfl rfl rfl (by decide +kernel) ⟨Nat.le_of_ble_eq_true rfl, Nat.le_of_ble_eq_true rfl⟩) (am_preV X hh 141 12 (by decide) rfl rfl) rfl rfl hl.1 rfl (lv_room (Nat.le_of_ble_eq_true rfl)) dX11_separate_8 ⟨Nat.le_of_ble_eq_true rfl, Nat.le_of_ble_eq_true rfl⟩) (fun ab H locs hh => ?_)
  obtain ⟨⟨r9, w10⟩, hk8, hF⟩ := am_bind hF
  have hF := am_u2 hF
  refine am_call X hh (va_runV (As := [.int r5]) (rest := []) X.1 (c_X11_kept l G hk8) (cwV 1 hts gX11_separate_X11_kept rfl rfl rfl (by decide +kernel) ⟨Nat.le_of_ble_eq_true rfl, Nat.le_of_ble_eq_true rfl⟩) (am_preV X hh 141 12 (by decide) rfl rfl) rfl rfl hl.1 rfl (lv_room (Nat.le_of_ble_eq_true rfl)) dX11_separate_11 ⟨Nat.le_of_ble_eq_true rfl, Nat.le_of_ble_eq_true rfl⟩) (fun ab H locs hh => ?_)
  exact am_iret X hr hh (fun t ht => am_qw (mk := oI) hF ht) (Nat.le_of_ble_eq_true rfl) (Nat.le_of_ble_eq_true rfl) dX11_separate_14
