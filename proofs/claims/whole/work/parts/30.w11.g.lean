set_option maxHeartbeats 4000000 in
set_option maxRecDepth 100000 in
theorem c_X11_areTwoPairs (l : Launch) (G : GG) {w : Wd} {x1 : Int32} {x2 : Int32} {x3 : Int32} {x4 : Int32} {r0 : Int32} (hF : f_X11_areTwoPairs w x1 x2 x3 x4 = some r0) : Met l yX11_areTwoPairs wsX11_areTwoPairs ({ frames := 3, cells := 0, slots := 0, locals := 65 } : Room) (va_Pc [.ref (gAd G 141), .int x1, .int x2, .int x3, .int x4] (Rel G w)) (amQ G (oI r0) w) 0 0 (gA G) := by
  refine am_met (own := RX11) (cc := cX11_areTwoPairs) (maxL := 10) (ret := (some .boolean)) (by decide +kernel) rfl rfl (Nat.le_of_ble_eq_true rfl) ?_
  intro p e s m args below meth c ab H locs ls X hr hh hl
  have hx := X.1.1; have hb := X.1.2.1; have hml := X.1.2.2.1; have hown := X.1.2.2.2.1; have hts := X.1.2.2.2.2
  have hl : lv_has ls 10 [(0, .ref (gAd G 141)), (1, .int x1), (2, .int x2), (3, .int x3), (4, .int x4)] := hl
  have hwRX11 : ∀ z ∈ u_ws RX11 TX11 18, z ∈ wsX11_areTwoPairs := by decide +kernel
  unfold f_X11_areTwoPairs at hF
  refine lv_iload_n hx hb dX11_areTwoPairs_0 rfl (lv_at hl 1 rfl) ?_
  refine lv_bipush (v := (10 : Int32)) hx hb dX11_areTwoPairs_1 (by decide) ?_
  obtain ⟨hq1, hF⟩ := am_if hF
  refine lv_idiv hx hb dX11_areTwoPairs_3 hq1 ?_
  refine lv_istore (lv' := [(5, .int (x1 / (10 : Int32))), (0, .ref (gAd G 141)), (1, .int x1), (2, .int x2), (3, .int x3), (4, .int x4)]) hx hb dX11_areTwoPairs_4 hl (by decide) rfl (fun ls hl => ?_)
  refine lv_iload_n hx hb dX11_areTwoPairs_6 rfl (lv_at hl 2 rfl) ?_
  refine lv_bipush (v := (10 : Int32)) hx hb dX11_areTwoPairs_7 (by decide) ?_
  obtain ⟨hq2, hF⟩ := am_if hF
  refine lv_irem hx hb dX11_areTwoPairs_9 hq2 ?_
  refine lv_istore (lv' := [(6, .int (x1 - x1 / (10 : Int32) * (10 : Int32))), (5, .int (x1 / (10 : Int32))), (0, .ref (gAd G 141)), (1, .int x1), (2, .int x2), (3, .int x3), (4, .int x4)]) hx hb dX11_areTwoPairs_10 hl (by decide) rfl (fun ls hl => ?_)
  refine lv_iload_n hx hb dX11_areTwoPairs_12 rfl (lv_at hl 4 rfl) ?_
  refine lv_bipush (v := (10 : Int32)) hx hb dX11_areTwoPairs_13 (by decide) ?_
  obtain ⟨hq3, hF⟩ := am_if hF
  refine lv_idiv hx hb dX11_areTwoPairs_15 hq3 ?_
  refine lv_istore (lv' := [(7, .int (x2 / (10 : Int32))), (6, .int (x1 - x1 / (10 : Int32) * (10 : Int32))), (5, .int (x1 / (10 : Int32))), (0, .ref (gAd G 141)), (1, .int x1), (2, .int x2), (3, .int x3), (4, .int x4)]) hx hb dX11_areTwoPairs_16 hl (by decide) rfl (fun ls hl => ?_)
  refine lv_iload_n hx hb dX11_areTwoPairs_18 rfl (lv_at hl 5 rfl) ?_
  refine lv_bipush (v := (10 : Int32)) hx hb dX11_areTwoPairs_19 (by decide) ?_
  obtain ⟨hq4, hF⟩ := am_if hF
  refine lv_irem hx hb dX11_areTwoPairs_21 hq4 ?_
  refine lv_istore (lv' := [(8, .int (x2 - x2 / (10 : Int32) * (10 : Int32))), (7, .int (x2 / (10 : Int32))), (6, .int (x1 - x1 / (10 : Int32) * (10 : Int32))), (5, .int (x1 / (10 : Int32))), (0, .ref (gAd G 141)), (1, .int x1), (2, .int x2), (3, .int x3), (4, .int x4)]) hx hb dX11_areTwoPairs_22 hl (by decide) rfl (fun ls hl => ?_)
  refine lv_iload hx hb dX11_areTwoPairs_24 (lv_at hl 3 rfl) ?_
  refine lv_iload hx hb dX11_areTwoPairs_26 (lv_at hl 2 rfl) ?_
  refine lv_icmp_eq (tgt := 92) hx hb dX11_areTwoPairs_28 (by decide) (fun hc5 => ?_) (fun hc5 => ?_)
  · have hF := am_pos hc5 hF
    refine lv_iconst (v := (0 : Int32)) hx hb dX11_areTwoPairs_92 (by decide) ?_
    refine lv_istore (lv' := [(9, .int (0 : Int32)), (8, .int (x2 - x2 / (10 : Int32) * (10 : Int32))), (7, .int (x2 / (10 : Int32))), (6, .int (x1 - x1 / (10 : Int32) * (10 : Int32))), (5, .int (x1 / (10 : Int32))), (0, .ref (gAd G 141)), (1, .int x1), (2, .int x2), (3, .int x3), (4, .int x4)]) hx hb dX11_areTwoPairs_93 hl (by decide) rfl (fun ls hl => ?_)
    refine lv_iload hx hb dX11_areTwoPairs_95 (lv_at hl 0 rfl) ?_
    refine lv_if_eq (tgt := 157) hx hb dX11_areTwoPairs_97 (by decide) (fun _ => ?_) (fun hz => absurd (by decide) hz)
    refine lv_iconst (v := (0 : Int32)) hx hb dX11_areTwoPairs_157 (by decide) ?_
    exact am_zret (v' := (0 : Int32)) X hr rfl hh (fun t ht => am_qp (mk := oI) hF ht) (Nat.le_of_ble_eq_true rfl) (Nat.le_of_ble_eq_true rfl) dX11_areTwoPairs_158
  · have hF := am_neg hc5 hF
    refine lv_iload hx hb dX11_areTwoPairs_31 (lv_at hl 3 rfl) ?_
    refine lv_iload hx hb dX11_areTwoPairs_33 (lv_at hl 1 rfl) ?_
    refine lv_icmp_eq (tgt := 92) hx hb dX11_areTwoPairs_35 (by decide) (fun hc6 => ?_) (fun hc6 => ?_)
    · have hF := am_pos hc6 hF
      refine lv_iconst (v := (0 : Int32)) hx hb dX11_areTwoPairs_92 (by decide) ?_
      refine lv_istore (lv' := [(9, .int (0 : Int32)), (8, .int (x2 - x2 / (10 : Int32) * (10 : Int32))), (7, .int (x2 / (10 : Int32))), (6, .int (x1 - x1 / (10 : Int32) * (10 : Int32))), (5, .int (x1 / (10 : Int32))), (0, .ref (gAd G 141)), (1, .int x1), (2, .int x2), (3, .int x3), (4, .int x4)]) hx hb dX11_areTwoPairs_93 hl (by decide) rfl (fun ls hl => ?_)
      refine lv_iload hx hb dX11_areTwoPairs_95 (lv_at hl 0 rfl) ?_
      refine lv_if_eq (tgt := 157) hx hb dX11_areTwoPairs_97 (by decide) (fun _ => ?_) (fun hz => absurd (by decide) hz)
      refine lv_iconst (v := (0 : Int32)) hx hb dX11_areTwoPairs_157 (by decide) ?_
      exact am_zret (v' := (0 : Int32)) X hr rfl hh (fun t ht => am_qp (mk := oI) hF ht) (Nat.le_of_ble_eq_true rfl) (Nat.le_of_ble_eq_true rfl) dX11_areTwoPairs_158
    · have hF := am_neg hc6 hF
      refine lv_iload hx hb dX11_areTwoPairs_38 (lv_at hl 3 rfl) ?_
      refine lv_iload hx hb dX11_areTwoPairs_40 (lv_at hl 0 rfl) ?_
      refine lv_icmp_eq (tgt := 92) hx hb dX11_areTwoPairs_42 (by decide) (fun hc7 => ?_) (fun hc7 => ?_)
      · have hF := am_pos hc7 hF
        refine lv_iconst (v := (0 : Int32)) hx hb dX11_areTwoPairs_92 (by decide) ?_
        refine lv_istore (lv' := [(9, .int (0 : Int32)), (8, .int (x2 - x2 / (10 : Int32) * (10 : Int32))), (7, .int (x2 / (10 : Int32))), (6, .int (x1 - x1 / (10 : Int32) * (10 : Int32))), (5, .int (x1 / (10 : Int32))), (0, .ref (gAd G 141)), (1, .int x1), (2, .int x2), (3, .int x3), (4, .int x4)]) hx hb dX11_areTwoPairs_93 hl (by decide) rfl (fun ls hl => ?_)
        refine lv_iload hx hb dX11_areTwoPairs_95 (lv_at hl 0 rfl) ?_
        refine lv_if_eq (tgt := 157) hx hb dX11_areTwoPairs_97 (by decide) (fun _ => ?_) (fun hz => absurd (by decide) hz)
        refine lv_iconst (v := (0 : Int32)) hx hb dX11_areTwoPairs_157 (by decide) ?_
        exact am_zret (v' := (0 : Int32)) X hr rfl hh (fun t ht => am_qp (mk := oI) hF ht) (Nat.le_of_ble_eq_true rfl) (Nat.le_of_ble_eq_true rfl) dX11_areTwoPairs_158
      · have hF := am_neg hc7 hF
        refine lv_iload hx hb dX11_areTwoPairs_45 (lv_at hl 2 rfl) ?_
        refine lv_iload hx hb dX11_areTwoPairs_47 (lv_at hl 1 rfl) ?_
        refine lv_icmp_eq (tgt := 92) hx hb dX11_areTwoPairs_49 (by decide) (fun hc8 => ?_) (fun hc8 => ?_)
        · have hF := am_pos hc8 hF
          refine lv_iconst (v := (0 : Int32)) hx hb dX11_areTwoPairs_92 (by decide) ?_
          refine lv_istore (lv' := [(9, .int (0 : Int32)), (8, .int (x2 - x2 / (10 : Int32) * (10 : Int32))), (7, .int (x2 / (10 : Int32))), (6, .int (x1 - x1 / (10 : Int32) * (10 : Int32))), (5, .int (x1 / (10 : Int32))), (0, .ref (gAd G 141)), (1, .int x1), (2, .int x2), (3, .int x3), (4, .int x4)]) hx hb dX11_areTwoPairs_93 hl (by decide) rfl (fun ls hl => ?_)
          refine lv_iload hx hb dX11_areTwoPairs_95 (lv_at hl 0 rfl) ?_
          refine lv_if_eq (tgt := 157) hx hb dX11_areTwoPairs_97 (by decide) (fun _ => ?_) (fun hz => absurd (by decide) hz)
          refine lv_iconst (v := (0 : Int32)) hx hb dX11_areTwoPairs_157 (by decide) ?_
          exact am_zret (v' := (0 : Int32)) X hr rfl hh (fun t ht => am_qp (mk := oI) hF ht) (Nat.le_of_ble_eq_true rfl) (Nat.le_of_ble_eq_true rfl) dX11_areTwoPairs_158
        · have hF := am_neg hc8 hF
          refine lv_iload hx hb dX11_areTwoPairs_52 (lv_at hl 2 rfl) ?_
          refine lv_iload hx hb dX11_areTwoPairs_54 (lv_at hl 0 rfl) ?_
          refine lv_icmp_eq (tgt := 92) hx hb dX11_areTwoPairs_56 (by decide) (fun hc9 => ?_) (fun hc9 => ?_)
          · have hF := am_pos hc9 hF
            refine lv_iconst (v := (0 : Int32)) hx hb dX11_areTwoPairs_92 (by decide) ?_
            refine lv_istore (lv' := [(9, .int (0 : Int32)), (8, .int (x2 - x2 / (10 : Int32) * (10 : Int32))), (7, .int (x2 / (10 : Int32))), (6, .int (x1 - x1 / (10 : Int32) * (10 : Int32))), (5, .int (x1 / (10 : Int32))), (0, .ref (gAd G 141)), (1, .int x1), (2, .int x2), (3, .int x3), (4, .int x4)]) hx hb dX11_areTwoPairs_93 hl (by decide) rfl (fun ls hl => ?_)
            refine lv_iload hx hb dX11_areTwoPairs_95 (lv_at hl 0 rfl) ?_
            refine lv_if_eq (tgt := 157) hx hb dX11_areTwoPairs_97 (by decide) (fun _ => ?_) (fun hz => absurd (by decide) hz)
            refine lv_iconst (v := (0 : Int32)) hx hb dX11_areTwoPairs_157 (by decide) ?_
            exact am_zret (v' := (0 : Int32)) X hr rfl hh (fun t ht => am_qp (mk := oI) hF ht) (Nat.le_of_ble_eq_true rfl) (Nat.le_of_ble_eq_true rfl) dX11_areTwoPairs_158
          · have hF := am_neg hc9 hF
            refine lv_iload hx hb dX11_areTwoPairs_59 (lv_at hl 1 rfl) ?_
            refine lv_iload hx hb dX11_areTwoPairs_61 (lv_at hl 0 rfl) ?_
            refine lv_icmp_eq (tgt := 92) hx hb dX11_areTwoPairs_63 (by decide) (fun hc10 => ?_) (fun hc10 => ?_)
            · have hF := am_pos hc10 hF
              refine lv_iconst (v := (0 : Int32)) hx hb dX11_areTwoPairs_92 (by decide) ?_
              refine lv_istore (lv' := [(9, .int (0 : Int32)), (8, .int (x2 - x2 / (10 : Int32) * (10 : Int32))), (7, .int (x2 / (10 : Int32))), (6, .int (x1 - x1 / (10 : Int32) * (10 : Int32))), (5, .int (x1 / (10 : Int32))), (0, .ref (gAd G 141)), (1, .int x1), (2, .int x2), (3, .int x3), (4, .int x4)]) hx hb dX11_areTwoPairs_93 hl (by decide) rfl (fun ls hl => ?_)
              refine lv_iload hx hb dX11_areTwoPairs_95 (lv_at hl 0 rfl) ?_
              refine lv_if_eq (tgt := 157) hx hb dX11_areTwoPairs_97 (by decide) (fun _ => ?_) (fun hz => absurd (by decide) hz)
              refine lv_iconst (v := (0 : Int32)) hx hb dX11_areTwoPairs_157 (by decide) ?_
              exact am_zret (v' := (0 : Int32)) X hr rfl hh (fun t ht => am_qp (mk := oI) hF ht) (Nat.le_of_ble_eq_true rfl) (Nat.le_of_ble_eq_true rfl) dX11_areTwoPairs_158
            · have hF := am_neg hc10 hF
              refine lv_aload_n hx hb dX11_areTwoPairs_66 rfl (lv_at hl 4 rfl) ?_
              refine lv_iload hx hb dX11_areTwoPairs_67 (lv_at hl 3 rfl) ?_
              refine lv_iload hx hb dX11_areTwoPairs_69 (lv_at hl 2 rfl) ?_
              obtain ⟨r12, hk11, hF⟩ := am_bind hF
              refine am_call X hh (va_runV (As := [.int (x1 / (10 : Int32)), .int (x1 - x1 / (10 : Int32) * (10 : Int32))]) (rest := []) X.1 (c_X11_areGears l G hk11) (cwV 2 hts gX11_areTwoPairs_X11_areGears rfl rfl rfl (by decide +kernel) ⟨Nat.le_of_ble_eq_true rfl, Nat.le_of_ble_eq_true rfl⟩) (am_preV X hh 141 12 (by decide) rfl rfl) rfl rfl hl.1 rfl (lv_room (Nat.le_of_ble_eq_true rfl)) dX11_areTwoPairs_71 ⟨Nat.le_of_ble_eq_true rfl, Nat.le_of_ble_eq_true rfl⟩) (fun ab H locs hh => ?_)
              refine lv_if_eq (tgt := 92) hx hb dX11_areTwoPairs_74 (by decide) (fun hc13 => ?_) (fun hc13 => ?_)
              · have hF := am_pos hc13 hF
                refine lv_iconst (v := (0 : Int32)) hx hb dX11_areTwoPairs_92 (by decide) ?_
                refine lv_istore (lv' := [(9, .int (0 : Int32)), (8, .int (x2 - x2 / (10 : Int32) * (10 : Int32))), (7, .int (x2 / (10 : Int32))), (6, .int (x1 - x1 / (10 : Int32) * (10 : Int32))), (5, .int (x1 / (10 : Int32))), (0, .ref (gAd G 141)), (1, .int x1), (2, .int x2), (3, .int x3), (4, .int x4)]) hx hb dX11_areTwoPairs_93 hl (by decide) rfl (fun ls hl => ?_)
                refine lv_iload hx hb dX11_areTwoPairs_95 (lv_at hl 0 rfl) ?_
                refine lv_if_eq (tgt := 157) hx hb dX11_areTwoPairs_97 (by decide) (fun _ => ?_) (fun hz => absurd (by decide) hz)
                refine lv_iconst (v := (0 : Int32)) hx hb dX11_areTwoPairs_157 (by decide) ?_
                exact am_zret (v' := (0 : Int32)) X hr rfl hh (fun t ht => am_qp (mk := oI) hF ht) (Nat.le_of_ble_eq_true rfl) (Nat.le_of_ble_eq_true rfl) dX11_areTwoPairs_158
              · have hF := am_neg hc13 hF
                refine lv_aload_n hx hb dX11_areTwoPairs_77 rfl (lv_at hl 4 rfl) ?_
                refine lv_iload hx hb dX11_areTwoPairs_78 (lv_at hl 1 rfl) ?_
                refine lv_iload hx hb dX11_areTwoPairs_80 (lv_at hl 0 rfl) ?_
                obtain ⟨r15, hk14, hF⟩ := am_bind hF
                refine am_call X hh (va_runV (As := [.int (x2 / (10 : Int32)), .int (x2 - x2 / (10 : Int32) * (10 : Int32))]) (rest := []) X.1 (c_X11_areGears l G hk14) (cwV 2 hts gX11_areTwoPairs_X11_areGears rfl rfl rfl (by decide +kernel) ⟨Nat.le_of_ble_eq_true rfl, Nat.le_of_ble_eq_true rfl⟩) (am_preV X hh 141 12 (by decide) rfl rfl) rfl rfl hl.1 rfl (lv_room (Nat.le_of_ble_eq_true rfl)) dX11_areTwoPairs_82 ⟨Nat.le_of_ble_eq_true rfl, Nat.le_of_ble_eq_true rfl⟩) (fun ab H locs hh => ?_)
                refine lv_if_eq (tgt := 92) hx hb dX11_areTwoPairs_85 (by decide) (fun hc16 => ?_) (fun hc16 => ?_)
                · have hF := am_pos hc16 hF
                  refine lv_iconst (v := (0 : Int32)) hx hb dX11_areTwoPairs_92 (by decide) ?_
                  refine lv_istore (lv' := [(9, .int (0 : Int32)), (8, .int (x2 - x2 / (10 : Int32) * (10 : Int32))), (7, .int (x2 / (10 : Int32))), (6, .int (x1 - x1 / (10 : Int32) * (10 : Int32))), (5, .int (x1 / (10 : Int32))), (0, .ref (gAd G 141)), (1, .int x1), (2, .int x2), (3, .int x3), (4, .int x4)]) hx hb dX11_areTwoPairs_93 hl (by decide) rfl (fun ls hl => ?_)
                  refine lv_iload hx hb dX11_areTwoPairs_95 (lv_at hl 0 rfl) ?_
                  refine lv_if_eq (tgt := 157) hx hb dX11_areTwoPairs_97 (by decide) (fun _ => ?_) (fun hz => absurd (by decide) hz)
                  refine lv_iconst (v := (0 : Int32)) hx hb dX11_areTwoPairs_157 (by decide) ?_
                  exact am_zret (v' := (0 : Int32)) X hr rfl hh (fun t ht => am_qp (mk := oI) hF ht) (Nat.le_of_ble_eq_true rfl) (Nat.le_of_ble_eq_true rfl) dX11_areTwoPairs_158
                · have hF := am_neg hc16 hF
                  refine lv_iconst (v := (1 : Int32)) hx hb dX11_areTwoPairs_88 (by decide) ?_
                  refine lv_goto (tgt := 93) hx hb dX11_areTwoPairs_89 (by decide) ?_
                  refine lv_istore (lv' := [(9, .int (1 : Int32)), (8, .int (x2 - x2 / (10 : Int32) * (10 : Int32))), (7, .int (x2 / (10 : Int32))), (6, .int (x1 - x1 / (10 : Int32) * (10 : Int32))), (5, .int (x1 / (10 : Int32))), (0, .ref (gAd G 141)), (1, .int x1), (2, .int x2), (3, .int x3), (4, .int x4)]) hx hb dX11_areTwoPairs_93 hl (by decide) rfl (fun ls hl => ?_)
                  refine lv_iload hx hb dX11_areTwoPairs_95 (lv_at hl 0 rfl) ?_
                  refine lv_if_eq (tgt := 157) hx hb dX11_areTwoPairs_97 (by decide) (fun hz => absurd hz (by decide)) (fun _ => ?_)
                  refine lv_aload_n hx hb dX11_areTwoPairs_100 rfl (lv_at hl 5 rfl) ?_
                  refine am_getR X hh 141 12 0 142 (by decide) rfl rfl (by decide) hwRX11 (show Cond.fieldLink RX11 7 "PlanetWorkshopModel" "g" "[J" ∈ wsX11_areTwoPairs by decide +kernel) rfl dX11_areTwoPairs_101 ?_
                  refine lv_bipush (v := (6 : Int32)) hx hb dX11_areTwoPairs_104 (by decide) ?_
                  refine lv_iload hx hb dX11_areTwoPairs_106 (lv_at hl 4 rfl) ?_
                  refine lv_iadd hx hb dX11_areTwoPairs_108 ?_
                  obtain ⟨hq17, hF⟩ := am_ifR hF
                  refine am_lald X hh 142 (by decide) rfl hq17 dX11_areTwoPairs_109 ?_
                  refine lv_aload_n hx hb dX11_areTwoPairs_110 rfl (lv_at hl 5 rfl) ?_
                  refine am_getR X hh 141 12 0 142 (by decide) rfl rfl (by decide) hwRX11 (show Cond.fieldLink RX11 7 "PlanetWorkshopModel" "g" "[J" ∈ wsX11_areTwoPairs by decide +kernel) rfl dX11_areTwoPairs_111 ?_
                  refine lv_bipush (v := (6 : Int32)) hx hb dX11_areTwoPairs_114 (by decide) ?_
                  refine lv_iload hx hb dX11_areTwoPairs_116 (lv_at hl 2 rfl) ?_
                  refine lv_iadd hx hb dX11_areTwoPairs_118 ?_
                  obtain ⟨hq18, hF⟩ := am_ifR hF
                  refine am_lald X hh 142 (by decide) rfl hq18 dX11_areTwoPairs_119 ?_
                  refine lv_lmul hx hb dX11_areTwoPairs_120 ?_
                  refine lv_iload hx hb dX11_areTwoPairs_121 (lv_at hl 9 rfl) ?_
                  refine lv_i2l hx hb dX11_areTwoPairs_123 rfl ?_
                  refine lv_lmul hx hb dX11_areTwoPairs_124 ?_
                  refine lv_aload_n hx hb dX11_areTwoPairs_125 rfl (lv_at hl 5 rfl) ?_
                  refine am_getR X hh 141 12 0 142 (by decide) rfl rfl (by decide) hwRX11 (show Cond.fieldLink RX11 7 "PlanetWorkshopModel" "g" "[J" ∈ wsX11_areTwoPairs by decide +kernel) rfl dX11_areTwoPairs_126 ?_
                  refine lv_bipush (v := (6 : Int32)) hx hb dX11_areTwoPairs_129 (by decide) ?_
                  refine lv_iload hx hb dX11_areTwoPairs_131 (lv_at hl 3 rfl) ?_
                  refine lv_iadd hx hb dX11_areTwoPairs_133 ?_
                  obtain ⟨hq19, hF⟩ := am_ifR hF
                  refine am_lald X hh 142 (by decide) rfl hq19 dX11_areTwoPairs_134 ?_
                  refine lv_aload_n hx hb dX11_areTwoPairs_135 rfl (lv_at hl 5 rfl) ?_
                  refine am_getR X hh 141 12 0 142 (by decide) rfl rfl (by decide) hwRX11 (show Cond.fieldLink RX11 7 "PlanetWorkshopModel" "g" "[J" ∈ wsX11_areTwoPairs by decide +kernel) rfl dX11_areTwoPairs_136 ?_
                  refine lv_bipush (v := (6 : Int32)) hx hb dX11_areTwoPairs_139 (by decide) ?_
                  refine lv_iload hx hb dX11_areTwoPairs_141 (lv_at hl 1 rfl) ?_
                  refine lv_iadd hx hb dX11_areTwoPairs_143 ?_
                  obtain ⟨hq20, hF⟩ := am_ifR hF
                  refine am_lald X hh 142 (by decide) rfl hq20 dX11_areTwoPairs_144 ?_
                  refine lv_lmul hx hb dX11_areTwoPairs_145 ?_
                  refine lv_iload_n hx hb dX11_areTwoPairs_146 rfl (lv_at hl 8 rfl) ?_
                  refine lv_i2l hx hb dX11_areTwoPairs_147 rfl ?_
                  refine lv_lmul hx hb dX11_areTwoPairs_148 ?_
                  refine am_lcmp_ne (tgt := 157) hx hb dX11_areTwoPairs_149 dX11_areTwoPairs_150 (by decide) (fun hc21 => ?_) (fun hc21 => ?_)
                  · have hF := am_neg hc21 hF
                    refine lv_iconst (v := (0 : Int32)) hx hb dX11_areTwoPairs_157 (by decide) ?_
                    exact am_zret (v' := (0 : Int32)) X hr rfl hh (fun t ht => am_qp (mk := oI) hF ht) (Nat.le_of_ble_eq_true rfl) (Nat.le_of_ble_eq_true rfl) dX11_areTwoPairs_158
                  · have hF := am_pos hc21 hF
                    refine lv_iconst (v := (1 : Int32)) hx hb dX11_areTwoPairs_153 (by decide) ?_
                    refine lv_goto (tgt := 158) hx hb dX11_areTwoPairs_154 (by decide) ?_
                    exact am_zret (v' := (1 : Int32)) X hr rfl hh (fun t ht => am_qp (mk := oI) hF ht) (Nat.le_of_ble_eq_true rfl) (Nat.le_of_ble_eq_true rfl) dX11_areTwoPairs_158
set_option maxHeartbeats 4000000 in
set_option maxRecDepth 100000 in
theorem c_X11_fewestPairs (l : Launch) (G : GG) {w : Wd} {x1 : Int32} {x2 : Int32} {r0 : Int32} {w1 : Wd} (hF : f_X11_fewestPairs w x1 x2 = some (r0, w1)) : Met l yX11_fewestPairs wsX11_fewestPairs ({ frames := 4, cells := 0, slots := 0, locals := 94 } : Room) (va_Pc [.ref (gAd G 141), .int x1, .int x2] (Rel G w)) (amQ G (oI r0) w1) 0 0 (gA G) := by
  refine am_met (own := RX11) (cc := cX11_fewestPairs) (maxL := 7) (ret := (some .int)) (by decide +kernel) rfl rfl (Nat.le_of_ble_eq_true rfl) ?_
  intro p e s m args below meth c ab H locs ls X hr hh hl
  have hx := X.1.1; have hb := X.1.2.1; have hml := X.1.2.2.1; have hown := X.1.2.2.2.1; have hts := X.1.2.2.2.2
  have hl : lv_has ls 7 [(0, .ref (gAd G 141)), (1, .int x1), (2, .int x2)] := hl
  unfold f_X11_fewestPairs at hF
  refine lv_iload_n hx hb dX11_fewestPairs_0 rfl (lv_at hl 1 rfl) ?_
  refine lv_iconst (v := (1 : Int32)) hx hb dX11_fewestPairs_1 (by decide) ?_
  refine lv_bipush (v := (60 : Int32)) hx hb dX11_fewestPairs_2 (by decide) ?_
  obtain ⟨r2, hk1, hF⟩ := am_bind hF
  refine am_call X hh (va_runS (As := [.int x1, .int (1 : Int32), .int (60 : Int32)]) (rest := []) X.1 (c_X11_in l G hk1) (va_cwS 3 hts gX11_fewestPairs_X11_in rfl rfl rfl (by decide +kernel) ⟨Nat.le_of_ble_eq_true rfl, Nat.le_of_ble_eq_true rfl⟩) (am_preS X hh) rfl rfl hl.1 rfl (lv_room (Nat.le_of_ble_eq_true rfl)) dX11_fewestPairs_4 ⟨Nat.le_of_ble_eq_true rfl, Nat.le_of_ble_eq_true rfl⟩) (fun ab H locs hh => ?_)
  refine lv_if_eq (tgt := 20) hx hb dX11_fewestPairs_7 (by decide) (fun hc3 => ?_) (fun hc3 => ?_)
  · have hF := am_pos hc3 hF
    refine lv_aload_n hx hb dX11_fewestPairs_20 rfl (lv_at hl 0 rfl) ?_
    refine lv_iconst (v := (1 : Int32)) hx hb dX11_fewestPairs_21 (by decide) ?_
    obtain ⟨⟨r5, w6⟩, hk4, hF⟩ := am_bind hF
    have hF := am_u2 hF
    refine am_call X hh (va_runV (As := [.int (1 : Int32)]) (rest := []) X.1 (c_X11_fails l G hk4) (cwV 1 hts gX11_fewestPairs_X11_fails rfl rfl rfl (by decide +kernel) ⟨Nat.le_of_ble_eq_true rfl, Nat.le_of_ble_eq_true rfl⟩) (am_preV X hh 141 12 (by decide) rfl rfl) rfl rfl hl.1 rfl (lv_room (Nat.le_of_ble_eq_true rfl)) dX11_fewestPairs_22 ⟨Nat.le_of_ble_eq_true rfl, Nat.le_of_ble_eq_true rfl⟩) (fun ab H locs hh => ?_)
    exact am_iret X hr hh (fun t ht => am_qw (mk := oI) hF ht) (Nat.le_of_ble_eq_true rfl) (Nat.le_of_ble_eq_true rfl) dX11_fewestPairs_25
  · have hF := am_neg hc3 hF
    refine lv_iload_n hx hb dX11_fewestPairs_10 rfl (lv_at hl 2 rfl) ?_
    refine lv_iconst (v := (1 : Int32)) hx hb dX11_fewestPairs_11 (by decide) ?_
    refine lv_bipush (v := (60 : Int32)) hx hb dX11_fewestPairs_12 (by decide) ?_
    obtain ⟨r9, hk8, hF⟩ := am_bind hF
    refine am_call X hh (va_runS (As := [.int x2, .int (1 : Int32), .int (60 : Int32)]) (rest := []) X.1 (c_X11_in l G hk8) (va_cwS 3 hts gX11_fewestPairs_X11_in rfl rfl rfl (by decide +kernel) ⟨Nat.le_of_ble_eq_true rfl, Nat.le_of_ble_eq_true rfl⟩) (am_preS X hh) rfl rfl hl.1 rfl (lv_room (Nat.le_of_ble_eq_true rfl)) dX11_fewestPairs_14 ⟨Nat.le_of_ble_eq_true rfl, Nat.le_of_ble_eq_true rfl⟩) (fun ab H locs hh => ?_)
    refine lv_if_ne (tgt := 26) hx hb dX11_fewestPairs_17 (by decide) (fun hc10 => ?_) (fun hc10 => ?_)
    · have hF := am_neg hc10 hF
      refine lv_iconst (v := (3 : Int32)) hx hb dX11_fewestPairs_26 (by decide) ?_
      refine lv_istore_n (lv' := [(3, .int (3 : Int32)), (0, .ref (gAd G 141)), (1, .int x1), (2, .int x2)]) hx hb dX11_fewestPairs_27 rfl hl (by decide) rfl (fun ls hl => ?_)
      refine lv_iconst (v := (0 : Int32)) hx hb dX11_fewestPairs_28 (by decide) ?_
      refine lv_istore (lv' := [(4, .int (0 : Int32)), (3, .int (3 : Int32)), (0, .ref (gAd G 141)), (1, .int x1), (2, .int x2)]) hx hb dX11_fewestPairs_29 hl (by decide) rfl (fun ls hl => ?_)
      have hlp31 : ∀ (n : Nat) (y11 : Int32) (y12 : Int32) (ab : Nat) (H : Heap) (locs : List Loc) (ls : Array Slot) (z : (Int32 × Int32) ⊕ (Int32 × Wd)), p_X11_fewestPairs_31 w x1 x2 n y11 y12 = some z → AH G s.heap w ab H locs → lv_has ls 7 [(3, .int y11), (4, .int y12), (0, .ref (gAd G 141)), (1, .int x1), (2, .int x2)] → (∀ (y11 : Int32) (y12 : Int32) (ab : Nat) (H : Heap) (locs : List Loc) (ls : Array Slot), z = .inl (y11, y12) → AH G s.heap w ab H locs → lv_has ls 7 [(3, .int y11), (4, .int y12), (0, .ref (gAd G 141)), (1, .int x1), (2, .int x2)] → W p l e ({ frames := 4, cells := 0, slots := 0, locals := 94 } : Room) s m args below meth c H locs 0 0 (MQ below (amQ G (oI r0) w1) args s 0 0 (gA G)) (F0 m 130 ls [])) → (∀ r, z = .inr r → some r = some (r0, w1)) → W p l e ({ frames := 4, cells := 0, slots := 0, locals := 94 } : Room) s m args below meth c H locs 0 0 (MQ below (amQ G (oI r0) w1) args s 0 0 (gA G)) (F0 m 31 ls []) := by
        intro n
        induction n with
        | zero =>
          intro y11 y12 ab H locs ls z hF
          unfold p_X11_fewestPairs_31 at hF
          cases hF
        | succ n ih =>
          intro y11 y12 ab H locs ls z hF hh hl kE kR
          unfold p_X11_fewestPairs_31 at hF
          refine lv_iload hx hb dX11_fewestPairs_31 (lv_at hl 1 rfl) ?_
          refine lv_bipush (v := (100 : Int32)) hx hb dX11_fewestPairs_33 (by decide) ?_
          refine lv_icmp_ge (tgt := 130) hx hb dX11_fewestPairs_35 (by decide) (fun hc14 => ?_) (fun hc14 => ?_)
          · have hF := am_pos hc14 hF
            exact kE y11 y12 ab H locs ls (Option.some.inj hF).symm hh (lv_sub hl [0, 1, 2, 3, 4] rfl)
          · have hF := am_neg hc14 hF
            refine lv_aload_n hx hb dX11_fewestPairs_38 rfl (lv_at hl 2 rfl) ?_
            refine lv_iload hx hb dX11_fewestPairs_39 (lv_at hl 1 rfl) ?_
            refine lv_bipush (v := (10 : Int32)) hx hb dX11_fewestPairs_41 (by decide) ?_
            obtain ⟨hq15, hF⟩ := am_if hF
            refine lv_idiv hx hb dX11_fewestPairs_43 hq15 ?_
            refine lv_iload hx hb dX11_fewestPairs_44 (lv_at hl 1 rfl) ?_
            refine lv_bipush (v := (10 : Int32)) hx hb dX11_fewestPairs_46 (by decide) ?_
            obtain ⟨hq16, hF⟩ := am_if hF
            refine lv_irem hx hb dX11_fewestPairs_48 hq16 ?_
            obtain ⟨r18, hk17, hF⟩ := am_bind hF
            refine am_call X hh (va_runV (As := [.int (y12 / (10 : Int32)), .int (y12 - y12 / (10 : Int32) * (10 : Int32))]) (rest := []) X.1 (c_X11_areGears l G hk17) (cwV 2 hts gX11_fewestPairs_X11_areGears rfl rfl rfl (by decide +kernel) ⟨Nat.le_of_ble_eq_true rfl, Nat.le_of_ble_eq_true rfl⟩) (am_preV X hh 141 12 (by decide) rfl rfl) rfl rfl hl.1 rfl (lv_room (Nat.le_of_ble_eq_true rfl)) dX11_fewestPairs_49 ⟨Nat.le_of_ble_eq_true rfl, Nat.le_of_ble_eq_true rfl⟩) (fun ab H locs hh => ?_)
            refine lv_istore (lv' := [(5, .int r18), (3, .int y11), (4, .int y12), (0, .ref (gAd G 141)), (1, .int x1), (2, .int x2)]) hx hb dX11_fewestPairs_52 hl (by decide) rfl (fun ls hl => ?_)
            refine lv_iload hx hb dX11_fewestPairs_54 (lv_at hl 0 rfl) ?_
            refine lv_if_eq (tgt := 84) hx hb dX11_fewestPairs_56 (by decide) (fun hc19 => ?_) (fun hc19 => ?_)
            · have hF := am_pos hc19 hF
              refine lv_iconst (v := (0 : Int32)) hx hb dX11_fewestPairs_84 (by decide) ?_
              refine lv_istore (lv' := [(6, .int (0 : Int32)), (5, .int r18), (3, .int y11), (4, .int y12), (0, .ref (gAd G 141)), (1, .int x1), (2, .int x2)]) hx hb dX11_fewestPairs_85 hl (by decide) rfl (fun ls hl => ?_)
              have hlp87 : ∀ (n : Nat) (y20 : Int32) (y21 : Int32) (ab : Nat) (H : Heap) (locs : List Loc) (ls : Array Slot) (z : (Int32 × Int32) ⊕ Unit), p_X11_fewestPairs_87 r18 w y12 x1 x2 n y20 y21 = some z → AH G s.heap w ab H locs → lv_has ls 7 [(3, .int y20), (6, .int y21), (5, .int r18), (4, .int y12), (0, .ref (gAd G 141)), (1, .int x1), (2, .int x2)] → (∀ (y20 : Int32) (y21 : Int32) (ab : Nat) (H : Heap) (locs : List Loc) (ls : Array Slot), z = .inl (y20, y21) → AH G s.heap w ab H locs → lv_has ls 7 [(3, .int y20), (6, .int y21), (5, .int r18), (4, .int y12), (0, .ref (gAd G 141)), (1, .int x1), (2, .int x2)] → W p l e ({ frames := 4, cells := 0, slots := 0, locals := 94 } : Room) s m args below meth c H locs 0 0 (MQ below (amQ G (oI r0) w1) args s 0 0 (gA G)) (F0 m 124 ls [])) → W p l e ({ frames := 4, cells := 0, slots := 0, locals := 94 } : Room) s m args below meth c H locs 0 0 (MQ below (amQ G (oI r0) w1) args s 0 0 (gA G)) (F0 m 87 ls []) := by
                intro n
                induction n with
                | zero =>
                  intro y20 y21 ab H locs ls z hF
                  unfold p_X11_fewestPairs_87 at hF
                  cases hF
                | succ n ih =>
                  intro y20 y21 ab H locs ls z hF hh hl kE
                  unfold p_X11_fewestPairs_87 at hF
                  refine lv_iload hx hb dX11_fewestPairs_87 (lv_at hl 1 rfl) ?_
                  refine lv_bipush (v := (100 : Int32)) hx hb dX11_fewestPairs_89 (by decide) ?_
                  refine lv_icmp_ge (tgt := 124) hx hb dX11_fewestPairs_91 (by decide) (fun hc23 => ?_) (fun hc23 => ?_)
                  · have hF := am_pos hc23 hF
                    exact kE y20 y21 ab H locs ls (Option.some.inj hF).symm hh (lv_sub hl [0, 1, 2, 3, 4, 5, 6] rfl)
                  · have hF := am_neg hc23 hF
                    refine lv_iload hx hb dX11_fewestPairs_94 (lv_at hl 2 rfl) ?_
                    refine lv_if_eq (tgt := 124) hx hb dX11_fewestPairs_96 (by decide) (fun hc24 => ?_) (fun hc24 => ?_)
                    · have hF := am_pos hc24 hF
                      exact kE y20 y21 ab H locs ls (Option.some.inj hF).symm hh (lv_sub hl [0, 1, 2, 3, 4, 5, 6] rfl)
                    · have hF := am_neg hc24 hF
                      refine lv_aload_n hx hb dX11_fewestPairs_99 rfl (lv_at hl 4 rfl) ?_
                      refine lv_iload hx hb dX11_fewestPairs_100 (lv_at hl 3 rfl) ?_
                      refine lv_iload hx hb dX11_fewestPairs_102 (lv_at hl 1 rfl) ?_
                      refine lv_iload_n hx hb dX11_fewestPairs_104 rfl (lv_at hl 5 rfl) ?_
                      refine lv_iload_n hx hb dX11_fewestPairs_105 rfl (lv_at hl 6 rfl) ?_
                      obtain ⟨r26, hk25, hF⟩ := am_bind hF
                      refine am_call X hh (va_runV (As := [.int y12, .int y21, .int x1, .int x2]) (rest := []) X.1 (c_X11_areTwoPairs l G hk25) (cwV 4 hts gX11_fewestPairs_X11_areTwoPairs rfl rfl rfl (by decide +kernel) ⟨Nat.le_of_ble_eq_true rfl, Nat.le_of_ble_eq_true rfl⟩) (am_preV X hh 141 12 (by decide) rfl rfl) rfl rfl hl.1 rfl (lv_room (Nat.le_of_ble_eq_true rfl)) dX11_fewestPairs_106 ⟨Nat.le_of_ble_eq_true rfl, Nat.le_of_ble_eq_true rfl⟩) (fun ab H locs hh => ?_)
                      refine lv_if_eq (tgt := 116) hx hb dX11_fewestPairs_109 (by decide) (fun hc27 => ?_) (fun hc27 => ?_)
                      · have hF := am_pos hc27 hF
                        refine lv_iload_n hx hb dX11_fewestPairs_116 rfl (lv_at hl 0 rfl) ?_
                        refine lv_istore_n (lv' := [(3, .int y20), (6, .int y21), (5, .int r18), (4, .int y12), (0, .ref (gAd G 141)), (1, .int x1), (2, .int x2)]) hx hb dX11_fewestPairs_117 rfl hl (by decide) rfl (fun ls hl => ?_)
                        refine lv_iinc (v := (y21 + (1 : Int32))) (lv' := [(6, .int (y21 + (1 : Int32))), (3, .int y20), (5, .int r18), (4, .int y12), (0, .ref (gAd G 141)), (1, .int x1), (2, .int x2)]) hx hb dX11_fewestPairs_118 hl (k := 1) rfl rfl (by decide) rfl (fun ls hl => ?_)
                        refine lv_goto (tgt := 87) hx hb dX11_fewestPairs_121 (by decide) ?_
                        exact ih y20 (y21 + (1 : Int32)) ab H locs ls _ hF hh (lv_sub hl [1, 0, 2, 3, 4, 5, 6] rfl) kE
                      · have hF := am_neg hc27 hF
                        refine lv_iconst (v := (2 : Int32)) hx hb dX11_fewestPairs_112 (by decide) ?_
                        refine lv_goto (tgt := 117) hx hb dX11_fewestPairs_113 (by decide) ?_
                        refine lv_istore_n (lv' := [(3, .int (2 : Int32)), (6, .int y21), (5, .int r18), (4, .int y12), (0, .ref (gAd G 141)), (1, .int x1), (2, .int x2)]) hx hb dX11_fewestPairs_117 rfl hl (by decide) rfl (fun ls hl => ?_)
                        refine lv_iinc (v := (y21 + (1 : Int32))) (lv' := [(6, .int (y21 + (1 : Int32))), (3, .int (2 : Int32)), (5, .int r18), (4, .int y12), (0, .ref (gAd G 141)), (1, .int x1), (2, .int x2)]) hx hb dX11_fewestPairs_118 hl (k := 1) rfl rfl (by decide) rfl (fun ls hl => ?_)
                        refine lv_goto (tgt := 87) hx hb dX11_fewestPairs_121 (by decide) ?_
                        exact ih (2 : Int32) (y21 + (1 : Int32)) ab H locs ls _ hF hh (lv_sub hl [1, 0, 2, 3, 4, 5, 6] rfl) kE
              obtain ⟨z28, hz29, hF⟩ := am_bind hF
              refine hlp87 2000 y11 (0 : Int32) ab H locs ls z28 hz29 hh (lv_sub hl [2, 0, 1, 3, 4, 5, 6] rfl) (fun y20 y21 ab H locs ls hz hh hl => ?_)
              · subst hz
                have hF := am_zl hF
                have hF := am_u2 hF
                refine lv_iinc (v := (y12 + (1 : Int32))) (lv' := [(4, .int (y12 + (1 : Int32))), (3, .int y20), (6, .int y21), (5, .int r18), (0, .ref (gAd G 141)), (1, .int x1), (2, .int x2)]) hx hb dX11_fewestPairs_124 hl (k := 3) rfl rfl (by decide) rfl (fun ls hl => ?_)
                refine lv_goto (tgt := 31) hx hb dX11_fewestPairs_127 (by decide) ?_
                exact ih y20 (y12 + (1 : Int32)) ab H locs ls _ hF hh (lv_sub hl [1, 0, 4, 5, 6] rfl) kE kR
            · have hF := am_neg hc19 hF
              refine lv_aload_n hx hb dX11_fewestPairs_59 rfl (lv_at hl 3 rfl) ?_
              refine lv_iload hx hb dX11_fewestPairs_60 (lv_at hl 2 rfl) ?_
              refine lv_bipush (v := (10 : Int32)) hx hb dX11_fewestPairs_62 (by decide) ?_
              obtain ⟨hq30, hF⟩ := am_if hF
              refine lv_idiv hx hb dX11_fewestPairs_64 hq30 ?_
              refine lv_iload hx hb dX11_fewestPairs_65 (lv_at hl 2 rfl) ?_
              refine lv_bipush (v := (10 : Int32)) hx hb dX11_fewestPairs_67 (by decide) ?_
              obtain ⟨hq31, hF⟩ := am_if hF
              refine lv_irem hx hb dX11_fewestPairs_69 hq31 ?_
              refine lv_iload_n hx hb dX11_fewestPairs_70 rfl (lv_at hl 4 rfl) ?_
              refine lv_iload_n hx hb dX11_fewestPairs_71 rfl (lv_at hl 5 rfl) ?_
              obtain ⟨r33, hk32, hF⟩ := am_bind hF
              refine am_call X hh (va_runV (As := [.int (y12 / (10 : Int32)), .int (y12 - y12 / (10 : Int32) * (10 : Int32)), .int x1, .int x2]) (rest := []) X.1 (c_X11_isPair l G hk32) (cwV 4 hts gX11_fewestPairs_X11_isPair rfl rfl rfl (by decide +kernel) ⟨Nat.le_of_ble_eq_true rfl, Nat.le_of_ble_eq_true rfl⟩) (am_preV X hh 141 12 (by decide) rfl rfl) rfl rfl hl.1 rfl (lv_room (Nat.le_of_ble_eq_true rfl)) dX11_fewestPairs_72 ⟨Nat.le_of_ble_eq_true rfl, Nat.le_of_ble_eq_true rfl⟩) (fun ab H locs hh => ?_)
              refine lv_if_eq (tgt := 84) hx hb dX11_fewestPairs_75 (by decide) (fun hc34 => ?_) (fun hc34 => ?_)
              · have hF := am_pos hc34 hF
                refine lv_iconst (v := (0 : Int32)) hx hb dX11_fewestPairs_84 (by decide) ?_
                refine lv_istore (lv' := [(6, .int (0 : Int32)), (5, .int r18), (3, .int y11), (4, .int y12), (0, .ref (gAd G 141)), (1, .int x1), (2, .int x2)]) hx hb dX11_fewestPairs_85 hl (by decide) rfl (fun ls hl => ?_)
                have hlp87 : ∀ (n : Nat) (y35 : Int32) (y36 : Int32) (ab : Nat) (H : Heap) (locs : List Loc) (ls : Array Slot) (z : (Int32 × Int32) ⊕ Unit), p_X11_fewestPairs_87 r18 w y12 x1 x2 n y35 y36 = some z → AH G s.heap w ab H locs → lv_has ls 7 [(3, .int y35), (6, .int y36), (5, .int r18), (4, .int y12), (0, .ref (gAd G 141)), (1, .int x1), (2, .int x2)] → (∀ (y35 : Int32) (y36 : Int32) (ab : Nat) (H : Heap) (locs : List Loc) (ls : Array Slot), z = .inl (y35, y36) → AH G s.heap w ab H locs → lv_has ls 7 [(3, .int y35), (6, .int y36), (5, .int r18), (4, .int y12), (0, .ref (gAd G 141)), (1, .int x1), (2, .int x2)] → W p l e ({ frames := 4, cells := 0, slots := 0, locals := 94 } : Room) s m args below meth c H locs 0 0 (MQ below (amQ G (oI r0) w1) args s 0 0 (gA G)) (F0 m 124 ls [])) → W p l e ({ frames := 4, cells := 0, slots := 0, locals := 94 } : Room) s m args below meth c H locs 0 0 (MQ below (amQ G (oI r0) w1) args s 0 0 (gA G)) (F0 m 87 ls []) := by
                  intro n
                  induction n with
                  | zero =>
                    intro y35 y36 ab H locs ls z hF
                    unfold p_X11_fewestPairs_87 at hF
                    cases hF
                  | succ n ih =>
                    intro y35 y36 ab H locs ls z hF hh hl kE
                    unfold p_X11_fewestPairs_87 at hF
                    refine lv_iload hx hb dX11_fewestPairs_87 (lv_at hl 1 rfl) ?_
                    refine lv_bipush (v := (100 : Int32)) hx hb dX11_fewestPairs_89 (by decide) ?_
                    refine lv_icmp_ge (tgt := 124) hx hb dX11_fewestPairs_91 (by decide) (fun hc38 => ?_) (fun hc38 => ?_)
                    · have hF := am_pos hc38 hF
                      exact kE y35 y36 ab H locs ls (Option.some.inj hF).symm hh (lv_sub hl [0, 1, 2, 3, 4, 5, 6] rfl)
                    · have hF := am_neg hc38 hF
                      refine lv_iload hx hb dX11_fewestPairs_94 (lv_at hl 2 rfl) ?_
                      refine lv_if_eq (tgt := 124) hx hb dX11_fewestPairs_96 (by decide) (fun hc39 => ?_) (fun hc39 => ?_)
                      · have hF := am_pos hc39 hF
                        exact kE y35 y36 ab H locs ls (Option.some.inj hF).symm hh (lv_sub hl [0, 1, 2, 3, 4, 5, 6] rfl)
                      · have hF := am_neg hc39 hF
                        refine lv_aload_n hx hb dX11_fewestPairs_99 rfl (lv_at hl 4 rfl) ?_
                        refine lv_iload hx hb dX11_fewestPairs_100 (lv_at hl 3 rfl) ?_
                        refine lv_iload hx hb dX11_fewestPairs_102 (lv_at hl 1 rfl) ?_
                        refine lv_iload_n hx hb dX11_fewestPairs_104 rfl (lv_at hl 5 rfl) ?_
                        refine lv_iload_n hx hb dX11_fewestPairs_105 rfl (lv_at hl 6 rfl) ?_
                        obtain ⟨r41, hk40, hF⟩ := am_bind hF
                        refine am_call X hh (va_runV (As := [.int y12, .int y36, .int x1, .int x2]) (rest := []) X.1 (c_X11_areTwoPairs l G hk40) (cwV 4 hts gX11_fewestPairs_X11_areTwoPairs rfl rfl rfl (by decide +kernel) ⟨Nat.le_of_ble_eq_true rfl, Nat.le_of_ble_eq_true rfl⟩) (am_preV X hh 141 12 (by decide) rfl rfl) rfl rfl hl.1 rfl (lv_room (Nat.le_of_ble_eq_true rfl)) dX11_fewestPairs_106 ⟨Nat.le_of_ble_eq_true rfl, Nat.le_of_ble_eq_true rfl⟩) (fun ab H locs hh => ?_)
                        refine lv_if_eq (tgt := 116) hx hb dX11_fewestPairs_109 (by decide) (fun hc42 => ?_) (fun hc42 => ?_)
                        · have hF := am_pos hc42 hF
                          refine lv_iload_n hx hb dX11_fewestPairs_116 rfl (lv_at hl 0 rfl) ?_
                          refine lv_istore_n (lv' := [(3, .int y35), (6, .int y36), (5, .int r18), (4, .int y12), (0, .ref (gAd G 141)), (1, .int x1), (2, .int x2)]) hx hb dX11_fewestPairs_117 rfl hl (by decide) rfl (fun ls hl => ?_)
                          refine lv_iinc (v := (y36 + (1 : Int32))) (lv' := [(6, .int (y36 + (1 : Int32))), (3, .int y35), (5, .int r18), (4, .int y12), (0, .ref (gAd G 141)), (1, .int x1), (2, .int x2)]) hx hb dX11_fewestPairs_118 hl (k := 1) rfl rfl (by decide) rfl (fun ls hl => ?_)
                          refine lv_goto (tgt := 87) hx hb dX11_fewestPairs_121 (by decide) ?_
                          exact ih y35 (y36 + (1 : Int32)) ab H locs ls _ hF hh (lv_sub hl [1, 0, 2, 3, 4, 5, 6] rfl) kE
                        · have hF := am_neg hc42 hF
                          refine lv_iconst (v := (2 : Int32)) hx hb dX11_fewestPairs_112 (by decide) ?_
                          refine lv_goto (tgt := 117) hx hb dX11_fewestPairs_113 (by decide) ?_
                          refine lv_istore_n (lv' := [(3, .int (2 : Int32)), (6, .int y36), (5, .int r18), (4, .int y12), (0, .ref (gAd G 141)), (1, .int x1), (2, .int x2)]) hx hb dX11_fewestPairs_117 rfl hl (by decide) rfl (fun ls hl => ?_)
                          refine lv_iinc (v := (y36 + (1 : Int32))) (lv' := [(6, .int (y36 + (1 : Int32))), (3, .int (2 : Int32)), (5, .int r18), (4, .int y12), (0, .ref (gAd G 141)), (1, .int x1), (2, .int x2)]) hx hb dX11_fewestPairs_118 hl (k := 1) rfl rfl (by decide) rfl (fun ls hl => ?_)
                          refine lv_goto (tgt := 87) hx hb dX11_fewestPairs_121 (by decide) ?_
                          exact ih (2 : Int32) (y36 + (1 : Int32)) ab H locs ls _ hF hh (lv_sub hl [1, 0, 2, 3, 4, 5, 6] rfl) kE
                obtain ⟨z43, hz44, hF⟩ := am_bind hF
                refine hlp87 2000 y11 (0 : Int32) ab H locs ls z43 hz44 hh (lv_sub hl [2, 0, 1, 3, 4, 5, 6] rfl) (fun y35 y36 ab H locs ls hz hh hl => ?_)
                · subst hz
                  have hF := am_zl hF
                  have hF := am_u2 hF
                  refine lv_iinc (v := (y12 + (1 : Int32))) (lv' := [(4, .int (y12 + (1 : Int32))), (3, .int y35), (6, .int y36), (5, .int r18), (0, .ref (gAd G 141)), (1, .int x1), (2, .int x2)]) hx hb dX11_fewestPairs_124 hl (k := 3) rfl rfl (by decide) rfl (fun ls hl => ?_)
                  refine lv_goto (tgt := 31) hx hb dX11_fewestPairs_127 (by decide) ?_
                  exact ih y35 (y12 + (1 : Int32)) ab H locs ls _ hF hh (lv_sub hl [1, 0, 4, 5, 6] rfl) kE kR
              · have hF := am_neg hc34 hF
                refine lv_aload_n hx hb dX11_fewestPairs_78 rfl (lv_at hl 3 rfl) ?_
                refine lv_iconst (v := (1 : Int32)) hx hb dX11_fewestPairs_79 (by decide) ?_
                obtain ⟨⟨r46, w47⟩, hk45, hF⟩ := am_bind hF
                have hF := am_u2 hF
                refine am_call X hh (va_runV (As := [.int (1 : Int32)]) (rest := []) X.1 (c_X11_done l G hk45) (cwV 1 hts gX11_fewestPairs_X11_done rfl rfl rfl (by decide +kernel) ⟨Nat.le_of_ble_eq_true rfl, Nat.le_of_ble_eq_true rfl⟩) (am_preV X hh 141 12 (by decide) rfl rfl) rfl rfl hl.1 rfl (lv_room (Nat.le_of_ble_eq_true rfl)) dX11_fewestPairs_80 ⟨Nat.le_of_ble_eq_true rfl, Nat.le_of_ble_eq_true rfl⟩) (fun ab H locs hh => ?_)
                have hF := kR _ (Option.some.inj hF).symm
                exact am_iret X hr hh (fun t ht => am_qw (mk := oI) hF ht) (Nat.le_of_ble_eq_true rfl) (Nat.le_of_ble_eq_true rfl) dX11_fewestPairs_83
      obtain ⟨z49, hz50, hF⟩ := am_bind hF
      refine hlp31 2000 (3 : Int32) (0 : Int32) ab H locs ls z49 hz50 hh (lv_sub hl [1, 0, 2, 3, 4] rfl) (fun y11 y12 ab H locs ls hz hh hl => ?_) (fun r hz => ?_)
      · subst hz
        have hF := am_zl hF
        have hF := am_u2 hF
        refine lv_iload_n hx hb dX11_fewestPairs_130 rfl (lv_at hl 0 rfl) ?_
        refine lv_iconst (v := (3 : Int32)) hx hb dX11_fewestPairs_131 (by decide) ?_
        refine lv_icmp_ne (tgt := 143) hx hb dX11_fewestPairs_132 (by decide) (fun hc51 => ?_) (fun hc51 => ?_)
        · have hF := am_neg hc51 hF
          refine lv_aload_n hx hb dX11_fewestPairs_143 rfl (lv_at hl 2 rfl) ?_
          refine lv_iload_n hx hb dX11_fewestPairs_144 rfl (lv_at hl 0 rfl) ?_
          obtain ⟨⟨r53, w54⟩, hk52, hF⟩ := am_bind hF
          have hF := am_u2 hF
          refine am_call X hh (va_runV (As := [.int y11]) (rest := []) X.1 (c_X11_done l G hk52) (cwV 1 hts gX11_fewestPairs_X11_done rfl rfl rfl (by decide +kernel) ⟨Nat.le_of_ble_eq_true rfl, Nat.le_of_ble_eq_true rfl⟩) (am_preV X hh 141 12 (by decide) rfl rfl) rfl rfl hl.1 rfl (lv_room (Nat.le_of_ble_eq_true rfl)) dX11_fewestPairs_145 ⟨Nat.le_of_ble_eq_true rfl, Nat.le_of_ble_eq_true rfl⟩) (fun ab H locs hh => ?_)
          exact am_iret X hr hh (fun t ht => am_qw (mk := oI) hF ht) (Nat.le_of_ble_eq_true rfl) (Nat.le_of_ble_eq_true rfl) dX11_fewestPairs_148
        · have hF := am_pos hc51 hF
          refine lv_aload_n hx hb dX11_fewestPairs_135 rfl (lv_at hl 2 rfl) ?_
          refine lv_iconst (v := (2 : Int32)) hx hb dX11_fewestPairs_136 (by decide) ?_
          obtain ⟨⟨r57, w58⟩, hk56, hF⟩ := am_bind hF
          have hF := am_u2 hF
          refine am_call X hh (va_runV (As := [.int (2 : Int32)]) (rest := []) X.1 (c_X11_fails l G hk56) (cwV 1 hts gX11_fewestPairs_X11_fails rfl rfl rfl (by decide +kernel) ⟨Nat.le_of_ble_eq_true rfl, Nat.le_of_ble_eq_true rfl⟩) (am_preV X hh 141 12 (by decide) rfl rfl) rfl rfl hl.1 rfl (lv_room (Nat.le_of_ble_eq_true rfl)) dX11_fewestPairs_137 ⟨Nat.le_of_ble_eq_true rfl, Nat.le_of_ble_eq_true rfl⟩) (fun ab H locs hh => ?_)
          refine lv_goto (tgt := 148) hx hb dX11_fewestPairs_140 (by decide) ?_
          exact am_iret X hr hh (fun t ht => am_qw (mk := oI) hF ht) (Nat.le_of_ble_eq_true rfl) (Nat.le_of_ble_eq_true rfl) dX11_fewestPairs_148
      · subst hz
        have hF := am_zr hF
        exact hF
    · have hF := am_pos hc10 hF
      refine lv_aload_n hx hb dX11_fewestPairs_20 rfl (lv_at hl 0 rfl) ?_
      refine lv_iconst (v := (1 : Int32)) hx hb dX11_fewestPairs_21 (by decide) ?_
      obtain ⟨⟨r61, w62⟩, hk60, hF⟩ := am_bind hF
      have hF := am_u2 hF
      refine am_call X hh (va_runV (As := [.int (1 : Int32)]) (rest := []) X.1 (c_X11_fails l G hk60) (cwV 1 hts gX11_fewestPairs_X11_fails rfl rfl rfl (by decide +kernel) ⟨Nat.le_of_ble_eq_true rfl, Nat.le_of_ble_eq_true rfl⟩) (am_preV X hh 141 12 (by decide) rfl rfl) rfl rfl hl.1 rfl (lv_room (Nat.le_of_ble_eq_true rfl)) dX11_fewestPairs_22 ⟨Nat.le_of_ble_eq_true rfl, Nat.le_of_ble_eq_true rfl⟩) (fun ab H locs hh => ?_)
      exact am_iret X hr hh (fun t ht => am_qw (mk := oI) hF ht) (Nat.le_of_ble_eq_true rfl) (Nat.le_of_ble_eq_true rfl) dX11_fewestPairs_25
set_option maxHeartbeats 4000000 in
set_option maxRecDepth 100000 in
theorem c_X11_fewestPairsByTable (l : Launch) (G : GG) {w : Wd} {x1 : Int32} {x2 : Int32} {r0 : Int32} {w1 : Wd} (hF : f_X11_fewestPairsByTable w x1 x2 = some (r0, w1)) : Met l yX11_fewestPairsByTable wsX11_fewestPairsByTable ({ frames := 5, cells := 0, slots := 0, locals := 120 } : Room) (va_Pc [.ref (gAd G 141), .int x1, .int x2] (Rel G w)) (amQ G (oI r0) w1) 0 0 (gA G) := by
  refine am_met (own := RX11) (cc := cX11_fewestPairsByTable) (maxL := 3) (ret := (some .int)) (by decide +kernel) rfl rfl (Nat.le_of_ble_eq_true rfl) ?_
  intro p e s m args below meth c ab H locs ls X hr hh hl
  have hx := X.1.1; have hb := X.1.2.1; have hml := X.1.2.2.1; have hown := X.1.2.2.2.1; have hts := X.1.2.2.2.2
  have hl : lv_has ls 3 [(0, .ref (gAd G 141)), (1, .int x1), (2, .int x2)] := hl
  unfold f_X11_fewestPairsByTable at hF
  refine lv_aload_n hx hb dX11_fewestPairsByTable_0 rfl (lv_at hl 0 rfl) ?_
  refine lv_iload_n hx hb dX11_fewestPairsByTable_1 rfl (lv_at hl 1 rfl) ?_
  refine lv_iload_n hx hb dX11_fewestPairsByTable_2 rfl (lv_at hl 2 rfl) ?_
  obtain ⟨⟨r2, w3⟩, hk1, hF⟩ := am_bind hF
  have hF := am_u2 hF
  refine am_call X hh (va_runV (As := [.int x1, .int x2]) (rest := []) X.1 (c_X11_fewestPairs l G hk1) (cwV 2 hts gX11_fewestPairsByTable_X11_fewestPairs rfl rfl rfl (by decide +kernel) ⟨Nat.le_of_ble_eq_true rfl, Nat.le_of_ble_eq_true rfl⟩) (am_preV X hh 141 12 (by decide) rfl rfl) rfl rfl hl.1 rfl (lv_room (Nat.le_of_ble_eq_true rfl)) dX11_fewestPairsByTable_3 ⟨Nat.le_of_ble_eq_true rfl, Nat.le_of_ble_eq_true rfl⟩) (fun ab H locs hh => ?_)
  exact am_iret X hr hh (fun t ht => am_qw (mk := oI) hF ht) (Nat.le_of_ble_eq_true rfl) (Nat.le_of_ble_eq_true rfl) dX11_fewestPairsByTable_6
set_option maxHeartbeats 4000000 in
set_option maxRecDepth 100000 in
theorem c_X11_woundTotal (l : Launch) (G : GG) {w : Wd} {r0 : Int32} {w1 : Wd} (hF : f_X11_woundTotal w = some (r0, w1)) : Met l yX11_woundTotal wsX11_woundTotal ({ frames := 1, cells := 0, slots := 0, locals := 21 } : Room) (va_Pc [.ref (gAd G 141)] (Rel G w)) (amQ G (oI r0) w1) 0 0 (gA G) := by
  refine am_met (own := RX11) (cc := cX11_woundTotal) (maxL := 1) (ret := (some .int)) (by decide +kernel) rfl rfl (Nat.le_of_ble_eq_true rfl) ?_
  intro p e s m args below meth c ab H locs ls X hr hh hl
  have hx := X.1.1; have hb := X.1.2.1; have hml := X.1.2.2.1; have hown := X.1.2.2.2.1; have hts := X.1.2.2.2.2
  have hl : lv_has ls 1 [(0, .ref (gAd G 141))] := hl
  unfold f_X11_woundTotal at hF
  refine lv_aload_n hx hb dX11_woundTotal_0 rfl (lv_at hl 0 rfl) ?_
  refine lv_aload_n hx hb dX11_woundTotal_1 rfl (lv_at hl 0 rfl) ?_
  refine lv_iconst (v := (3 : Int32)) hx hb dX11_woundTotal_2 (by decide) ?_
  obtain ⟨r2, hk1, hF⟩ := am_bind hF
  refine am_call X hh (va_runV (As := [.int (3 : Int32)]) (rest := [.ref (gAd G 141)]) X.1 (c_X11_at l G hk1) (cwV 1 hts gX11_woundTotal_X11_at rfl rfl rfl (by decide +kernel) ⟨Nat.le_of_ble_eq_true rfl, Nat.le_of_ble_eq_true rfl⟩) (am_preV X hh 141 12 (by decide) rfl rfl) rfl rfl hl.1 rfl (lv_room (Nat.le_of_ble_eq_true rfl)) dX11_woundTotal_3 ⟨Nat.le_of_ble_eq_true rfl, Nat.le_of_ble_eq_true rfl⟩) (fun ab H locs hh => ?_)
  obtain ⟨⟨r4, w5⟩, hk3, hF⟩ := am_bind hF
  have hF := am_u2 hF
  refine am_call X hh (va_runV (As := [.int r2]) (rest := []) X.1 (c_X11_done l G hk3) (cwV 1 hts gX11_woundTotal_X11_done rfl rfl rfl (by decide +kernel) ⟨Nat.le_of_ble_eq_true rfl, Nat.le_of_ble_eq_true rfl⟩) (am_preV X hh 141 12 (by decide) rfl rfl) rfl rfl hl.1 rfl (lv_room (Nat.le_of_ble_eq_true rfl)) dX11_woundTotal_6 ⟨Nat.le_of_ble_eq_true rfl, Nat.le_of_ble_eq_true rfl⟩) (fun ab H locs hh => ?_)
  exact am_iret X hr hh (fun t ht => am_qw (mk := oI) hF ht) (Nat.le_of_ble_eq_true rfl) (Nat.le_of_ble_eq_true rfl) dX11_woundTotal_9
set_option maxHeartbeats 4000000 in
set_option maxRecDepth 100000 in
theorem c_X11_tensionTotal (l : Launch) (G : GG) {w : Wd} {r0 : Int32} {w1 : Wd} (hF : f_X11_tensionTotal w = some (r0, w1)) : Met l yX11_tensionTotal wsX11_tensionTotal ({ frames := 1, cells := 0, slots := 0, locals := 21 } : Room) (va_Pc [.ref (gAd G 141)] (Rel G w)) (amQ G (oI r0) w1) 0 0 (gA G) := by
  refine am_met (own := RX11) (cc := cX11_tensionTotal) (maxL := 3) (ret := (some .int)) (by decide +kernel) rfl rfl (Nat.le_of_ble_eq_true rfl) ?_
  intro p e s m args below meth c ab H locs ls X hr hh hl
  have hx := X.1.1; have hb := X.1.2.1; have hml := X.1.2.2.1; have hown := X.1.2.2.2.1; have hts := X.1.2.2.2.2
  have hl : lv_has ls 3 [(0, .ref (gAd G 141))] := hl
  unfold f_X11_tensionTotal at hF
  refine lv_iconst (v := (0 : Int32)) hx hb dX11_tensionTotal_0 (by decide) ?_
  refine lv_istore_n (lv' := [(1, .int (0 : Int32)), (0, .ref (gAd G 141))]) hx hb dX11_tensionTotal_1 rfl hl (by decide) rfl (fun ls hl => ?_)
  refine lv_iconst (v := (0 : Int32)) hx hb dX11_tensionTotal_2 (by decide) ?_
  refine lv_istore_n (lv' := [(2, .int (0 : Int32)), (1, .int (0 : Int32)), (0, .ref (gAd G 141))]) hx hb dX11_tensionTotal_3 rfl hl (by decide) rfl (fun ls hl => ?_)
  have hlp4 : ∀ (n : Nat) (y1 : Int32) (y2 : Int32) (ab : Nat) (H : Heap) (locs : List Loc) (ls : Array Slot) (z : (Int32 × Int32) ⊕ Unit), p_X11_tensionTotal_4 w n y1 y2 = some z → AH G s.heap w ab H locs → lv_has ls 3 [(1, .int y1), (2, .int y2), (0, .ref (gAd G 141))] → (∀ (y1 : Int32) (y2 : Int32) (ab : Nat) (H : Heap) (locs : List Loc) (ls : Array Slot), z = .inl (y1, y2) → AH G s.heap w ab H locs → lv_has ls 3 [(1, .int y1), (2, .int y2), (0, .ref (gAd G 141))] → W p l e ({ frames := 1, cells := 0, slots := 0, locals := 21 } : Room) s m args below meth c H locs 0 0 (MQ below (amQ G (oI r0) w1) args s 0 0 (gA G)) (F0 m 27 ls [])) → W p l e ({ frames := 1, cells := 0, slots := 0, locals := 21 } : Room) s m args below meth c H locs 0 0 (MQ below (amQ G (oI r0) w1) args s 0 0 (gA G)) (F0 m 4 ls []) := by
    intro n
    induction n with
    | zero =>
      intro y1 y2 ab H locs ls z hF
      unfold p_X11_tensionTotal_4 at hF
      cases hF
    | succ n ih =>
      intro y1 y2 ab H locs ls z hF hh hl kE
      unfold p_X11_tensionTotal_4 at hF
      refine lv_iload_n hx hb dX11_tensionTotal_4 rfl (lv_at hl 1 rfl) ?_
      refine lv_bipush (v := (10 : Int32)) hx hb dX11_tensionTotal_5 (by decide) ?_
      refine lv_icmp_ge (tgt := 27) hx hb dX11_tensionTotal_7 (by decide) (fun hc4 => ?_) (fun hc4 => ?_)
      · have hF := am_pos hc4 hF
        exact kE y1 y2 ab H locs ls (Option.some.inj hF).symm hh (lv_sub hl [0, 1, 2] rfl)
      · have hF := am_neg hc4 hF
        refine lv_iload_n hx hb dX11_tensionTotal_10 rfl (lv_at hl 0 rfl) ?_
        refine lv_aload_n hx hb dX11_tensionTotal_11 rfl (lv_at hl 2 rfl) ?_
        refine lv_bipush (v := (36 : Int32)) hx hb dX11_tensionTotal_12 (by decide) ?_
        refine lv_iload_n hx hb dX11_tensionTotal_14 rfl (lv_at hl 1 rfl) ?_
        refine lv_iadd hx hb dX11_tensionTotal_15 ?_
        obtain ⟨r6, hk5, hF⟩ := am_bind hF
        refine am_call X hh (va_runV (As := [.int ((36 : Int32) + y2)]) (rest := [.int y1]) X.1 (c_X11_at l G hk5) (cwV 1 hts gX11_tensionTotal_X11_at rfl rfl rfl (by decide +kernel) ⟨Nat.le_of_ble_eq_true rfl, Nat.le_of_ble_eq_true rfl⟩) (am_preV X hh 141 12 (by decide) rfl rfl) rfl rfl hl.1 rfl (lv_room (Nat.le_of_ble_eq_true rfl)) dX11_tensionTotal_16 ⟨Nat.le_of_ble_eq_true rfl, Nat.le_of_ble_eq_true rfl⟩) (fun ab H locs hh => ?_)
        refine lv_iadd hx hb dX11_tensionTotal_19 ?_
        refine lv_istore_n (lv' := [(1, .int (y1 + r6)), (2, .int y2), (0, .ref (gAd G 141))]) hx hb dX11_tensionTotal_20 rfl hl (by decide) rfl (fun ls hl => ?_)
        refine lv_iinc (v := (y2 + (1 : Int32))) (lv' := [(2, .int (y2 + (1 : Int32))), (1, .int (y1 + r6)), (0, .ref (gAd G 141))]) hx hb dX11_tensionTotal_21 hl (k := 1) rfl rfl (by decide) rfl (fun ls hl => ?_)
        refine lv_goto (tgt := 4) hx hb dX11_tensionTotal_24 (by decide) ?_
        exact ih (y1 + r6) (y2 + (1 : Int32)) ab H locs ls _ hF hh (lv_sub hl [1, 0, 2] rfl) kE
  obtain ⟨z7, hz8, hF⟩ := am_bind hF
  refine hlp4 2000 (0 : Int32) (0 : Int32) ab H locs ls z7 hz8 hh (lv_sub hl [1, 0, 2] rfl) (fun y1 y2 ab H locs ls hz hh hl => ?_)
  · subst hz
    have hF := am_zl hF
    have hF := am_u2 hF
    refine lv_aload_n hx hb dX11_tensionTotal_27 rfl (lv_at hl 2 rfl) ?_
    refine lv_iload_n hx hb dX11_tensionTotal_28 rfl (lv_at hl 0 rfl) ?_
    obtain ⟨⟨r10, w11⟩, hk9, hF⟩ := am_bind hF
    have hF := am_u2 hF
    refine am_call X hh (va_runV (As := [.int y1]) (rest := []) X.1 (c_X11_done l G hk9) (cwV 1 hts gX11_tensionTotal_X11_done rfl rfl rfl (by decide +kernel) ⟨Nat.le_of_ble_eq_true rfl, Nat.le_of_ble_eq_true rfl⟩) (am_preV X hh 141 12 (by decide) rfl rfl) rfl rfl hl.1 rfl (lv_room (Nat.le_of_ble_eq_true rfl)) dX11_tensionTotal_29 ⟨Nat.le_of_ble_eq_true rfl, Nat.le_of_ble_eq_true rfl⟩) (fun ab H locs hh => ?_)
    exact am_iret X hr hh (fun t ht => am_qw (mk := oI) hF ht) (Nat.le_of_ble_eq_true rfl) (Nat.le_of_ble_eq_true rfl) dX11_tensionTotal_32
set_option maxHeartbeats 4000000 in
set_option maxRecDepth 100000 in
theorem c_X11_tensionByAccounts (l : Launch) (G : GG) {w : Wd} {r0 : Int32} {w1 : Wd} (hF : f_X11_tensionByAccounts w = some (r0, w1)) : Met l yX11_tensionByAccounts wsX11_tensionByAccounts ({ frames := 1, cells := 0, slots := 0, locals := 21 } : Room) (va_Pc [.ref (gAd G 141)] (Rel G w)) (amQ G (oI r0) w1) 0 0 (gA G) := by
  refine am_met (own := RX11) (cc := cX11_tensionByAccounts) (maxL := 1) (ret := (some .int)) (by decide +kernel) rfl rfl (Nat.le_of_ble_eq_true rfl) ?_
  intro p e s m args below meth c ab H locs ls X hr hh hl
  have hx := X.1.1; have hb := X.1.2.1; have hml := X.1.2.2.1; have hown := X.1.2.2.2.1; have hts := X.1.2.2.2.2
  have hl : lv_has ls 1 [(0, .ref (gAd G 141))] := hl
  unfold f_X11_tensionByAccounts at hF
  refine lv_aload_n hx hb dX11_tensionByAccounts_0 rfl (lv_at hl 0 rfl) ?_
  refine lv_aload_n hx hb dX11_tensionByAccounts_1 rfl (lv_at hl 0 rfl) ?_
  refine lv_iconst (v := (3 : Int32)) hx hb dX11_tensionByAccounts_2 (by decide) ?_
  obtain ⟨r2, hk1, hF⟩ := am_bind hF
  refine am_call X hh (va_runV (As := [.int (3 : Int32)]) (rest := [.ref (gAd G 141)]) X.1 (c_X11_at l G hk1) (cwV 1 hts gX11_tensionByAccounts_X11_at rfl rfl rfl (by decide +kernel) ⟨Nat.le_of_ble_eq_true rfl, Nat.le_of_ble_eq_true rfl⟩) (am_preV X hh 141 12 (by decide) rfl rfl) rfl rfl hl.1 rfl (lv_room (Nat.le_of_ble_eq_true rfl)) dX11_tensionByAccounts_3 ⟨Nat.le_of_ble_eq_true rfl, Nat.le_of_ble_eq_true rfl⟩) (fun ab H locs hh => ?_)
  refine lv_aload_n hx hb dX11_tensionByAccounts_6 rfl (lv_at hl 0 rfl) ?_
  refine lv_iconst (v := (4 : Int32)) hx hb dX11_tensionByAccounts_7 (by decide) ?_
  obtain ⟨r4, hk3, hF⟩ := am_bind hF
  refine am_call X hh (va_runV (As := [.int (4 : Int32)]) (rest := [.int r2, .ref (gAd G 141)]) X.1 (c_X11_at l G hk3) (cwV 1 hts gX11_tensionByAccounts_X11_at rfl rfl rfl (by decide +kernel) ⟨Nat.le_of_ble_eq_true rfl, Nat.le_of_ble_eq_true rfl⟩) (am_preV X hh 141 12 (by decide) rfl rfl) rfl rfl hl.1 rfl (lv_room (Nat.le_of_ble_eq_true rfl)) dX11_tensionByAccounts_8 ⟨Nat.le_of_ble_eq_true rfl, Nat.le_of_ble_eq_true rfl⟩) (fun ab H locs hh => ?_)
  refine lv_isub hx hb dX11_tensionByAccounts_11 ?_
  obtain ⟨⟨r6, w7⟩, hk5, hF⟩ := am_bind hF
  have hF := am_u2 hF
  refine am_call X hh (va_runV (As := [.int (r2 - r4)]) (rest := []) X.1 (c_X11_done l G hk5) (cwV 1 hts gX11_tensionByAccounts_X11_done rfl rfl rfl (by decide +kernel) ⟨Nat.le_of_ble_eq_true rfl, Nat.le_of_ble_eq_true rfl⟩) (am_preV X hh 141 12 (by decide) rfl rfl) rfl rfl hl.1 rfl (lv_room (Nat.le_of_ble_eq_true rfl)) dX11_tensionByAccounts_12 ⟨Nat.le_of_ble_eq_true rfl, Nat.le_of_ble_eq_true rfl⟩) (fun ab H locs hh => ?_)
  exact am_iret X hr hh (fun t ht => am_qw (mk := oI) hF ht) (Nat.le_of_ble_eq_true rfl) (Nat.le_of_ble_eq_true rfl) dX11_tensionByAccounts_15
set_option maxHeartbeats 4000000 in
set_option maxRecDepth 100000 in
theorem c_X11_releaseTotal (l : Launch) (G : GG) {w : Wd} {r0 : Int32} {w1 : Wd} (hF : f_X11_releaseTotal w = some (r0, w1)) : Met l yX11_releaseTotal wsX11_releaseTotal ({ frames := 1, cells := 0, slots := 0, locals := 21 } : Room) (va_Pc [.ref (gAd G 141)] (Rel G w)) (amQ G (oI r0) w1) 0 0 (gA G) := by
  refine am_met (own := RX11) (cc := cX11_releaseTotal) (maxL := 1) (ret := (some .int)) (by decide +kernel) rfl rfl (Nat.le_of_ble_eq_true rfl) ?_
  intro p e s m args below meth c ab H locs ls X hr hh hl
  have hx := X.1.1; have hb := X.1.2.1; have hml := X.1.2.2.1; have hown := X.1.2.2.2.1; have hts := X.1.2.2.2.2
  have hl : lv_has ls 1 [(0, .ref (gAd G 141))] := hl
  unfold f_X11_releaseTotal at hF
  refine lv_aload_n hx hb dX11_releaseTotal_0 rfl (lv_at hl 0 rfl) ?_
  refine lv_aload_n hx hb dX11_releaseTotal_1 rfl (lv_at hl 0 rfl) ?_
  refine lv_iconst (v := (5 : Int32)) hx hb dX11_releaseTotal_2 (by decide) ?_
  obtain ⟨r2, hk1, hF⟩ := am_bind hF
  refine am_call X hh (va_runV (As := [.int (5 : Int32)]) (rest := [.ref (gAd G 141)]) X.1 (c_X11_at l G hk1) (cwV 1 hts gX11_releaseTotal_X11_at rfl rfl rfl (by decide +kernel) ⟨Nat.le_of_ble_eq_true rfl, Nat.le_of_ble_eq_true rfl⟩) (am_preV X hh 141 12 (by decide) rfl rfl) rfl rfl hl.1 rfl (lv_room (Nat.le_of_ble_eq_true rfl)) dX11_releaseTotal_3 ⟨Nat.le_of_ble_eq_true rfl, Nat.le_of_ble_eq_true rfl⟩) (fun ab H locs hh => ?_)
  obtain ⟨⟨r4, w5⟩, hk3, hF⟩ := am_bind hF
  have hF := am_u2 hF
  refine am_call X hh (va_runV (As := [.int r2]) (rest := []) X.1 (c_X11_done l G hk3) (cwV 1 hts gX11_releaseTotal_X11_done rfl rfl rfl (by decide +kernel) ⟨Nat.le_of_ble_eq_true rfl, Nat.le_of_ble_eq_true rfl⟩) (am_preV X hh 141 12 (by decide) rfl rfl) rfl rfl hl.1 rfl (lv_room (Nat.le_of_ble_eq_true rfl)) dX11_releaseTotal_6 ⟨Nat.le_of_ble_eq_true rfl, Nat.le_of_ble_eq_true rfl⟩) (fun ab H locs hh => ?_)
  exact am_iret X hr hh (fun t ht => am_qw (mk := oI) hF ht) (Nat.le_of_ble_eq_true rfl) (Nat.le_of_ble_eq_true rfl) dX11_releaseTotal_9
set_option maxHeartbeats 4000000 in
set_option maxRecDepth 100000 in
theorem c_X11_meanTeeth (l : Launch) (G : GG) {w : Wd} {r0 : UInt64} {w1 : Wd} (hF : f_X11_meanTeeth w = some (r0, w1)) : Met l yX11_meanTeeth wsX11_meanTeeth ({ frames := 0, cells := 0, slots := 0, locals := 0 } : Room) (va_Pc [.ref (gAd G 141)] (Rel G w)) (amQ G (oD r0) w1) 0 0 (gA G) := by
  refine am_met (own := RX11) (cc := cX11_meanTeeth) (maxL := 4) (ret := (some .double)) (by decide +kernel) rfl rfl (Nat.le_of_ble_eq_true rfl) ?_
  intro p e s m args below meth c ab H locs ls X hr hh hl
  have hx := X.1.1; have hb := X.1.2.1; have hml := X.1.2.2.1; have hown := X.1.2.2.2.1; have hts := X.1.2.2.2.2
  have hl : lv_has ls 4 [(0, .ref (gAd G 141))] := hl
  have hwRX11 : ∀ z ∈ u_ws RX11 TX11 18, z ∈ wsX11_meanTeeth := by decide +kernel
  unfold f_X11_meanTeeth at hF
  refine lv_lconst (v := (0 : Int64)) hx hb dX11_meanTeeth_0 (by decide) ?_
  refine lv_lstore_n (lv' := [(1, .long (0 : Int64)), (0, .ref (gAd G 141))]) hx hb dX11_meanTeeth_1 rfl hl (by decide) rfl (fun ls hl => ?_)
  refine lv_iconst (v := (0 : Int32)) hx hb dX11_meanTeeth_2 (by decide) ?_
  refine lv_istore_n (lv' := [(3, .int (0 : Int32)), (1, .long (0 : Int64)), (0, .ref (gAd G 141))]) hx hb dX11_meanTeeth_3 rfl hl (by decide) rfl (fun ls hl => ?_)
  have hlp4 : ∀ (n : Nat) (y1 : Int64) (y2 : Int32) (ab : Nat) (H : Heap) (locs : List Loc) (ls : Array Slot) (z : (Int64 × Int32) ⊕ Unit), p_X11_meanTeeth_4 w n y1 y2 = some z → AH G s.heap w ab H locs → lv_has ls 4 [(1, .long y1), (3, .int y2), (0, .ref (gAd G 141))] → (∀ (y1 : Int64) (y2 : Int32) (ab : Nat) (H : Heap) (locs : List Loc) (ls : Array Slot), z = .inl (y1, y2) → AH G s.heap w ab H locs → lv_has ls 4 [(1, .long y1), (3, .int y2), (0, .ref (gAd G 141))] → W p l e ({ frames := 0, cells := 0, slots := 0, locals := 0 } : Room) s m args below meth c H locs 0 0 (MQ below (amQ G (oD r0) w1) args s 0 0 (gA G)) (F0 m 28 ls [])) → W p l e ({ frames := 0, cells := 0, slots := 0, locals := 0 } : Room) s m args below meth c H locs 0 0 (MQ below (amQ G (oD r0) w1) args s 0 0 (gA G)) (F0 m 4 ls []) := by
    intro n
    induction n with
    | zero =>
      intro y1 y2 ab H locs ls z hF
      unfold p_X11_meanTeeth_4 at hF
      cases hF
    | succ n ih =>
      intro y1 y2 ab H locs ls z hF hh hl kE
      unfold p_X11_meanTeeth_4 at hF
      refine lv_iload_n hx hb dX11_meanTeeth_4 rfl (lv_at hl 1 rfl) ?_
      refine lv_bipush (v := (10 : Int32)) hx hb dX11_meanTeeth_5 (by decide) ?_
      refine lv_icmp_ge (tgt := 28) hx hb dX11_meanTeeth_7 (by decide) (fun hc4 => ?_) (fun hc4 => ?_)
      · have hF := am_pos hc4 hF
        exact kE y1 y2 ab H locs ls (Option.some.inj hF).symm hh (lv_sub hl [0, 1, 2] rfl)
      · have hF := am_neg hc4 hF
        refine lv_lload_n hx hb dX11_meanTeeth_10 rfl (lv_at hl 0 rfl) ?_
        refine lv_aload_n hx hb dX11_meanTeeth_11 rfl (lv_at hl 2 rfl) ?_
        refine am_getR X hh 141 12 0 142 (by decide) rfl rfl (by decide) hwRX11 (show Cond.fieldLink RX11 7 "PlanetWorkshopModel" "g" "[J" ∈ wsX11_meanTeeth by decide +kernel) rfl dX11_meanTeeth_12 ?_
        refine lv_bipush (v := (6 : Int32)) hx hb dX11_meanTeeth_15 (by decide) ?_
        refine lv_iload_n hx hb dX11_meanTeeth_17 rfl (lv_at hl 1 rfl) ?_
        refine lv_iadd hx hb dX11_meanTeeth_18 ?_
        obtain ⟨hq5, hF⟩ := am_ifR hF
        refine am_lald X hh 142 (by decide) rfl hq5 dX11_meanTeeth_19 ?_
        refine lv_ladd hx hb dX11_meanTeeth_20 ?_
        refine lv_lstore_n (lv' := [(1, .long (y1 + (gL w 142 (((6 : Int32) + y2)).toNatClampNeg))), (3, .int y2), (0, .ref (gAd G 141))]) hx hb dX11_meanTeeth_21 rfl hl (by decide) rfl (fun ls hl => ?_)
        refine lv_iinc (v := (y2 + (1 : Int32))) (lv' := [(3, .int (y2 + (1 : Int32))), (1, .long (y1 + (gL w 142 (((6 : Int32) + y2)).toNatClampNeg))), (0, .ref (gAd G 141))]) hx hb dX11_meanTeeth_22 hl (k := 1) rfl rfl (by decide) rfl (fun ls hl => ?_)
        refine lv_goto (tgt := 4) hx hb dX11_meanTeeth_25 (by decide) ?_
        exact ih (y1 + (gL w 142 (((6 : Int32) + y2)).toNatClampNeg)) (y2 + (1 : Int32)) ab H locs ls _ hF hh (lv_sub hl [1, 0, 2] rfl) kE
  obtain ⟨z6, hz7, hF⟩ := am_bind hF
  refine hlp4 2000 (0 : Int64) (0 : Int32) ab H locs ls z6 hz7 hh (lv_sub hl [1, 0, 2] rfl) (fun y1 y2 ab H locs ls hz hh hl => ?_)
  · subst hz
    have hF := am_zl hF
    have hF := am_u2 hF
    refine lv_aload_n hx hb dX11_meanTeeth_28 rfl (lv_at hl 2 rfl) ?_
    refine lv_aload_n hx hb dX11_meanTeeth_29 rfl (lv_at hl 2 rfl) ?_
    refine am_getR X hh 141 12 0 142 (by decide) rfl rfl (by decide) hwRX11 (show Cond.fieldLink RX11 7 "PlanetWorkshopModel" "g" "[J" ∈ wsX11_meanTeeth by decide +kernel) rfl dX11_meanTeeth_30 ?_
    refine lv_iconst (v := (0 : Int32)) hx hb dX11_meanTeeth_33 (by decide) ?_
    obtain ⟨hq8, hF⟩ := am_ifR hF
    refine am_lald X hh 142 (by decide) rfl hq8 dX11_meanTeeth_34 ?_
    refine lv_lconst (v := (0 : Int64)) hx hb dX11_meanTeeth_35 (by decide) ?_
    refine am_lcmp_ne (tgt := 44) hx hb dX11_meanTeeth_36 dX11_meanTeeth_37 (by decide) (fun hc9 => ?_) (fun hc9 => ?_)
    · have hF := am_neg hc9 hF
      refine lv_iconst (v := (0 : Int32)) hx hb dX11_meanTeeth_44 (by decide) ?_
      refine am_putI X hh 141 12 12 (by decide) rfl rfl (by decide) hwRX11 tyX11 tyX11_ok nmX11 (show Cond.fieldLink RX11 49 "PlanetWorkshopModel" "thrown" "I" ∈ wsX11_meanTeeth by decide +kernel) rfl rfl rfl rfl dX11_meanTeeth_45 (fun H locs hh => ?_)
      obtain ⟨w10, hw10, hF⟩ := am_wl hF
      have hh := AH_eq hw10 hh
      refine lv_aload_n hx hb dX11_meanTeeth_48 rfl (lv_at hl 2 rfl) ?_
      refine am_getI X hh 141 12 12 (by decide) rfl rfl (by decide) hwRX11 (show Cond.fieldLink RX11 49 "PlanetWorkshopModel" "thrown" "I" ∈ wsX11_meanTeeth by decide +kernel) rfl dX11_meanTeeth_49 ?_
      refine lv_if_le (tgt := 59) hx hb dX11_meanTeeth_52 (by decide) (fun hc11 => ?_) (fun hc11 => ?_)
      · have hF := am_pos hc11 hF
        refine lv_lload_n hx hb dX11_meanTeeth_59 rfl (lv_at hl 0 rfl) ?_
        refine lv_l2d hx hb dX11_meanTeeth_60 ?_
        refine lv_aload_n hx hb dX11_meanTeeth_61 rfl (lv_at hl 2 rfl) ?_
        refine am_getR X hh 141 12 0 142 (by decide) rfl rfl (by decide) hwRX11 (show Cond.fieldLink RX11 7 "PlanetWorkshopModel" "g" "[J" ∈ wsX11_meanTeeth by decide +kernel) rfl dX11_meanTeeth_62 ?_
        refine lv_iconst (v := (0 : Int32)) hx hb dX11_meanTeeth_65 (by decide) ?_
        obtain ⟨hq12, hF⟩ := am_ifR hF
        refine am_lald X hh 142 (by decide) rfl hq12 dX11_meanTeeth_66 ?_
        refine lv_l2d hx hb dX11_meanTeeth_67 ?_
        obtain ⟨hq13, hF⟩ := am_ifN64 hF
        refine lv_ddiv hx hb dX11_meanTeeth_68 hq13 ?_
        exact am_dret X hr hh (fun t ht => am_qw (mk := oD) hF ht) (Nat.le_of_ble_eq_true rfl) (Nat.le_of_ble_eq_true rfl) dX11_meanTeeth_69
      · have hF := am_neg hc11 hF
        refine lv_dconst0 hx hb dX11_meanTeeth_55 ?_
        refine lv_goto (tgt := 69) hx hb dX11_meanTeeth_56 (by decide) ?_
        exact am_dret X hr hh (fun t ht => am_qw (mk := oD) hF ht) (Nat.le_of_ble_eq_true rfl) (Nat.le_of_ble_eq_true rfl) dX11_meanTeeth_69
    · have hF := am_pos hc9 hF
      refine lv_iconst (v := (1 : Int32)) hx hb dX11_meanTeeth_40 (by decide) ?_
      refine lv_goto (tgt := 45) hx hb dX11_meanTeeth_41 (by decide) ?_
      refine am_putI X hh 141 12 12 (by decide) rfl rfl (by decide) hwRX11 tyX11 tyX11_ok nmX11 (show Cond.fieldLink RX11 49 "PlanetWorkshopModel" "thrown" "I" ∈ wsX11_meanTeeth by decide +kernel) rfl rfl rfl rfl dX11_meanTeeth_45 (fun H locs hh => ?_)
      obtain ⟨w14, hw14, hF⟩ := am_wl hF
      have hh := AH_eq hw14 hh
      refine lv_aload_n hx hb dX11_meanTeeth_48 rfl (lv_at hl 2 rfl) ?_
      refine am_getI X hh 141 12 12 (by decide) rfl rfl (by decide) hwRX11 (show Cond.fieldLink RX11 49 "PlanetWorkshopModel" "thrown" "I" ∈ wsX11_meanTeeth by decide +kernel) rfl dX11_meanTeeth_49 ?_
      refine lv_if_le (tgt := 59) hx hb dX11_meanTeeth_52 (by decide) (fun hc15 => ?_) (fun hc15 => ?_)
      · have hF := am_pos hc15 hF
        refine lv_lload_n hx hb dX11_meanTeeth_59 rfl (lv_at hl 0 rfl) ?_
        refine lv_l2d hx hb dX11_meanTeeth_60 ?_
        refine lv_aload_n hx hb dX11_meanTeeth_61 rfl (lv_at hl 2 rfl) ?_
        refine am_getR X hh 141 12 0 142 (by decide) rfl rfl (by decide) hwRX11 (show Cond.fieldLink RX11 7 "PlanetWorkshopModel" "g" "[J" ∈ wsX11_meanTeeth by decide +kernel) rfl dX11_meanTeeth_62 ?_
        refine lv_iconst (v := (0 : Int32)) hx hb dX11_meanTeeth_65 (by decide) ?_
        obtain ⟨hq16, hF⟩ := am_ifR hF
        refine am_lald X hh 142 (by decide) rfl hq16 dX11_meanTeeth_66 ?_
        refine lv_l2d hx hb dX11_meanTeeth_67 ?_
        obtain ⟨hq17, hF⟩ := am_ifN64 hF
        refine lv_ddiv hx hb dX11_meanTeeth_68 hq17 ?_
        exact am_dret X hr hh (fun t ht => am_qw (mk := oD) hF ht) (Nat.le_of_ble_eq_true rfl) (Nat.le_of_ble_eq_true rfl) dX11_meanTeeth_69
      · have hF := am_neg hc15 hF
        refine lv_dconst0 hx hb dX11_meanTeeth_55 ?_
        refine lv_goto (tgt := 69) hx hb dX11_meanTeeth_56 (by decide) ?_
        exact am_dret X hr hh (fun t ht => am_qw (mk := oD) hF ht) (Nat.le_of_ble_eq_true rfl) (Nat.le_of_ble_eq_true rfl) dX11_meanTeeth_69
set_option maxHeartbeats 4000000 in
set_option maxRecDepth 100000 in
theorem c_X11_dryShare (l : Launch) (G : GG) {w : Wd} {r0 : UInt32} {w1 : Wd} (hF : f_X11_dryShare w = some (r0, w1)) : Met l yX11_dryShare wsX11_dryShare ({ frames := 1, cells := 0, slots := 0, locals := 21 } : Room) (va_Pc [.ref (gAd G 141)] (Rel G w)) (amQ G (oF r0) w1) 0 0 (gA G) := by
  refine am_met (own := RX11) (cc := cX11_dryShare) (maxL := 3) (ret := (some .float)) (by decide +kernel) rfl rfl (Nat.le_of_ble_eq_true rfl) ?_
  intro p e s m args below meth c ab H locs ls X hr hh hl
  have hx := X.1.1; have hb := X.1.2.1; have hml := X.1.2.2.1; have hown := X.1.2.2.2.1; have hts := X.1.2.2.2.2
  have hl : lv_has ls 3 [(0, .ref (gAd G 141))] := hl
  have hwRX11 : ∀ z ∈ u_ws RX11 TX11 18, z ∈ wsX11_dryShare := by decide +kernel
  unfold f_X11_dryShare at hF
  refine lv_iconst (v := (0 : Int32)) hx hb dX11_dryShare_0 (by decide) ?_
  refine lv_istore_n (lv' := [(1, .int (0 : Int32)), (0, .ref (gAd G 141))]) hx hb dX11_dryShare_1 rfl hl (by decide) rfl (fun ls hl => ?_)
  refine lv_iconst (v := (0 : Int32)) hx hb dX11_dryShare_2 (by decide) ?_
  refine lv_istore_n (lv' := [(2, .int (0 : Int32)), (1, .int (0 : Int32)), (0, .ref (gAd G 141))]) hx hb dX11_dryShare_3 rfl hl (by decide) rfl (fun ls hl => ?_)
  have hlp4 : ∀ (n : Nat) (y1 : Int32) (y2 : Int32) (ab : Nat) (H : Heap) (locs : List Loc) (ls : Array Slot) (z : (Int32 × Int32) ⊕ Unit), p_X11_dryShare_4 w n y1 y2 = some z → AH G s.heap w ab H locs → lv_has ls 3 [(1, .int y1), (2, .int y2), (0, .ref (gAd G 141))] → (∀ (y1 : Int32) (y2 : Int32) (ab : Nat) (H : Heap) (locs : List Loc) (ls : Array Slot), z = .inl (y1, y2) → AH G s.heap w ab H locs → lv_has ls 3 [(1, .int y1), (2, .int y2), (0, .ref (gAd G 141))] → W p l e ({ frames := 1, cells := 0, slots := 0, locals := 21 } : Room) s m args below meth c H locs 0 0 (MQ below (amQ G (oF r0) w1) args s 0 0 (gA G)) (F0 m 41 ls [])) → W p l e ({ frames := 1, cells := 0, slots := 0, locals := 21 } : Room) s m args below meth c H locs 0 0 (MQ below (amQ G (oF r0) w1) args s 0 0 (gA G)) (F0 m 4 ls []) := by
    intro n
    induction n with
    | zero =>
      intro y1 y2 ab H locs ls z hF
      unfold p_X11_dryShare_4 at hF
      cases hF
    | succ n ih =>
      intro y1 y2 ab H locs ls z hF hh hl kE
      unfold p_X11_dryShare_4 at hF
      refine lv_iload_n hx hb dX11_dryShare_4 rfl (lv_at hl 1 rfl) ?_
      refine lv_aload_n hx hb dX11_dryShare_5 rfl (lv_at hl 2 rfl) ?_
      refine lv_iconst (v := (0 : Int32)) hx hb dX11_dryShare_6 (by decide) ?_
      obtain ⟨r5, hk4, hF⟩ := am_bind hF
      refine am_call X hh (va_runV (As := [.int (0 : Int32)]) (rest := [.int y2]) X.1 (c_X11_at l G hk4) (cwV 1 hts gX11_dryShare_X11_at rfl rfl rfl (by decide +kernel) ⟨Nat.le_of_ble_eq_true rfl, Nat.le_of_ble_eq_true rfl⟩) (am_preV X hh 141 12 (by decide) rfl rfl) rfl rfl hl.1 rfl (lv_room (Nat.le_of_ble_eq_true rfl)) dX11_dryShare_7 ⟨Nat.le_of_ble_eq_true rfl, Nat.le_of_ble_eq_true rfl⟩) (fun ab H locs hh => ?_)
      refine lv_icmp_ge (tgt := 41) hx hb dX11_dryShare_10 (by decide) (fun hc6 => ?_) (fun hc6 => ?_)
      · have hF := am_pos hc6 hF
        exact kE y1 y2 ab H locs ls (Option.some.inj hF).symm hh (lv_sub hl [0, 1, 2] rfl)
      · have hF := am_neg hc6 hF
        refine lv_iload_n hx hb dX11_dryShare_13 rfl (lv_at hl 0 rfl) ?_
        refine lv_aload_n hx hb dX11_dryShare_14 rfl (lv_at hl 2 rfl) ?_
        refine am_getR X hh 141 12 0 142 (by decide) rfl rfl (by decide) hwRX11 (show Cond.fieldLink RX11 7 "PlanetWorkshopModel" "g" "[J" ∈ wsX11_dryShare by decide +kernel) rfl dX11_dryShare_15 ?_
        refine lv_bipush (v := (66 : Int32)) hx hb dX11_dryShare_18 (by decide) ?_
        refine lv_iload_n hx hb dX11_dryShare_20 rfl (lv_at hl 1 rfl) ?_
        refine lv_iadd hx hb dX11_dryShare_21 ?_
        obtain ⟨hq7, hF⟩ := am_ifR hF
        refine am_lald X hh 142 (by decide) rfl hq7 dX11_dryShare_22 ?_
        refine lv_lconst (v := (0 : Int64)) hx hb dX11_dryShare_23 (by decide) ?_
        refine am_lcmp_ne (tgt := 32) hx hb dX11_dryShare_24 dX11_dryShare_25 (by decide) (fun hc8 => ?_) (fun hc8 => ?_)
        · have hF := am_neg hc8 hF
          refine lv_iconst (v := (0 : Int32)) hx hb dX11_dryShare_32 (by decide) ?_
          refine lv_iadd hx hb dX11_dryShare_33 ?_
          refine lv_istore_n (lv' := [(1, .int (y1 + (0 : Int32))), (2, .int y2), (0, .ref (gAd G 141))]) hx hb dX11_dryShare_34 rfl hl (by decide) rfl (fun ls hl => ?_)
          refine lv_iinc (v := (y2 + (1 : Int32))) (lv' := [(2, .int (y2 + (1 : Int32))), (1, .int (y1 + (0 : Int32))), (0, .ref (gAd G 141))]) hx hb dX11_dryShare_35 hl (k := 1) rfl rfl (by decide) rfl (fun ls hl => ?_)
          refine lv_goto (tgt := 4) hx hb dX11_dryShare_38 (by decide) ?_
          exact ih (y1 + (0 : Int32)) (y2 + (1 : Int32)) ab H locs ls _ hF hh (lv_sub hl [1, 0, 2] rfl) kE
        · have hF := am_pos hc8 hF
          refine lv_iconst (v := (1 : Int32)) hx hb dX11_dryShare_28 (by decide) ?_
          refine lv_goto (tgt := 33) hx hb dX11_dryShare_29 (by decide) ?_
          refine lv_iadd hx hb dX11_dryShare_33 ?_
          refine lv_istore_n (lv' := [(1, .int (y1 + (1 : Int32))), (2, .int y2), (0, .ref (gAd G 141))]) hx hb dX11_dryShare_34 rfl hl (by decide) rfl (fun ls hl => ?_)
          refine lv_iinc (v := (y2 + (1 : Int32))) (lv' := [(2, .int (y2 + (1 : Int32))), (1, .int (y1 + (1 : Int32))), (0, .ref (gAd G 141))]) hx hb dX11_dryShare_35 hl (k := 1) rfl rfl (by decide) rfl (fun ls hl => ?_)
          refine lv_goto (tgt := 4) hx hb dX11_dryShare_38 (by decide) ?_
          exact ih (y1 + (1 : Int32)) (y2 + (1 : Int32)) ab H locs ls _ hF hh (lv_sub hl [1, 0, 2] rfl) kE
  obtain ⟨z9, hz10, hF⟩ := am_bind hF
  refine hlp4 2000 (0 : Int32) (0 : Int32) ab H locs ls z9 hz10 hh (lv_sub hl [1, 0, 2] rfl) (fun y1 y2 ab H locs ls hz hh hl => ?_)
  · subst hz
    have hF := am_zl hF
    have hF := am_u2 hF
    refine lv_aload_n hx hb dX11_dryShare_41 rfl (lv_at hl 2 rfl) ?_
    refine lv_aload_n hx hb dX11_dryShare_42 rfl (lv_at hl 2 rfl) ?_
    refine am_getR X hh 141 12 0 142 (by decide) rfl rfl (by decide) hwRX11 (show Cond.fieldLink RX11 7 "PlanetWorkshopModel" "g" "[J" ∈ wsX11_dryShare by decide +kernel) rfl dX11_dryShare_43 ?_
    refine lv_iconst (v := (0 : Int32)) hx hb dX11_dryShare_46 (by decide) ?_
    obtain ⟨hq11, hF⟩ := am_ifR hF
    refine am_lald X hh 142 (by decide) rfl hq11 dX11_dryShare_47 ?_
    refine lv_lconst (v := (0 : Int64)) hx hb dX11_dryShare_48 (by decide) ?_
    refine am_lcmp_ne (tgt := 57) hx hb dX11_dryShare_49 dX11_dryShare_50 (by decide) (fun hc12 => ?_) (fun hc12 => ?_)
    · have hF := am_neg hc12 hF
      refine lv_iconst (v := (0 : Int32)) hx hb dX11_dryShare_57 (by decide) ?_
      refine am_putI X hh 141 12 12 (by decide) rfl rfl (by decide) hwRX11 tyX11 tyX11_ok nmX11 (show Cond.fieldLink RX11 49 "PlanetWorkshopModel" "thrown" "I" ∈ wsX11_dryShare by decide +kernel) rfl rfl rfl rfl dX11_dryShare_58 (fun H locs hh => ?_)
      obtain ⟨w13, hw13, hF⟩ := am_wl hF
      have hh := AH_eq hw13 hh
      refine lv_aload_n hx hb dX11_dryShare_61 rfl (lv_at hl 2 rfl) ?_
      refine am_getI X hh 141 12 12 (by decide) rfl rfl (by decide) hwRX11 (show Cond.fieldLink RX11 49 "PlanetWorkshopModel" "thrown" "I" ∈ wsX11_dryShare by decide +kernel) rfl dX11_dryShare_62 ?_
      refine lv_if_le (tgt := 72) hx hb dX11_dryShare_65 (by decide) (fun hc14 => ?_) (fun hc14 => ?_)
      · have hF := am_pos hc14 hF
        refine lv_iload_n hx hb dX11_dryShare_72 rfl (lv_at hl 0 rfl) ?_
        refine lv_i2f hx hb dX11_dryShare_73 ?_
        refine lv_aload_n hx hb dX11_dryShare_74 rfl (lv_at hl 2 rfl) ?_
        refine lv_iconst (v := (0 : Int32)) hx hb dX11_dryShare_75 (by decide) ?_
        obtain ⟨r16, hk15, hF⟩ := am_bind hF
        refine am_call X hh (va_runV (As := [.int (0 : Int32)]) (rest := [.float (FP.i2f y1)]) X.1 (c_X11_at l G hk15) (cwV 1 hts gX11_dryShare_X11_at rfl rfl rfl (by decide +kernel) ⟨Nat.le_of_ble_eq_true rfl, Nat.le_of_ble_eq_true rfl⟩) (am_preV X hh 141 12 (by decide) rfl rfl) rfl rfl hl.1 rfl (lv_room (Nat.le_of_ble_eq_true rfl)) dX11_dryShare_76 ⟨Nat.le_of_ble_eq_true rfl, Nat.le_of_ble_eq_true rfl⟩) (fun ab H locs hh => ?_)
        refine lv_i2f hx hb dX11_dryShare_79 ?_
        obtain ⟨hq17, hF⟩ := am_ifN32 hF
        refine lv_fdiv hx hb dX11_dryShare_80 hq17 ?_
        exact am_fret X hr hh (fun t ht => am_qw (mk := oF) hF ht) (Nat.le_of_ble_eq_true rfl) (Nat.le_of_ble_eq_true rfl) dX11_dryShare_81
      · have hF := am_neg hc14 hF
        refine lv_fconst0 hx hb dX11_dryShare_68 ?_
        refine lv_goto (tgt := 81) hx hb dX11_dryShare_69 (by decide) ?_
        exact am_fret X hr hh (fun t ht => am_qw (mk := oF) hF ht) (Nat.le_of_ble_eq_true rfl) (Nat.le_of_ble_eq_true rfl) dX11_dryShare_81
    · have hF := am_pos hc12 hF
      refine lv_iconst (v := (1 : Int32)) hx hb dX11_dryShare_53 (by decide) ?_
      refine lv_goto (tgt := 58) hx hb dX11_dryShare_54 (by decide) ?_
      refine am_putI X hh 141 12 12 (by decide) rfl rfl (by decide) hwRX11 tyX11 tyX11_ok nmX11 (show Cond.fieldLink RX11 49 "PlanetWorkshopModel" "thrown" "I" ∈ wsX11_dryShare by decide +kernel) rfl rfl rfl rfl dX11_dryShare_58 (fun H locs hh => ?_)
      obtain ⟨w18, hw18, hF⟩ := am_wl hF
      have hh := AH_eq hw18 hh
      refine lv_aload_n hx hb dX11_dryShare_61 rfl (lv_at hl 2 rfl) ?_
      refine am_getI X hh 141 12 12 (by decide) rfl rfl (by decide) hwRX11 (show Cond.fieldLink RX11 49 "PlanetWorkshopModel" "thrown" "I" ∈ wsX11_dryShare by decide +kernel) rfl dX11_dryShare_62 ?_
      refine lv_if_le (tgt := 72) hx hb dX11_dryShare_65 (by decide) (fun hc19 => ?_) (fun hc19 => ?_)
      · have hF := am_pos hc19 hF
        refine lv_iload_n hx hb dX11_dryShare_72 rfl (lv_at hl 0 rfl) ?_
        refine lv_i2f hx hb dX11_dryShare_73 ?_
        refine lv_aload_n hx hb dX11_dryShare_74 rfl (lv_at hl 2 rfl) ?_
        refine lv_iconst (v := (0 : Int32)) hx hb dX11_dryShare_75 (by decide) ?_
        obtain ⟨r21, hk20, hF⟩ := am_bind hF
        refine am_call X hh (va_runV (As := [.int (0 : Int32)]) (rest := [.float (FP.i2f y1)]) X.1 (c_X11_at l G hk20) (cwV 1 hts gX11_dryShare_X11_at rfl rfl rfl (by decide +kernel) ⟨Nat.le_of_ble_eq_true rfl, Nat.le_of_ble_eq_true rfl⟩) (am_preV X hh 141 12 (by decide) rfl rfl) rfl rfl hl.1 rfl (lv_room (Nat.le_of_ble_eq_true rfl)) dX11_dryShare_76 ⟨Nat.le_of_ble_eq_true rfl, Nat.le_of_ble_eq_true rfl⟩) (fun ab H locs hh => ?_)
        refine lv_i2f hx hb dX11_dryShare_79 ?_
        obtain ⟨hq22, hF⟩ := am_ifN32 hF
        refine lv_fdiv hx hb dX11_dryShare_80 hq22 ?_
        exact am_fret X hr hh (fun t ht => am_qw (mk := oF) hF ht) (Nat.le_of_ble_eq_true rfl) (Nat.le_of_ble_eq_true rfl) dX11_dryShare_81
      · have hF := am_neg hc19 hF
        refine lv_fconst0 hx hb dX11_dryShare_68 ?_
        refine lv_goto (tgt := 81) hx hb dX11_dryShare_69 (by decide) ?_
        exact am_fret X hr hh (fun t ht => am_qw (mk := oF) hF ht) (Nat.le_of_ble_eq_true rfl) (Nat.le_of_ble_eq_true rfl) dX11_dryShare_81
set_option maxHeartbeats 4000000 in
set_option maxRecDepth 100000 in
theorem c_X11_isConsistent (l : Launch) (G : GG) {w : Wd} {r0 : Int32} {wz : Wd} (hF : f_X11_isConsistent w = some (r0, wz)) : Met l yX11_isConsistent wsX11_isConsistent ({ frames := 0, cells := 0, slots := 0, locals := 0 } : Room) (va_Pc [.ref (gAd G 141)] (Rel G w)) (amQ G (oI r0) wz) 0 0 (gA G) := by
  refine am_met (own := RX11) (cc := cX11_isConsistent) (maxL := 1) (ret := (some .boolean)) (by decide +kernel) rfl rfl (Nat.le_of_ble_eq_true rfl) ?_
  intro p e s m args below meth c ab H locs ls X hr hh hl
  have hx := X.1.1; have hb := X.1.2.1; have hml := X.1.2.2.1; have hown := X.1.2.2.2.1; have hts := X.1.2.2.2.2
  have hl : lv_has ls 1 [(0, .ref (gAd G 141))] := hl
  have hwRX11 : ∀ z ∈ u_ws RX11 TX11 18, z ∈ wsX11_isConsistent := by decide +kernel
  unfold f_X11_isConsistent at hF
  refine lv_aload_n hx hb dX11_isConsistent_0 rfl (lv_at hl 0 rfl) ?_
  refine lv_iconst (v := (0 : Int32)) hx hb dX11_isConsistent_1 (by decide) ?_
  refine am_putI X hh 141 12 12 (by decide) rfl rfl (by decide) hwRX11 tyX11 tyX11_ok nmX11 (show Cond.fieldLink RX11 49 "PlanetWorkshopModel" "thrown" "I" ∈ wsX11_isConsistent by decide +kernel) rfl rfl rfl rfl dX11_isConsistent_2 (fun H locs hh => ?_)
  obtain ⟨w1, hw1, hF⟩ := am_wl hF
  have hh := AH_eq hw1 hh
  refine lv_iconst (v := (1 : Int32)) hx hb dX11_isConsistent_5 (by decide) ?_
  exact am_zret (v' := (1 : Int32)) X hr rfl hh (fun t ht => am_qw (mk := oI) hF ht) (Nat.le_of_ble_eq_true rfl) (Nat.le_of_ble_eq_true rfl) dX11_isConsistent_6
set_option maxHeartbeats 4000000 in
set_option maxRecDepth 100000 in
theorem c_X11_writes (l : Launch) (G : GG) {w : Wd} {x1 : Int32} {w1 : Wd} (hF : f_X11_writes w x1 = some w1) : Met l yX11_writes wsX11_writes ({ frames := 0, cells := 0, slots := 0, locals := 0 } : Room) (va_Pc [.ref (gAd G 141), .int x1] (Rel G w)) (amQ G none w1) 0 0 (gA G) := by
  refine am_met (own := RX11) (cc := cX11_writes) (maxL := 2) (ret := none) (by decide +kernel) rfl rfl (Nat.le_of_ble_eq_true rfl) ?_
  intro p e s m args below meth c ab H locs ls X hr hh hl
  have hx := X.1.1; have hb := X.1.2.1; have hml := X.1.2.2.1; have hown := X.1.2.2.2.1; have hts := X.1.2.2.2.2
  have hl : lv_has ls 2 [(0, .ref (gAd G 141)), (1, .int x1)] := hl
  have hwRX11 : ∀ z ∈ u_ws RX11 TX11 18, z ∈ wsX11_writes := by decide +kernel
  unfold f_X11_writes at hF
  refine lv_aload_n hx hb dX11_writes_0 rfl (lv_at hl 0 rfl) ?_
  refine am_getR X hh 141 12 10 147 (by decide) rfl rfl (by decide) hwRX11 (show Cond.fieldLink RX11 33 "PlanetWorkshopModel" "letters" "[C" ∈ wsX11_writes by decide +kernel) rfl dX11_writes_1 ?_
  refine lv_aload_n hx hb dX11_writes_4 rfl (lv_at hl 0 rfl) ?_
  refine am_getI X hh 141 12 11 (by decide) rfl rfl (by decide) hwRX11 (show Cond.fieldLink RX11 215 "PlanetWorkshopModel" "outputLength" "I" ∈ wsX11_writes by decide +kernel) rfl dX11_writes_5 ?_
  refine lv_iload_n hx hb dX11_writes_8 rfl (lv_at hl 1 rfl) ?_
  refine lv_i2c hx hb dX11_writes_9 rfl ?_
  obtain ⟨hq1, hF⟩ := am_ifR hF
  refine am_cast X hh 147 (by decide) rfl hq1 dX11_writes_10 (fun H locs hh => ?_)
  obtain ⟨w2, hw2, hF⟩ := am_wl hF
  have hh := AH_eq hw2 hh
  refine lv_aload_n hx hb dX11_writes_11 rfl (lv_at hl 0 rfl) ?_
  refine lv_dup hx hb dX11_writes_12 rfl ?_
  refine am_getI X hh 141 12 11 (by decide) rfl rfl (by decide) hwRX11 (show Cond.fieldLink RX11 215 "PlanetWorkshopModel" "outputLength" "I" ∈ wsX11_writes by decide +kernel) rfl dX11_writes_13 ?_
  refine lv_iconst (v := (1 : Int32)) hx hb dX11_writes_16 (by decide) ?_
  refine lv_iadd hx hb dX11_writes_17 ?_
  refine am_putI X hh 141 12 11 (by decide) rfl rfl (by decide) hwRX11 tyX11 tyX11_ok nmX11 (show Cond.fieldLink RX11 215 "PlanetWorkshopModel" "outputLength" "I" ∈ wsX11_writes by decide +kernel) rfl rfl rfl rfl dX11_writes_18 (fun H locs hh => ?_)
  obtain ⟨w3, hw3, hF⟩ := am_wl hF
  have hh := AH_eq hw3 hh
  exact am_vret X hr hh (fun t ht => am_qv hF ht) (Nat.le_of_ble_eq_true rfl) (Nat.le_of_ble_eq_true rfl) dX11_writes_21
set_option maxHeartbeats 4000000 in
set_option maxRecDepth 100000 in
theorem c_X11_writesNumber (l : Launch) (G : GG) {w : Wd} {x1 : Int32} {w1 : Wd} (hF : f_X11_writesNumber w x1 = some w1) : Met l yX11_writesNumber wsX11_writesNumber ({ frames := 1, cells := 0, slots := 0, locals := 21 } : Room) (va_Pc [.ref (gAd G 141), .int x1] (Rel G w)) (amQ G none w1) 0 0 (gA G) := by
  refine am_met (own := RX11) (cc := cX11_writesNumber) (maxL := 3) (ret := none) (by decide +kernel) rfl rfl (Nat.le_of_ble_eq_true rfl) ?_
  intro p e s m args below meth c ab H locs ls X hr hh hl
  have hx := X.1.1; have hb := X.1.2.1; have hml := X.1.2.2.1; have hown := X.1.2.2.2.1; have hts := X.1.2.2.2.2
  have hl : lv_has ls 3 [(0, .ref (gAd G 141)), (1, .int x1)] := hl
  unfold f_X11_writesNumber at hF
  refine lv_sipush (v := (1000 : Int32)) hx hb dX11_writesNumber_0 (by decide) ?_
  refine lv_istore_n (lv' := [(2, .int (1000 : Int32)), (0, .ref (gAd G 141)), (1, .int x1)]) hx hb dX11_writesNumber_3 rfl hl (by decide) rfl (fun ls hl => ?_)
  have hlp4 : ∀ (n : Nat) (y1 : Int32) (ab : Nat) (H : Heap) (locs : List Loc) (ls : Array Slot) (z : Int32 ⊕ Unit), p_X11_writesNumber_4 x1 n y1 = some z → AH G s.heap w ab H locs → lv_has ls 3 [(2, .int y1), (0, .ref (gAd G 141)), (1, .int x1)] → (∀ (y1 : Int32) (ab : Nat) (H : Heap) (locs : List Loc) (ls : Array Slot), z = .inl y1 → AH G s.heap w ab H locs → lv_has ls 3 [(2, .int y1), (0, .ref (gAd G 141)), (1, .int x1)] → W p l e ({ frames := 1, cells := 0, slots := 0, locals := 21 } : Room) s m args below meth c H locs 0 0 (MQ below (amQ G none w1) args s 0 0 (gA G)) (F0 m 22 ls [])) → W p l e ({ frames := 1, cells := 0, slots := 0, locals := 21 } : Room) s m args below meth c H locs 0 0 (MQ below (amQ G none w1) args s 0 0 (gA G)) (F0 m 4 ls []) := by
    intro n
    induction n with
    | zero =>
      intro y1 ab H locs ls z hF
      unfold p_X11_writesNumber_4 at hF
      cases hF
    | succ n ih =>
      intro y1 ab H locs ls z hF hh hl kE
      unfold p_X11_writesNumber_4 at hF
      refine lv_iload_n hx hb dX11_writesNumber_4 rfl (lv_at hl 0 rfl) ?_
      refine lv_iconst (v := (1 : Int32)) hx hb dX11_writesNumber_5 (by decide) ?_
      refine lv_icmp_le (tgt := 22) hx hb dX11_writesNumber_6 (by decide) (fun hc3 => ?_) (fun hc3 => ?_)
      · have hF := am_pos hc3 hF
        exact kE y1 ab H locs ls (Option.some.inj hF).symm hh (lv_sub hl [0, 1, 2] rfl)
      · have hF := am_neg hc3 hF
        refine lv_iload_n hx hb dX11_writesNumber_9 rfl (lv_at hl 2 rfl) ?_
        refine lv_iload_n hx hb dX11_writesNumber_10 rfl (lv_at hl 0 rfl) ?_
        refine lv_icmp_ge (tgt := 22) hx hb dX11_writesNumber_11 (by decide) (fun hc4 => ?_) (fun hc4 => ?_)
        · have hF := am_pos hc4 hF
          exact kE y1 ab H locs ls (Option.some.inj hF).symm hh (lv_sub hl [0, 1, 2] rfl)
        · have hF := am_neg hc4 hF
          refine lv_iload_n hx hb dX11_writesNumber_14 rfl (lv_at hl 0 rfl) ?_
          refine lv_bipush (v := (10 : Int32)) hx hb dX11_writesNumber_15 (by decide) ?_
          obtain ⟨hq5, hF⟩ := am_if hF
          refine lv_idiv hx hb dX11_writesNumber_17 hq5 ?_
          refine lv_istore_n (lv' := [(2, .int (y1 / (10 : Int32))), (0, .ref (gAd G 141)), (1, .int x1)]) hx hb dX11_writesNumber_18 rfl hl (by decide) rfl (fun ls hl => ?_)
          refine lv_goto (tgt := 4) hx hb dX11_writesNumber_19 (by decide) ?_
          exact ih (y1 / (10 : Int32)) ab H locs ls _ hF hh (lv_sub hl [0, 1, 2] rfl) kE
  obtain ⟨z6, hz7, hF⟩ := am_bind hF
  refine hlp4 2000 (1000 : Int32) ab H locs ls z6 hz7 hh (lv_sub hl [0, 1, 2] rfl) (fun y1 ab H locs ls hz hh hl => ?_)
  · subst hz
    have hF := am_zl hF
    have hlp22 : ∀ (n : Nat) (y8 : Int32) (w9 : Wd) (ab : Nat) (H : Heap) (locs : List Loc) (ls : Array Slot) (z : (Int32 × Wd) ⊕ Unit), p_X11_writesNumber_22 x1 n y8 w9 = some z → AH G s.heap w9 ab H locs → lv_has ls 3 [(2, .int y8), (0, .ref (gAd G 141)), (1, .int x1)] → (∀ (y8 : Int32) (w9 : Wd) (ab : Nat) (H : Heap) (locs : List Loc) (ls : Array Slot), z = .inl (y8, w9) → AH G s.heap w9 ab H locs → lv_has ls 3 [(2, .int y8), (0, .ref (gAd G 141)), (1, .int x1)] → W p l e ({ frames := 1, cells := 0, slots := 0, locals := 21 } : Room) s m args below meth c H locs 0 0 (MQ below (amQ G none w1) args s 0 0 (gA G)) (F0 m 47 ls [])) → W p l e ({ frames := 1, cells := 0, slots := 0, locals := 21 } : Room) s m args below meth c H locs 0 0 (MQ below (amQ G none w1) args s 0 0 (gA G)) (F0 m 22 ls []) := by
      intro n
      induction n with
      | zero =>
        intro y8 w9 ab H locs ls z hF
        unfold p_X11_writesNumber_22 at hF
        cases hF
      | succ n ih =>
        intro y8 w9 ab H locs ls z hF hh hl kE
        unfold p_X11_writesNumber_22 at hF
        refine lv_iload_n hx hb dX11_writesNumber_22 rfl (lv_at hl 0 rfl) ?_
        refine lv_if_le (tgt := 47) hx hb dX11_writesNumber_23 (by decide) (fun hc11 => ?_) (fun hc11 => ?_)
        · have hF := am_pos hc11 hF
          exact kE y8 w9 ab H locs ls (Option.some.inj hF).symm hh (lv_sub hl [0, 1, 2] rfl)
        · have hF := am_neg hc11 hF
          refine lv_aload_n hx hb dX11_writesNumber_26 rfl (lv_at hl 1 rfl) ?_
          refine lv_bipush (v := (48 : Int32)) hx hb dX11_writesNumber_27 (by decide) ?_
          refine lv_iload_n hx hb dX11_writesNumber_29 rfl (lv_at hl 2 rfl) ?_
          refine lv_iload_n hx hb dX11_writesNumber_30 rfl (lv_at hl 0 rfl) ?_
          obtain ⟨hq12, hF⟩ := am_if hF
          refine lv_idiv hx hb dX11_writesNumber_31 hq12 ?_
          refine lv_bipush (v := (10 : Int32)) hx hb dX11_writesNumber_32 (by decide) ?_
          obtain ⟨hq13, hF⟩ := am_if hF
          refine lv_irem hx hb dX11_writesNumber_34 hq13 ?_
          refine lv_iadd hx hb dX11_writesNumber_35 ?_
          obtain ⟨w16, hk14, hF⟩ := am_bind hF
          refine am_call X hh (va_runV (As := [.int ((48 : Int32) + ((x1 / y8) - (x1 / y8) / (10 : Int32) * (10 : Int32)))]) (rest := []) X.1 (c_X11_writes l G hk14) (cwV 1 hts gX11_writesNumber_X11_writes rfl rfl rfl (by decide +kernel) ⟨Nat.le_of_ble_eq_true rfl, Nat.le_of_ble_eq_true rfl⟩) (am_preV X hh 141 12 (by decide) rfl rfl) rfl rfl hl.1 rfl (lv_room (Nat.le_of_ble_eq_true rfl)) dX11_writesNumber_36 ⟨Nat.le_of_ble_eq_true rfl, Nat.le_of_ble_eq_true rfl⟩) (fun ab H locs hh => ?_)
          refine lv_iload_n hx hb dX11_writesNumber_39 rfl (lv_at hl 0 rfl) ?_
          refine lv_bipush (v := (10 : Int32)) hx hb dX11_writesNumber_40 (by decide) ?_
          obtain ⟨hq17, hF⟩ := am_if hF
          refine lv_idiv hx hb dX11_writesNumber_42 hq17 ?_
          refine lv_istore_n (lv' := [(2, .int (y8 / (10 : Int32))), (0, .ref (gAd G 141)), (1, .int x1)]) hx hb dX11_writesNumber_43 rfl hl (by decide) rfl (fun ls hl => ?_)
          refine lv_goto (tgt := 22) hx hb dX11_writesNumber_44 (by decide) ?_
          exact ih (y8 / (10 : Int32)) w16 ab H locs ls _ hF hh (lv_sub hl [0, 1, 2] rfl) kE
    obtain ⟨z18, hz19, hF⟩ := am_bind hF
    refine hlp22 2000 y1 w ab H locs ls z18 hz19 hh (lv_sub hl [0, 1, 2] rfl) (fun y8 w9 ab H locs ls hz hh hl => ?_)
    · subst hz
      have hF := am_zl hF
      have hF := am_u2 hF
      exact am_vret X hr hh (fun t ht => am_qv hF ht) (Nat.le_of_ble_eq_true rfl) (Nat.le_of_ble_eq_true rfl) dX11_writesNumber_47
