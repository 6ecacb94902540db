set_option maxHeartbeats 4000000 in
set_option maxRecDepth 100000 in
theorem c_X5_hasSecondPair (l : Launch) (G : GG) {w : Wd} {x1 : Int32} {x2 : Int32} {x3 : Int32} {x4 : Int32} {r0 : Int32} (hF : f_X5_hasSecondPair w x1 x2 x3 x4 = some r0) : Met l yX5_hasSecondPair wsX5_hasSecondPair ({ frames := 0, cells := 0, slots := 0, locals := 0 } : Room) (va_Pc [.ref (gAd G 129), .int x1, .int x2, .int x3, .int x4] (Rel G w)) (amQ G (oI r0) w) 0 0 (gA G) := by
  refine am_met (own := RX5) (cc := cX5_hasSecondPair) (maxL := 10) (ret := (some .boolean)) (by decide +kernel) rfl rfl (Nat.le_of_ble_eq_true rfl) ?_
  intro p e s m args below meth c ab H locs ls X hr hh hl
  have hx := X.1.1; have hb := X.1.2.1; have hml := X.1.2.2.1; have hown := X.1.2.2.2.1; have hts := X.1.2.2.2.2
  have hl : lv_has ls 10 [(0, .ref (gAd G 129)), (1, .int x1), (2, .int x2), (3, .int x3), (4, .int x4)] := hl
  have hwRX5 : ∀ z ∈ u_ws RX5 TX5 6, z ∈ wsX5_hasSecondPair := by decide +kernel
  have hwRX7 : ∀ z ∈ u_ws RX7 TX7 17, z ∈ wsX5_hasSecondPair := by decide +kernel
  unfold f_X5_hasSecondPair at hF
  refine lv_aload_n hx hb dX5_hasSecondPair_0 rfl (lv_at hl 0 rfl) ?_
  refine am_getR X hh 129 7 0 1 (by decide) rfl rfl (by decide) hwRX5 (show Cond.fieldLink RX5 28 "PlanetWorkshop$Ratios" "state" "LPlanetWorkshop$State;" ∈ wsX5_hasSecondPair by decide +kernel) rfl dX5_hasSecondPair_1 ?_
  refine am_getR X hh 1 9 0 2 (by decide) rfl rfl (by decide) hwRX7 (show Cond.fieldLink RX5 37 "PlanetWorkshop$State" "teeth" "[I" ∈ wsX5_hasSecondPair by decide +kernel) rfl dX5_hasSecondPair_4 ?_
  refine lv_iload_n hx hb dX5_hasSecondPair_7 rfl (lv_at hl 1 rfl) ?_
  obtain ⟨hq1, hF⟩ := am_ifR hF
  refine am_iald X hh 2 (by decide) rfl hq1 dX5_hasSecondPair_8 ?_
  refine lv_iload hx hb dX5_hasSecondPair_9 (lv_at hl 4 rfl) ?_
  refine lv_imul hx hb dX5_hasSecondPair_11 ?_
  refine lv_istore (lv' := [(5, .int ((gI w 2 (x1).toNatClampNeg) * x4)), (0, .ref (gAd G 129)), (1, .int x1), (2, .int x2), (3, .int x3), (4, .int x4)]) hx hb dX5_hasSecondPair_12 hl (by decide) rfl (fun ls hl => ?_)
  refine lv_aload_n hx hb dX5_hasSecondPair_14 rfl (lv_at hl 1 rfl) ?_
  refine am_getR X hh 129 7 0 1 (by decide) rfl rfl (by decide) hwRX5 (show Cond.fieldLink RX5 28 "PlanetWorkshop$Ratios" "state" "LPlanetWorkshop$State;" ∈ wsX5_hasSecondPair by decide +kernel) rfl dX5_hasSecondPair_15 ?_
  refine am_getR X hh 1 9 0 2 (by decide) rfl rfl (by decide) hwRX7 (show Cond.fieldLink RX5 37 "PlanetWorkshop$State" "teeth" "[I" ∈ wsX5_hasSecondPair by decide +kernel) rfl dX5_hasSecondPair_18 ?_
  refine lv_iload_n hx hb dX5_hasSecondPair_21 rfl (lv_at hl 3 rfl) ?_
  obtain ⟨hq2, hF⟩ := am_ifR hF
  refine am_iald X hh 2 (by decide) rfl hq2 dX5_hasSecondPair_22 ?_
  refine lv_iload_n hx hb dX5_hasSecondPair_23 rfl (lv_at hl 4 rfl) ?_
  refine lv_imul hx hb dX5_hasSecondPair_24 ?_
  refine lv_istore (lv' := [(6, .int ((gI w 2 (x2).toNatClampNeg) * x3)), (5, .int ((gI w 2 (x1).toNatClampNeg) * x4)), (0, .ref (gAd G 129)), (1, .int x1), (2, .int x2), (3, .int x3), (4, .int x4)]) hx hb dX5_hasSecondPair_25 hl (by decide) rfl (fun ls hl => ?_)
  refine lv_iconst (v := (0 : Int32)) hx hb dX5_hasSecondPair_27 (by decide) ?_
  refine lv_istore (lv' := [(7, .int (0 : Int32)), (6, .int ((gI w 2 (x2).toNatClampNeg) * x3)), (5, .int ((gI w 2 (x1).toNatClampNeg) * x4)), (0, .ref (gAd G 129)), (1, .int x1), (2, .int x2), (3, .int x3), (4, .int x4)]) hx hb dX5_hasSecondPair_28 hl (by decide) rfl (fun ls hl => ?_)
  have hlp30 : ∀ (c4 : Int32) (c5 : Int32) (n : Nat) (y3 : Int32) (ab : Nat) (H : Heap) (locs : List Loc) (ls : Array Slot) (z : (Int32) ⊕ Int32), p_X5_hasSecondPair_30 w x1 x2 c5 c4 n y3 = some z → AH G s.heap w ab H locs → lv_has ls 10 [(7, .int y3), (6, .int c4), (5, .int c5), (0, .ref (gAd G 129)), (1, .int x1), (2, .int x2), (3, .int x3), (4, .int x4)] → (∀ (y3 : Int32) (ab : Nat) (H : Heap) (locs : List Loc) (ls : Array Slot), z = .inl y3 → AH G s.heap w ab H locs → lv_has ls 10 [(7, .int y3), (6, .int c4), (5, .int c5), (0, .ref (gAd G 129)), (1, .int x1), (2, .int x2), (3, .int x3), (4, .int x4)] → W p l e ({ frames := 0, cells := 0, slots := 0, locals := 0 } : Room) s m args below meth c H locs 0 0 (MQ below (amQ G (oI r0) w) args s 0 0 (gA G)) (F0 m 143 ls [])) → (∀ r, z = .inr r → some r = some r0) → W p l e ({ frames := 0, cells := 0, slots := 0, locals := 0 } : Room) s m args below meth c H locs 0 0 (MQ below (amQ G (oI r0) w) args s 0 0 (gA G)) (F0 m 30 ls []) := by
    intro c4 c5 n
    induction n with
    | zero =>
      intro y3 ab H locs ls z hF
      unfold p_X5_hasSecondPair_30 at hF
      cases hF
    | succ n ih =>
      intro y3 ab H locs ls z hF hh hl kE kR
      unfold p_X5_hasSecondPair_30 at hF
      refine lv_iload hx hb dX5_hasSecondPair_30 (lv_at hl 0 rfl) ?_
      refine lv_aload_n hx hb dX5_hasSecondPair_32 rfl (lv_at hl 3 rfl) ?_
      refine am_getR X hh 129 7 0 1 (by decide) rfl rfl (by decide) hwRX5 (show Cond.fieldLink RX5 28 "PlanetWorkshop$Ratios" "state" "LPlanetWorkshop$State;" ∈ wsX5_hasSecondPair by decide +kernel) rfl dX5_hasSecondPair_33 ?_
      refine am_getI X hh 1 9 10 (by decide) rfl rfl (by decide) hwRX7 (show Cond.fieldLink RX5 32 "PlanetWorkshop$State" "gears" "I" ∈ wsX5_hasSecondPair by decide +kernel) rfl dX5_hasSecondPair_36 ?_
      refine lv_icmp_ge (tgt := 143) hx hb dX5_hasSecondPair_39 (by decide) (fun hc7 => ?_) (fun hc7 => ?_)
      · have hF := am_pos hc7 hF
        exact kE y3 ab H locs ls (Option.some.inj hF).symm hh (lv_sub hl [0, 1, 2, 3, 4, 5, 6, 7] rfl)
      · have hF := am_neg hc7 hF
        refine lv_iconst (v := (0 : Int32)) hx hb dX5_hasSecondPair_42 (by decide) ?_
        refine lv_istore (lv' := [(8, .int (0 : Int32)), (7, .int y3), (6, .int c4), (5, .int c5), (0, .ref (gAd G 129)), (1, .int x1), (2, .int x2), (3, .int x3), (4, .int x4)]) hx hb dX5_hasSecondPair_43 hl (by decide) rfl (fun ls hl => ?_)
        have hlp45 : ∀ (n : Nat) (y8 : Int32) (ab : Nat) (H : Heap) (locs : List Loc) (ls : Array Slot) (z : (Int32) ⊕ Int32), p_X5_hasSecondPair_45 w y3 x1 x2 c5 c4 n y8 = some z → AH G s.heap w ab H locs → lv_has ls 10 [(8, .int y8), (7, .int y3), (6, .int c4), (5, .int c5), (0, .ref (gAd G 129)), (1, .int x1), (2, .int x2), (3, .int x3), (4, .int x4)] → (∀ (y8 : Int32) (ab : Nat) (H : Heap) (locs : List Loc) (ls : Array Slot), z = .inl y8 → AH G s.heap w ab H locs → lv_has ls 10 [(8, .int y8), (7, .int y3), (6, .int c4), (5, .int c5), (0, .ref (gAd G 129)), (1, .int x1), (2, .int x2), (3, .int x3), (4, .int x4)] → W p l e ({ frames := 0, cells := 0, slots := 0, locals := 0 } : Room) s m args below meth c H locs 0 0 (MQ below (amQ G (oI r0) w) args s 0 0 (gA G)) (F0 m 137 ls [])) → (∀ r, z = .inr r → some r = some r0) → W p l e ({ frames := 0, cells := 0, slots := 0, locals := 0 } : Room) s m args below meth c H locs 0 0 (MQ below (amQ G (oI r0) w) args s 0 0 (gA G)) (F0 m 45 ls []) := by
          intro n
          induction n with
          | zero =>
            intro y8 ab H locs ls z hF
            unfold p_X5_hasSecondPair_45 at hF
            cases hF
          | succ n ih =>
            intro y8 ab H locs ls z hF hh hl kE kR
            unfold p_X5_hasSecondPair_45 at hF
            refine lv_iload hx hb dX5_hasSecondPair_45 (lv_at hl 0 rfl) ?_
            refine lv_aload_n hx hb dX5_hasSecondPair_47 rfl (lv_at hl 4 rfl) ?_
            refine am_getR X hh 129 7 0 1 (by decide) rfl rfl (by decide) hwRX5 (show Cond.fieldLink RX5 28 "PlanetWorkshop$Ratios" "state" "LPlanetWorkshop$State;" ∈ wsX5_hasSecondPair by decide +kernel) rfl dX5_hasSecondPair_48 ?_
            refine am_getI X hh 1 9 10 (by decide) rfl rfl (by decide) hwRX7 (show Cond.fieldLink RX5 32 "PlanetWorkshop$State" "gears" "I" ∈ wsX5_hasSecondPair by decide +kernel) rfl dX5_hasSecondPair_51 ?_
            refine lv_icmp_ge (tgt := 137) hx hb dX5_hasSecondPair_54 (by decide) (fun hc10 => ?_) (fun hc10 => ?_)
            · have hF := am_pos hc10 hF
              exact kE y8 ab H locs ls (Option.some.inj hF).symm hh (lv_sub hl [0, 1, 2, 3, 4, 5, 6, 7, 8] rfl)
            · have hF := am_neg hc10 hF
              refine lv_iload hx hb dX5_hasSecondPair_57 (lv_at hl 1 rfl) ?_
              refine lv_iload hx hb dX5_hasSecondPair_59 (lv_at hl 0 rfl) ?_
              refine lv_icmp_eq (tgt := 92) hx hb dX5_hasSecondPair_61 (by decide) (fun hc11 => ?_) (fun hc11 => ?_)
              · have hF := am_pos hc11 hF
                refine lv_iconst (v := (0 : Int32)) hx hb dX5_hasSecondPair_92 (by decide) ?_
                refine lv_istore (lv' := [(9, .int (0 : Int32)), (8, .int y8), (7, .int y3), (6, .int c4), (5, .int c5), (0, .ref (gAd G 129)), (1, .int x1), (2, .int x2), (3, .int x3), (4, .int x4)]) hx hb dX5_hasSecondPair_93 hl (by decide) rfl (fun ls hl => ?_)
                refine lv_iload hx hb dX5_hasSecondPair_95 (lv_at hl 0 rfl) ?_
                refine lv_if_eq (tgt := 131) hx hb dX5_hasSecondPair_97 (by decide) (fun _ => ?_) (fun hz => absurd (by decide) hz)
                refine lv_iinc (v := (y8 + (1 : Int32))) (lv' := [(8, .int (y8 + (1 : Int32))), (9, .int (0 : Int32)), (7, .int y3), (6, .int c4), (5, .int c5), (0, .ref (gAd G 129)), (1, .int x1), (2, .int x2), (3, .int x3), (4, .int x4)]) hx hb dX5_hasSecondPair_131 hl (k := 1) rfl rfl (by decide) rfl (fun ls hl => ?_)
                refine lv_goto (tgt := 45) hx hb dX5_hasSecondPair_134 (by decide) ?_
                exact ih (y8 + (1 : Int32)) ab H locs ls _ hF hh (lv_sub hl [0, 2, 3, 4, 5, 6, 7, 8, 9] rfl) kE kR
              · have hF := am_neg hc11 hF
                refine lv_iload hx hb dX5_hasSecondPair_64 (lv_at hl 1 rfl) ?_
                refine lv_iload_n hx hb dX5_hasSecondPair_66 rfl (lv_at hl 5 rfl) ?_
                refine lv_icmp_eq (tgt := 92) hx hb dX5_hasSecondPair_67 (by decide) (fun hc12 => ?_) (fun hc12 => ?_)
                · have hF := am_pos hc12 hF
                  refine lv_iconst (v := (0 : Int32)) hx hb dX5_hasSecondPair_92 (by decide) ?_
                  refine lv_istore (lv' := [(9, .int (0 : Int32)), (8, .int y8), (7, .int y3), (6, .int c4), (5, .int c5), (0, .ref (gAd G 129)), (1, .int x1), (2, .int x2), (3, .int x3), (4, .int x4)]) hx hb dX5_hasSecondPair_93 hl (by decide) rfl (fun ls hl => ?_)
                  refine lv_iload hx hb dX5_hasSecondPair_95 (lv_at hl 0 rfl) ?_
                  refine lv_if_eq (tgt := 131) hx hb dX5_hasSecondPair_97 (by decide) (fun _ => ?_) (fun hz => absurd (by decide) hz)
                  refine lv_iinc (v := (y8 + (1 : Int32))) (lv' := [(8, .int (y8 + (1 : Int32))), (9, .int (0 : Int32)), (7, .int y3), (6, .int c4), (5, .int c5), (0, .ref (gAd G 129)), (1, .int x1), (2, .int x2), (3, .int x3), (4, .int x4)]) hx hb dX5_hasSecondPair_131 hl (k := 1) rfl rfl (by decide) rfl (fun ls hl => ?_)
                  refine lv_goto (tgt := 45) hx hb dX5_hasSecondPair_134 (by decide) ?_
                  exact ih (y8 + (1 : Int32)) ab H locs ls _ hF hh (lv_sub hl [0, 2, 3, 4, 5, 6, 7, 8, 9] rfl) kE kR
                · have hF := am_neg hc12 hF
                  refine lv_iload hx hb dX5_hasSecondPair_70 (lv_at hl 1 rfl) ?_
                  refine lv_iload_n hx hb dX5_hasSecondPair_72 rfl (lv_at hl 6 rfl) ?_
                  refine lv_icmp_eq (tgt := 92) hx hb dX5_hasSecondPair_73 (by decide) (fun hc13 => ?_) (fun hc13 => ?_)
                  · have hF := am_pos hc13 hF
                    refine lv_iconst (v := (0 : Int32)) hx hb dX5_hasSecondPair_92 (by decide) ?_
                    refine lv_istore (lv' := [(9, .int (0 : Int32)), (8, .int y8), (7, .int y3), (6, .int c4), (5, .int c5), (0, .ref (gAd G 129)), (1, .int x1), (2, .int x2), (3, .int x3), (4, .int x4)]) hx hb dX5_hasSecondPair_93 hl (by decide) rfl (fun ls hl => ?_)
                    refine lv_iload hx hb dX5_hasSecondPair_95 (lv_at hl 0 rfl) ?_
                    refine lv_if_eq (tgt := 131) hx hb dX5_hasSecondPair_97 (by decide) (fun _ => ?_) (fun hz => absurd (by decide) hz)
                    refine lv_iinc (v := (y8 + (1 : Int32))) (lv' := [(8, .int (y8 + (1 : Int32))), (9, .int (0 : Int32)), (7, .int y3), (6, .int c4), (5, .int c5), (0, .ref (gAd G 129)), (1, .int x1), (2, .int x2), (3, .int x3), (4, .int x4)]) hx hb dX5_hasSecondPair_131 hl (k := 1) rfl rfl (by decide) rfl (fun ls hl => ?_)
                    refine lv_goto (tgt := 45) hx hb dX5_hasSecondPair_134 (by decide) ?_
                    exact ih (y8 + (1 : Int32)) ab H locs ls _ hF hh (lv_sub hl [0, 2, 3, 4, 5, 6, 7, 8, 9] rfl) kE kR
                  · have hF := am_neg hc13 hF
                    refine lv_iload hx hb dX5_hasSecondPair_76 (lv_at hl 0 rfl) ?_
                    refine lv_iload_n hx hb dX5_hasSecondPair_78 rfl (lv_at hl 5 rfl) ?_
                    refine lv_icmp_eq (tgt := 92) hx hb dX5_hasSecondPair_79 (by decide) (fun hc14 => ?_) (fun hc14 => ?_)
                    · have hF := am_pos hc14 hF
                      refine lv_iconst (v := (0 : Int32)) hx hb dX5_hasSecondPair_92 (by decide) ?_
                      refine lv_istore (lv' := [(9, .int (0 : Int32)), (8, .int y8), (7, .int y3), (6, .int c4), (5, .int c5), (0, .ref (gAd G 129)), (1, .int x1), (2, .int x2), (3, .int x3), (4, .int x4)]) hx hb dX5_hasSecondPair_93 hl (by decide) rfl (fun ls hl => ?_)
                      refine lv_iload hx hb dX5_hasSecondPair_95 (lv_at hl 0 rfl) ?_
                      refine lv_if_eq (tgt := 131) hx hb dX5_hasSecondPair_97 (by decide) (fun _ => ?_) (fun hz => absurd (by decide) hz)
                      refine lv_iinc (v := (y8 + (1 : Int32))) (lv' := [(8, .int (y8 + (1 : Int32))), (9, .int (0 : Int32)), (7, .int y3), (6, .int c4), (5, .int c5), (0, .ref (gAd G 129)), (1, .int x1), (2, .int x2), (3, .int x3), (4, .int x4)]) hx hb dX5_hasSecondPair_131 hl (k := 1) rfl rfl (by decide) rfl (fun ls hl => ?_)
                      refine lv_goto (tgt := 45) hx hb dX5_hasSecondPair_134 (by decide) ?_
                      exact ih (y8 + (1 : Int32)) ab H locs ls _ hF hh (lv_sub hl [0, 2, 3, 4, 5, 6, 7, 8, 9] rfl) kE kR
                    · have hF := am_neg hc14 hF
                      refine lv_iload hx hb dX5_hasSecondPair_82 (lv_at hl 0 rfl) ?_
                      refine lv_iload_n hx hb dX5_hasSecondPair_84 rfl (lv_at hl 6 rfl) ?_
                      refine lv_icmp_eq (tgt := 92) hx hb dX5_hasSecondPair_85 (by decide) (fun hc15 => ?_) (fun hc15 => ?_)
                      · have hF := am_pos hc15 hF
                        refine lv_iconst (v := (0 : Int32)) hx hb dX5_hasSecondPair_92 (by decide) ?_
                        refine lv_istore (lv' := [(9, .int (0 : Int32)), (8, .int y8), (7, .int y3), (6, .int c4), (5, .int c5), (0, .ref (gAd G 129)), (1, .int x1), (2, .int x2), (3, .int x3), (4, .int x4)]) hx hb dX5_hasSecondPair_93 hl (by decide) rfl (fun ls hl => ?_)
                        refine lv_iload hx hb dX5_hasSecondPair_95 (lv_at hl 0 rfl) ?_
                        refine lv_if_eq (tgt := 131) hx hb dX5_hasSecondPair_97 (by decide) (fun _ => ?_) (fun hz => absurd (by decide) hz)
                        refine lv_iinc (v := (y8 + (1 : Int32))) (lv' := [(8, .int (y8 + (1 : Int32))), (9, .int (0 : Int32)), (7, .int y3), (6, .int c4), (5, .int c5), (0, .ref (gAd G 129)), (1, .int x1), (2, .int x2), (3, .int x3), (4, .int x4)]) hx hb dX5_hasSecondPair_131 hl (k := 1) rfl rfl (by decide) rfl (fun ls hl => ?_)
                        refine lv_goto (tgt := 45) hx hb dX5_hasSecondPair_134 (by decide) ?_
                        exact ih (y8 + (1 : Int32)) ab H locs ls _ hF hh (lv_sub hl [0, 2, 3, 4, 5, 6, 7, 8, 9] rfl) kE kR
                      · have hF := am_neg hc15 hF
                        refine lv_iconst (v := (1 : Int32)) hx hb dX5_hasSecondPair_88 (by decide) ?_
                        refine lv_goto (tgt := 93) hx hb dX5_hasSecondPair_89 (by decide) ?_
                        refine lv_istore (lv' := [(9, .int (1 : Int32)), (8, .int y8), (7, .int y3), (6, .int c4), (5, .int c5), (0, .ref (gAd G 129)), (1, .int x1), (2, .int x2), (3, .int x3), (4, .int x4)]) hx hb dX5_hasSecondPair_93 hl (by decide) rfl (fun ls hl => ?_)
                        refine lv_iload hx hb dX5_hasSecondPair_95 (lv_at hl 0 rfl) ?_
                        refine lv_if_eq (tgt := 131) hx hb dX5_hasSecondPair_97 (by decide) (fun hz => absurd hz (by decide)) (fun _ => ?_)
                        refine lv_iload hx hb dX5_hasSecondPair_100 (lv_at hl 4 rfl) ?_
                        refine lv_aload_n hx hb dX5_hasSecondPair_102 rfl (lv_at hl 5 rfl) ?_
                        refine am_getR X hh 129 7 0 1 (by decide) rfl rfl (by decide) hwRX5 (show Cond.fieldLink RX5 28 "PlanetWorkshop$Ratios" "state" "LPlanetWorkshop$State;" ∈ wsX5_hasSecondPair by decide +kernel) rfl dX5_hasSecondPair_103 ?_
                        refine am_getR X hh 1 9 0 2 (by decide) rfl rfl (by decide) hwRX7 (show Cond.fieldLink RX5 37 "PlanetWorkshop$State" "teeth" "[I" ∈ wsX5_hasSecondPair by decide +kernel) rfl dX5_hasSecondPair_106 ?_
                        refine lv_iload hx hb dX5_hasSecondPair_109 (lv_at hl 2 rfl) ?_
                        obtain ⟨hq16, hF⟩ := am_ifR hF
                        refine am_iald X hh 2 (by decide) rfl hq16 dX5_hasSecondPair_111 ?_
                        refine lv_imul hx hb dX5_hasSecondPair_112 ?_
                        refine lv_iload hx hb dX5_hasSecondPair_113 (lv_at hl 3 rfl) ?_
                        refine lv_aload_n hx hb dX5_hasSecondPair_115 rfl (lv_at hl 5 rfl) ?_
                        refine am_getR X hh 129 7 0 1 (by decide) rfl rfl (by decide) hwRX5 (show Cond.fieldLink RX5 28 "PlanetWorkshop$Ratios" "state" "LPlanetWorkshop$State;" ∈ wsX5_hasSecondPair by decide +kernel) rfl dX5_hasSecondPair_116 ?_
                        refine am_getR X hh 1 9 0 2 (by decide) rfl rfl (by decide) hwRX7 (show Cond.fieldLink RX5 37 "PlanetWorkshop$State" "teeth" "[I" ∈ wsX5_hasSecondPair by decide +kernel) rfl dX5_hasSecondPair_119 ?_
                        refine lv_iload hx hb dX5_hasSecondPair_122 (lv_at hl 1 rfl) ?_
                        obtain ⟨hq17, hF⟩ := am_ifR hF
                        refine am_iald X hh 2 (by decide) rfl hq17 dX5_hasSecondPair_124 ?_
                        refine lv_imul hx hb dX5_hasSecondPair_125 ?_
                        refine lv_icmp_ne (tgt := 131) hx hb dX5_hasSecondPair_126 (by decide) (fun hc18 => ?_) (fun hc18 => ?_)
                        · have hF := am_neg hc18 hF
                          refine lv_iinc (v := (y8 + (1 : Int32))) (lv' := [(8, .int (y8 + (1 : Int32))), (9, .int (1 : Int32)), (7, .int y3), (6, .int c4), (5, .int c5), (0, .ref (gAd G 129)), (1, .int x1), (2, .int x2), (3, .int x3), (4, .int x4)]) hx hb dX5_hasSecondPair_131 hl (k := 1) rfl rfl (by decide) rfl (fun ls hl => ?_)
                          refine lv_goto (tgt := 45) hx hb dX5_hasSecondPair_134 (by decide) ?_
                          exact ih (y8 + (1 : Int32)) ab H locs ls _ hF hh (lv_sub hl [0, 2, 3, 4, 5, 6, 7, 8, 9] rfl) kE kR
                        · have hF := am_pos hc18 hF
                          refine lv_iconst (v := (1 : Int32)) hx hb dX5_hasSecondPair_129 (by decide) ?_
                          have hF := kR _ (Option.some.inj hF).symm
                          exact am_zret (v' := (1 : Int32)) X hr rfl hh (fun t ht => am_qp (mk := oI) hF ht) (Nat.le_of_ble_eq_true rfl) (Nat.le_of_ble_eq_true rfl) dX5_hasSecondPair_130
        obtain ⟨z19, hz20, hF⟩ := am_bind hF
        refine hlp45 2000 (0 : Int32) ab H locs ls z19 hz20 hh (lv_sub hl [0, 1, 2, 3, 4, 5, 6, 7, 8] rfl) (fun y8 ab H locs ls hz hh hl => ?_) (fun r hz => ?_)
        · subst hz
          have hF := am_zl hF
          refine lv_iinc (v := (y3 + (1 : Int32))) (lv' := [(7, .int (y3 + (1 : Int32))), (8, .int y8), (6, .int c4), (5, .int c5), (0, .ref (gAd G 129)), (1, .int x1), (2, .int x2), (3, .int x3), (4, .int x4)]) hx hb dX5_hasSecondPair_137 hl (k := 1) rfl rfl (by decide) rfl (fun ls hl => ?_)
          refine lv_goto (tgt := 30) hx hb dX5_hasSecondPair_140 (by decide) ?_
          exact ih (y3 + (1 : Int32)) ab H locs ls _ hF hh (lv_sub hl [0, 2, 3, 4, 5, 6, 7, 8] rfl) kE kR
        · subst hz
          have hF := am_zr hF
          exact kR _ (Option.some.inj hF).symm
  obtain ⟨z21, hz22, hF⟩ := am_bind hF
  refine hlp30 ((gI w 2 (x2).toNatClampNeg) * x3) ((gI w 2 (x1).toNatClampNeg) * x4) 2000 (0 : Int32) ab H locs ls z21 hz22 hh (lv_sub hl [0, 1, 2, 3, 4, 5, 6, 7] rfl) (fun y3 ab H locs ls hz hh hl => ?_) (fun r hz => ?_)
  · subst hz
    have hF := am_zl hF
    refine lv_iconst (v := (0 : Int32)) hx hb dX5_hasSecondPair_143 (by decide) ?_
    exact am_zret (v' := (0 : Int32)) X hr rfl hh (fun t ht => am_qp (mk := oI) hF ht) (Nat.le_of_ble_eq_true rfl) (Nat.le_of_ble_eq_true rfl) dX5_hasSecondPair_144
  · subst hz
    have hF := am_zr hF
    exact hF
set_option maxHeartbeats 4000000 in
set_option maxRecDepth 100000 in
theorem c_X5_byTrying (l : Launch) (G : GG) {w : Wd} {x1 : Int32} {x2 : Int32} {r0 : Int32} (hF : f_X5_byTrying w x1 x2 = some r0) : Met l yX5_byTrying wsX5_byTrying ({ frames := 1, cells := 0, slots := 0, locals := 29 } : Room) (va_Pc [.ref (gAd G 129), .int x1, .int x2] (Rel G w)) (amQ G (oI r0) w) 0 0 (gA G) := by
  refine am_met (own := RX5) (cc := cX5_byTrying) (maxL := 5) (ret := (some .int)) (by decide +kernel) rfl rfl (Nat.le_of_ble_eq_true rfl) ?_
  intro p e s m args below meth c ab H locs ls X hr hh hl
  have hx := X.1.1; have hb := X.1.2.1; have hml := X.1.2.2.1; have hown := X.1.2.2.2.1; have hts := X.1.2.2.2.2
  have hl : lv_has ls 5 [(0, .ref (gAd G 129)), (1, .int x1), (2, .int x2)] := hl
  have hwRX5 : ∀ z ∈ u_ws RX5 TX5 6, z ∈ wsX5_byTrying := by decide +kernel
  have hwRX7 : ∀ z ∈ u_ws RX7 TX7 17, z ∈ wsX5_byTrying := by decide +kernel
  unfold f_X5_byTrying at hF
  refine lv_iconst (v := (0 : Int32)) hx hb dX5_byTrying_0 (by decide) ?_
  refine lv_istore_n (lv' := [(3, .int (0 : Int32)), (0, .ref (gAd G 129)), (1, .int x1), (2, .int x2)]) hx hb dX5_byTrying_1 rfl hl (by decide) rfl (fun ls hl => ?_)
  have hlp2 : ∀ (n : Nat) (y1 : Int32) (ab : Nat) (H : Heap) (locs : List Loc) (ls : Array Slot) (z : (Int32) ⊕ Int32), p_X5_byTrying_2 w x2 x1 n y1 = some z → AH G s.heap w ab H locs → lv_has ls 5 [(3, .int y1), (0, .ref (gAd G 129)), (1, .int x1), (2, .int x2)] → (∀ (y1 : Int32) (ab : Nat) (H : Heap) (locs : List Loc) (ls : Array Slot), z = .inl y1 → AH G s.heap w ab H locs → lv_has ls 5 [(3, .int y1), (0, .ref (gAd G 129)), (1, .int x1), (2, .int x2)] → W p l e ({ frames := 1, cells := 0, slots := 0, locals := 29 } : Room) s m args below meth c H locs 0 0 (MQ below (amQ G (oI r0) w) args s 0 0 (gA G)) (F0 m 74 ls [])) → (∀ r, z = .inr r → some r = some r0) → W p l e ({ frames := 1, cells := 0, slots := 0, locals := 29 } : Room) s m args below meth c H locs 0 0 (MQ below (amQ G (oI r0) w) args s 0 0 (gA G)) (F0 m 2 ls []) := by
    intro n
    induction n with
    | zero =>
      intro y1 ab H locs ls z hF
      unfold p_X5_byTrying_2 at hF
      cases hF
    | succ n ih =>
      intro y1 ab H locs ls z hF hh hl kE kR
      unfold p_X5_byTrying_2 at hF
      refine lv_iload_n hx hb dX5_byTrying_2 rfl (lv_at hl 0 rfl) ?_
      refine lv_aload_n hx hb dX5_byTrying_3 rfl (lv_at hl 1 rfl) ?_
      refine am_getR X hh 129 7 0 1 (by decide) rfl rfl (by decide) hwRX5 (show Cond.fieldLink RX5 28 "PlanetWorkshop$Ratios" "state" "LPlanetWorkshop$State;" ∈ wsX5_byTrying by decide +kernel) rfl dX5_byTrying_4 ?_
      refine am_getI X hh 1 9 10 (by decide) rfl rfl (by decide) hwRX7 (show Cond.fieldLink RX5 32 "PlanetWorkshop$State" "gears" "I" ∈ wsX5_byTrying by decide +kernel) rfl dX5_byTrying_7 ?_
      refine lv_icmp_ge (tgt := 74) hx hb dX5_byTrying_10 (by decide) (fun hc3 => ?_) (fun hc3 => ?_)
      · have hF := am_pos hc3 hF
        exact kE y1 ab H locs ls (Option.some.inj hF).symm hh (lv_sub hl [0, 1, 2, 3] rfl)
      · have hF := am_neg hc3 hF
        refine lv_iconst (v := (0 : Int32)) hx hb dX5_byTrying_13 (by decide) ?_
        refine lv_istore (lv' := [(4, .int (0 : Int32)), (3, .int y1), (0, .ref (gAd G 129)), (1, .int x1), (2, .int x2)]) hx hb dX5_byTrying_14 hl (by decide) rfl (fun ls hl => ?_)
        have hlp16 : ∀ (n : Nat) (y4 : Int32) (ab : Nat) (H : Heap) (locs : List Loc) (ls : Array Slot) (z : (Int32) ⊕ Int32), p_X5_byTrying_16 w y1 x2 x1 n y4 = some z → AH G s.heap w ab H locs → lv_has ls 5 [(4, .int y4), (3, .int y1), (0, .ref (gAd G 129)), (1, .int x1), (2, .int x2)] → (∀ (y4 : Int32) (ab : Nat) (H : Heap) (locs : List Loc) (ls : Array Slot), z = .inl y4 → AH G s.heap w ab H locs → lv_has ls 5 [(4, .int y4), (3, .int y1), (0, .ref (gAd G 129)), (1, .int x1), (2, .int x2)] → W p l e ({ frames := 1, cells := 0, slots := 0, locals := 29 } : Room) s m args below meth c H locs 0 0 (MQ below (amQ G (oI r0) w) args s 0 0 (gA G)) (F0 m 68 ls [])) → (∀ r, z = .inr r → some r = some r0) → W p l e ({ frames := 1, cells := 0, slots := 0, locals := 29 } : Room) s m args below meth c H locs 0 0 (MQ below (amQ G (oI r0) w) args s 0 0 (gA G)) (F0 m 16 ls []) := by
          intro n
          induction n with
          | zero =>
            intro y4 ab H locs ls z hF
            unfold p_X5_byTrying_16 at hF
            cases hF
          | succ n ih =>
            intro y4 ab H locs ls z hF hh hl kE kR
            unfold p_X5_byTrying_16 at hF
            refine lv_iload hx hb dX5_byTrying_16 (lv_at hl 0 rfl) ?_
            refine lv_aload_n hx hb dX5_byTrying_18 rfl (lv_at hl 2 rfl) ?_
            refine am_getR X hh 129 7 0 1 (by decide) rfl rfl (by decide) hwRX5 (show Cond.fieldLink RX5 28 "PlanetWorkshop$Ratios" "state" "LPlanetWorkshop$State;" ∈ wsX5_byTrying by decide +kernel) rfl dX5_byTrying_19 ?_
            refine am_getI X hh 1 9 10 (by decide) rfl rfl (by decide) hwRX7 (show Cond.fieldLink RX5 32 "PlanetWorkshop$State" "gears" "I" ∈ wsX5_byTrying by decide +kernel) rfl dX5_byTrying_22 ?_
            refine lv_icmp_ge (tgt := 68) hx hb dX5_byTrying_25 (by decide) (fun hc6 => ?_) (fun hc6 => ?_)
            · have hF := am_pos hc6 hF
              exact kE y4 ab H locs ls (Option.some.inj hF).symm hh (lv_sub hl [0, 1, 2, 3, 4] rfl)
            · have hF := am_neg hc6 hF
              refine lv_iload_n hx hb dX5_byTrying_28 rfl (lv_at hl 1 rfl) ?_
              refine lv_iload hx hb dX5_byTrying_29 (lv_at hl 0 rfl) ?_
              refine lv_icmp_eq (tgt := 62) hx hb dX5_byTrying_31 (by decide) (fun hc7 => ?_) (fun hc7 => ?_)
              · have hF := am_pos hc7 hF
                refine lv_iinc (v := (y4 + (1 : Int32))) (lv' := [(4, .int (y4 + (1 : Int32))), (3, .int y1), (0, .ref (gAd G 129)), (1, .int x1), (2, .int x2)]) hx hb dX5_byTrying_62 hl (k := 0) rfl rfl (by decide) rfl (fun ls hl => ?_)
                refine lv_goto (tgt := 16) hx hb dX5_byTrying_65 (by decide) ?_
                exact ih (y4 + (1 : Int32)) ab H locs ls _ hF hh (lv_sub hl [0, 1, 2, 3, 4] rfl) kE kR
              · have hF := am_neg hc7 hF
                refine lv_aload_n hx hb dX5_byTrying_34 rfl (lv_at hl 2 rfl) ?_
                refine am_getR X hh 129 7 0 1 (by decide) rfl rfl (by decide) hwRX5 (show Cond.fieldLink RX5 28 "PlanetWorkshop$Ratios" "state" "LPlanetWorkshop$State;" ∈ wsX5_byTrying by decide +kernel) rfl dX5_byTrying_35 ?_
                refine am_getR X hh 1 9 0 2 (by decide) rfl rfl (by decide) hwRX7 (show Cond.fieldLink RX5 37 "PlanetWorkshop$State" "teeth" "[I" ∈ wsX5_byTrying by decide +kernel) rfl dX5_byTrying_38 ?_
                refine lv_iload_n hx hb dX5_byTrying_41 rfl (lv_at hl 1 rfl) ?_
                obtain ⟨hq8, hF⟩ := am_ifR hF
                refine am_iald X hh 2 (by decide) rfl hq8 dX5_byTrying_42 ?_
                refine lv_iload_n hx hb dX5_byTrying_43 rfl (lv_at hl 4 rfl) ?_
                refine lv_imul hx hb dX5_byTrying_44 ?_
                refine lv_aload_n hx hb dX5_byTrying_45 rfl (lv_at hl 2 rfl) ?_
                refine am_getR X hh 129 7 0 1 (by decide) rfl rfl (by decide) hwRX5 (show Cond.fieldLink RX5 28 "PlanetWorkshop$Ratios" "state" "LPlanetWorkshop$State;" ∈ wsX5_byTrying by decide +kernel) rfl dX5_byTrying_46 ?_
                refine am_getR X hh 1 9 0 2 (by decide) rfl rfl (by decide) hwRX7 (show Cond.fieldLink RX5 37 "PlanetWorkshop$State" "teeth" "[I" ∈ wsX5_byTrying by decide +kernel) rfl dX5_byTrying_49 ?_
                refine lv_iload hx hb dX5_byTrying_52 (lv_at hl 0 rfl) ?_
                obtain ⟨hq9, hF⟩ := am_ifR hF
                refine am_iald X hh 2 (by decide) rfl hq9 dX5_byTrying_54 ?_
                refine lv_iload_n hx hb dX5_byTrying_55 rfl (lv_at hl 3 rfl) ?_
                refine lv_imul hx hb dX5_byTrying_56 ?_
                refine lv_icmp_ne (tgt := 62) hx hb dX5_byTrying_57 (by decide) (fun hc10 => ?_) (fun hc10 => ?_)
                · have hF := am_neg hc10 hF
                  refine lv_iinc (v := (y4 + (1 : Int32))) (lv' := [(4, .int (y4 + (1 : Int32))), (3, .int y1), (0, .ref (gAd G 129)), (1, .int x1), (2, .int x2)]) hx hb dX5_byTrying_62 hl (k := 0) rfl rfl (by decide) rfl (fun ls hl => ?_)
                  refine lv_goto (tgt := 16) hx hb dX5_byTrying_65 (by decide) ?_
                  exact ih (y4 + (1 : Int32)) ab H locs ls _ hF hh (lv_sub hl [0, 1, 2, 3, 4] rfl) kE kR
                · have hF := am_pos hc10 hF
                  refine lv_iconst (v := (1 : Int32)) hx hb dX5_byTrying_60 (by decide) ?_
                  have hF := kR _ (Option.some.inj hF).symm
                  exact am_iret X hr hh (fun t ht => am_qp (mk := oI) hF ht) (Nat.le_of_ble_eq_true rfl) (Nat.le_of_ble_eq_true rfl) dX5_byTrying_61
        obtain ⟨z11, hz12, hF⟩ := am_bind hF
        refine hlp16 2000 (0 : Int32) ab H locs ls z11 hz12 hh (lv_sub hl [0, 1, 2, 3, 4] rfl) (fun y4 ab H locs ls hz hh hl => ?_) (fun r hz => ?_)
        · subst hz
          have hF := am_zl hF
          refine lv_iinc (v := (y1 + (1 : Int32))) (lv' := [(3, .int (y1 + (1 : Int32))), (4, .int y4), (0, .ref (gAd G 129)), (1, .int x1), (2, .int x2)]) hx hb dX5_byTrying_68 hl (k := 1) rfl rfl (by decide) rfl (fun ls hl => ?_)
          refine lv_goto (tgt := 2) hx hb dX5_byTrying_71 (by decide) ?_
          exact ih (y1 + (1 : Int32)) ab H locs ls _ hF hh (lv_sub hl [0, 2, 3, 4] rfl) kE kR
        · subst hz
          have hF := am_zr hF
          exact kR _ (Option.some.inj hF).symm
  obtain ⟨z13, hz14, hF⟩ := am_bind hF
  refine hlp2 2000 (0 : Int32) ab H locs ls z13 hz14 hh (lv_sub hl [0, 1, 2, 3] rfl) (fun y1 ab H locs ls hz hh hl => ?_) (fun r hz => ?_)
  · subst hz
    have hF := am_zl hF
    refine lv_iconst (v := (0 : Int32)) hx hb dX5_byTrying_74 (by decide) ?_
    refine lv_istore_n (lv' := [(3, .int (0 : Int32)), (0, .ref (gAd G 129)), (1, .int x1), (2, .int x2)]) hx hb dX5_byTrying_75 rfl hl (by decide) rfl (fun ls hl => ?_)
    have hlp76 : ∀ (n : Nat) (y15 : Int32) (ab : Nat) (H : Heap) (locs : List Loc) (ls : Array Slot) (z : (Int32) ⊕ Int32), p_X5_byTrying_76 w x1 x2 n y15 = some z → AH G s.heap w ab H locs → lv_has ls 5 [(3, .int y15), (0, .ref (gAd G 129)), (1, .int x1), (2, .int x2)] → (∀ (y15 : Int32) (ab : Nat) (H : Heap) (locs : List Loc) (ls : Array Slot), z = .inl y15 → AH G s.heap w ab H locs → lv_has ls 5 [(3, .int y15), (0, .ref (gAd G 129)), (1, .int x1), (2, .int x2)] → W p l e ({ frames := 1, cells := 0, slots := 0, locals := 29 } : Room) s m args below meth c H locs 0 0 (MQ below (amQ G (oI r0) w) args s 0 0 (gA G)) (F0 m 134 ls [])) → (∀ r, z = .inr r → some r = some r0) → W p l e ({ frames := 1, cells := 0, slots := 0, locals := 29 } : Room) s m args below meth c H locs 0 0 (MQ below (amQ G (oI r0) w) args s 0 0 (gA G)) (F0 m 76 ls []) := by
      intro n
      induction n with
      | zero =>
        intro y15 ab H locs ls z hF
        unfold p_X5_byTrying_76 at hF
        cases hF
      | succ n ih =>
        intro y15 ab H locs ls z hF hh hl kE kR
        unfold p_X5_byTrying_76 at hF
        refine lv_iload_n hx hb dX5_byTrying_76 rfl (lv_at hl 0 rfl) ?_
        refine lv_aload_n hx hb dX5_byTrying_77 rfl (lv_at hl 1 rfl) ?_
        refine am_getR X hh 129 7 0 1 (by decide) rfl rfl (by decide) hwRX5 (show Cond.fieldLink RX5 28 "PlanetWorkshop$Ratios" "state" "LPlanetWorkshop$State;" ∈ wsX5_byTrying by decide +kernel) rfl dX5_byTrying_78 ?_
        refine am_getI X hh 1 9 10 (by decide) rfl rfl (by decide) hwRX7 (show Cond.fieldLink RX5 32 "PlanetWorkshop$State" "gears" "I" ∈ wsX5_byTrying by decide +kernel) rfl dX5_byTrying_81 ?_
        refine lv_icmp_ge (tgt := 134) hx hb dX5_byTrying_84 (by decide) (fun hc17 => ?_) (fun hc17 => ?_)
        · have hF := am_pos hc17 hF
          exact kE y15 ab H locs ls (Option.some.inj hF).symm hh (lv_sub hl [0, 1, 2, 3] rfl)
        · have hF := am_neg hc17 hF
          refine lv_iconst (v := (0 : Int32)) hx hb dX5_byTrying_87 (by decide) ?_
          refine lv_istore (lv' := [(4, .int (0 : Int32)), (3, .int y15), (0, .ref (gAd G 129)), (1, .int x1), (2, .int x2)]) hx hb dX5_byTrying_88 hl (by decide) rfl (fun ls hl => ?_)
          have hlp90 : ∀ (n : Nat) (y18 : Int32) (ab : Nat) (H : Heap) (locs : List Loc) (ls : Array Slot) (z : (Int32) ⊕ Int32), p_X5_byTrying_90 w y15 x1 x2 n y18 = some z → AH G s.heap w ab H locs → lv_has ls 5 [(4, .int y18), (3, .int y15), (0, .ref (gAd G 129)), (1, .int x1), (2, .int x2)] → (∀ (y18 : Int32) (ab : Nat) (H : Heap) (locs : List Loc) (ls : Array Slot), z = .inl y18 → AH G s.heap w ab H locs → lv_has ls 5 [(4, .int y18), (3, .int y15), (0, .ref (gAd G 129)), (1, .int x1), (2, .int x2)] → W p l e ({ frames := 1, cells := 0, slots := 0, locals := 29 } : Room) s m args below meth c H locs 0 0 (MQ below (amQ G (oI r0) w) args s 0 0 (gA G)) (F0 m 128 ls [])) → (∀ r, z = .inr r → some r = some r0) → W p l e ({ frames := 1, cells := 0, slots := 0, locals := 29 } : Room) s m args below meth c H locs 0 0 (MQ below (amQ G (oI r0) w) args s 0 0 (gA G)) (F0 m 90 ls []) := by
            intro n
            induction n with
            | zero =>
              intro y18 ab H locs ls z hF
              unfold p_X5_byTrying_90 at hF
              cases hF
            | succ n ih =>
              intro y18 ab H locs ls z hF hh hl kE kR
              unfold p_X5_byTrying_90 at hF
              refine lv_iload hx hb dX5_byTrying_90 (lv_at hl 0 rfl) ?_
              refine lv_aload_n hx hb dX5_byTrying_92 rfl (lv_at hl 2 rfl) ?_
              refine am_getR X hh 129 7 0 1 (by decide) rfl rfl (by decide) hwRX5 (show Cond.fieldLink RX5 28 "PlanetWorkshop$Ratios" "state" "LPlanetWorkshop$State;" ∈ wsX5_byTrying by decide +kernel) rfl dX5_byTrying_93 ?_
              refine am_getI X hh 1 9 10 (by decide) rfl rfl (by decide) hwRX7 (show Cond.fieldLink RX5 32 "PlanetWorkshop$State" "gears" "I" ∈ wsX5_byTrying by decide +kernel) rfl dX5_byTrying_96 ?_
              refine lv_icmp_ge (tgt := 128) hx hb dX5_byTrying_99 (by decide) (fun hc20 => ?_) (fun hc20 => ?_)
              · have hF := am_pos hc20 hF
                exact kE y18 ab H locs ls (Option.some.inj hF).symm hh (lv_sub hl [0, 1, 2, 3, 4] rfl)
              · have hF := am_neg hc20 hF
                refine lv_iload_n hx hb dX5_byTrying_102 rfl (lv_at hl 1 rfl) ?_
                refine lv_iload hx hb dX5_byTrying_103 (lv_at hl 0 rfl) ?_
                refine lv_icmp_eq (tgt := 122) hx hb dX5_byTrying_105 (by decide) (fun hc21 => ?_) (fun hc21 => ?_)
                · have hF := am_pos hc21 hF
                  refine lv_iinc (v := (y18 + (1 : Int32))) (lv' := [(4, .int (y18 + (1 : Int32))), (3, .int y15), (0, .ref (gAd G 129)), (1, .int x1), (2, .int x2)]) hx hb dX5_byTrying_122 hl (k := 0) rfl rfl (by decide) rfl (fun ls hl => ?_)
                  refine lv_goto (tgt := 90) hx hb dX5_byTrying_125 (by decide) ?_
                  exact ih (y18 + (1 : Int32)) ab H locs ls _ hF hh (lv_sub hl [0, 1, 2, 3, 4] rfl) kE kR
                · have hF := am_neg hc21 hF
                  refine lv_aload_n hx hb dX5_byTrying_108 rfl (lv_at hl 2 rfl) ?_
                  refine lv_iload_n hx hb dX5_byTrying_109 rfl (lv_at hl 1 rfl) ?_
                  refine lv_iload hx hb dX5_byTrying_110 (lv_at hl 0 rfl) ?_
                  refine lv_iload_n hx hb dX5_byTrying_112 rfl (lv_at hl 3 rfl) ?_
                  refine lv_iload_n hx hb dX5_byTrying_113 rfl (lv_at hl 4 rfl) ?_
                  obtain ⟨r23, hk22, hF⟩ := am_bind hF
                  refine am_call X hh (va_runV (As := [.int y15, .int y18, .int x1, .int x2]) (rest := []) X.1 (c_X5_hasSecondPair l G hk22) (cwV 4 hts gX5_byTrying_X5_hasSecondPair rfl rfl rfl (by decide +kernel) ⟨Nat.le_of_ble_eq_true rfl, Nat.le_of_ble_eq_true rfl⟩) (am_preV X hh 129 7 (by decide) rfl rfl) rfl rfl hl.1 rfl (lv_room (Nat.le_of_ble_eq_true rfl)) dX5_byTrying_114 ⟨Nat.le_of_ble_eq_true rfl, Nat.le_of_ble_eq_true rfl⟩) (fun ab H locs hh => ?_)
                  refine lv_if_eq (tgt := 122) hx hb dX5_byTrying_117 (by decide) (fun hc24 => ?_) (fun hc24 => ?_)
                  · have hF := am_pos hc24 hF
                    refine lv_iinc (v := (y18 + (1 : Int32))) (lv' := [(4, .int (y18 + (1 : Int32))), (3, .int y15), (0, .ref (gAd G 129)), (1, .int x1), (2, .int x2)]) hx hb dX5_byTrying_122 hl (k := 0) rfl rfl (by decide) rfl (fun ls hl => ?_)
                    refine lv_goto (tgt := 90) hx hb dX5_byTrying_125 (by decide) ?_
                    exact ih (y18 + (1 : Int32)) ab H locs ls _ hF hh (lv_sub hl [0, 1, 2, 3, 4] rfl) kE kR
                  · have hF := am_neg hc24 hF
                    refine lv_iconst (v := (2 : Int32)) hx hb dX5_byTrying_120 (by decide) ?_
                    have hF := kR _ (Option.some.inj hF).symm
                    exact am_iret X hr hh (fun t ht => am_qp (mk := oI) hF ht) (Nat.le_of_ble_eq_true rfl) (Nat.le_of_ble_eq_true rfl) dX5_byTrying_121
          obtain ⟨z25, hz26, hF⟩ := am_bind hF
          refine hlp90 2000 (0 : Int32) ab H locs ls z25 hz26 hh (lv_sub hl [0, 1, 2, 3, 4] rfl) (fun y18 ab H locs ls hz hh hl => ?_) (fun r hz => ?_)
          · subst hz
            have hF := am_zl hF
            refine lv_iinc (v := (y15 + (1 : Int32))) (lv' := [(3, .int (y15 + (1 : Int32))), (4, .int y18), (0, .ref (gAd G 129)), (1, .int x1), (2, .int x2)]) hx hb dX5_byTrying_128 hl (k := 1) rfl rfl (by decide) rfl (fun ls hl => ?_)
            refine lv_goto (tgt := 76) hx hb dX5_byTrying_131 (by decide) ?_
            exact ih (y15 + (1 : Int32)) ab H locs ls _ hF hh (lv_sub hl [0, 2, 3, 4] rfl) kE kR
          · subst hz
            have hF := am_zr hF
            exact kR _ (Option.some.inj hF).symm
    obtain ⟨z27, hz28, hF⟩ := am_bind hF
    refine hlp76 2000 (0 : Int32) ab H locs ls z27 hz28 hh (lv_sub hl [0, 1, 2, 3] rfl) (fun y15 ab H locs ls hz hh hl => ?_) (fun r hz => ?_)
    · subst hz
      have hF := am_zl hF
      refine lv_iconst (v := (0 : Int32)) hx hb dX5_byTrying_134 (by decide) ?_
      exact am_iret X hr hh (fun t ht => am_qp (mk := oI) hF ht) (Nat.le_of_ble_eq_true rfl) (Nat.le_of_ble_eq_true rfl) dX5_byTrying_135
    · subst hz
      have hF := am_zr hF
      exact hF
  · subst hz
    have hF := am_zr hF
    exact hF
set_option maxHeartbeats 4000000 in
set_option maxRecDepth 100000 in
theorem c_X5_addPair (l : Launch) (G : GG) {w : Wd} {x1 : Int32} {x2 : Int32} {w1 : Wd} (hF : f_X5_addPair w x1 x2 = some w1) : Met l yX5_addPair wsX5_addPair ({ frames := 3, cells := 0, slots := 0, locals := 78 } : Room) (va_Pc [.ref (gAd G 129), .int x1, .int x2] (Rel G w)) (amQ G none w1) 0 0 (gA G) := by
  refine am_met (own := RX5) (cc := cX5_addPair) (maxL := 5) (ret := none) (by decide +kernel) rfl rfl (Nat.le_of_ble_eq_true rfl) ?_
  intro p e s m args below meth c ab H locs ls X hr hh hl
  have hx := X.1.1; have hb := X.1.2.1; have hml := X.1.2.2.1; have hown := X.1.2.2.2.1; have hts := X.1.2.2.2.2
  have hl : lv_has ls 5 [(0, .ref (gAd G 129)), (1, .int x1), (2, .int x2)] := hl
  have hwRX5 : ∀ z ∈ u_ws RX5 TX5 6, z ∈ wsX5_addPair := by decide +kernel
  have hwRX7 : ∀ z ∈ u_ws RX7 TX7 17, z ∈ wsX5_addPair := by decide +kernel
  unfold f_X5_addPair at hF
  refine lv_aload_n hx hb dX5_addPair_0 rfl (lv_at hl 0 rfl) ?_
  refine am_getI X hh 129 7 5 (by decide) rfl rfl (by decide) hwRX5 (show Cond.fieldLink RX5 24 "PlanetWorkshop$Ratios" "pairs" "I" ∈ wsX5_addPair by decide +kernel) rfl dX5_addPair_1 ?_
  refine lv_bipush (v := (90 : Int32)) hx hb dX5_addPair_4 (by decide) ?_
  refine lv_icmp_ge (tgt := 111) hx hb dX5_addPair_6 (by decide) (fun hc1 => ?_) (fun hc1 => ?_)
  · have hF := am_pos hc1 hF
    exact am_vret X hr hh (fun t ht => am_qv hF ht) (Nat.le_of_ble_eq_true rfl) (Nat.le_of_ble_eq_true rfl) dX5_addPair_111
  · have hF := am_neg hc1 hF
    refine lv_aload_n hx hb dX5_addPair_9 rfl (lv_at hl 0 rfl) ?_
    refine am_getR X hh 129 7 0 1 (by decide) rfl rfl (by decide) hwRX5 (show Cond.fieldLink RX5 28 "PlanetWorkshop$Ratios" "state" "LPlanetWorkshop$State;" ∈ wsX5_addPair by decide +kernel) rfl dX5_addPair_10 ?_
    refine am_getR X hh 1 9 0 2 (by decide) rfl rfl (by decide) hwRX7 (show Cond.fieldLink RX5 37 "PlanetWorkshop$State" "teeth" "[I" ∈ wsX5_addPair by decide +kernel) rfl dX5_addPair_13 ?_
    refine lv_iload_n hx hb dX5_addPair_16 rfl (lv_at hl 1 rfl) ?_
    obtain ⟨hq2, hF⟩ := am_ifR hF
    refine am_iald X hh 2 (by decide) rfl hq2 dX5_addPair_17 ?_
    refine lv_i2l hx hb dX5_addPair_18 rfl ?_
    refine lv_aload_n hx hb dX5_addPair_19 rfl (lv_at hl 0 rfl) ?_
    refine am_getR X hh 129 7 0 1 (by decide) rfl rfl (by decide) hwRX5 (show Cond.fieldLink RX5 28 "PlanetWorkshop$Ratios" "state" "LPlanetWorkshop$State;" ∈ wsX5_addPair by decide +kernel) rfl dX5_addPair_20 ?_
    refine am_getR X hh 1 9 0 2 (by decide) rfl rfl (by decide) hwRX7 (show Cond.fieldLink RX5 37 "PlanetWorkshop$State" "teeth" "[I" ∈ wsX5_addPair by decide +kernel) rfl dX5_addPair_23 ?_
    refine lv_iload_n hx hb dX5_addPair_26 rfl (lv_at hl 2 rfl) ?_
    obtain ⟨hq3, hF⟩ := am_ifR hF
    refine am_iald X hh 2 (by decide) rfl hq3 dX5_addPair_27 ?_
    refine lv_i2l hx hb dX5_addPair_28 rfl ?_
    obtain ⟨r5, hk4, hF⟩ := am_bind hF
    refine am_call X hh (va_runS (As := [.long (((gI w 2 (x1).toNatClampNeg)).toInt64), .long (((gI w 2 (x2).toNatClampNeg)).toInt64)]) (rest := []) X.1 (c_X4_commonDivisor l G hk4) (va_cwS 2 hts gX5_addPair_X4_commonDivisor rfl rfl rfl (by decide +kernel) ⟨Nat.le_of_ble_eq_true rfl, Nat.le_of_ble_eq_true rfl⟩) (am_preS X hh) rfl rfl hl.1 rfl (lv_room (Nat.le_of_ble_eq_true rfl)) dX5_addPair_29 ⟨Nat.le_of_ble_eq_true rfl, Nat.le_of_ble_eq_true rfl⟩) (fun ab H locs hh => ?_)
    refine lv_lstore_n (lv' := [(3, .long r5), (0, .ref (gAd G 129)), (1, .int x1), (2, .int x2)]) hx hb dX5_addPair_32 rfl hl (by decide) rfl (fun ls hl => ?_)
    refine lv_aload_n hx hb dX5_addPair_33 rfl (lv_at hl 1 rfl) ?_
    refine am_getR X hh 129 7 1 130 (by decide) rfl rfl (by decide) hwRX5 (show Cond.fieldLink RX5 9 "PlanetWorkshop$Ratios" "aboves" "[I" ∈ wsX5_addPair by decide +kernel) rfl dX5_addPair_34 ?_
    refine lv_aload_n hx hb dX5_addPair_37 rfl (lv_at hl 1 rfl) ?_
    refine am_getI X hh 129 7 5 (by decide) rfl rfl (by decide) hwRX5 (show Cond.fieldLink RX5 24 "PlanetWorkshop$Ratios" "pairs" "I" ∈ wsX5_addPair by decide +kernel) rfl dX5_addPair_38 ?_
    refine lv_aload_n hx hb dX5_addPair_41 rfl (lv_at hl 1 rfl) ?_
    refine am_getR X hh 129 7 0 1 (by decide) rfl rfl (by decide) hwRX5 (show Cond.fieldLink RX5 28 "PlanetWorkshop$Ratios" "state" "LPlanetWorkshop$State;" ∈ wsX5_addPair by decide +kernel) rfl dX5_addPair_42 ?_
    refine am_getR X hh 1 9 0 2 (by decide) rfl rfl (by decide) hwRX7 (show Cond.fieldLink RX5 37 "PlanetWorkshop$State" "teeth" "[I" ∈ wsX5_addPair by decide +kernel) rfl dX5_addPair_45 ?_
    refine lv_iload_n hx hb dX5_addPair_48 rfl (lv_at hl 2 rfl) ?_
    obtain ⟨hq6, hF⟩ := am_ifR hF
    refine am_iald X hh 2 (by decide) rfl hq6 dX5_addPair_49 ?_
    refine lv_i2l hx hb dX5_addPair_50 rfl ?_
    refine lv_lload_n hx hb dX5_addPair_51 rfl (lv_at hl 0 rfl) ?_
    obtain ⟨r8, hk7, hF⟩ := am_bind hF
    refine am_call X hh (va_runS (As := [.long (((gI w 2 (x1).toNatClampNeg)).toInt64), .long r5]) (rest := [.int (gI w 129 5), .ref (gAd G 130)]) X.1 (c_X4_quotient l G hk7) (va_cwS 2 hts gX5_addPair_X4_quotient rfl rfl rfl (by decide +kernel) ⟨Nat.le_of_ble_eq_true rfl, Nat.le_of_ble_eq_true rfl⟩) (am_preS X hh) rfl rfl hl.1 rfl (lv_room (Nat.le_of_ble_eq_true rfl)) dX5_addPair_52 ⟨Nat.le_of_ble_eq_true rfl, Nat.le_of_ble_eq_true rfl⟩) (fun ab H locs hh => ?_)
    refine lv_l2i hx hb dX5_addPair_55 rfl ?_
    obtain ⟨hq9, hF⟩ := am_ifR hF
    refine am_iast X hh 130 (by decide) rfl hq9 dX5_addPair_56 (fun H locs hh => ?_)
    obtain ⟨w10, hw10, hF⟩ := am_wl hF
    have hh := AH_eq hw10 hh
    refine lv_aload_n hx hb dX5_addPair_57 rfl (lv_at hl 1 rfl) ?_
    refine am_getR X hh 129 7 2 131 (by decide) rfl rfl (by decide) hwRX5 (show Cond.fieldLink RX5 15 "PlanetWorkshop$Ratios" "belows" "[I" ∈ wsX5_addPair by decide +kernel) rfl dX5_addPair_58 ?_
    refine lv_aload_n hx hb dX5_addPair_61 rfl (lv_at hl 1 rfl) ?_
    refine am_getI X hh 129 7 5 (by decide) rfl rfl (by decide) hwRX5 (show Cond.fieldLink RX5 24 "PlanetWorkshop$Ratios" "pairs" "I" ∈ wsX5_addPair by decide +kernel) rfl dX5_addPair_62 ?_
    refine lv_aload_n hx hb dX5_addPair_65 rfl (lv_at hl 1 rfl) ?_
    refine am_getR X hh 129 7 0 1 (by decide) rfl rfl (by decide) hwRX5 (show Cond.fieldLink RX5 28 "PlanetWorkshop$Ratios" "state" "LPlanetWorkshop$State;" ∈ wsX5_addPair by decide +kernel) rfl dX5_addPair_66 ?_
    refine am_getR X hh 1 9 0 2 (by decide) rfl rfl (by decide) hwRX7 (show Cond.fieldLink RX5 37 "PlanetWorkshop$State" "teeth" "[I" ∈ wsX5_addPair by decide +kernel) rfl dX5_addPair_69 ?_
    refine lv_iload_n hx hb dX5_addPair_72 rfl (lv_at hl 3 rfl) ?_
    obtain ⟨hq11, hF⟩ := am_ifR hF
    refine am_iald X hh 2 (by decide) rfl hq11 dX5_addPair_73 ?_
    refine lv_i2l hx hb dX5_addPair_74 rfl ?_
    refine lv_lload_n hx hb dX5_addPair_75 rfl (lv_at hl 0 rfl) ?_
    obtain ⟨r13, hk12, hF⟩ := am_bind hF
    refine am_call X hh (va_runS (As := [.long (((gI w10 2 (x2).toNatClampNeg)).toInt64), .long r5]) (rest := [.int (gI w10 129 5), .ref (gAd G 131)]) X.1 (c_X4_quotient l G hk12) (va_cwS 2 hts gX5_addPair_X4_quotient rfl rfl rfl (by decide +kernel) ⟨Nat.le_of_ble_eq_true rfl, Nat.le_of_ble_eq_true rfl⟩) (am_preS X hh) rfl rfl hl.1 rfl (lv_room (Nat.le_of_ble_eq_true rfl)) dX5_addPair_76 ⟨Nat.le_of_ble_eq_true rfl, Nat.le_of_ble_eq_true rfl⟩) (fun ab H locs hh => ?_)
    refine lv_l2i hx hb dX5_addPair_79 rfl ?_
    obtain ⟨hq14, hF⟩ := am_ifR hF
    refine am_iast X hh 131 (by decide) rfl hq14 dX5_addPair_80 (fun H locs hh => ?_)
    obtain ⟨w15, hw15, hF⟩ := am_wl hF
    have hh := AH_eq hw15 hh
    refine lv_aload_n hx hb dX5_addPair_81 rfl (lv_at hl 1 rfl) ?_
    refine am_getR X hh 129 7 3 132 (by decide) rfl rfl (by decide) hwRX5 (show Cond.fieldLink RX5 18 "PlanetWorkshop$Ratios" "uppers" "[I" ∈ wsX5_addPair by decide +kernel) rfl dX5_addPair_82 ?_
    refine lv_aload_n hx hb dX5_addPair_85 rfl (lv_at hl 1 rfl) ?_
    refine am_getI X hh 129 7 5 (by decide) rfl rfl (by decide) hwRX5 (show Cond.fieldLink RX5 24 "PlanetWorkshop$Ratios" "pairs" "I" ∈ wsX5_addPair by decide +kernel) rfl dX5_addPair_86 ?_
    refine lv_iload_n hx hb dX5_addPair_89 rfl (lv_at hl 2 rfl) ?_
    obtain ⟨hq16, hF⟩ := am_ifR hF
    refine am_iast X hh 132 (by decide) rfl hq16 dX5_addPair_90 (fun H locs hh => ?_)
    obtain ⟨w17, hw17, hF⟩ := am_wl hF
    have hh := AH_eq hw17 hh
    refine lv_aload_n hx hb dX5_addPair_91 rfl (lv_at hl 1 rfl) ?_
    refine am_getR X hh 129 7 4 133 (by decide) rfl rfl (by decide) hwRX5 (show Cond.fieldLink RX5 21 "PlanetWorkshop$Ratios" "lowers" "[I" ∈ wsX5_addPair by decide +kernel) rfl dX5_addPair_92 ?_
    refine lv_aload_n hx hb dX5_addPair_95 rfl (lv_at hl 1 rfl) ?_
    refine am_getI X hh 129 7 5 (by decide) rfl rfl (by decide) hwRX5 (show Cond.fieldLink RX5 24 "PlanetWorkshop$Ratios" "pairs" "I" ∈ wsX5_addPair by decide +kernel) rfl dX5_addPair_96 ?_
    refine lv_iload_n hx hb dX5_addPair_99 rfl (lv_at hl 3 rfl) ?_
    obtain ⟨hq18, hF⟩ := am_ifR hF
    refine am_iast X hh 133 (by decide) rfl hq18 dX5_addPair_100 (fun H locs hh => ?_)
    obtain ⟨w19, hw19, hF⟩ := am_wl hF
    have hh := AH_eq hw19 hh
    refine lv_aload_n hx hb dX5_addPair_101 rfl (lv_at hl 1 rfl) ?_
    refine lv_dup hx hb dX5_addPair_102 rfl ?_
    refine am_getI X hh 129 7 5 (by decide) rfl rfl (by decide) hwRX5 (show Cond.fieldLink RX5 24 "PlanetWorkshop$Ratios" "pairs" "I" ∈ wsX5_addPair by decide +kernel) rfl dX5_addPair_103 ?_
    refine lv_iconst (v := (1 : Int32)) hx hb dX5_addPair_106 (by decide) ?_
    refine lv_iadd hx hb dX5_addPair_107 ?_
    refine am_putI X hh 129 7 5 (by decide) rfl rfl (by decide) hwRX5 tyX5 tyX5_ok nmX5 (show Cond.fieldLink RX5 24 "PlanetWorkshop$Ratios" "pairs" "I" ∈ wsX5_addPair by decide +kernel) rfl rfl rfl rfl dX5_addPair_108 (fun H locs hh => ?_)
    obtain ⟨w20, hw20, hF⟩ := am_wl hF
    have hh := AH_eq hw20 hh
    exact am_vret X hr hh (fun t ht => am_qv hF ht) (Nat.le_of_ble_eq_true rfl) (Nat.le_of_ble_eq_true rfl) dX5_addPair_111
set_option maxHeartbeats 4000000 in
set_option maxRecDepth 100000 in
theorem c_X5_tableHas (l : Launch) (G : GG) {w : Wd} {x1 : Int32} {x2 : Int32} {x3 : Int32} {x4 : Int32} {r0 : Int32} (hF : f_X5_tableHas w x1 x2 x3 x4 = some r0) : Met l yX5_tableHas wsX5_tableHas ({ frames := 3, cells := 0, slots := 0, locals := 78 } : Room) (va_Pc [.ref (gAd G 129), .int x1, .int x2, .int x3, .int x4] (Rel G w)) (amQ G (oI r0) w) 0 0 (gA G) := by
  refine am_met (own := RX5) (cc := cX5_tableHas) (maxL := 13) (ret := (some .boolean)) (by decide +kernel) rfl rfl (Nat.le_of_ble_eq_true rfl) ?_
  intro p e s m args below meth c ab H locs ls X hr hh hl
  have hx := X.1.1; have hb := X.1.2.1; have hml := X.1.2.2.1; have hown := X.1.2.2.2.1; have hts := X.1.2.2.2.2
  have hl : lv_has ls 13 [(0, .ref (gAd G 129)), (1, .int x1), (2, .int x2), (3, .int x3), (4, .int x4)] := hl
  have hwRX5 : ∀ z ∈ u_ws RX5 TX5 6, z ∈ wsX5_tableHas := by decide +kernel
  unfold f_X5_tableHas at hF
  refine lv_iload_n hx hb dX5_tableHas_0 rfl (lv_at hl 1 rfl) ?_
  refine lv_i2l hx hb dX5_tableHas_1 rfl ?_
  refine lv_iload_n hx hb dX5_tableHas_2 rfl (lv_at hl 2 rfl) ?_
  refine lv_i2l hx hb dX5_tableHas_3 rfl ?_
  obtain ⟨r2, hk1, hF⟩ := am_bind hF
  refine am_call X hh (va_runS (As := [.long ((x1).toInt64), .long ((x2).toInt64)]) (rest := []) X.1 (c_X4_commonDivisor l G hk1) (va_cwS 2 hts gX5_tableHas_X4_commonDivisor rfl rfl rfl (by decide +kernel) ⟨Nat.le_of_ble_eq_true rfl, Nat.le_of_ble_eq_true rfl⟩) (am_preS X hh) rfl rfl hl.1 rfl (lv_room (Nat.le_of_ble_eq_true rfl)) dX5_tableHas_4 ⟨Nat.le_of_ble_eq_true rfl, Nat.le_of_ble_eq_true rfl⟩) (fun ab H locs hh => ?_)
  refine lv_lstore (lv' := [(5, .long r2), (0, .ref (gAd G 129)), (1, .int x1), (2, .int x2), (3, .int x3), (4, .int x4)]) hx hb dX5_tableHas_7 hl (by decide) rfl (fun ls hl => ?_)
  refine lv_iload_n hx hb dX5_tableHas_9 rfl (lv_at hl 2 rfl) ?_
  refine lv_i2l hx hb dX5_tableHas_10 rfl ?_
  refine lv_lload hx hb dX5_tableHas_11 (lv_at hl 0 rfl) ?_
  obtain ⟨r4, hk3, hF⟩ := am_bind hF
  refine am_call X hh (va_runS (As := [.long ((x1).toInt64), .long r2]) (rest := []) X.1 (c_X4_quotient l G hk3) (va_cwS 2 hts gX5_tableHas_X4_quotient rfl rfl rfl (by decide +kernel) ⟨Nat.le_of_ble_eq_true rfl, Nat.le_of_ble_eq_true rfl⟩) (am_preS X hh) rfl rfl hl.1 rfl (lv_room (Nat.le_of_ble_eq_true rfl)) dX5_tableHas_13 ⟨Nat.le_of_ble_eq_true rfl, Nat.le_of_ble_eq_true rfl⟩) (fun ab H locs hh => ?_)
  refine lv_lstore (lv' := [(7, .long r4), (5, .long r2), (0, .ref (gAd G 129)), (1, .int x1), (2, .int x2), (3, .int x3), (4, .int x4)]) hx hb dX5_tableHas_16 hl (by decide) rfl (fun ls hl => ?_)
  refine lv_iload_n hx hb dX5_tableHas_18 rfl (lv_at hl 4 rfl) ?_
  refine lv_i2l hx hb dX5_tableHas_19 rfl ?_
  refine lv_lload hx hb dX5_tableHas_20 (lv_at hl 1 rfl) ?_
  obtain ⟨r6, hk5, hF⟩ := am_bind hF
  refine am_call X hh (va_runS (As := [.long ((x2).toInt64), .long r2]) (rest := []) X.1 (c_X4_quotient l G hk5) (va_cwS 2 hts gX5_tableHas_X4_quotient rfl rfl rfl (by decide +kernel) ⟨Nat.le_of_ble_eq_true rfl, Nat.le_of_ble_eq_true rfl⟩) (am_preS X hh) rfl rfl hl.1 rfl (lv_room (Nat.le_of_ble_eq_true rfl)) dX5_tableHas_22 ⟨Nat.le_of_ble_eq_true rfl, Nat.le_of_ble_eq_true rfl⟩) (fun ab H locs hh => ?_)
  refine lv_lstore (lv' := [(9, .long r6), (7, .long r4), (5, .long r2), (0, .ref (gAd G 129)), (1, .int x1), (2, .int x2), (3, .int x3), (4, .int x4)]) hx hb dX5_tableHas_25 hl (by decide) rfl (fun ls hl => ?_)
  refine lv_iconst (v := (0 : Int32)) hx hb dX5_tableHas_27 (by decide) ?_
  refine lv_istore (lv' := [(11, .int (0 : Int32)), (9, .long r6), (7, .long r4), (5, .long r2), (0, .ref (gAd G 129)), (1, .int x1), (2, .int x2), (3, .int x3), (4, .int x4)]) hx hb dX5_tableHas_28 hl (by decide) rfl (fun ls hl => ?_)
  have hlp30 : ∀ (n : Nat) (y7 : Int32) (ab : Nat) (H : Heap) (locs : List Loc) (ls : Array Slot) (z : (Int32) ⊕ Int32), p_X5_tableHas_30 w x3 x4 r4 r6 n y7 = some z → AH G s.heap w ab H locs → lv_has ls 13 [(11, .int y7), (9, .long r6), (7, .long r4), (5, .long r2), (0, .ref (gAd G 129)), (1, .int x1), (2, .int x2), (3, .int x3), (4, .int x4)] → (∀ (y7 : Int32) (ab : Nat) (H : Heap) (locs : List Loc) (ls : Array Slot), z = .inl y7 → AH G s.heap w ab H locs → lv_has ls 13 [(11, .int y7), (9, .long r6), (7, .long r4), (5, .long r2), (0, .ref (gAd G 129)), (1, .int x1), (2, .int x2), (3, .int x3), (4, .int x4)] → W p l e ({ frames := 3, cells := 0, slots := 0, locals := 78 } : Room) s m args below meth c H locs 0 0 (MQ below (amQ G (oI r0) w) args s 0 0 (gA G)) (F0 m 133 ls [])) → (∀ r, z = .inr r → some r = some r0) → W p l e ({ frames := 3, cells := 0, slots := 0, locals := 78 } : Room) s m args below meth c H locs 0 0 (MQ below (amQ G (oI r0) w) args s 0 0 (gA G)) (F0 m 30 ls []) := by
    intro n
    induction n with
    | zero =>
      intro y7 ab H locs ls z hF
      unfold p_X5_tableHas_30 at hF
      cases hF
    | succ n ih =>
      intro y7 ab H locs ls z hF hh hl kE kR
      unfold p_X5_tableHas_30 at hF
      refine lv_iload hx hb dX5_tableHas_30 (lv_at hl 0 rfl) ?_
      refine lv_aload_n hx hb dX5_tableHas_32 rfl (lv_at hl 4 rfl) ?_
      refine am_getI X hh 129 7 5 (by decide) rfl rfl (by decide) hwRX5 (show Cond.fieldLink RX5 24 "PlanetWorkshop$Ratios" "pairs" "I" ∈ wsX5_tableHas by decide +kernel) rfl dX5_tableHas_33 ?_
      refine lv_icmp_ge (tgt := 133) hx hb dX5_tableHas_36 (by decide) (fun hc9 => ?_) (fun hc9 => ?_)
      · have hF := am_pos hc9 hF
        exact kE y7 ab H locs ls (Option.some.inj hF).symm hh (lv_sub hl [0, 1, 2, 3, 4, 5, 6, 7, 8] rfl)
      · have hF := am_neg hc9 hF
        refine lv_aload_n hx hb dX5_tableHas_39 rfl (lv_at hl 4 rfl) ?_
        refine am_getR X hh 129 7 3 132 (by decide) rfl rfl (by decide) hwRX5 (show Cond.fieldLink RX5 18 "PlanetWorkshop$Ratios" "uppers" "[I" ∈ wsX5_tableHas by decide +kernel) rfl dX5_tableHas_40 ?_
        refine lv_iload hx hb dX5_tableHas_43 (lv_at hl 0 rfl) ?_
        obtain ⟨hq10, hF⟩ := am_ifR hF
        refine am_iald X hh 132 (by decide) rfl hq10 dX5_tableHas_45 ?_
        refine lv_iload_n hx hb dX5_tableHas_46 rfl (lv_at hl 7 rfl) ?_
        refine lv_icmp_eq (tgt := 89) hx hb dX5_tableHas_47 (by decide) (fun hc11 => ?_) (fun hc11 => ?_)
        · have hF := am_pos hc11 hF
          refine lv_iconst (v := (0 : Int32)) hx hb dX5_tableHas_89 (by decide) ?_
          refine lv_istore (lv' := [(12, .int (0 : Int32)), (11, .int y7), (9, .long r6), (7, .long r4), (5, .long r2), (0, .ref (gAd G 129)), (1, .int x1), (2, .int x2), (3, .int x3), (4, .int x4)]) hx hb dX5_tableHas_90 hl (by decide) rfl (fun ls hl => ?_)
          refine lv_iload hx hb dX5_tableHas_92 (lv_at hl 0 rfl) ?_
          refine lv_if_eq (tgt := 127) hx hb dX5_tableHas_94 (by decide) (fun _ => ?_) (fun hz => absurd (by decide) hz)
          refine lv_iinc (v := (y7 + (1 : Int32))) (lv' := [(11, .int (y7 + (1 : Int32))), (12, .int (0 : Int32)), (9, .long r6), (7, .long r4), (5, .long r2), (0, .ref (gAd G 129)), (1, .int x1), (2, .int x2), (3, .int x3), (4, .int x4)]) hx hb dX5_tableHas_127 hl (k := 1) rfl rfl (by decide) rfl (fun ls hl => ?_)
          refine lv_goto (tgt := 30) hx hb dX5_tableHas_130 (by decide) ?_
          exact ih (y7 + (1 : Int32)) ab H locs ls _ hF hh (lv_sub hl [0, 2, 3, 4, 5, 6, 7, 8, 9] rfl) kE kR
        · have hF := am_neg hc11 hF
          refine lv_aload_n hx hb dX5_tableHas_50 rfl (lv_at hl 4 rfl) ?_
          refine am_getR X hh 129 7 3 132 (by decide) rfl rfl (by decide) hwRX5 (show Cond.fieldLink RX5 18 "PlanetWorkshop$Ratios" "uppers" "[I" ∈ wsX5_tableHas by decide +kernel) rfl dX5_tableHas_51 ?_
          refine lv_iload hx hb dX5_tableHas_54 (lv_at hl 0 rfl) ?_
          obtain ⟨hq12, hF⟩ := am_ifR hF
          refine am_iald X hh 132 (by decide) rfl hq12 dX5_tableHas_56 ?_
          refine lv_iload hx hb dX5_tableHas_57 (lv_at hl 8 rfl) ?_
          refine lv_icmp_eq (tgt := 89) hx hb dX5_tableHas_59 (by decide) (fun hc13 => ?_) (fun hc13 => ?_)
          · have hF := am_pos hc13 hF
            refine lv_iconst (v := (0 : Int32)) hx hb dX5_tableHas_89 (by decide) ?_
            refine lv_istore (lv' := [(12, .int (0 : Int32)), (11, .int y7), (9, .long r6), (7, .long r4), (5, .long r2), (0, .ref (gAd G 129)), (1, .int x1), (2, .int x2), (3, .int x3), (4, .int x4)]) hx hb dX5_tableHas_90 hl (by decide) rfl (fun ls hl => ?_)
            refine lv_iload hx hb dX5_tableHas_92 (lv_at hl 0 rfl) ?_
            refine lv_if_eq (tgt := 127) hx hb dX5_tableHas_94 (by decide) (fun _ => ?_) (fun hz => absurd (by decide) hz)
            refine lv_iinc (v := (y7 + (1 : Int32))) (lv' := [(11, .int (y7 + (1 : Int32))), (12, .int (0 : Int32)), (9, .long r6), (7, .long r4), (5, .long r2), (0, .ref (gAd G 129)), (1, .int x1), (2, .int x2), (3, .int x3), (4, .int x4)]) hx hb dX5_tableHas_127 hl (k := 1) rfl rfl (by decide) rfl (fun ls hl => ?_)
            refine lv_goto (tgt := 30) hx hb dX5_tableHas_130 (by decide) ?_
            exact ih (y7 + (1 : Int32)) ab H locs ls _ hF hh (lv_sub hl [0, 2, 3, 4, 5, 6, 7, 8, 9] rfl) kE kR
          · have hF := am_neg hc13 hF
            refine lv_aload_n hx hb dX5_tableHas_62 rfl (lv_at hl 4 rfl) ?_
            refine am_getR X hh 129 7 4 133 (by decide) rfl rfl (by decide) hwRX5 (show Cond.fieldLink RX5 21 "PlanetWorkshop$Ratios" "lowers" "[I" ∈ wsX5_tableHas by decide +kernel) rfl dX5_tableHas_63 ?_
            refine lv_iload hx hb dX5_tableHas_66 (lv_at hl 0 rfl) ?_
            obtain ⟨hq14, hF⟩ := am_ifR hF
            refine am_iald X hh 133 (by decide) rfl hq14 dX5_tableHas_68 ?_
            refine lv_iload_n hx hb dX5_tableHas_69 rfl (lv_at hl 7 rfl) ?_
            refine lv_icmp_eq (tgt := 89) hx hb dX5_tableHas_70 (by decide) (fun hc15 => ?_) (fun hc15 => ?_)
            · have hF := am_pos hc15 hF
              refine lv_iconst (v := (0 : Int32)) hx hb dX5_tableHas_89 (by decide) ?_
              refine lv_istore (lv' := [(12, .int (0 : Int32)), (11, .int y7), (9, .long r6), (7, .long r4), (5, .long r2), (0, .ref (gAd G 129)), (1, .int x1), (2, .int x2), (3, .int x3), (4, .int x4)]) hx hb dX5_tableHas_90 hl (by decide) rfl (fun ls hl => ?_)
              refine lv_iload hx hb dX5_tableHas_92 (lv_at hl 0 rfl) ?_
              refine lv_if_eq (tgt := 127) hx hb dX5_tableHas_94 (by decide) (fun _ => ?_) (fun hz => absurd (by decide) hz)
              refine lv_iinc (v := (y7 + (1 : Int32))) (lv' := [(11, .int (y7 + (1 : Int32))), (12, .int (0 : Int32)), (9, .long r6), (7, .long r4), (5, .long r2), (0, .ref (gAd G 129)), (1, .int x1), (2, .int x2), (3, .int x3), (4, .int x4)]) hx hb dX5_tableHas_127 hl (k := 1) rfl rfl (by decide) rfl (fun ls hl => ?_)
              refine lv_goto (tgt := 30) hx hb dX5_tableHas_130 (by decide) ?_
              exact ih (y7 + (1 : Int32)) ab H locs ls _ hF hh (lv_sub hl [0, 2, 3, 4, 5, 6, 7, 8, 9] rfl) kE kR
            · have hF := am_neg hc15 hF
              refine lv_aload_n hx hb dX5_tableHas_73 rfl (lv_at hl 4 rfl) ?_
              refine am_getR X hh 129 7 4 133 (by decide) rfl rfl (by decide) hwRX5 (show Cond.fieldLink RX5 21 "PlanetWorkshop$Ratios" "lowers" "[I" ∈ wsX5_tableHas by decide +kernel) rfl dX5_tableHas_74 ?_
              refine lv_iload hx hb dX5_tableHas_77 (lv_at hl 0 rfl) ?_
              obtain ⟨hq16, hF⟩ := am_ifR hF
              refine am_iald X hh 133 (by decide) rfl hq16 dX5_tableHas_79 ?_
              refine lv_iload hx hb dX5_tableHas_80 (lv_at hl 8 rfl) ?_
              refine lv_icmp_eq (tgt := 89) hx hb dX5_tableHas_82 (by decide) (fun hc17 => ?_) (fun hc17 => ?_)
              · have hF := am_pos hc17 hF
                refine lv_iconst (v := (0 : Int32)) hx hb dX5_tableHas_89 (by decide) ?_
                refine lv_istore (lv' := [(12, .int (0 : Int32)), (11, .int y7), (9, .long r6), (7, .long r4), (5, .long r2), (0, .ref (gAd G 129)), (1, .int x1), (2, .int x2), (3, .int x3), (4, .int x4)]) hx hb dX5_tableHas_90 hl (by decide) rfl (fun ls hl => ?_)
                refine lv_iload hx hb dX5_tableHas_92 (lv_at hl 0 rfl) ?_
                refine lv_if_eq (tgt := 127) hx hb dX5_tableHas_94 (by decide) (fun _ => ?_) (fun hz => absurd (by decide) hz)
                refine lv_iinc (v := (y7 + (1 : Int32))) (lv' := [(11, .int (y7 + (1 : Int32))), (12, .int (0 : Int32)), (9, .long r6), (7, .long r4), (5, .long r2), (0, .ref (gAd G 129)), (1, .int x1), (2, .int x2), (3, .int x3), (4, .int x4)]) hx hb dX5_tableHas_127 hl (k := 1) rfl rfl (by decide) rfl (fun ls hl => ?_)
                refine lv_goto (tgt := 30) hx hb dX5_tableHas_130 (by decide) ?_
                exact ih (y7 + (1 : Int32)) ab H locs ls _ hF hh (lv_sub hl [0, 2, 3, 4, 5, 6, 7, 8, 9] rfl) kE kR
              · have hF := am_neg hc17 hF
                refine lv_iconst (v := (1 : Int32)) hx hb dX5_tableHas_85 (by decide) ?_
                refine lv_goto (tgt := 90) hx hb dX5_tableHas_86 (by decide) ?_
                refine lv_istore (lv' := [(12, .int (1 : Int32)), (11, .int y7), (9, .long r6), (7, .long r4), (5, .long r2), (0, .ref (gAd G 129)), (1, .int x1), (2, .int x2), (3, .int x3), (4, .int x4)]) hx hb dX5_tableHas_90 hl (by decide) rfl (fun ls hl => ?_)
                refine lv_iload hx hb dX5_tableHas_92 (lv_at hl 0 rfl) ?_
                refine lv_if_eq (tgt := 127) hx hb dX5_tableHas_94 (by decide) (fun hz => absurd hz (by decide)) (fun _ => ?_)
                refine lv_aload_n hx hb dX5_tableHas_97 rfl (lv_at hl 5 rfl) ?_
                refine am_getR X hh 129 7 1 130 (by decide) rfl rfl (by decide) hwRX5 (show Cond.fieldLink RX5 9 "PlanetWorkshop$Ratios" "aboves" "[I" ∈ wsX5_tableHas by decide +kernel) rfl dX5_tableHas_98 ?_
                refine lv_iload hx hb dX5_tableHas_101 (lv_at hl 1 rfl) ?_
                obtain ⟨hq18, hF⟩ := am_ifR hF
                refine am_iald X hh 130 (by decide) rfl hq18 dX5_tableHas_103 ?_
                refine lv_i2l hx hb dX5_tableHas_104 rfl ?_
                refine lv_lload hx hb dX5_tableHas_105 (lv_at hl 3 rfl) ?_
                refine am_lcmp_ne (tgt := 127) hx hb dX5_tableHas_107 dX5_tableHas_108 (by decide) (fun hc19 => ?_) (fun hc19 => ?_)
                · have hF := am_neg hc19 hF
                  refine lv_iinc (v := (y7 + (1 : Int32))) (lv' := [(11, .int (y7 + (1 : Int32))), (12, .int (1 : Int32)), (9, .long r6), (7, .long r4), (5, .long r2), (0, .ref (gAd G 129)), (1, .int x1), (2, .int x2), (3, .int x3), (4, .int x4)]) hx hb dX5_tableHas_127 hl (k := 1) rfl rfl (by decide) rfl (fun ls hl => ?_)
                  refine lv_goto (tgt := 30) hx hb dX5_tableHas_130 (by decide) ?_
                  exact ih (y7 + (1 : Int32)) ab H locs ls _ hF hh (lv_sub hl [0, 2, 3, 4, 5, 6, 7, 8, 9] rfl) kE kR
                · have hF := am_pos hc19 hF
                  refine lv_aload_n hx hb dX5_tableHas_111 rfl (lv_at hl 5 rfl) ?_
                  refine am_getR X hh 129 7 2 131 (by decide) rfl rfl (by decide) hwRX5 (show Cond.fieldLink RX5 15 "PlanetWorkshop$Ratios" "belows" "[I" ∈ wsX5_tableHas by decide +kernel) rfl dX5_tableHas_112 ?_
                  refine lv_iload hx hb dX5_tableHas_115 (lv_at hl 1 rfl) ?_
                  obtain ⟨hq20, hF⟩ := am_ifR hF
                  refine am_iald X hh 131 (by decide) rfl hq20 dX5_tableHas_117 ?_
                  refine lv_i2l hx hb dX5_tableHas_118 rfl ?_
                  refine lv_lload hx hb dX5_tableHas_119 (lv_at hl 2 rfl) ?_
                  refine am_lcmp_ne (tgt := 127) hx hb dX5_tableHas_121 dX5_tableHas_122 (by decide) (fun hc21 => ?_) (fun hc21 => ?_)
                  · have hF := am_neg hc21 hF
                    refine lv_iinc (v := (y7 + (1 : Int32))) (lv' := [(11, .int (y7 + (1 : Int32))), (12, .int (1 : Int32)), (9, .long r6), (7, .long r4), (5, .long r2), (0, .ref (gAd G 129)), (1, .int x1), (2, .int x2), (3, .int x3), (4, .int x4)]) hx hb dX5_tableHas_127 hl (k := 1) rfl rfl (by decide) rfl (fun ls hl => ?_)
                    refine lv_goto (tgt := 30) hx hb dX5_tableHas_130 (by decide) ?_
                    exact ih (y7 + (1 : Int32)) ab H locs ls _ hF hh (lv_sub hl [0, 2, 3, 4, 5, 6, 7, 8, 9] rfl) kE kR
                  · have hF := am_pos hc21 hF
                    refine lv_iconst (v := (1 : Int32)) hx hb dX5_tableHas_125 (by decide) ?_
                    have hF := kR _ (Option.some.inj hF).symm
                    exact am_zret (v' := (1 : Int32)) X hr rfl hh (fun t ht => am_qp (mk := oI) hF ht) (Nat.le_of_ble_eq_true rfl) (Nat.le_of_ble_eq_true rfl) dX5_tableHas_126
  obtain ⟨z22, hz23, hF⟩ := am_bind hF
  refine hlp30 2000 (0 : Int32) ab H locs ls z22 hz23 hh (lv_sub hl [0, 1, 2, 3, 4, 5, 6, 7, 8] rfl) (fun y7 ab H locs ls hz hh hl => ?_) (fun r hz => ?_)
  · subst hz
    have hF := am_zl hF
    refine lv_iconst (v := (0 : Int32)) hx hb dX5_tableHas_133 (by decide) ?_
    exact am_zret (v' := (0 : Int32)) X hr rfl hh (fun t ht => am_qp (mk := oI) hF ht) (Nat.le_of_ble_eq_true rfl) (Nat.le_of_ble_eq_true rfl) dX5_tableHas_134
  · subst hz
    have hF := am_zr hF
    exact hF
set_option maxHeartbeats 4000000 in
set_option maxRecDepth 100000 in
theorem c_X5_makeTable (l : Launch) (G : GG) {w : Wd} {wz : Wd} (hF : f_X5_makeTable w = some wz) : Met l yX5_makeTable wsX5_makeTable ({ frames := 4, cells := 0, slots := 0, locals := 102 } : Room) (va_Pc [.ref (gAd G 129)] (Rel G w)) (amQ G none wz) 0 0 (gA G) := by
  refine am_met (own := RX5) (cc := cX5_makeTable) (maxL := 3) (ret := none) (by decide +kernel) rfl rfl (Nat.le_of_ble_eq_true rfl) ?_
  intro p e s m args below meth c ab H locs ls X hr hh hl
  have hx := X.1.1; have hb := X.1.2.1; have hml := X.1.2.2.1; have hown := X.1.2.2.2.1; have hts := X.1.2.2.2.2
  have hl : lv_has ls 3 [(0, .ref (gAd G 129))] := hl
  have hwRX5 : ∀ z ∈ u_ws RX5 TX5 6, z ∈ wsX5_makeTable := by decide +kernel
  have hwRX7 : ∀ z ∈ u_ws RX7 TX7 17, z ∈ wsX5_makeTable := by decide +kernel
  unfold f_X5_makeTable at hF
  refine lv_aload_n hx hb dX5_makeTable_0 rfl (lv_at hl 0 rfl) ?_
  refine lv_iconst (v := (0 : Int32)) hx hb dX5_makeTable_1 (by decide) ?_
  refine am_putI X hh 129 7 5 (by decide) rfl rfl (by decide) hwRX5 tyX5 tyX5_ok nmX5 (show Cond.fieldLink RX5 24 "PlanetWorkshop$Ratios" "pairs" "I" ∈ wsX5_makeTable by decide +kernel) rfl rfl rfl rfl dX5_makeTable_2 (fun H locs hh => ?_)
  obtain ⟨w1, hw1, hF⟩ := am_wl hF
  have hh := AH_eq hw1 hh
  refine lv_iconst (v := (0 : Int32)) hx hb dX5_makeTable_5 (by decide) ?_
  refine lv_istore_n (lv' := [(1, .int (0 : Int32)), (0, .ref (gAd G 129))]) hx hb dX5_makeTable_6 rfl hl (by decide) rfl (fun ls hl => ?_)
  have hlp7 : ∀ (n : Nat) (y2 : Int32) (w3 : Wd) (ab : Nat) (H : Heap) (locs : List Loc) (ls : Array Slot) (z : (Int32 × Wd) ⊕ Unit), p_X5_makeTable_7 n y2 w3 = some z → AH G s.heap w3 ab H locs → lv_has ls 3 [(1, .int y2), (0, .ref (gAd G 129))] → (∀ (y2 : Int32) (w3 : Wd) (ab : Nat) (H : Heap) (locs : List Loc) (ls : Array Slot), z = .inl (y2, w3) → AH G s.heap w3 ab H locs → lv_has ls 3 [(1, .int y2), (0, .ref (gAd G 129))] → W p l e ({ frames := 4, cells := 0, slots := 0, locals := 102 } : Room) s m args below meth c H locs 0 0 (MQ below (amQ G none wz) args s 0 0 (gA G)) (F0 m 54 ls [])) → W p l e ({ frames := 4, cells := 0, slots := 0, locals := 102 } : Room) s m args below meth c H locs 0 0 (MQ below (amQ G none wz) args s 0 0 (gA G)) (F0 m 7 ls []) := by
    intro n
    induction n with
    | zero =>
      intro y2 w3 ab H locs ls z hF
      unfold p_X5_makeTable_7 at hF
      cases hF
    | succ n ih =>
      intro y2 w3 ab H locs ls z hF hh hl kE
      unfold p_X5_makeTable_7 at hF
      refine lv_iload_n hx hb dX5_makeTable_7 rfl (lv_at hl 0 rfl) ?_
      refine lv_aload_n hx hb dX5_makeTable_8 rfl (lv_at hl 1 rfl) ?_
      refine am_getR X hh 129 7 0 1 (by decide) rfl rfl (by decide) hwRX5 (show Cond.fieldLink RX5 28 "PlanetWorkshop$Ratios" "state" "LPlanetWorkshop$State;" ∈ wsX5_makeTable by decide +kernel) rfl dX5_makeTable_9 ?_
      refine am_getI X hh 1 9 10 (by decide) rfl rfl (by decide) hwRX7 (show Cond.fieldLink RX5 32 "PlanetWorkshop$State" "gears" "I" ∈ wsX5_makeTable by decide +kernel) rfl dX5_makeTable_12 ?_
      refine lv_icmp_ge (tgt := 54) hx hb dX5_makeTable_15 (by decide) (fun hc5 => ?_) (fun hc5 => ?_)
      · have hF := am_pos hc5 hF
        exact kE y2 w3 ab H locs ls (Option.some.inj hF).symm hh (lv_sub hl [0, 1] rfl)
      · have hF := am_neg hc5 hF
        refine lv_iconst (v := (0 : Int32)) hx hb dX5_makeTable_18 (by decide) ?_
        refine lv_istore_n (lv' := [(2, .int (0 : Int32)), (1, .int y2), (0, .ref (gAd G 129))]) hx hb dX5_makeTable_19 rfl hl (by decide) rfl (fun ls hl => ?_)
        have hlp20 : ∀ (n : Nat) (y6 : Int32) (w7 : Wd) (ab : Nat) (H : Heap) (locs : List Loc) (ls : Array Slot) (z : (Int32 × Wd) ⊕ Unit), p_X5_makeTable_20 y2 n y6 w7 = some z → AH G s.heap w7 ab H locs → lv_has ls 3 [(2, .int y6), (1, .int y2), (0, .ref (gAd G 129))] → (∀ (y6 : Int32) (w7 : Wd) (ab : Nat) (H : Heap) (locs : List Loc) (ls : Array Slot), z = .inl (y6, w7) → AH G s.heap w7 ab H locs → lv_has ls 3 [(2, .int y6), (1, .int y2), (0, .ref (gAd G 129))] → W p l e ({ frames := 4, cells := 0, slots := 0, locals := 102 } : Room) s m args below meth c H locs 0 0 (MQ below (amQ G none wz) args s 0 0 (gA G)) (F0 m 48 ls [])) → W p l e ({ frames := 4, cells := 0, slots := 0, locals := 102 } : Room) s m args below meth c H locs 0 0 (MQ below (amQ G none wz) args s 0 0 (gA G)) (F0 m 20 ls []) := by
          intro n
          induction n with
          | zero =>
            intro y6 w7 ab H locs ls z hF
            unfold p_X5_makeTable_20 at hF
            cases hF
          | succ n ih =>
            intro y6 w7 ab H locs ls z hF hh hl kE
            unfold p_X5_makeTable_20 at hF
            refine lv_iload_n hx hb dX5_makeTable_20 rfl (lv_at hl 0 rfl) ?_
            refine lv_aload_n hx hb dX5_makeTable_21 rfl (lv_at hl 2 rfl) ?_
            refine am_getR X hh 129 7 0 1 (by decide) rfl rfl (by decide) hwRX5 (show Cond.fieldLink RX5 28 "PlanetWorkshop$Ratios" "state" "LPlanetWorkshop$State;" ∈ wsX5_makeTable by decide +kernel) rfl dX5_makeTable_22 ?_
            refine am_getI X hh 1 9 10 (by decide) rfl rfl (by decide) hwRX7 (show Cond.fieldLink RX5 32 "PlanetWorkshop$State" "gears" "I" ∈ wsX5_makeTable by decide +kernel) rfl dX5_makeTable_25 ?_
            refine lv_icmp_ge (tgt := 48) hx hb dX5_makeTable_28 (by decide) (fun hc9 => ?_) (fun hc9 => ?_)
            · have hF := am_pos hc9 hF
              exact kE y6 w7 ab H locs ls (Option.some.inj hF).symm hh (lv_sub hl [0, 1, 2] rfl)
            · have hF := am_neg hc9 hF
              refine lv_iload_n hx hb dX5_makeTable_31 rfl (lv_at hl 1 rfl) ?_
              refine lv_iload_n hx hb dX5_makeTable_32 rfl (lv_at hl 0 rfl) ?_
              refine lv_icmp_eq (tgt := 42) hx hb dX5_makeTable_33 (by decide) (fun hc10 => ?_) (fun hc10 => ?_)
              · have hF := am_pos hc10 hF
                refine lv_iinc (v := (y6 + (1 : Int32))) (lv' := [(2, .int (y6 + (1 : Int32))), (1, .int y2), (0, .ref (gAd G 129))]) hx hb dX5_makeTable_42 hl (k := 0) rfl rfl (by decide) rfl (fun ls hl => ?_)
                refine lv_goto (tgt := 20) hx hb dX5_makeTable_45 (by decide) ?_
                exact ih (y6 + (1 : Int32)) w7 ab H locs ls _ hF hh (lv_sub hl [0, 1, 2] rfl) kE
              · have hF := am_neg hc10 hF
                refine lv_aload_n hx hb dX5_makeTable_36 rfl (lv_at hl 2 rfl) ?_
                refine lv_iload_n hx hb dX5_makeTable_37 rfl (lv_at hl 1 rfl) ?_
                refine lv_iload_n hx hb dX5_makeTable_38 rfl (lv_at hl 0 rfl) ?_
                obtain ⟨w13, hk11, hF⟩ := am_bind hF
                refine am_call X hh (va_runV (As := [.int y2, .int y6]) (rest := []) X.1 (c_X5_addPair l G hk11) (cwV 2 hts gX5_makeTable_X5_addPair rfl rfl rfl (by decide +kernel) ⟨Nat.le_of_ble_eq_true rfl, Nat.le_of_ble_eq_true rfl⟩) (am_preV X hh 129 7 (by decide) rfl rfl) rfl rfl hl.1 rfl (lv_room (Nat.le_of_ble_eq_true rfl)) dX5_makeTable_39 ⟨Nat.le_of_ble_eq_true rfl, Nat.le_of_ble_eq_true rfl⟩) (fun ab H locs hh => ?_)
                refine lv_iinc (v := (y6 + (1 : Int32))) (lv' := [(2, .int (y6 + (1 : Int32))), (1, .int y2), (0, .ref (gAd G 129))]) hx hb dX5_makeTable_42 hl (k := 0) rfl rfl (by decide) rfl (fun ls hl => ?_)
                refine lv_goto (tgt := 20) hx hb dX5_makeTable_45 (by decide) ?_
                exact ih (y6 + (1 : Int32)) w13 ab H locs ls _ hF hh (lv_sub hl [0, 1, 2] rfl) kE
        obtain ⟨z14, hz15, hF⟩ := am_bind hF
        refine hlp20 2000 (0 : Int32) w3 ab H locs ls z14 hz15 hh (lv_sub hl [0, 1, 2] rfl) (fun y6 w7 ab H locs ls hz hh hl => ?_)
        · subst hz
          have hF := am_zl hF
          have hF := am_u2 hF
          refine lv_iinc (v := (y2 + (1 : Int32))) (lv' := [(1, .int (y2 + (1 : Int32))), (2, .int y6), (0, .ref (gAd G 129))]) hx hb dX5_makeTable_48 hl (k := 1) rfl rfl (by decide) rfl (fun ls hl => ?_)
          refine lv_goto (tgt := 7) hx hb dX5_makeTable_51 (by decide) ?_
          exact ih (y2 + (1 : Int32)) w7 ab H locs ls _ hF hh (lv_sub hl [0, 2] rfl) kE
  obtain ⟨z16, hz17, hF⟩ := am_bind hF
  refine hlp7 2000 (0 : Int32) w1 ab H locs ls z16 hz17 hh (lv_sub hl [0, 1] rfl) (fun y2 w3 ab H locs ls hz hh hl => ?_)
  · subst hz
    have hF := am_zl hF
    have hF := am_u2 hF
    exact am_vret X hr hh (fun t ht => am_qv hF ht) (Nat.le_of_ble_eq_true rfl) (Nat.le_of_ble_eq_true rfl) dX5_makeTable_54
set_option maxHeartbeats 4000000 in
set_option maxRecDepth 100000 in
theorem c_X5_byTable (l : Launch) (G : GG) {w : Wd} {x1 : Int32} {x2 : Int32} {r0 : Int32} {w1 : Wd} (hF : f_X5_byTable w x1 x2 = some (r0, w1)) : Met l yX5_byTable wsX5_byTable ({ frames := 5, cells := 0, slots := 0, locals := 124 } : Room) (va_Pc [.ref (gAd G 129), .int x1, .int x2] (Rel G w)) (amQ G (oI r0) w1) 0 0 (gA G) := by
  refine am_met (own := RX5) (cc := cX5_byTable) (maxL := 6) (ret := (some .int)) (by decide +kernel) rfl rfl (Nat.le_of_ble_eq_true rfl) ?_
  intro p e s m args below meth c ab H locs ls X hr hh hl
  have hx := X.1.1; have hb := X.1.2.1; have hml := X.1.2.2.1; have hown := X.1.2.2.2.1; have hts := X.1.2.2.2.2
  have hl : lv_has ls 6 [(0, .ref (gAd G 129)), (1, .int x1), (2, .int x2)] := hl
  have hwRX5 : ∀ z ∈ u_ws RX5 TX5 6, z ∈ wsX5_byTable := by decide +kernel
  unfold f_X5_byTable at hF
  refine lv_aload_n hx hb dX5_byTable_0 rfl (lv_at hl 0 rfl) ?_
  obtain ⟨w3, hk1, hF⟩ := am_bind hF
  refine am_call X hh (va_runV (As := []) (rest := []) X.1 (c_X5_makeTable l G hk1) (cwV 0 hts gX5_byTable_X5_makeTable rfl rfl rfl (by decide +kernel) ⟨Nat.le_of_ble_eq_true rfl, Nat.le_of_ble_eq_true rfl⟩) (am_preV X hh 129 7 (by decide) rfl rfl) rfl rfl hl.1 rfl (lv_room (Nat.le_of_ble_eq_true rfl)) dX5_byTable_1 ⟨Nat.le_of_ble_eq_true rfl, Nat.le_of_ble_eq_true rfl⟩) (fun ab H locs hh => ?_)
  refine lv_aload_n hx hb dX5_byTable_4 rfl (lv_at hl 0 rfl) ?_
  refine lv_iload_n hx hb dX5_byTable_5 rfl (lv_at hl 1 rfl) ?_
  refine lv_iload_n hx hb dX5_byTable_6 rfl (lv_at hl 2 rfl) ?_
  refine lv_iconst (v := (-1 : Int32)) hx hb dX5_byTable_7 (by decide) ?_
  refine lv_iconst (v := (-1 : Int32)) hx hb dX5_byTable_8 (by decide) ?_
  obtain ⟨r5, hk4, hF⟩ := am_bind hF
  refine am_call X hh (va_runV (As := [.int x1, .int x2, .int (-1 : Int32), .int (-1 : Int32)]) (rest := []) X.1 (c_X5_tableHas l G hk4) (cwV 4 hts gX5_byTable_X5_tableHas rfl rfl rfl (by decide +kernel) ⟨Nat.le_of_ble_eq_true rfl, Nat.le_of_ble_eq_true rfl⟩) (am_preV X hh 129 7 (by decide) rfl rfl) rfl rfl hl.1 rfl (lv_room (Nat.le_of_ble_eq_true rfl)) dX5_byTable_9 ⟨Nat.le_of_ble_eq_true rfl, Nat.le_of_ble_eq_true rfl⟩) (fun ab H locs hh => ?_)
  refine lv_if_eq (tgt := 17) hx hb dX5_byTable_12 (by decide) (fun hc6 => ?_) (fun hc6 => ?_)
  · have hF := am_pos hc6 hF
    refine lv_iconst (v := (0 : Int32)) hx hb dX5_byTable_17 (by decide) ?_
    refine lv_istore_n (lv' := [(3, .int (0 : Int32)), (0, .ref (gAd G 129)), (1, .int x1), (2, .int x2)]) hx hb dX5_byTable_18 rfl hl (by decide) rfl (fun ls hl => ?_)
    have hlp19 : ∀ (n : Nat) (y7 : Int32) (ab : Nat) (H : Heap) (locs : List Loc) (ls : Array Slot) (z : (Int32) ⊕ (Int32 × Wd)), p_X5_byTable_19 w3 x1 x2 n y7 = some z → AH G s.heap w3 ab H locs → lv_has ls 6 [(3, .int y7), (0, .ref (gAd G 129)), (1, .int x1), (2, .int x2)] → (∀ (y7 : Int32) (ab : Nat) (H : Heap) (locs : List Loc) (ls : Array Slot), z = .inl y7 → AH G s.heap w3 ab H locs → lv_has ls 6 [(3, .int y7), (0, .ref (gAd G 129)), (1, .int x1), (2, .int x2)] → W p l e ({ frames := 5, cells := 0, slots := 0, locals := 124 } : Room) s m args below meth c H locs 0 0 (MQ below (amQ G (oI r0) w1) args s 0 0 (gA G)) (F0 m 78 ls [])) → (∀ r, z = .inr r → some r = some (r0, w1)) → W p l e ({ frames := 5, cells := 0, slots := 0, locals := 124 } : Room) s m args below meth c H locs 0 0 (MQ below (amQ G (oI r0) w1) args s 0 0 (gA G)) (F0 m 19 ls []) := by
      intro n
      induction n with
      | zero =>
        intro y7 ab H locs ls z hF
        unfold p_X5_byTable_19 at hF
        cases hF
      | succ n ih =>
        intro y7 ab H locs ls z hF hh hl kE kR
        unfold p_X5_byTable_19 at hF
        refine lv_iload_n hx hb dX5_byTable_19 rfl (lv_at hl 0 rfl) ?_
        refine lv_aload_n hx hb dX5_byTable_20 rfl (lv_at hl 1 rfl) ?_
        refine am_getI X hh 129 7 5 (by decide) rfl rfl (by decide) hwRX5 (show Cond.fieldLink RX5 24 "PlanetWorkshop$Ratios" "pairs" "I" ∈ wsX5_byTable by decide +kernel) rfl dX5_byTable_21 ?_
        refine lv_icmp_ge (tgt := 78) hx hb dX5_byTable_24 (by decide) (fun hc9 => ?_) (fun hc9 => ?_)
        · have hF := am_pos hc9 hF
          exact kE y7 ab H locs ls (Option.some.inj hF).symm hh (lv_sub hl [0, 1, 2, 3] rfl)
        · have hF := am_neg hc9 hF
          refine lv_iload_n hx hb dX5_byTable_27 rfl (lv_at hl 2 rfl) ?_
          refine lv_aload_n hx hb dX5_byTable_28 rfl (lv_at hl 1 rfl) ?_
          refine am_getR X hh 129 7 2 131 (by decide) rfl rfl (by decide) hwRX5 (show Cond.fieldLink RX5 15 "PlanetWorkshop$Ratios" "belows" "[I" ∈ wsX5_byTable by decide +kernel) rfl dX5_byTable_29 ?_
          refine lv_iload_n hx hb dX5_byTable_32 rfl (lv_at hl 0 rfl) ?_
          obtain ⟨hq10, hF⟩ := am_ifR hF
          refine am_iald X hh 131 (by decide) rfl hq10 dX5_byTable_33 ?_
          refine lv_imul hx hb dX5_byTable_34 ?_
          refine lv_istore (lv' := [(4, .int (x1 * (gI w3 131 (y7).toNatClampNeg))), (3, .int y7), (0, .ref (gAd G 129)), (1, .int x1), (2, .int x2)]) hx hb dX5_byTable_35 hl (by decide) rfl (fun ls hl => ?_)
          refine lv_iload_n hx hb dX5_byTable_37 rfl (lv_at hl 4 rfl) ?_
          refine lv_aload_n hx hb dX5_byTable_38 rfl (lv_at hl 2 rfl) ?_
          refine am_getR X hh 129 7 1 130 (by decide) rfl rfl (by decide) hwRX5 (show Cond.fieldLink RX5 9 "PlanetWorkshop$Ratios" "aboves" "[I" ∈ wsX5_byTable by decide +kernel) rfl dX5_byTable_39 ?_
          refine lv_iload_n hx hb dX5_byTable_42 rfl (lv_at hl 1 rfl) ?_
          obtain ⟨hq11, hF⟩ := am_ifR hF
          refine am_iald X hh 130 (by decide) rfl hq11 dX5_byTable_43 ?_
          refine lv_imul hx hb dX5_byTable_44 ?_
          refine lv_istore (lv' := [(5, .int (x2 * (gI w3 130 (y7).toNatClampNeg))), (4, .int (x1 * (gI w3 131 (y7).toNatClampNeg))), (3, .int y7), (0, .ref (gAd G 129)), (1, .int x1), (2, .int x2)]) hx hb dX5_byTable_45 hl (by decide) rfl (fun ls hl => ?_)
          refine lv_aload_n hx hb dX5_byTable_47 rfl (lv_at hl 3 rfl) ?_
          refine lv_iload hx hb dX5_byTable_48 (lv_at hl 1 rfl) ?_
          refine lv_iload hx hb dX5_byTable_50 (lv_at hl 0 rfl) ?_
          refine lv_aload_n hx hb dX5_byTable_52 rfl (lv_at hl 3 rfl) ?_
          refine am_getR X hh 129 7 3 132 (by decide) rfl rfl (by decide) hwRX5 (show Cond.fieldLink RX5 18 "PlanetWorkshop$Ratios" "uppers" "[I" ∈ wsX5_byTable by decide +kernel) rfl dX5_byTable_53 ?_
          refine lv_iload_n hx hb dX5_byTable_56 rfl (lv_at hl 2 rfl) ?_
          obtain ⟨hq12, hF⟩ := am_ifR hF
          refine am_iald X hh 132 (by decide) rfl hq12 dX5_byTable_57 ?_
          refine lv_aload_n hx hb dX5_byTable_58 rfl (lv_at hl 3 rfl) ?_
          refine am_getR X hh 129 7 4 133 (by decide) rfl rfl (by decide) hwRX5 (show Cond.fieldLink RX5 21 "PlanetWorkshop$Ratios" "lowers" "[I" ∈ wsX5_byTable by decide +kernel) rfl dX5_byTable_59 ?_
          refine lv_iload_n hx hb dX5_byTable_62 rfl (lv_at hl 2 rfl) ?_
          obtain ⟨hq13, hF⟩ := am_ifR hF
          refine am_iald X hh 133 (by decide) rfl hq13 dX5_byTable_63 ?_
          obtain ⟨r15, hk14, hF⟩ := am_bind hF
          refine am_call X hh (va_runV (As := [.int (x1 * (gI w3 131 (y7).toNatClampNeg)), .int (x2 * (gI w3 130 (y7).toNatClampNeg)), .int (gI w3 132 (y7).toNatClampNeg), .int (gI w3 133 (y7).toNatClampNeg)]) (rest := []) X.1 (c_X5_tableHas l G hk14) (cwV 4 hts gX5_byTable_X5_tableHas rfl rfl rfl (by decide +kernel) ⟨Nat.le_of_ble_eq_true rfl, Nat.le_of_ble_eq_true rfl⟩) (am_preV X hh 129 7 (by decide) rfl rfl) rfl rfl hl.1 rfl (lv_room (Nat.le_of_ble_eq_true rfl)) dX5_byTable_64 ⟨Nat.le_of_ble_eq_true rfl, Nat.le_of_ble_eq_true rfl⟩) (fun ab H locs hh => ?_)
          refine lv_if_eq (tgt := 72) hx hb dX5_byTable_67 (by decide) (fun hc16 => ?_) (fun hc16 => ?_)
          · have hF := am_pos hc16 hF
            refine lv_iinc (v := (y7 + (1 : Int32))) (lv' := [(3, .int (y7 + (1 : Int32))), (5, .int (x2 * (gI w3 130 (y7).toNatClampNeg))), (4, .int (x1 * (gI w3 131 (y7).toNatClampNeg))), (0, .ref (gAd G 129)), (1, .int x1), (2, .int x2)]) hx hb dX5_byTable_72 hl (k := 2) rfl rfl (by decide) rfl (fun ls hl => ?_)
            refine lv_goto (tgt := 19) hx hb dX5_byTable_75 (by decide) ?_
            exact ih (y7 + (1 : Int32)) ab H locs ls _ hF hh (lv_sub hl [0, 3, 4, 5] rfl) kE kR
          · have hF := am_neg hc16 hF
            refine lv_iconst (v := (2 : Int32)) hx hb dX5_byTable_70 (by decide) ?_
            have hF := kR _ (Option.some.inj hF).symm
            exact am_iret X hr hh (fun t ht => am_qw (mk := oI) hF ht) (Nat.le_of_ble_eq_true rfl) (Nat.le_of_ble_eq_true rfl) dX5_byTable_71
    obtain ⟨z17, hz18, hF⟩ := am_bind hF
    refine hlp19 2000 (0 : Int32) ab H locs ls z17 hz18 hh (lv_sub hl [0, 1, 2, 3] rfl) (fun y7 ab H locs ls hz hh hl => ?_) (fun r hz => ?_)
    · subst hz
      have hF := am_zl hF
      refine lv_iconst (v := (0 : Int32)) hx hb dX5_byTable_78 (by decide) ?_
      exact am_iret X hr hh (fun t ht => am_qw (mk := oI) hF ht) (Nat.le_of_ble_eq_true rfl) (Nat.le_of_ble_eq_true rfl) dX5_byTable_79
    · subst hz
      have hF := am_zr hF
      exact hF
  · have hF := am_neg hc6 hF
    refine lv_iconst (v := (1 : Int32)) hx hb dX5_byTable_15 (by decide) ?_
    exact am_iret X hr hh (fun t ht => am_qw (mk := oI) hF ht) (Nat.le_of_ble_eq_true rfl) (Nat.le_of_ble_eq_true rfl) dX5_byTable_16
set_option maxHeartbeats 4000000 in
set_option maxRecDepth 100000 in
theorem c_X5_bothWaysAgree (l : Launch) (G : GG) {w : Wd} {r0 : Int32} {w1 : Wd} (hF : f_X5_bothWaysAgree w = some (r0, w1)) : Met l yX5_bothWaysAgree wsX5_bothWaysAgree ({ frames := 6, cells := 0, slots := 0, locals := 149 } : Room) (va_Pc [.ref (gAd G 129)] (Rel G w)) (amQ G (oI r0) w1) 0 0 (gA G) := by
  refine am_met (own := RX5) (cc := cX5_bothWaysAgree) (maxL := 2) (ret := (some .boolean)) (by decide +kernel) rfl rfl (Nat.le_of_ble_eq_true rfl) ?_
  intro p e s m args below meth c ab H locs ls X hr hh hl
  have hx := X.1.1; have hb := X.1.2.1; have hml := X.1.2.2.1; have hown := X.1.2.2.2.1; have hts := X.1.2.2.2.2
  have hl : lv_has ls 2 [(0, .ref (gAd G 129))] := hl
  unfold f_X5_bothWaysAgree at hF
  refine lv_iconst (v := (1 : Int32)) hx hb dX5_bothWaysAgree_0 (by decide) ?_
  refine lv_istore_n (lv' := [(1, .int (1 : Int32)), (0, .ref (gAd G 129))]) hx hb dX5_bothWaysAgree_1 rfl hl (by decide) rfl (fun ls hl => ?_)
  have hlp2 : ∀ (n : Nat) (y1 : Int32) (w2 : Wd) (ab : Nat) (H : Heap) (locs : List Loc) (ls : Array Slot) (z : (Int32 × Wd) ⊕ (Int32 × Wd)), p_X5_bothWaysAgree_2 n y1 w2 = some z → AH G s.heap w2 ab H locs → lv_has ls 2 [(1, .int y1), (0, .ref (gAd G 129))] → (∀ (y1 : Int32) (w2 : Wd) (ab : Nat) (H : Heap) (locs : List Loc) (ls : Array Slot), z = .inl (y1, w2) → AH G s.heap w2 ab H locs → lv_has ls 2 [(1, .int y1), (0, .ref (gAd G 129))] → W p l e ({ frames := 6, cells := 0, slots := 0, locals := 149 } : Room) s m args below meth c H locs 0 0 (MQ below (amQ G (oI r0) w1) args s 0 0 (gA G)) (F0 m 31 ls [])) → (∀ r, z = .inr r → some r = some (r0, w1)) → W p l e ({ frames := 6, cells := 0, slots := 0, locals := 149 } : Room) s m args below meth c H locs 0 0 (MQ below (amQ G (oI r0) w1) args s 0 0 (gA G)) (F0 m 2 ls []) := by
    intro n
    induction n with
    | zero =>
      intro y1 w2 ab H locs ls z hF
      unfold p_X5_bothWaysAgree_2 at hF
      cases hF
    | succ n ih =>
      intro y1 w2 ab H locs ls z hF hh hl kE kR
      unfold p_X5_bothWaysAgree_2 at hF
      refine lv_iload_n hx hb dX5_bothWaysAgree_2 rfl (lv_at hl 0 rfl) ?_
      refine lv_bipush (v := (10 : Int32)) hx hb dX5_bothWaysAgree_3 (by decide) ?_
      refine lv_icmp_gt (tgt := 31) hx hb dX5_bothWaysAgree_5 (by decide) (fun hc4 => ?_) (fun hc4 => ?_)
      · have hF := am_pos hc4 hF
        exact kE y1 w2 ab H locs ls (Option.some.inj hF).symm hh (lv_sub hl [0, 1] rfl)
      · have hF := am_neg hc4 hF
        refine lv_aload_n hx hb dX5_bothWaysAgree_8 rfl (lv_at hl 1 rfl) ?_
        refine lv_iload_n hx hb dX5_bothWaysAgree_9 rfl (lv_at hl 0 rfl) ?_
        refine lv_iconst (v := (1 : Int32)) hx hb dX5_bothWaysAgree_10 (by decide) ?_
        obtain ⟨r6, hk5, hF⟩ := am_bind hF
        refine am_call X hh (va_runV (As := [.int y1, .int (1 : Int32)]) (rest := []) X.1 (c_X5_byTrying l G hk5) (cwV 2 hts gX5_bothWaysAgree_X5_byTrying rfl rfl rfl (by decide +kernel) ⟨Nat.le_of_ble_eq_true rfl, Nat.le_of_ble_eq_true rfl⟩) (am_preV X hh 129 7 (by decide) rfl rfl) rfl rfl hl.1 rfl (lv_room (Nat.le_of_ble_eq_true rfl)) dX5_bothWaysAgree_11 ⟨Nat.le_of_ble_eq_true rfl, Nat.le_of_ble_eq_true rfl⟩) (fun ab H locs hh => ?_)
        refine lv_aload_n hx hb dX5_bothWaysAgree_14 rfl (lv_at hl 1 rfl) ?_
        refine lv_iload_n hx hb dX5_bothWaysAgree_15 rfl (lv_at hl 0 rfl) ?_
        refine lv_iconst (v := (1 : Int32)) hx hb dX5_bothWaysAgree_16 (by decide) ?_
        obtain ⟨⟨r8, w9⟩, hk7, hF⟩ := am_bind hF
        have hF := am_u2 hF
        refine am_call X hh (va_runV (As := [.int y1, .int (1 : Int32)]) (rest := [.int r6]) X.1 (c_X5_byTable l G hk7) (cwV 2 hts gX5_bothWaysAgree_X5_byTable rfl rfl rfl (by decide +kernel) ⟨Nat.le_of_ble_eq_true rfl, Nat.le_of_ble_eq_true rfl⟩) (am_preV X hh 129 7 (by decide) rfl rfl) rfl rfl hl.1 rfl (lv_room (Nat.le_of_ble_eq_true rfl)) dX5_bothWaysAgree_17 ⟨Nat.le_of_ble_eq_true rfl, Nat.le_of_ble_eq_true rfl⟩) (fun ab H locs hh => ?_)
        refine lv_icmp_eq (tgt := 25) hx hb dX5_bothWaysAgree_20 (by decide) (fun hc11 => ?_) (fun hc11 => ?_)
        · have hF := am_pos hc11 hF
          refine lv_iinc (v := (y1 + (1 : Int32))) (lv' := [(1, .int (y1 + (1 : Int32))), (0, .ref (gAd G 129))]) hx hb dX5_bothWaysAgree_25 hl (k := 0) rfl rfl (by decide) rfl (fun ls hl => ?_)
          refine lv_goto (tgt := 2) hx hb dX5_bothWaysAgree_28 (by decide) ?_
          exact ih (y1 + (1 : Int32)) w9 ab H locs ls _ hF hh (lv_sub hl [0, 1] rfl) kE kR
        · have hF := am_neg hc11 hF
          refine lv_iconst (v := (0 : Int32)) hx hb dX5_bothWaysAgree_23 (by decide) ?_
          have hF := kR _ (Option.some.inj hF).symm
          exact am_zret (v' := (0 : Int32)) X hr rfl hh (fun t ht => am_qw (mk := oI) hF ht) (Nat.le_of_ble_eq_true rfl) (Nat.le_of_ble_eq_true rfl) dX5_bothWaysAgree_24
  obtain ⟨z12, hz13, hF⟩ := am_bind hF
  refine hlp2 2000 (1 : Int32) w ab H locs ls z12 hz13 hh (lv_sub hl [0, 1] rfl) (fun y1 w2 ab H locs ls hz hh hl => ?_) (fun r hz => ?_)
  · subst hz
    have hF := am_zl hF
    have hF := am_u2 hF
    refine lv_iconst (v := (1 : Int32)) hx hb dX5_bothWaysAgree_31 (by decide) ?_
    exact am_zret (v' := (1 : Int32)) X hr rfl hh (fun t ht => am_qw (mk := oI) hF ht) (Nat.le_of_ble_eq_true rfl) (Nat.le_of_ble_eq_true rfl) dX5_bothWaysAgree_32
  · subst hz
    have hF := am_zr hF
    exact hF
