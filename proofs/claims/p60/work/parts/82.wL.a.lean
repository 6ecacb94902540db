def p_L_put_2 (x1 : Nat) : Nat → Int32 → Wd → Option ((Int32 × Wd) ⊕ Unit)
  | 0, _, _ => none
  | n + 1, y1, w2 => ((f_J0_length_8abf5 x1).bind fun r5 => (if r5 ≤ y1 then (some (.inl (y1, w2))) else ((f_J0_charAt_5068e w2 x1 y1).bind fun r8 => ((f_X10_type w2 r8).bind fun z => u2 z fun z w11 => zc z (fun k => none) (fun r10 => (p_L_put_2 x1 n (y1 + (1 : Int32)) w11))))))
def f_L_put (w : Wd) (x1 : Nat) : Option Wd := ((p_L_put_2 x1 64 (0 : Int32) w).bind fun z => zc z (fun q => u2 q fun y1 w2 => (some w2)) (fun _ => none))
set_option maxHeartbeats 4000000 in
set_option maxRecDepth 100000 in
theorem c_L_put (l : Launch) (G : GG) (hst : l.stackTraces = false) {w : Wd} {x1 : Nat} {w1 : Wd} (hx1 : gAv G (300 + x1) = 1) (hF : f_L_put w x1 = some w1) : Met l yL_put wsL_put ({ frames := 7, cells := 64, slots := 384, locals := 111 } : Room) (va_Pc [.ref (gAd G 0), .ref (gAv G (100 + x1))] (Rel G w)) (amQ G none w1) 64 384 (gA G) := by
  refine am_met (own := RL) (cc := cL_put) (maxL := 3) (ret := none) (by decide +kernel) rfl rfl (Nat.le_of_ble_eq_true rfl) ?_
  intro p e s m args below meth c ab H locs ls X hr hh hl
  have hx := X.1.1; have hb := X.1.2.1; have hml := X.1.2.2.1; have hown := X.1.2.2.2.1; have hts := X.1.2.2.2.2
  have hl : lv_has ls 3 [(0, .ref (gAd G 0)), (1, .ref (gAv G (100 + x1)))] := hl
  unfold f_L_put at hF
  refine lv_iconst (v := (0 : Int32)) hx hb dL_put_0 (by decide) ?_
  refine lv_istore_n (lv' := [(2, .int (0 : Int32)), (0, .ref (gAd G 0)), (1, .ref (gAv G (100 + x1)))]) hx hb dL_put_1 rfl hl (by decide) rfl (fun ls hl => ?_)
  have hlp2 : ∀ (n : Nat) (j : Nat) (y1 : Int32) (w2 : Wd) (ab : Nat) (H : Heap) (locs : List Loc) (ls : Array Slot) (z : (Int32 × Wd) ⊕ Unit), n + j ≤ 64 → p_L_put_2 x1 n y1 w2 = some z → AH G s.heap w2 ab H locs → lv_has ls 3 [(2, .int y1), (0, .ref (gAd G 0)), (1, .ref (gAv G (100 + x1)))] → (∀ (y1 : Int32) (w2 : Wd) (ab : Nat) (H : Heap) (locs : List Loc) (ls : Array Slot), z = .inl (y1, w2) → AH G s.heap w2 ab H locs → lv_has ls 3 [(2, .int y1), (0, .ref (gAd G 0)), (1, .ref (gAv G (100 + x1)))] → W p l e ({ frames := 7, cells := 64, slots := 384, locals := 111 } : Room) s m args below meth c H locs (0 + 1 * 64) (0 + 6 * 64) (MQ below (amQ G none w1) args s 64 384 (gA G)) (F0 m 26 ls [])) → W p l e ({ frames := 7, cells := 64, slots := 384, locals := 111 } : Room) s m args below meth c H locs (0 + 1 * j) (0 + 6 * j) (MQ below (amQ G none w1) args s 64 384 (gA G)) (F0 m 2 ls []) := by
    intro n
    induction n with
    | zero =>
      intro j y1 w2 ab H locs ls z hj hF
      unfold p_L_put_2 at hF
      cases hF
    | succ n ih =>
      intro j y1 w2 ab H locs ls z hj hF hh hl kE
      unfold p_L_put_2 at hF
      refine lv_iload_n hx hb dL_put_2 rfl (lv_at hl 0 rfl) ?_
      refine lv_aload_n hx hb dL_put_3 rfl (lv_at hl 2 rfl) ?_
      obtain ⟨r5, hk4, hF⟩ := am_bind hF
      refine am_callF X hh (va_runV (As := []) (rest := [.int y1]) X.1 (c_J0_length_8abf5 l G hx1 hk4) (cwV 0 hts gL_put_J0_length_8abf5 rfl rfl rfl (by decide +kernel) ⟨Nat.le_of_ble_eq_true rfl, Nat.le_of_ble_eq_true rfl⟩) ⟨am_blindF, tx_recv X.2.2.1.2.1.2.2.2.2 (i := x1) hx1 hh.2.2, fun U hU hW => ⟨rfl, am_relF X hh hU hW⟩⟩ rfl rfl hl.1 rfl (lv_room (Nat.le_of_ble_eq_true rfl)) dL_put_4 ⟨by show (0 + 1 * j) + 0 ≤ 64; omega, by show (0 + 6 * j) + 0 ≤ 384; omega⟩) (fun H locs hh => ?_)
      refine lv_icmp_ge (tgt := 26) hx hb dL_put_7 (by decide) (fun hc6 => ?_) (fun hc6 => ?_)
      · have hF := am_pos hc6 hF
        exact W.widen (by omega) (by omega) (kE y1 w2 ab H locs ls (Option.some.inj hF).symm hh (lv_sub hl [0, 1, 2] rfl))
      · have hF := am_neg hc6 hF
        refine lv_aload_n hx hb dL_put_10 rfl (lv_at hl 1 rfl) ?_
        refine lv_aload_n hx hb dL_put_11 rfl (lv_at hl 2 rfl) ?_
        refine lv_iload_n hx hb dL_put_12 rfl (lv_at hl 0 rfl) ?_
        obtain ⟨r8, hk7, hF⟩ := am_bind hF
        refine am_callF X hh (va_runV (As := [.int y1]) (rest := [.ref (gAd G 0)]) X.1 (c_J0_charAt_5068e l G hx1 hk7) (cwV 1 hts gL_put_J0_charAt_5068e rfl rfl rfl (by decide +kernel) ⟨Nat.le_of_ble_eq_true rfl, Nat.le_of_ble_eq_true rfl⟩) ⟨am_blindF, tx_recv X.2.2.1.2.1.2.2.2.2 (i := x1) hx1 hh.2.2, fun U hU hW => ⟨rfl, am_relF X hh hU hW⟩⟩ rfl rfl hl.1 rfl (lv_room (Nat.le_of_ble_eq_true rfl)) dL_put_13 ⟨by show (0 + 1 * j) + 0 ≤ 64; omega, by show (0 + 6 * j) + 0 ≤ 384; omega⟩) (fun H locs hh => ?_)
        obtain ⟨⟨z12, w11⟩, hk9, hF⟩ := am_bind hF
        have hF := am_u2 hF
        refine am_callX X hh (vx_runV (As := [.int r8]) (rest := []) X.1 (c_X10_type l G hst hk9) (cwV 1 hts gL_put_X10_type rfl rfl rfl (by decide +kernel) ⟨Nat.le_of_ble_eq_true rfl, Nat.le_of_ble_eq_true rfl⟩) (am_preV X hh 0 11 (by decide) rfl rfl) rfl rfl hl.1 rfl (lv_room (Nat.le_of_ble_eq_true rfl)) dL_put_16 ⟨by show (0 + 1 * j) + 1 ≤ 64; omega, by show (0 + 6 * j) + 6 ≤ 384; omega⟩) (fun k ab H locs ce q hz hh hce hcv hcl => ?_) (fun r10 ab H locs hz hh => ?_)
        · subst hz
          cases hF
        · subst hz
          have hF := am_zr hF
          refine lv_pop hx hb dL_put_19 rfl ?_
          refine lv_iinc (v := (y1 + (1 : Int32))) (lv' := [(2, .int (y1 + (1 : Int32))), (0, .ref (gAd G 0)), (1, .ref (gAv G (100 + x1)))]) hx hb dL_put_20 hl (k := 0) rfl rfl (by decide) rfl (fun ls hl => ?_)
          refine lv_goto (tgt := 2) hx hb dL_put_23 (by decide) ?_
          exact W.widen (by omega) (by omega) (ih (j + 1) (y1 + (1 : Int32)) w11 ab H locs ls _ (by omega) hF hh (lv_sub hl [0, 1, 2] rfl) kE)
  obtain ⟨z13, hz14, hF⟩ := am_bind hF
  refine W.widen (show 0 ≤ 0 + 1 * 0 by omega) (show 0 ≤ 0 + 6 * 0 by omega) (hlp2 64 0 (0 : Int32) w ab H locs ls z13 (Nat.le_refl _) hz14 hh (lv_sub hl [0, 1, 2] rfl) (fun y1 w2 ab H locs ls hz hh hl => ?_))
  · subst hz
    have hF := am_zl hF
    have hF := am_u2 hF
    exact am_vret X hr hh (fun t ht => am_qv hF ht) (Nat.le_of_ble_eq_true rfl) (Nat.le_of_ble_eq_true rfl) dL_put_26
def p_L_isText_12 (x1 : Int32) (w : Wd) (x2 : Nat) : Nat → Int32 → Option ((Int32) ⊕ Int32)
  | 0, _ => none
  | n + 1, y4 => (if x1 ≤ y4 then (some (.inl y4)) else ((f_X10_outputAt w y4).bind fun z => zc z (fun k => none) (fun r8 => ((f_J0_charAt_5068e w x2 y4).bind fun r11 => (if r8 = r11 then (p_L_isText_12 x1 w x2 n (y4 + (1 : Int32))) else (some (.inr (0 : Int32))))))))
def f_L_isText (w : Wd) (x1 : Int32) (x2 : Nat) : Option Int32 := ((f_J0_length_8abf5 x2).bind fun r2 => (if x1 = r2 then ((p_L_isText_12 x1 w x2 24 (0 : Int32)).bind fun z => zc z (fun y4 => (some (1 : Int32))) (fun r => (some r))) else (some (0 : Int32))))
set_option maxHeartbeats 4000000 in
set_option maxRecDepth 100000 in
theorem c_L_isText (l : Launch) (G : GG) (hst : l.stackTraces = false) {w : Wd} {x1 : Int32} {x2 : Nat} {r0 : Int32} (hx2 : gAv G (300 + x2) = 1) (hF : f_L_isText w x1 x2 = some r0) : Met l yL_isText wsL_isText ({ frames := 7, cells := 24, slots := 144, locals := 111 } : Room) (va_Pc [.ref (gAd G 0), .int x1, .ref (gAv G (100 + x2))] (Rel G w)) (amQ G (oI r0) w) 24 144 (gA G) := by
  refine am_met (own := RL) (cc := cL_isText) (maxL := 4) (ret := (some .boolean)) (by decide +kernel) rfl rfl (Nat.le_of_ble_eq_true rfl) ?_
  intro p e s m args below meth c ab H locs ls X hr hh hl
  have hx := X.1.1; have hb := X.1.2.1; have hml := X.1.2.2.1; have hown := X.1.2.2.2.1; have hts := X.1.2.2.2.2
  have hl : lv_has ls 4 [(0, .ref (gAd G 0)), (1, .int x1), (2, .ref (gAv G (100 + x2)))] := hl
  unfold f_L_isText at hF
  refine lv_iload_n hx hb dL_isText_0 rfl (lv_at hl 1 rfl) ?_
  refine lv_aload_n hx hb dL_isText_1 rfl (lv_at hl 2 rfl) ?_
  obtain ⟨r2, hk1, hF⟩ := am_bind hF
  refine am_callF X hh (va_runV (As := []) (rest := [.int x1]) X.1 (c_J0_length_8abf5 l G hx2 hk1) (cwV 0 hts gL_isText_J0_length_8abf5 rfl rfl rfl (by decide +kernel) ⟨Nat.le_of_ble_eq_true rfl, Nat.le_of_ble_eq_true rfl⟩) ⟨am_blindF, tx_recv X.2.2.1.2.1.2.2.2.2 (i := x2) hx2 hh.2.2, fun U hU hW => ⟨rfl, am_relF X hh hU hW⟩⟩ rfl rfl hl.1 rfl (lv_room (Nat.le_of_ble_eq_true rfl)) dL_isText_2 ⟨Nat.le_of_ble_eq_true rfl, Nat.le_of_ble_eq_true rfl⟩) (fun H locs hh => ?_)
  refine lv_icmp_eq (tgt := 10) hx hb dL_isText_5 (by decide) (fun hc3 => ?_) (fun hc3 => ?_)
  · have hF := am_pos hc3 hF
    refine lv_iconst (v := (0 : Int32)) hx hb dL_isText_10 (by decide) ?_
    refine lv_istore_n (lv' := [(3, .int (0 : Int32)), (0, .ref (gAd G 0)), (1, .int x1), (2, .ref (gAv G (100 + x2)))]) hx hb dL_isText_11 rfl hl (by decide) rfl (fun ls hl => ?_)
    have hlp12 : ∀ (n : Nat) (j : Nat) (y4 : Int32) (ab : Nat) (H : Heap) (locs : List Loc) (ls : Array Slot) (z : (Int32) ⊕ Int32), n + j ≤ 24 → p_L_isText_12 x1 w x2 n y4 = some z → AH G s.heap w ab H locs → lv_has ls 4 [(3, .int y4), (0, .ref (gAd G 0)), (1, .int x1), (2, .ref (gAv G (100 + x2)))] → (∀ (y4 : Int32) (ab : Nat) (H : Heap) (locs : List Loc) (ls : Array Slot), z = .inl y4 → AH G s.heap w ab H locs → lv_has ls 4 [(3, .int y4), (0, .ref (gAd G 0)), (1, .int x1), (2, .ref (gAv G (100 + x2)))] → W p l e ({ frames := 7, cells := 24, slots := 144, locals := 111 } : Room) s m args below meth c H locs (0 + 1 * 24) (0 + 6 * 24) (MQ below (amQ G (oI r0) w) args s 24 144 (gA G)) (F0 m 38 ls [])) → (∀ r, z = .inr r → some r = some r0) → W p l e ({ frames := 7, cells := 24, slots := 144, locals := 111 } : Room) s m args below meth c H locs (0 + 1 * j) (0 + 6 * j) (MQ below (amQ G (oI r0) w) args s 24 144 (gA G)) (F0 m 12 ls []) := by
      intro n
      induction n with
      | zero =>
        intro j y4 ab H locs ls z hj hF
        unfold p_L_isText_12 at hF
        cases hF
      | succ n ih =>
        intro j y4 ab H locs ls z hj hF hh hl kE kR
        unfold p_L_isText_12 at hF
        refine lv_iload_n hx hb dL_isText_12 rfl (lv_at hl 0 rfl) ?_
        refine lv_iload_n hx hb dL_isText_13 rfl (lv_at hl 2 rfl) ?_
        refine lv_icmp_ge (tgt := 38) hx hb dL_isText_14 (by decide) (fun hc6 => ?_) (fun hc6 => ?_)
        · have hF := am_pos hc6 hF
          exact W.widen (by omega) (by omega) (kE y4 ab H locs ls (Option.some.inj hF).symm hh (lv_sub hl [0, 1, 2, 3] rfl))
        · have hF := am_neg hc6 hF
          refine lv_aload_n hx hb dL_isText_17 rfl (lv_at hl 1 rfl) ?_
          refine lv_iload_n hx hb dL_isText_18 rfl (lv_at hl 0 rfl) ?_
          obtain ⟨z9, hk7, hF⟩ := am_bind hF
          refine am_callX X hh (vx_runV (As := [.int y4]) (rest := []) X.1 (c_X10_outputAt l G hst hk7) (cwV 1 hts gL_isText_X10_outputAt rfl rfl rfl (by decide +kernel) ⟨Nat.le_of_ble_eq_true rfl, Nat.le_of_ble_eq_true rfl⟩) (am_preV X hh 0 11 (by decide) rfl rfl) rfl rfl hl.1 rfl (lv_room (Nat.le_of_ble_eq_true rfl)) dL_isText_19 ⟨by show (0 + 1 * j) + 1 ≤ 24; omega, by show (0 + 6 * j) + 6 ≤ 144; omega⟩) (fun k ab H locs ce q hz hh hce hcv hcl => ?_) (fun r8 ab H locs hz hh => ?_)
          · subst hz
            cases hF
          · subst hz
            have hF := am_zr hF
            refine lv_aload_n hx hb dL_isText_22 rfl (lv_at hl 3 rfl) ?_
            refine lv_iload_n hx hb dL_isText_23 rfl (lv_at hl 0 rfl) ?_
            obtain ⟨r11, hk10, hF⟩ := am_bind hF
            refine am_callF X hh (va_runV (As := [.int y4]) (rest := [.int r8]) X.1 (c_J0_charAt_5068e l G hx2 hk10) (cwV 1 hts gL_isText_J0_charAt_5068e rfl rfl rfl (by decide +kernel) ⟨Nat.le_of_ble_eq_true rfl, Nat.le_of_ble_eq_true rfl⟩) ⟨am_blindF, tx_recv X.2.2.1.2.1.2.2.2.2 (i := x2) hx2 hh.2.2, fun U hU hW => ⟨rfl, am_relF X hh hU hW⟩⟩ rfl rfl hl.1 rfl (lv_room (Nat.le_of_ble_eq_true rfl)) dL_isText_24 ⟨by show ((0 + 1 * j) + 1) + 0 ≤ 24; omega, by show ((0 + 6 * j) + 6) + 0 ≤ 144; omega⟩) (fun H locs hh => ?_)
            refine lv_icmp_eq (tgt := 32) hx hb dL_isText_27 (by decide) (fun hc12 => ?_) (fun hc12 => ?_)
            · have hF := am_pos hc12 hF
              refine lv_iinc (v := (y4 + (1 : Int32))) (lv' := [(3, .int (y4 + (1 : Int32))), (0, .ref (gAd G 0)), (1, .int x1), (2, .ref (gAv G (100 + x2)))]) hx hb dL_isText_32 hl (k := 0) rfl rfl (by decide) rfl (fun ls hl => ?_)
              refine lv_goto (tgt := 12) hx hb dL_isText_35 (by decide) ?_
              exact W.widen (by omega) (by omega) (ih (j + 1) (y4 + (1 : Int32)) ab H locs ls _ (by omega) hF hh (lv_sub hl [0, 1, 2, 3] rfl) kE kR)
            · have hF := am_neg hc12 hF
              refine lv_iconst (v := (0 : Int32)) hx hb dL_isText_30 (by decide) ?_
              have hF := kR _ (Option.some.inj hF).symm
              exact am_zret (v' := (0 : Int32)) X hr rfl hh (fun t ht => am_qp (mk := oI) hF ht) (by omega) (by omega) dL_isText_31
    obtain ⟨z13, hz14, hF⟩ := am_bind hF
    refine W.widen (show 0 ≤ 0 + 1 * 0 by omega) (show 0 ≤ 0 + 6 * 0 by omega) (hlp12 24 0 (0 : Int32) ab H locs ls z13 (Nat.le_refl _) hz14 hh (lv_sub hl [0, 1, 2, 3] rfl) (fun y4 ab H locs ls hz hh hl => ?_) (fun r hz => ?_))
    · subst hz
      have hF := am_zl hF
      refine lv_iconst (v := (1 : Int32)) hx hb dL_isText_38 (by decide) ?_
      exact am_zret (v' := (1 : Int32)) X hr rfl hh (fun t ht => am_qp (mk := oI) hF ht) (Nat.le_of_ble_eq_true rfl) (Nat.le_of_ble_eq_true rfl) dL_isText_39
    · subst hz
      have hF := am_zr hF
      exact hF
  · have hF := am_neg hc3 hF
    refine lv_iconst (v := (0 : Int32)) hx hb dL_isText_8 (by decide) ?_
    exact am_zret (v' := (0 : Int32)) X hr rfl hh (fun t ht => am_qp (mk := oI) hF ht) (Nat.le_of_ble_eq_true rfl) (Nat.le_of_ble_eq_true rfl) dL_isText_9
def f_L_eclipse (w : Wd) (x1 : Int32) (x2 : Int32) (x3 : Int32) (x4 : Int32) : Option (Int32 × Wd) := (if x1 = 0 then ((f_X10_nextEclipseByTurns w x2 x3 x4).bind fun z => u2 z fun z w4 => zc z (fun k => (if k = 0 then (some ((-1 : Int32), w4)) else (if k = 1 then (some ((-2 : Int32), w4)) else (if k = 2 then (some ((-3 : Int32), w4)) else (if k = 4 then (some ((-5 : Int32), w4)) else none))))) (fun r3 => (some (r3, w4)))) else ((f_X10_nextEclipse w x2 x3 x4).bind fun z => u2 z fun z w12 => zc z (fun k => (if k = 0 then (some ((-1 : Int32), w12)) else (if k = 1 then (some ((-2 : Int32), w12)) else (if k = 2 then (some ((-3 : Int32), w12)) else (if k = 4 then (some ((-5 : Int32), w12)) else none))))) (fun r11 => (some (r11, w12)))))
set_option maxHeartbeats 4000000 in
set_option maxRecDepth 100000 in
theorem c_L_eclipse (l : Launch) (G : GG) (hst : l.stackTraces = false) {w : Wd} {x1 : Int32} {x2 : Int32} {x3 : Int32} {x4 : Int32} {r0 : Int32} {w1 : Wd} (hF : f_L_eclipse w x1 x2 x3 x4 = some (r0, w1)) : vx_Met l yL_eclipse wsL_eclipse ({ frames := 8, cells := 2, slots := 12, locals := 157 } : Room) (va_Pc [.ref (gAd G 0), .int x1, .int x2, .int x3, .int x4] (Rel G w)) (amQ G (oI r0) w1) (fun _ _ _ => False) 2 12 (gA G) := by
  refine am_metW (own := RL) (cc := cL_eclipse) (maxL := 6) (ret := (some .int)) (by decide +kernel) rfl rfl (Nat.le_of_ble_eq_true rfl) ?_
  intro p e s m args below meth c ab H locs ls X hr htb hh hl
  have hx := X.1.1; have hb := X.1.2.1; have hml := X.1.2.2.1; have hown := X.1.2.2.2.1; have hts := X.1.2.2.2.2
  have hl : lv_has ls 6 [(0, .ref (gAd G 0)), (1, .int x1), (2, .int x2), (3, .int x3), (4, .int x4)] := hl
  unfold f_L_eclipse at hF
  refine lv_iload_n hx hb dL_eclipse_0 rfl (lv_at hl 1 rfl) ?_
  refine lv_if_eq (tgt := 15) hx hb dL_eclipse_1 (by decide) (fun hc1 => ?_) (fun hc1 => ?_)
  · have hF := am_pos hc1 hF
    refine lv_aload_n hx hb dL_eclipse_15 rfl (lv_at hl 0 rfl) ?_
    refine lv_iload_n hx hb dL_eclipse_16 rfl (lv_at hl 2 rfl) ?_
    refine lv_iload_n hx hb dL_eclipse_17 rfl (lv_at hl 3 rfl) ?_
    refine lv_iload hx hb dL_eclipse_18 (lv_at hl 4 rfl) ?_
    obtain ⟨⟨z5, w4⟩, hk2, hF⟩ := am_bind hF
    have hF := am_u2 hF
    refine am_callX X hh (vx_runV (As := [.int x2, .int x3, .int x4]) (rest := []) X.1 (c_X10_nextEclipseByTurns l G hst hk2) (cwV 3 hts gL_eclipse_X10_nextEclipseByTurns rfl rfl rfl (by decide +kernel) ⟨Nat.le_of_ble_eq_true rfl, Nat.le_of_ble_eq_true rfl⟩) (am_preV X hh 0 11 (by decide) rfl rfl) rfl rfl hl.1 rfl (lv_room (Nat.le_of_ble_eq_true rfl)) dL_eclipse_20 ⟨Nat.le_of_ble_eq_true rfl, Nat.le_of_ble_eq_true rfl⟩) (fun k ab H locs ce q hz hh hce hcv hcl => ?_) (fun r3 ab H locs hz hh => ?_)
    · subst hz
      have hF := am_zl hF
      by_cases he6 : k = 0
      · subst he6
        have hF := am_pos rfl hF
        refine vx_catch (own := RL) (name := exN 0) (E := exN 0) hown [] ⟨0, 23, 24, 107⟩ [⟨0, 23, 28, 109⟩, ⟨0, 23, 33, 111⟩, ⟨0, 23, 38, 115⟩] (htb.trans rfl) (List.forall_mem_nil _) (by decide) (by decide) (hts _ (show Cond.classLink RL 107 "java/lang/IndexOutOfBoundsException" ∈ wsL_eclipse by decide +kernel)) ((X.2.2.1.2.2.2.1 0).use rfl) hce hcv hcl ?_
        refine lv_astore (lv' := [(5, .ref q), (0, .ref (gAd G 0)), (1, .int x1), (2, .int x2), (3, .int x3), (4, .int x4)]) hx hb dL_eclipse_24 hl (by decide) rfl (fun ls hl => ?_)
        refine lv_iconst (v := (-1 : Int32)) hx hb dL_eclipse_26 (by decide) ?_
        exact am_iret X hr hh (fun t ht => am_qw (mk := oI) hF ht) (Nat.le_of_ble_eq_true rfl) (Nat.le_of_ble_eq_true rfl) dL_eclipse_27
      · have hF := am_neg he6 hF
        by_cases he7 : k = 1
        · subst he7
          have hF := am_pos rfl hF
          refine vx_catch (own := RL) (name := exN 1) (E := exN 1) hown [⟨0, 23, 24, 107⟩] ⟨0, 23, 28, 109⟩ [⟨0, 23, 33, 111⟩, ⟨0, 23, 38, 115⟩] (htb.trans rfl) (List.forall_mem_cons.mpr ⟨Or.inr ⟨by decide, exN 0, hts _ (show Cond.classLink RL 107 "java/lang/IndexOutOfBoundsException" ∈ wsL_eclipse by decide +kernel), X.2.2.1.2.2.2.2.1 1 0 (by decide) (by decide) (by decide)⟩, List.forall_mem_nil _⟩) (by decide) (by decide) (hts _ (show Cond.classLink RL 109 "java/lang/IllegalArgumentException" ∈ wsL_eclipse by decide +kernel)) ((X.2.2.1.2.2.2.1 1).use rfl) hce hcv hcl ?_
          refine lv_astore (lv' := [(5, .ref q), (0, .ref (gAd G 0)), (1, .int x1), (2, .int x2), (3, .int x3), (4, .int x4)]) hx hb dL_eclipse_28 hl (by decide) rfl (fun ls hl => ?_)
          refine lv_bipush (v := (-2 : Int32)) hx hb dL_eclipse_30 (by decide) ?_
          exact am_iret X hr hh (fun t ht => am_qw (mk := oI) hF ht) (Nat.le_of_ble_eq_true rfl) (Nat.le_of_ble_eq_true rfl) dL_eclipse_32
        · have hF := am_neg he7 hF
          by_cases he8 : k = 2
          · subst he8
            have hF := am_pos rfl hF
            refine vx_catch (own := RL) (name := exN 2) (E := exN 2) hown [⟨0, 23, 24, 107⟩, ⟨0, 23, 28, 109⟩] ⟨0, 23, 33, 111⟩ [⟨0, 23, 38, 115⟩] (htb.trans rfl) (List.forall_mem_cons.mpr ⟨Or.inr ⟨by decide, exN 0, hts _ (show Cond.classLink RL 107 "java/lang/IndexOutOfBoundsException" ∈ wsL_eclipse by decide +kernel), X.2.2.1.2.2.2.2.1 2 0 (by decide) (by decide) (by decide)⟩, List.forall_mem_cons.mpr ⟨Or.inr ⟨by decide, exN 1, hts _ (show Cond.classLink RL 109 "java/lang/IllegalArgumentException" ∈ wsL_eclipse by decide +kernel), X.2.2.1.2.2.2.2.1 2 1 (by decide) (by decide) (by decide)⟩, List.forall_mem_nil _⟩⟩) (by decide) (by decide) (hts _ (show Cond.classLink RL 111 "java/lang/IllegalStateException" ∈ wsL_eclipse by decide +kernel)) ((X.2.2.1.2.2.2.1 2).use rfl) hce hcv hcl ?_
            refine lv_astore (lv' := [(5, .ref q), (0, .ref (gAd G 0)), (1, .int x1), (2, .int x2), (3, .int x3), (4, .int x4)]) hx hb dL_eclipse_33 hl (by decide) rfl (fun ls hl => ?_)
            refine lv_bipush (v := (-3 : Int32)) hx hb dL_eclipse_35 (by decide) ?_
            exact am_iret X hr hh (fun t ht => am_qw (mk := oI) hF ht) (Nat.le_of_ble_eq_true rfl) (Nat.le_of_ble_eq_true rfl) dL_eclipse_37
          · have hF := am_neg he8 hF
            by_cases he9 : k = 4
            · subst he9
              have hF := am_pos rfl hF
              refine vx_catch (own := RL) (name := exN 4) (E := exN 4) hown [⟨0, 23, 24, 107⟩, ⟨0, 23, 28, 109⟩, ⟨0, 23, 33, 111⟩] ⟨0, 23, 38, 115⟩ [] (htb.trans rfl) (List.forall_mem_cons.mpr ⟨Or.inr ⟨by decide, exN 0, hts _ (show Cond.classLink RL 107 "java/lang/IndexOutOfBoundsException" ∈ wsL_eclipse by decide +kernel), X.2.2.1.2.2.2.2.1 4 0 (by decide) (by decide) (by decide)⟩, List.forall_mem_cons.mpr ⟨Or.inr ⟨by decide, exN 1, hts _ (show Cond.classLink RL 109 "java/lang/IllegalArgumentException" ∈ wsL_eclipse by decide +kernel), X.2.2.1.2.2.2.2.1 4 1 (by decide) (by decide) (by decide)⟩, List.forall_mem_cons.mpr ⟨Or.inr ⟨by decide, exN 2, hts _ (show Cond.classLink RL 111 "java/lang/IllegalStateException" ∈ wsL_eclipse by decide +kernel), X.2.2.1.2.2.2.2.1 4 2 (by decide) (by decide) (by decide)⟩, List.forall_mem_nil _⟩⟩⟩) (by decide) (by decide) (hts _ (show Cond.classLink RL 115 "java/util/NoSuchElementException" ∈ wsL_eclipse by decide +kernel)) ((X.2.2.1.2.2.2.1 4).use rfl) hce hcv hcl ?_
              refine lv_astore (lv' := [(5, .ref q), (0, .ref (gAd G 0)), (1, .int x1), (2, .int x2), (3, .int x3), (4, .int x4)]) hx hb dL_eclipse_38 hl (by decide) rfl (fun ls hl => ?_)
              refine lv_bipush (v := (-5 : Int32)) hx hb dL_eclipse_40 (by decide) ?_
              exact am_iret X hr hh (fun t ht => am_qw (mk := oI) hF ht) (Nat.le_of_ble_eq_true rfl) (Nat.le_of_ble_eq_true rfl) dL_eclipse_42
            · have hF := am_neg he9 hF
              cases hF
    · subst hz
      have hF := am_zr hF
      exact am_iret X hr hh (fun t ht => am_qw (mk := oI) hF ht) (Nat.le_of_ble_eq_true rfl) (Nat.le_of_ble_eq_true rfl) dL_eclipse_23
  · have hF := am_neg hc1 hF
    refine lv_aload_n hx hb dL_eclipse_4 rfl (lv_at hl 0 rfl) ?_
    refine lv_iload_n hx hb dL_eclipse_5 rfl (lv_at hl 2 rfl) ?_
    refine lv_iload_n hx hb dL_eclipse_6 rfl (lv_at hl 3 rfl) ?_
    refine lv_iload hx hb dL_eclipse_7 (lv_at hl 4 rfl) ?_
    obtain ⟨⟨z13, w12⟩, hk10, hF⟩ := am_bind hF
    have hF := am_u2 hF
    refine am_callX X hh (vx_runV (As := [.int x2, .int x3, .int x4]) (rest := []) X.1 (c_X10_nextEclipse l G hst hk10) (cwV 3 hts gL_eclipse_X10_nextEclipse rfl rfl rfl (by decide +kernel) ⟨Nat.le_of_ble_eq_true rfl, Nat.le_of_ble_eq_true rfl⟩) (am_preV X hh 0 11 (by decide) rfl rfl) rfl rfl hl.1 rfl (lv_room (Nat.le_of_ble_eq_true rfl)) dL_eclipse_9 ⟨Nat.le_of_ble_eq_true rfl, Nat.le_of_ble_eq_true rfl⟩) (fun k ab H locs ce q hz hh hce hcv hcl => ?_) (fun r11 ab H locs hz hh => ?_)
    · subst hz
      have hF := am_zl hF
      by_cases he14 : k = 0
      · subst he14
        have hF := am_pos rfl hF
        refine vx_catch (own := RL) (name := exN 0) (E := exN 0) hown [] ⟨0, 23, 24, 107⟩ [⟨0, 23, 28, 109⟩, ⟨0, 23, 33, 111⟩, ⟨0, 23, 38, 115⟩] (htb.trans rfl) (List.forall_mem_nil _) (by decide) (by decide) (hts _ (show Cond.classLink RL 107 "java/lang/IndexOutOfBoundsException" ∈ wsL_eclipse by decide +kernel)) ((X.2.2.1.2.2.2.1 0).use rfl) hce hcv hcl ?_
        refine lv_astore (lv' := [(5, .ref q), (0, .ref (gAd G 0)), (1, .int x1), (2, .int x2), (3, .int x3), (4, .int x4)]) hx hb dL_eclipse_24 hl (by decide) rfl (fun ls hl => ?_)
        refine lv_iconst (v := (-1 : Int32)) hx hb dL_eclipse_26 (by decide) ?_
        exact am_iret X hr hh (fun t ht => am_qw (mk := oI) hF ht) (Nat.le_of_ble_eq_true rfl) (Nat.le_of_ble_eq_true rfl) dL_eclipse_27
      · have hF := am_neg he14 hF
        by_cases he15 : k = 1
        · subst he15
          have hF := am_pos rfl hF
          refine vx_catch (own := RL) (name := exN 1) (E := exN 1) hown [⟨0, 23, 24, 107⟩] ⟨0, 23, 28, 109⟩ [⟨0, 23, 33, 111⟩, ⟨0, 23, 38, 115⟩] (htb.trans rfl) (List.forall_mem_cons.mpr ⟨Or.inr ⟨by decide, exN 0, hts _ (show Cond.classLink RL 107 "java/lang/IndexOutOfBoundsException" ∈ wsL_eclipse by decide +kernel), X.2.2.1.2.2.2.2.1 1 0 (by decide) (by decide) (by decide)⟩, List.forall_mem_nil _⟩) (by decide) (by decide) (hts _ (show Cond.classLink RL 109 "java/lang/IllegalArgumentException" ∈ wsL_eclipse by decide +kernel)) ((X.2.2.1.2.2.2.1 1).use rfl) hce hcv hcl ?_
          refine lv_astore (lv' := [(5, .ref q), (0, .ref (gAd G 0)), (1, .int x1), (2, .int x2), (3, .int x3), (4, .int x4)]) hx hb dL_eclipse_28 hl (by decide) rfl (fun ls hl => ?_)
          refine lv_bipush (v := (-2 : Int32)) hx hb dL_eclipse_30 (by decide) ?_
          exact am_iret X hr hh (fun t ht => am_qw (mk := oI) hF ht) (Nat.le_of_ble_eq_true rfl) (Nat.le_of_ble_eq_true rfl) dL_eclipse_32
        · have hF := am_neg he15 hF
          by_cases he16 : k = 2
          · subst he16
            have hF := am_pos rfl hF
            refine vx_catch (own := RL) (name := exN 2) (E := exN 2) hown [⟨0, 23, 24, 107⟩, ⟨0, 23, 28, 109⟩] ⟨0, 23, 33, 111⟩ [⟨0, 23, 38, 115⟩] (htb.trans rfl) (List.forall_mem_cons.mpr ⟨Or.inr ⟨by decide, exN 0, hts _ (show Cond.classLink RL 107 "java/lang/IndexOutOfBoundsException" ∈ wsL_eclipse by decide +kernel), X.2.2.1.2.2.2.2.1 2 0 (by decide) (by decide) (by decide)⟩, List.forall_mem_cons.mpr ⟨Or.inr ⟨by decide, exN 1, hts _ (show Cond.classLink RL 109 "java/lang/IllegalArgumentException" ∈ wsL_eclipse by decide +kernel), X.2.2.1.2.2.2.2.1 2 1 (by decide) (by decide) (by decide)⟩, List.forall_mem_nil _⟩⟩) (by decide) (by decide) (hts _ (show Cond.classLink RL 111 "java/lang/IllegalStateException" ∈ wsL_eclipse by decide +kernel)) ((X.2.2.1.2.2.2.1 2).use rfl) hce hcv hcl ?_
            refine lv_astore (lv' := [(5, .ref q), (0, .ref (gAd G 0)), (1, .int x1), (2, .int x2), (3, .int x3), (4, .int x4)]) hx hb dL_eclipse_33 hl (by decide) rfl (fun ls hl => ?_)
            refine lv_bipush (v := (-3 : Int32)) hx hb dL_eclipse_35 (by decide) ?_
            exact am_iret X hr hh (fun t ht => am_qw (mk := oI) hF ht) (Nat.le_of_ble_eq_true rfl) (Nat.le_of_ble_eq_true rfl) dL_eclipse_37
          · have hF := am_neg he16 hF
            by_cases he17 : k = 4
            · subst he17
              have hF := am_pos rfl hF
              refine vx_catch (own := RL) (name := exN 4) (E := exN 4) hown [⟨0, 23, 24, 107⟩, ⟨0, 23, 28, 109⟩, ⟨0, 23, 33, 111⟩] ⟨0, 23, 38, 115⟩ [] (htb.trans rfl) (List.forall_mem_cons.mpr ⟨Or.inr ⟨by decide, exN 0, hts _ (show Cond.classLink RL 107 "java/lang/IndexOutOfBoundsException" ∈ wsL_eclipse by decide +kernel), X.2.2.1.2.2.2.2.1 4 0 (by decide) (by decide) (by decide)⟩, List.forall_mem_cons.mpr ⟨Or.inr ⟨by decide, exN 1, hts _ (show Cond.classLink RL 109 "java/lang/IllegalArgumentException" ∈ wsL_eclipse by decide +kernel), X.2.2.1.2.2.2.2.1 4 1 (by decide) (by decide) (by decide)⟩, List.forall_mem_cons.mpr ⟨Or.inr ⟨by decide, exN 2, hts _ (show Cond.classLink RL 111 "java/lang/IllegalStateException" ∈ wsL_eclipse by decide +kernel), X.2.2.1.2.2.2.2.1 4 2 (by decide) (by decide) (by decide)⟩, List.forall_mem_nil _⟩⟩⟩) (by decide) (by decide) (hts _ (show Cond.classLink RL 115 "java/util/NoSuchElementException" ∈ wsL_eclipse by decide +kernel)) ((X.2.2.1.2.2.2.1 4).use rfl) hce hcv hcl ?_
              refine lv_astore (lv' := [(5, .ref q), (0, .ref (gAd G 0)), (1, .int x1), (2, .int x2), (3, .int x3), (4, .int x4)]) hx hb dL_eclipse_38 hl (by decide) rfl (fun ls hl => ?_)
              refine lv_bipush (v := (-5 : Int32)) hx hb dL_eclipse_40 (by decide) ?_
              exact am_iret X hr hh (fun t ht => am_qw (mk := oI) hF ht) (Nat.le_of_ble_eq_true rfl) (Nat.le_of_ble_eq_true rfl) dL_eclipse_42
            · have hF := am_neg he17 hF
              cases hF
    · subst hz
      have hF := am_zr hF
      refine lv_goto (tgt := 23) hx hb dL_eclipse_12 (by decide) ?_
      exact am_iret X hr hh (fun t ht => am_qw (mk := oI) hF ht) (Nat.le_of_ble_eq_true rfl) (Nat.le_of_ble_eq_true rfl) dL_eclipse_23
