def fB_J0_coder_7d493 (x0 : Nat) : Option Int32 := (some (0 : Int32))
set_option maxHeartbeats 4000000 in
set_option maxRecDepth 100000 in
theorem cB_J0_coder_7d493 (l : Launch) (G : GG) {ab : Nat} {w : Wd} {x0 : Nat} {r0 : Int32} (hx0 : gAv G (300 + x0) = 1) (hF : fB_J0_coder_7d493 x0 = some r0) : Met l yJ0_coder_7d493 wsJ0_coder_7d493 ({ frames := 0, cells := 0, slots := 0, locals := 0 } : Room) (va_Pc [.ref (gAv G (100 + x0))] (RelFB G ab w)) (amQFB G ab (oI r0) w) 0 0 (gA G) := by
  refine am_metBB (own := RJ0) (cc := cJ0_coder_7d493) (maxL := 1) (ret := (some .byte)) (by decide +kernel) rfl rfl (Nat.le_of_ble_eq_true rfl) ?_
  intro p e s m args below meth c H locs ls X hr hh hl
  have hx := X.1.1; have hb := X.1.2.1; have hml := X.1.2.2.1; have hown := X.1.2.2.2.1; have hts := X.1.2.2.2.2
  have hl : lv_has ls 1 [(0, .ref (gAv G (100 + x0)))] := hl
  unfold fB_J0_coder_7d493 at hF
  refine va_gets hx hb X.2.2.1.2.2.1.1 hh.2.2 hown (hts _ (show Cond.fieldLink RJ0 38 "java/lang/String" "COMPACT_STRINGS" "Z"  ∈ wsJ0_coder_7d493 by decide +kernel)) (fun _ h9 => h9) dJ0_coder_7d493_0 ?_
  refine lv_if_eq (tgt := 13) hx hb dJ0_coder_7d493_3 (by decide) (fun hz => absurd hz (by decide)) (fun _ => ?_)
  refine lv_aload_n hx hb dJ0_coder_7d493_6 rfl (lv_at hl 0 rfl) ?_
  refine vk_getf hx hb (X.2.2.1.2.1.2.2.2.2.1 x0 hx0).2.1 hh.2.2 hown (hts _ (show Cond.fieldLink RJ0 15 "java/lang/String" "coder" "B"  ∈ wsJ0_coder_7d493 by decide +kernel)) (fun _ h9 => h9) dJ0_coder_7d493_7 ?_
  refine lv_goto (tgt := 14) hx hb dJ0_coder_7d493_10 (by decide) ?_
  exact amF_zretB (v' := (0 : Int32)) X hr rfl hh (fun t ht => am_qpFB (mk := oI) hF ht) (Nat.le_of_ble_eq_true rfl) (Nat.le_of_ble_eq_true rfl) dJ0_coder_7d493_14
def fB_J0_length_8abf5 (x0 : Nat) : Option Int32 := ((fB_J0_coder_7d493 x0).bind fun r2 => (some ((nI (cLens.getD x0 0)) >>> (r2 &&& 31))))
set_option maxHeartbeats 4000000 in
set_option maxRecDepth 100000 in
theorem cB_J0_length_8abf5 (l : Launch) (G : GG) {ab : Nat} {w : Wd} {x0 : Nat} {r0 : Int32} (hx0 : gAv G (300 + x0) = 1) (hF : fB_J0_length_8abf5 x0 = some r0) : Met l yJ0_length_8abf5 wsJ0_length_8abf5 ({ frames := 1, cells := 0, slots := 0, locals := 20 } : Room) (va_Pc [.ref (gAv G (100 + x0))] (RelFB G ab w)) (amQFB G ab (oI r0) w) 0 0 (gA G) := by
  refine am_metBB (own := RJ0) (cc := cJ0_length_8abf5) (maxL := 1) (ret := (some .int)) (by decide +kernel) rfl rfl (Nat.le_of_ble_eq_true rfl) ?_
  intro p e s m args below meth c H locs ls X hr hh hl
  have hx := X.1.1; have hb := X.1.2.1; have hml := X.1.2.2.1; have hown := X.1.2.2.2.1; have hts := X.1.2.2.2.2
  have hl : lv_has ls 1 [(0, .ref (gAv G (100 + x0)))] := hl
  unfold fB_J0_length_8abf5 at hF
  refine lv_aload_n hx hb dJ0_length_8abf5_0 rfl (lv_at hl 0 rfl) ?_
  refine vk_getf hx hb (X.2.2.1.2.1.2.2.2.2.1 x0 hx0).2.2.1 hh.2.2 hown (hts _ (show Cond.fieldLink RJ0 9 "java/lang/String" "value" "[B"  ∈ wsJ0_length_8abf5 by decide +kernel)) (fun _ h9 => h9) dJ0_length_8abf5_1 ?_
  refine va_tlen (v := nI (cLens.getD x0 0)) hx hb (X.2.2.1.2.1.2.2.2.2.1 x0 hx0).2.2.2 hh.2.2 rfl dJ0_length_8abf5_4 ?_
  refine lv_aload_n hx hb dJ0_length_8abf5_5 rfl (lv_at hl 0 rfl) ?_
  obtain ⟨r2, hk1, hF⟩ := am_bind hF
  refine am_callFB X hh (va_runV (As := []) (rest := [.int (nI (cLens.getD x0 0))]) X.1 (cB_J0_coder_7d493 l G hx0 hk1) (cwV 0 hts gJ0_length_8abf5_J0_coder_7d493 rfl rfl rfl (by decide +kernel) ⟨Nat.le_of_ble_eq_true rfl, Nat.le_of_ble_eq_true rfl⟩) ⟨am_blindFB, tx_recv X.2.2.1.2.1.2.2.2.2 (i := x0) hx0 hh.2.2, fun U hU hW => ⟨rfl, am_relFB X hh hU hW⟩⟩ rfl rfl hl.1 rfl (lv_room (Nat.le_of_ble_eq_true rfl)) dJ0_length_8abf5_6 ⟨Nat.le_of_ble_eq_true rfl, Nat.le_of_ble_eq_true rfl⟩) (fun H locs hh => ?_)
  refine lv_ishr hx hb dJ0_length_8abf5_9 ?_
  exact amF_iretB X hr hh (fun t ht => am_qpFB (mk := oI) hF ht) (Nat.le_of_ble_eq_true rfl) (Nat.le_of_ble_eq_true rfl) dJ0_length_8abf5_10
def pB_J6_stringSize_0f7a4_16 (x0 : Int32) : Nat → Int32 → Int32 → Option ((Int32 × Int32) ⊕ Int32)
  | 0, _, _ => none
  | n + 1, y2, y3 => (if (10 : Int32) ≤ y3 then (some (.inl (y2, y3))) else (if x0 ≤ y2 then (pB_J6_stringSize_0f7a4_16 x0 n ((10 : Int32) * y2) (y3 + (1 : Int32))) else (some (.inr (y3 + (1 : Int32))))))
def pB_J6_stringSize_0f7a4_16b (c11 : Int32) : Nat → Int32 → Int32 → Option ((Int32 × Int32) ⊕ Int32)
  | 0, _, _ => none
  | n + 1, y9, y10 => (if (10 : Int32) ≤ y10 then (some (.inl (y9, y10))) else (if c11 ≤ y9 then (pB_J6_stringSize_0f7a4_16b c11 n ((10 : Int32) * y9) (y10 + (1 : Int32))) else (some (.inr (y10 + (0 : Int32))))))
def fB_J6_stringSize_0f7a4 (x0 : Int32) : Option Int32 := (if x0 < 0 then ((pB_J6_stringSize_0f7a4_16 x0 2000 (-10 : Int32) (1 : Int32)).bind fun z => zc z (fun q => u2 q fun y2 y3 => (some ((10 : Int32) + (1 : Int32)))) (fun r => (some r))) else ((pB_J6_stringSize_0f7a4_16b (-x0) 2000 (-10 : Int32) (1 : Int32)).bind fun z => zc z (fun q => u2 q fun y9 y10 => (some ((10 : Int32) + (0 : Int32)))) (fun r => (some r))))
set_option maxHeartbeats 4000000 in
set_option maxRecDepth 100000 in
theorem cB_J6_stringSize_0f7a4 (l : Launch) (G : GG) {ab : Nat} {w : Wd} {x0 : Int32} {r0 : Int32} (hF : fB_J6_stringSize_0f7a4 x0 = some r0) : Met l yJ6_stringSize_0f7a4 wsJ6_stringSize_0f7a4 ({ frames := 0, cells := 0, slots := 0, locals := 0 } : Room) (va_Pc [.int x0] (RelFB G ab w)) (amQFB G ab (oI r0) w) 0 0 (gA G) := by
  refine am_metBB (own := RJ6) (cc := cJ6_stringSize_0f7a4) (maxL := 4) (ret := (some .int)) (by decide +kernel) rfl rfl (Nat.le_of_ble_eq_true rfl) ?_
  intro p e s m args below meth c H locs ls X hr hh hl
  have hx := X.1.1; have hb := X.1.2.1; have hml := X.1.2.2.1; have hown := X.1.2.2.2.1; have hts := X.1.2.2.2.2
  have hl : lv_has ls 4 [(0, .int x0)] := hl
  unfold fB_J6_stringSize_0f7a4 at hF
  refine lv_iconst (v := (1 : Int32)) hx hb dJ6_stringSize_0f7a4_0 (by decide) ?_
  refine lv_istore_n (lv' := [(1, .int (1 : Int32)), (0, .int x0)]) hx hb dJ6_stringSize_0f7a4_1 rfl hl (by decide) rfl (fun ls hl => ?_)
  refine lv_iload_n hx hb dJ6_stringSize_0f7a4_2 rfl (lv_at hl 1 rfl) ?_
  refine lv_if_lt (tgt := 11) hx hb dJ6_stringSize_0f7a4_3 (by decide) (fun hc1 => ?_) (fun hc1 => ?_)
  · have hF := am_pos hc1 hF
    refine lv_bipush (v := (-10 : Int32)) hx hb dJ6_stringSize_0f7a4_11 (by decide) ?_
    refine lv_istore_n (lv' := [(2, .int (-10 : Int32)), (1, .int (1 : Int32)), (0, .int x0)]) hx hb dJ6_stringSize_0f7a4_13 rfl hl (by decide) rfl (fun ls hl => ?_)
    refine lv_iconst (v := (1 : Int32)) hx hb dJ6_stringSize_0f7a4_14 (by decide) ?_
    refine lv_istore_n (lv' := [(3, .int (1 : Int32)), (2, .int (-10 : Int32)), (1, .int (1 : Int32)), (0, .int x0)]) hx hb dJ6_stringSize_0f7a4_15 rfl hl (by decide) rfl (fun ls hl => ?_)
    have hlp16 : ∀ (n : Nat) (y2 : Int32) (y3 : Int32) (ab : Nat) (H : Heap) (locs : List Loc) (ls : Array Slot) (z : (Int32 × Int32) ⊕ Int32), pB_J6_stringSize_0f7a4_16 x0 n y2 y3 = some z → AHB G s.heap w ab H locs → lv_has ls 4 [(2, .int y2), (3, .int y3), (1, .int (1 : Int32)), (0, .int x0)] → (∀ (y2 : Int32) (y3 : Int32) (ab : Nat) (H : Heap) (locs : List Loc) (ls : Array Slot), z = .inl (y2, y3) → AHB G s.heap w ab H locs → lv_has ls 4 [(2, .int y2), (3, .int y3), (1, .int (1 : Int32)), (0, .int x0)] → W p l e ({ frames := 0, cells := 0, slots := 0, locals := 0 } : Room) s m args below meth c H locs 0 0 (MQ below (amQFB G ab (oI r0) w) args s 0 0 (gA G)) (F0 m 42 ls [])) → (∀ r, z = .inr r → some r = some r0) → W p l e ({ frames := 0, cells := 0, slots := 0, locals := 0 } : Room) s m args below meth c H locs 0 0 (MQ below (amQFB G ab (oI r0) w) args s 0 0 (gA G)) (F0 m 16 ls []) := by
      intro n
      induction n with
      | zero =>
        intro y2 y3 ab H locs ls z hF
        unfold pB_J6_stringSize_0f7a4_16 at hF
        cases hF
      | succ n ih =>
        intro y2 y3 ab H locs ls z hF hh hl kE kR
        unfold pB_J6_stringSize_0f7a4_16 at hF
        refine lv_iload_n hx hb dJ6_stringSize_0f7a4_16 rfl (lv_at hl 1 rfl) ?_
        refine lv_bipush (v := (10 : Int32)) hx hb dJ6_stringSize_0f7a4_17 (by decide) ?_
        refine lv_icmp_ge (tgt := 42) hx hb dJ6_stringSize_0f7a4_19 (by decide) (fun hc5 => ?_) (fun hc5 => ?_)
        · have hF := am_pos hc5 hF
          exact kE y2 y3 ab H locs ls (Option.some.inj hF).symm hh (lv_sub hl [0, 1, 2, 3] rfl)
        · have hF := am_neg hc5 hF
          refine lv_iload_n hx hb dJ6_stringSize_0f7a4_22 rfl (lv_at hl 3 rfl) ?_
          refine lv_iload_n hx hb dJ6_stringSize_0f7a4_23 rfl (lv_at hl 0 rfl) ?_
          refine lv_icmp_le (tgt := 31) hx hb dJ6_stringSize_0f7a4_24 (by decide) (fun hc6 => ?_) (fun hc6 => ?_)
          · have hF := am_pos hc6 hF
            refine lv_bipush (v := (10 : Int32)) hx hb dJ6_stringSize_0f7a4_31 (by decide) ?_
            refine lv_iload_n hx hb dJ6_stringSize_0f7a4_33 rfl (lv_at hl 0 rfl) ?_
            refine lv_imul hx hb dJ6_stringSize_0f7a4_34 ?_
            refine lv_istore_n (lv' := [(2, .int ((10 : Int32) * y2)), (3, .int y3), (1, .int (1 : Int32)), (0, .int x0)]) hx hb dJ6_stringSize_0f7a4_35 rfl hl (by decide) rfl (fun ls hl => ?_)
            refine lv_iinc (v := (y3 + (1 : Int32))) (lv' := [(3, .int (y3 + (1 : Int32))), (2, .int ((10 : Int32) * y2)), (1, .int (1 : Int32)), (0, .int x0)]) hx hb dJ6_stringSize_0f7a4_36 hl (k := 1) rfl rfl (by decide) rfl (fun ls hl => ?_)
            refine lv_goto (tgt := 16) hx hb dJ6_stringSize_0f7a4_39 (by decide) ?_
            exact ih ((10 : Int32) * y2) (y3 + (1 : Int32)) ab H locs ls _ hF hh (lv_sub hl [1, 0, 2, 3] rfl) kE kR
          · have hF := am_neg hc6 hF
            refine lv_iload_n hx hb dJ6_stringSize_0f7a4_27 rfl (lv_at hl 1 rfl) ?_
            refine lv_iload_n hx hb dJ6_stringSize_0f7a4_28 rfl (lv_at hl 2 rfl) ?_
            refine lv_iadd hx hb dJ6_stringSize_0f7a4_29 ?_
            have hF := kR _ (Option.some.inj hF).symm
            exact amF_iretB X hr hh (fun t ht => am_qpFB (mk := oI) hF ht) (Nat.le_of_ble_eq_true rfl) (Nat.le_of_ble_eq_true rfl) dJ6_stringSize_0f7a4_30
    obtain ⟨z7, hz8, hF⟩ := am_bind hF
    refine hlp16 2000 (-10 : Int32) (1 : Int32) ab H locs ls z7 hz8 hh (lv_sub hl [1, 0, 2, 3] rfl) (fun y2 y3 ab H locs ls hz hh hl => ?_) (fun r hz => ?_)
    · subst hz
      have hF := am_zl hF
      have hF := am_u2 hF
      refine lv_bipush (v := (10 : Int32)) hx hb dJ6_stringSize_0f7a4_42 (by decide) ?_
      refine lv_iload_n hx hb dJ6_stringSize_0f7a4_44 rfl (lv_at hl 2 rfl) ?_
      refine lv_iadd hx hb dJ6_stringSize_0f7a4_45 ?_
      exact amF_iretB X hr hh (fun t ht => am_qpFB (mk := oI) hF ht) (Nat.le_of_ble_eq_true rfl) (Nat.le_of_ble_eq_true rfl) dJ6_stringSize_0f7a4_46
    · subst hz
      have hF := am_zr hF
      exact hF
  · have hF := am_neg hc1 hF
    refine lv_iconst (v := (0 : Int32)) hx hb dJ6_stringSize_0f7a4_6 (by decide) ?_
    refine lv_istore_n (lv' := [(1, .int (0 : Int32)), (0, .int x0)]) hx hb dJ6_stringSize_0f7a4_7 rfl hl (by decide) rfl (fun ls hl => ?_)
    refine lv_iload_n hx hb dJ6_stringSize_0f7a4_8 rfl (lv_at hl 1 rfl) ?_
    refine lv_ineg hx hb dJ6_stringSize_0f7a4_9 ?_
    refine lv_istore_n (lv' := [(0, .int (-x0)), (1, .int (0 : Int32))]) hx hb dJ6_stringSize_0f7a4_10 rfl hl (by decide) rfl (fun ls hl => ?_)
    refine lv_bipush (v := (-10 : Int32)) hx hb dJ6_stringSize_0f7a4_11 (by decide) ?_
    refine lv_istore_n (lv' := [(2, .int (-10 : Int32)), (0, .int (-x0)), (1, .int (0 : Int32))]) hx hb dJ6_stringSize_0f7a4_13 rfl hl (by decide) rfl (fun ls hl => ?_)
    refine lv_iconst (v := (1 : Int32)) hx hb dJ6_stringSize_0f7a4_14 (by decide) ?_
    refine lv_istore_n (lv' := [(3, .int (1 : Int32)), (2, .int (-10 : Int32)), (0, .int (-x0)), (1, .int (0 : Int32))]) hx hb dJ6_stringSize_0f7a4_15 rfl hl (by decide) rfl (fun ls hl => ?_)
    have hlp16 : ∀ (c11 : Int32) (n : Nat) (y9 : Int32) (y10 : Int32) (ab : Nat) (H : Heap) (locs : List Loc) (ls : Array Slot) (z : (Int32 × Int32) ⊕ Int32), pB_J6_stringSize_0f7a4_16b c11 n y9 y10 = some z → AHB G s.heap w ab H locs → lv_has ls 4 [(2, .int y9), (3, .int y10), (0, .int c11), (1, .int (0 : Int32))] → (∀ (y9 : Int32) (y10 : Int32) (ab : Nat) (H : Heap) (locs : List Loc) (ls : Array Slot), z = .inl (y9, y10) → AHB G s.heap w ab H locs → lv_has ls 4 [(2, .int y9), (3, .int y10), (0, .int c11), (1, .int (0 : Int32))] → W p l e ({ frames := 0, cells := 0, slots := 0, locals := 0 } : Room) s m args below meth c H locs 0 0 (MQ below (amQFB G ab (oI r0) w) args s 0 0 (gA G)) (F0 m 42 ls [])) → (∀ r, z = .inr r → some r = some r0) → W p l e ({ frames := 0, cells := 0, slots := 0, locals := 0 } : Room) s m args below meth c H locs 0 0 (MQ below (amQFB G ab (oI r0) w) args s 0 0 (gA G)) (F0 m 16 ls []) := by
      intro c11 n
      induction n with
      | zero =>
        intro y9 y10 ab H locs ls z hF
        unfold pB_J6_stringSize_0f7a4_16b at hF
        cases hF
      | succ n ih =>
        intro y9 y10 ab H locs ls z hF hh hl kE kR
        unfold pB_J6_stringSize_0f7a4_16b at hF
        refine lv_iload_n hx hb dJ6_stringSize_0f7a4_16 rfl (lv_at hl 1 rfl) ?_
        refine lv_bipush (v := (10 : Int32)) hx hb dJ6_stringSize_0f7a4_17 (by decide) ?_
        refine lv_icmp_ge (tgt := 42) hx hb dJ6_stringSize_0f7a4_19 (by decide) (fun hc13 => ?_) (fun hc13 => ?_)
        · have hF := am_pos hc13 hF
          exact kE y9 y10 ab H locs ls (Option.some.inj hF).symm hh (lv_sub hl [0, 1, 2, 3] rfl)
        · have hF := am_neg hc13 hF
          refine lv_iload_n hx hb dJ6_stringSize_0f7a4_22 rfl (lv_at hl 2 rfl) ?_
          refine lv_iload_n hx hb dJ6_stringSize_0f7a4_23 rfl (lv_at hl 0 rfl) ?_
          refine lv_icmp_le (tgt := 31) hx hb dJ6_stringSize_0f7a4_24 (by decide) (fun hc14 => ?_) (fun hc14 => ?_)
          · have hF := am_pos hc14 hF
            refine lv_bipush (v := (10 : Int32)) hx hb dJ6_stringSize_0f7a4_31 (by decide) ?_
            refine lv_iload_n hx hb dJ6_stringSize_0f7a4_33 rfl (lv_at hl 0 rfl) ?_
            refine lv_imul hx hb dJ6_stringSize_0f7a4_34 ?_
            refine lv_istore_n (lv' := [(2, .int ((10 : Int32) * y9)), (3, .int y10), (0, .int c11), (1, .int (0 : Int32))]) hx hb dJ6_stringSize_0f7a4_35 rfl hl (by decide) rfl (fun ls hl => ?_)
            refine lv_iinc (v := (y10 + (1 : Int32))) (lv' := [(3, .int (y10 + (1 : Int32))), (2, .int ((10 : Int32) * y9)), (0, .int c11), (1, .int (0 : Int32))]) hx hb dJ6_stringSize_0f7a4_36 hl (k := 1) rfl rfl (by decide) rfl (fun ls hl => ?_)
            refine lv_goto (tgt := 16) hx hb dJ6_stringSize_0f7a4_39 (by decide) ?_
            exact ih ((10 : Int32) * y9) (y10 + (1 : Int32)) ab H locs ls _ hF hh (lv_sub hl [1, 0, 2, 3] rfl) kE kR
          · have hF := am_neg hc14 hF
            refine lv_iload_n hx hb dJ6_stringSize_0f7a4_27 rfl (lv_at hl 1 rfl) ?_
            refine lv_iload_n hx hb dJ6_stringSize_0f7a4_28 rfl (lv_at hl 3 rfl) ?_
            refine lv_iadd hx hb dJ6_stringSize_0f7a4_29 ?_
            have hF := kR _ (Option.some.inj hF).symm
            exact amF_iretB X hr hh (fun t ht => am_qpFB (mk := oI) hF ht) (Nat.le_of_ble_eq_true rfl) (Nat.le_of_ble_eq_true rfl) dJ6_stringSize_0f7a4_30
    obtain ⟨z15, hz16, hF⟩ := am_bind hF
    refine hlp16 (-x0) 2000 (-10 : Int32) (1 : Int32) ab H locs ls z15 hz16 hh (lv_sub hl [1, 0, 2, 3] rfl) (fun y9 y10 ab H locs ls hz hh hl => ?_) (fun r hz => ?_)
    · subst hz
      have hF := am_zl hF
      have hF := am_u2 hF
      refine lv_bipush (v := (10 : Int32)) hx hb dJ6_stringSize_0f7a4_42 (by decide) ?_
      refine lv_iload_n hx hb dJ6_stringSize_0f7a4_44 rfl (lv_at hl 3 rfl) ?_
      refine lv_iadd hx hb dJ6_stringSize_0f7a4_45 ?_
      exact amF_iretB X hr hh (fun t ht => am_qpFB (mk := oI) hF ht) (Nat.le_of_ble_eq_true rfl) (Nat.le_of_ble_eq_true rfl) dJ6_stringSize_0f7a4_46
    · subst hz
      have hF := am_zr hF
      exact hF
def pB_J6_getChars_ba4f3_22 : Nat → Int32 → Int32 → Wd → Option ((Int32 × Int32 × Wd) ⊕ Unit)
  | 0, _, _, _ => none
  | n + 1, y2, y3, w4 => (if (-100 : Int32) < y2 then (some (.inl (y2, y3, w4))) else (if ¬ (100 : Int32) = 0 then (if inR (((y2 / (100 : Int32)) * (100 : Int32)) - y2) 100 then (if inR (y3 + (-1 : Int32)) (gC w4) then (wl (uI w4 1 ((y3 + (-1 : Int32))).toNatClampNeg (vp_nar .byte (nI (48 + ((((y2 / (100 : Int32)) * (100 : Int32)) - y2)).toNatClampNeg % 10)))) fun w10 => (if inR (((y2 / (100 : Int32)) * (100 : Int32)) - y2) 100 then (if inR ((y3 + (-1 : Int32)) + (-1 : Int32)) (gC w10) then (wl (uI w10 1 (((y3 + (-1 : Int32)) + (-1 : Int32))).toNatClampNeg (vp_nar .byte (nI (48 + ((((y2 / (100 : Int32)) * (100 : Int32)) - y2)).toNatClampNeg / 10)))) fun w13 => (pB_J6_getChars_ba4f3_22 n (y2 / (100 : Int32)) ((y3 + (-1 : Int32)) + (-1 : Int32)) w13)) else none) else none)) else none) else none) else none))
def fB_J6_getChars_ba4f3 (w : Wd) (x0 : Int32) (x1 : Int32) : Option (Int32 × Wd) := (if 0 ≤ x0 then ((pB_J6_getChars_ba4f3_22 2000 (-x0) x1 w).bind fun z => zc z (fun q => u3 q fun y2 y3 w4 => (if inR (-y2) 100 then (if inR (y3 + (-1 : Int32)) (gC w4) then (wl (uI w4 1 ((y3 + (-1 : Int32))).toNatClampNeg (vp_nar .byte (nI (48 + ((-y2)).toNatClampNeg % 10)))) fun w18 => (if (-9 : Int32) ≤ y2 then (some ((y3 + (-1 : Int32)), w18)) else (if inR (-y2) 100 then (if inR ((y3 + (-1 : Int32)) + (-1 : Int32)) (gC w18) then (wl (uI w18 1 (((y3 + (-1 : Int32)) + (-1 : Int32))).toNatClampNeg (vp_nar .byte (nI (48 + ((-y2)).toNatClampNeg / 10)))) fun w22 => (some (((y3 + (-1 : Int32)) + (-1 : Int32)), w22))) else none) else none))) else none) else none)) (fun _ => none)) else ((pB_J6_getChars_ba4f3_22 2000 x0 x1 w).bind fun z => zc z (fun q => u3 q fun y23 y24 w25 => (if inR (-y23) 100 then (if inR (y24 + (-1 : Int32)) (gC w25) then (wl (uI w25 1 ((y24 + (-1 : Int32))).toNatClampNeg (vp_nar .byte (nI (48 + ((-y23)).toNatClampNeg % 10)))) fun w39 => (if (-9 : Int32) ≤ y23 then (if inR ((y24 + (-1 : Int32)) + (-1 : Int32)) (gC w39) then (wl (uI w39 1 (((y24 + (-1 : Int32)) + (-1 : Int32))).toNatClampNeg (vp_nar .byte (45 : Int32))) fun w42 => (some (((y24 + (-1 : Int32)) + (-1 : Int32)), w42))) else none) else (if inR (-y23) 100 then (if inR ((y24 + (-1 : Int32)) + (-1 : Int32)) (gC w39) then (wl (uI w39 1 (((y24 + (-1 : Int32)) + (-1 : Int32))).toNatClampNeg (vp_nar .byte (nI (48 + ((-y23)).toNatClampNeg / 10)))) fun w45 => (if inR (((y24 + (-1 : Int32)) + (-1 : Int32)) + (-1 : Int32)) (gC w45) then (wl (uI w45 1 ((((y24 + (-1 : Int32)) + (-1 : Int32)) + (-1 : Int32))).toNatClampNeg (vp_nar .byte (45 : Int32))) fun w47 => (some ((((y24 + (-1 : Int32)) + (-1 : Int32)) + (-1 : Int32)), w47))) else none)) else none) else none))) else none) else none)) (fun _ => none)))
set_option maxHeartbeats 4000000 in
set_option maxRecDepth 100000 in
theorem cB_J6_getChars_ba4f3 (l : Launch) (G : GG) {ab : Nat} {w : Wd} {x0 : Int32} {x1 : Int32} {r0 : Int32} {w1 : Wd} (hF : fB_J6_getChars_ba4f3 w x0 x1 = some (r0, w1)) : Met l yJ6_getChars_ba4f3 wsJ6_getChars_ba4f3 ({ frames := 0, cells := 0, slots := 0, locals := 0 } : Room) (va_Pc [.int x0, .int x1, .ref (gAd G 1)] (RelFB G ab w)) (amQFB G ab (oI r0) w1) 0 0 (gA G) := by
  refine am_metBB (own := RJ6) (cc := cJ6_getChars_ba4f3) (maxL := 7) (ret := (some .int)) (by decide +kernel) rfl rfl (Nat.le_of_ble_eq_true rfl) ?_
  intro p e s m args below meth c H locs ls X hr hh hl
  have hx := X.1.1; have hb := X.1.2.1; have hml := X.1.2.2.1; have hown := X.1.2.2.2.1; have hts := X.1.2.2.2.2
  have hl : lv_has ls 7 [(0, .int x0), (1, .int x1), (2, .ref (gAd G 1))] := hl
  unfold fB_J6_getChars_ba4f3 at hF
  refine lv_iload_n hx hb dJ6_getChars_ba4f3_0 rfl (lv_at hl 1 rfl) ?_
  refine lv_istore (lv' := [(5, .int x1), (0, .int x0), (1, .int x1), (2, .ref (gAd G 1))]) hx hb dJ6_getChars_ba4f3_1 hl (by decide) rfl (fun ls hl => ?_)
  refine lv_iload_n hx hb dJ6_getChars_ba4f3_3 rfl (lv_at hl 1 rfl) ?_
  refine lv_if_ge (tgt := 11) hx hb dJ6_getChars_ba4f3_4 (by decide) (fun hc1 => ?_) (fun hc1 => ?_)
  · have hF := am_pos hc1 hF
    refine lv_iconst (v := (0 : Int32)) hx hb dJ6_getChars_ba4f3_11 (by decide) ?_
    refine lv_istore (lv' := [(6, .int (0 : Int32)), (5, .int x1), (0, .int x0), (1, .int x1), (2, .ref (gAd G 1))]) hx hb dJ6_getChars_ba4f3_12 hl (by decide) rfl (fun ls hl => ?_)
    refine lv_iload hx hb dJ6_getChars_ba4f3_14 (lv_at hl 0 rfl) ?_
    refine lv_if_ne (tgt := 22) hx hb dJ6_getChars_ba4f3_16 (by decide) (fun hz => absurd (by decide) hz) (fun _ => ?_)
    refine lv_iload_n hx hb dJ6_getChars_ba4f3_19 rfl (lv_at hl 2 rfl) ?_
    refine lv_ineg hx hb dJ6_getChars_ba4f3_20 ?_
    refine lv_istore_n (lv' := [(0, .int (-x0)), (6, .int (0 : Int32)), (5, .int x1), (1, .int x1), (2, .ref (gAd G 1))]) hx hb dJ6_getChars_ba4f3_21 rfl hl (by decide) rfl (fun ls hl => ?_)
    have hlp22 : ∀ (n : Nat) (y2 : Int32) (y3 : Int32) (w4 : Wd) (ab : Nat) (H : Heap) (locs : List Loc) (ls : Array Slot) (z : (Int32 × Int32 × Wd) ⊕ Unit), pB_J6_getChars_ba4f3_22 n y2 y3 w4 = some z → AHB G s.heap w4 ab H locs → lv_has ls 7 [(0, .int y2), (5, .int y3), (6, .int (0 : Int32)), (1, .int x1), (2, .ref (gAd G 1))] → (∀ (y2 : Int32) (y3 : Int32) (w4 : Wd) (ab : Nat) (H : Heap) (locs : List Loc) (ls : Array Slot), z = .inl (y2, y3, w4) → AHB G s.heap w4 ab H locs → lv_has ls 7 [(0, .int y2), (5, .int y3), (6, .int (0 : Int32)), (1, .int x1), (2, .ref (gAd G 1))] → W p l e ({ frames := 0, cells := 0, slots := 0, locals := 0 } : Room) s m args below meth c H locs 0 0 (MQ below (amQFB G ab (oI r0) w1) args s 0 0 (gA G)) (F0 m 72 ls [])) → W p l e ({ frames := 0, cells := 0, slots := 0, locals := 0 } : Room) s m args below meth c H locs 0 0 (MQ below (amQFB G ab (oI r0) w1) args s 0 0 (gA G)) (F0 m 22 ls []) := by
      intro n
      induction n with
      | zero =>
        intro y2 y3 w4 ab H locs ls z hF
        unfold pB_J6_getChars_ba4f3_22 at hF
        cases hF
      | succ n ih =>
        intro y2 y3 w4 ab H locs ls z hF hh hl kE
        unfold pB_J6_getChars_ba4f3_22 at hF
        refine lv_iload_n hx hb dJ6_getChars_ba4f3_22 rfl (lv_at hl 0 rfl) ?_
        refine lv_bipush (v := (-100 : Int32)) hx hb dJ6_getChars_ba4f3_23 (by decide) ?_
        refine lv_icmp_gt (tgt := 72) hx hb dJ6_getChars_ba4f3_25 (by decide) (fun hc6 => ?_) (fun hc6 => ?_)
        · have hF := am_pos hc6 hF
          exact kE y2 y3 w4 ab H locs ls (Option.some.inj hF).symm hh (lv_sub hl [0, 1, 2, 3, 4] rfl)
        · have hF := am_neg hc6 hF
          refine lv_iload_n hx hb dJ6_getChars_ba4f3_28 rfl (lv_at hl 0 rfl) ?_
          refine lv_bipush (v := (100 : Int32)) hx hb dJ6_getChars_ba4f3_29 (by decide) ?_
          obtain ⟨hq7, hF⟩ := am_if hF
          refine lv_idiv hx hb dJ6_getChars_ba4f3_31 hq7 ?_
          refine lv_istore_n (lv' := [(3, .int (y2 / (100 : Int32))), (0, .int y2), (5, .int y3), (6, .int (0 : Int32)), (1, .int x1), (2, .ref (gAd G 1))]) hx hb dJ6_getChars_ba4f3_32 rfl hl (by decide) rfl (fun ls hl => ?_)
          refine lv_iload_n hx hb dJ6_getChars_ba4f3_33 rfl (lv_at hl 0 rfl) ?_
          refine lv_bipush (v := (100 : Int32)) hx hb dJ6_getChars_ba4f3_34 (by decide) ?_
          refine lv_imul hx hb dJ6_getChars_ba4f3_36 ?_
          refine lv_iload_n hx hb dJ6_getChars_ba4f3_37 rfl (lv_at hl 1 rfl) ?_
          refine lv_isub hx hb dJ6_getChars_ba4f3_38 ?_
          refine lv_istore (lv' := [(4, .int (((y2 / (100 : Int32)) * (100 : Int32)) - y2)), (3, .int (y2 / (100 : Int32))), (0, .int y2), (5, .int y3), (6, .int (0 : Int32)), (1, .int x1), (2, .ref (gAd G 1))]) hx hb dJ6_getChars_ba4f3_39 hl (by decide) rfl (fun ls hl => ?_)
          refine lv_iload_n hx hb dJ6_getChars_ba4f3_41 rfl (lv_at hl 1 rfl) ?_
          refine lv_istore_n (lv' := [(0, .int (y2 / (100 : Int32))), (4, .int (((y2 / (100 : Int32)) * (100 : Int32)) - y2)), (3, .int (y2 / (100 : Int32))), (5, .int y3), (6, .int (0 : Int32)), (1, .int x1), (2, .ref (gAd G 1))]) hx hb dJ6_getChars_ba4f3_42 rfl hl (by decide) rfl (fun ls hl => ?_)
          refine lv_aload_n hx hb dJ6_getChars_ba4f3_43 rfl (lv_at hl 6 rfl) ?_
          refine lv_iinc (v := (y3 + (-1 : Int32))) (lv' := [(5, .int (y3 + (-1 : Int32))), (0, .int (y2 / (100 : Int32))), (4, .int (((y2 / (100 : Int32)) * (100 : Int32)) - y2)), (3, .int (y2 / (100 : Int32))), (6, .int (0 : Int32)), (1, .int x1), (2, .ref (gAd G 1))]) hx hb dJ6_getChars_ba4f3_44 hl (k := 3) rfl rfl (by decide) rfl (fun ls hl => ?_)
          refine lv_iload hx hb dJ6_getChars_ba4f3_47 (lv_at hl 0 rfl) ?_
          refine va_gets hx hb X.2.2.1.1.2.2.2.2.2.2.1 hh.2.2 hown (hts _ (show Cond.fieldLink RJ6 83 "java/lang/Integer" "DigitOnes" "[B"  ∈ wsJ6_getChars_ba4f3 by decide +kernel)) (fun _ h9 => h9) dJ6_getChars_ba4f3_49 ?_
          refine lv_iload hx hb dJ6_getChars_ba4f3_52 (lv_at hl 2 rfl) ?_
          obtain ⟨hq8, hF⟩ := am_ifR hF
          refine va_tb hx hb X.2.2.1.1.2.2.2.2.2.2.2.1 hh.2.2 hq8 rfl dJ6_getChars_ba4f3_54 ?_
          obtain ⟨hq9, hF⟩ := am_ifR hF
          refine am_bastB X hh 1 (by decide) rfl hq9 dJ6_getChars_ba4f3_55 (fun H locs hh => ?_)
          obtain ⟨w10, hw10, hF⟩ := am_wl hF
          have hh := AH_eqB hw10 hh
          refine lv_aload_n hx hb dJ6_getChars_ba4f3_56 rfl (lv_at hl 6 rfl) ?_
          refine lv_iinc (v := ((y3 + (-1 : Int32)) + (-1 : Int32))) (lv' := [(5, .int ((y3 + (-1 : Int32)) + (-1 : Int32))), (0, .int (y2 / (100 : Int32))), (4, .int (((y2 / (100 : Int32)) * (100 : Int32)) - y2)), (3, .int (y2 / (100 : Int32))), (6, .int (0 : Int32)), (1, .int x1), (2, .ref (gAd G 1))]) hx hb dJ6_getChars_ba4f3_57 hl (k := 0) rfl rfl (by decide) rfl (fun ls hl => ?_)
          refine lv_iload hx hb dJ6_getChars_ba4f3_60 (lv_at hl 0 rfl) ?_
          refine va_gets hx hb X.2.2.1.1.2.2.2.2.2.2.2.2.1 hh.2.2 hown (hts _ (show Cond.fieldLink RJ6 87 "java/lang/Integer" "DigitTens" "[B"  ∈ wsJ6_getChars_ba4f3 by decide +kernel)) (fun _ h9 => h9) dJ6_getChars_ba4f3_62 ?_
          refine lv_iload hx hb dJ6_getChars_ba4f3_65 (lv_at hl 2 rfl) ?_
          obtain ⟨hq11, hF⟩ := am_ifR hF
          refine va_tb hx hb X.2.2.1.1.2.2.2.2.2.2.2.2.2.1 hh.2.2 hq11 rfl dJ6_getChars_ba4f3_67 ?_
          obtain ⟨hq12, hF⟩ := am_ifR hF
          refine am_bastB X hh 1 (by decide) rfl hq12 dJ6_getChars_ba4f3_68 (fun H locs hh => ?_)
          obtain ⟨w13, hw13, hF⟩ := am_wl hF
          have hh := AH_eqB hw13 hh
          refine lv_goto (tgt := 22) hx hb dJ6_getChars_ba4f3_69 (by decide) ?_
          exact ih (y2 / (100 : Int32)) ((y3 + (-1 : Int32)) + (-1 : Int32)) w13 ab H locs ls _ hF hh (lv_sub hl [1, 0, 4, 5, 6] rfl) kE
    obtain ⟨z14, hz15, hF⟩ := am_bind hF
    refine hlp22 2000 (-x0) x1 w ab H locs ls z14 hz15 hh (lv_sub hl [0, 2, 1, 3, 4] rfl) (fun y2 y3 w4 ab H locs ls hz hh hl => ?_)
    · subst hz
      have hF := am_zl hF
      have hF := am_u3 hF
      refine lv_aload_n hx hb dJ6_getChars_ba4f3_72 rfl (lv_at hl 4 rfl) ?_
      refine lv_iinc (v := (y3 + (-1 : Int32))) (lv' := [(5, .int (y3 + (-1 : Int32))), (0, .int y2), (6, .int (0 : Int32)), (1, .int x1), (2, .ref (gAd G 1))]) hx hb dJ6_getChars_ba4f3_73 hl (k := 1) rfl rfl (by decide) rfl (fun ls hl => ?_)
      refine lv_iload hx hb dJ6_getChars_ba4f3_76 (lv_at hl 0 rfl) ?_
      refine va_gets hx hb X.2.2.1.1.2.2.2.2.2.2.1 hh.2.2 hown (hts _ (show Cond.fieldLink RJ6 83 "java/lang/Integer" "DigitOnes" "[B"  ∈ wsJ6_getChars_ba4f3 by decide +kernel)) (fun _ h9 => h9) dJ6_getChars_ba4f3_78 ?_
      refine lv_iload_n hx hb dJ6_getChars_ba4f3_81 rfl (lv_at hl 1 rfl) ?_
      refine lv_ineg hx hb dJ6_getChars_ba4f3_82 ?_
      obtain ⟨hq16, hF⟩ := am_ifR hF
      refine va_tb hx hb X.2.2.1.1.2.2.2.2.2.2.2.1 hh.2.2 hq16 rfl dJ6_getChars_ba4f3_83 ?_
      obtain ⟨hq17, hF⟩ := am_ifR hF
      refine am_bastB X hh 1 (by decide) rfl hq17 dJ6_getChars_ba4f3_84 (fun H locs hh => ?_)
      obtain ⟨w18, hw18, hF⟩ := am_wl hF
      have hh := AH_eqB hw18 hh
      refine lv_iload_n hx hb dJ6_getChars_ba4f3_85 rfl (lv_at hl 1 rfl) ?_
      refine lv_bipush (v := (-9 : Int32)) hx hb dJ6_getChars_ba4f3_86 (by decide) ?_
      refine lv_icmp_ge (tgt := 104) hx hb dJ6_getChars_ba4f3_88 (by decide) (fun hc19 => ?_) (fun hc19 => ?_)
      · have hF := am_pos hc19 hF
        refine lv_iload hx hb dJ6_getChars_ba4f3_104 (lv_at hl 2 rfl) ?_
        refine lv_if_eq (tgt := 118) hx hb dJ6_getChars_ba4f3_106 (by decide) (fun _ => ?_) (fun hz => absurd (by decide) hz)
        refine lv_iload hx hb dJ6_getChars_ba4f3_118 (lv_at hl 0 rfl) ?_
        exact amF_iretB X hr hh (fun t ht => am_qwFB (mk := oI) hF ht) (Nat.le_of_ble_eq_true rfl) (Nat.le_of_ble_eq_true rfl) dJ6_getChars_ba4f3_120
      · have hF := am_neg hc19 hF
        refine lv_aload_n hx hb dJ6_getChars_ba4f3_91 rfl (lv_at hl 4 rfl) ?_
        refine lv_iinc (v := ((y3 + (-1 : Int32)) + (-1 : Int32))) (lv' := [(5, .int ((y3 + (-1 : Int32)) + (-1 : Int32))), (0, .int y2), (6, .int (0 : Int32)), (1, .int x1), (2, .ref (gAd G 1))]) hx hb dJ6_getChars_ba4f3_92 hl (k := 0) rfl rfl (by decide) rfl (fun ls hl => ?_)
        refine lv_iload hx hb dJ6_getChars_ba4f3_95 (lv_at hl 0 rfl) ?_
        refine va_gets hx hb X.2.2.1.1.2.2.2.2.2.2.2.2.1 hh.2.2 hown (hts _ (show Cond.fieldLink RJ6 87 "java/lang/Integer" "DigitTens" "[B"  ∈ wsJ6_getChars_ba4f3 by decide +kernel)) (fun _ h9 => h9) dJ6_getChars_ba4f3_97 ?_
        refine lv_iload_n hx hb dJ6_getChars_ba4f3_100 rfl (lv_at hl 1 rfl) ?_
        refine lv_ineg hx hb dJ6_getChars_ba4f3_101 ?_
        obtain ⟨hq20, hF⟩ := am_ifR hF
        refine va_tb hx hb X.2.2.1.1.2.2.2.2.2.2.2.2.2.1 hh.2.2 hq20 rfl dJ6_getChars_ba4f3_102 ?_
        obtain ⟨hq21, hF⟩ := am_ifR hF
        refine am_bastB X hh 1 (by decide) rfl hq21 dJ6_getChars_ba4f3_103 (fun H locs hh => ?_)
        obtain ⟨w22, hw22, hF⟩ := am_wl hF
        have hh := AH_eqB hw22 hh
        refine lv_iload hx hb dJ6_getChars_ba4f3_104 (lv_at hl 2 rfl) ?_
        refine lv_if_eq (tgt := 118) hx hb dJ6_getChars_ba4f3_106 (by decide) (fun _ => ?_) (fun hz => absurd (by decide) hz)
        refine lv_iload hx hb dJ6_getChars_ba4f3_118 (lv_at hl 0 rfl) ?_
        exact amF_iretB X hr hh (fun t ht => am_qwFB (mk := oI) hF ht) (Nat.le_of_ble_eq_true rfl) (Nat.le_of_ble_eq_true rfl) dJ6_getChars_ba4f3_120
  · have hF := am_neg hc1 hF
    refine lv_iconst (v := (1 : Int32)) hx hb dJ6_getChars_ba4f3_7 (by decide) ?_
    refine lv_goto (tgt := 12) hx hb dJ6_getChars_ba4f3_8 (by decide) ?_
    refine lv_istore (lv' := [(6, .int (1 : Int32)), (5, .int x1), (0, .int x0), (1, .int x1), (2, .ref (gAd G 1))]) hx hb dJ6_getChars_ba4f3_12 hl (by decide) rfl (fun ls hl => ?_)
    refine lv_iload hx hb dJ6_getChars_ba4f3_14 (lv_at hl 0 rfl) ?_
    refine lv_if_ne (tgt := 22) hx hb dJ6_getChars_ba4f3_16 (by decide) (fun _ => ?_) (fun hz => absurd hz (by decide))
    have hlp22 : ∀ (n : Nat) (y23 : Int32) (y24 : Int32) (w25 : Wd) (ab : Nat) (H : Heap) (locs : List Loc) (ls : Array Slot) (z : (Int32 × Int32 × Wd) ⊕ Unit), pB_J6_getChars_ba4f3_22 n y23 y24 w25 = some z → AHB G s.heap w25 ab H locs → lv_has ls 7 [(0, .int y23), (5, .int y24), (6, .int (1 : Int32)), (1, .int x1), (2, .ref (gAd G 1))] → (∀ (y23 : Int32) (y24 : Int32) (w25 : Wd) (ab : Nat) (H : Heap) (locs : List Loc) (ls : Array Slot), z = .inl (y23, y24, w25) → AHB G s.heap w25 ab H locs → lv_has ls 7 [(0, .int y23), (5, .int y24), (6, .int (1 : Int32)), (1, .int x1), (2, .ref (gAd G 1))] → W p l e ({ frames := 0, cells := 0, slots := 0, locals := 0 } : Room) s m args below meth c H locs 0 0 (MQ below (amQFB G ab (oI r0) w1) args s 0 0 (gA G)) (F0 m 72 ls [])) → W p l e ({ frames := 0, cells := 0, slots := 0, locals := 0 } : Room) s m args below meth c H locs 0 0 (MQ below (amQFB G ab (oI r0) w1) args s 0 0 (gA G)) (F0 m 22 ls []) := by
      intro n
      induction n with
      | zero =>
        intro y23 y24 w25 ab H locs ls z hF
        unfold pB_J6_getChars_ba4f3_22 at hF
        cases hF
      | succ n ih =>
        intro y23 y24 w25 ab H locs ls z hF hh hl kE
        unfold pB_J6_getChars_ba4f3_22 at hF
        refine lv_iload_n hx hb dJ6_getChars_ba4f3_22 rfl (lv_at hl 0 rfl) ?_
        refine lv_bipush (v := (-100 : Int32)) hx hb dJ6_getChars_ba4f3_23 (by decide) ?_
        refine lv_icmp_gt (tgt := 72) hx hb dJ6_getChars_ba4f3_25 (by decide) (fun hc27 => ?_) (fun hc27 => ?_)
        · have hF := am_pos hc27 hF
          exact kE y23 y24 w25 ab H locs ls (Option.some.inj hF).symm hh (lv_sub hl [0, 1, 2, 3, 4] rfl)
        · have hF := am_neg hc27 hF
          refine lv_iload_n hx hb dJ6_getChars_ba4f3_28 rfl (lv_at hl 0 rfl) ?_
          refine lv_bipush (v := (100 : Int32)) hx hb dJ6_getChars_ba4f3_29 (by decide) ?_
          obtain ⟨hq28, hF⟩ := am_if hF
          refine lv_idiv hx hb dJ6_getChars_ba4f3_31 hq28 ?_
          refine lv_istore_n (lv' := [(3, .int (y23 / (100 : Int32))), (0, .int y23), (5, .int y24), (6, .int (1 : Int32)), (1, .int x1), (2, .ref (gAd G 1))]) hx hb dJ6_getChars_ba4f3_32 rfl hl (by decide) rfl (fun ls hl => ?_)
          refine lv_iload_n hx hb dJ6_getChars_ba4f3_33 rfl (lv_at hl 0 rfl) ?_
          refine lv_bipush (v := (100 : Int32)) hx hb dJ6_getChars_ba4f3_34 (by decide) ?_
          refine lv_imul hx hb dJ6_getChars_ba4f3_36 ?_
          refine lv_iload_n hx hb dJ6_getChars_ba4f3_37 rfl (lv_at hl 1 rfl) ?_
          refine lv_isub hx hb dJ6_getChars_ba4f3_38 ?_
          refine lv_istore (lv' := [(4, .int (((y23 / (100 : Int32)) * (100 : Int32)) - y23)), (3, .int (y23 / (100 : Int32))), (0, .int y23), (5, .int y24), (6, .int (1 : Int32)), (1, .int x1), (2, .ref (gAd G 1))]) hx hb dJ6_getChars_ba4f3_39 hl (by decide) rfl (fun ls hl => ?_)
          refine lv_iload_n hx hb dJ6_getChars_ba4f3_41 rfl (lv_at hl 1 rfl) ?_
          refine lv_istore_n (lv' := [(0, .int (y23 / (100 : Int32))), (4, .int (((y23 / (100 : Int32)) * (100 : Int32)) - y23)), (3, .int (y23 / (100 : Int32))), (5, .int y24), (6, .int (1 : Int32)), (1, .int x1), (2, .ref (gAd G 1))]) hx hb dJ6_getChars_ba4f3_42 rfl hl (by decide) rfl (fun ls hl => ?_)
          refine lv_aload_n hx hb dJ6_getChars_ba4f3_43 rfl (lv_at hl 6 rfl) ?_
          refine lv_iinc (v := (y24 + (-1 : Int32))) (lv' := [(5, .int (y24 + (-1 : Int32))), (0, .int (y23 / (100 : Int32))), (4, .int (((y23 / (100 : Int32)) * (100 : Int32)) - y23)), (3, .int (y23 / (100 : Int32))), (6, .int (1 : Int32)), (1, .int x1), (2, .ref (gAd G 1))]) hx hb dJ6_getChars_ba4f3_44 hl (k := 3) rfl rfl (by decide) rfl (fun ls hl => ?_)
          refine lv_iload hx hb dJ6_getChars_ba4f3_47 (lv_at hl 0 rfl) ?_
          refine va_gets hx hb X.2.2.1.1.2.2.2.2.2.2.1 hh.2.2 hown (hts _ (show Cond.fieldLink RJ6 83 "java/lang/Integer" "DigitOnes" "[B"  ∈ wsJ6_getChars_ba4f3 by decide +kernel)) (fun _ h9 => h9) dJ6_getChars_ba4f3_49 ?_
          refine lv_iload hx hb dJ6_getChars_ba4f3_52 (lv_at hl 2 rfl) ?_
          obtain ⟨hq29, hF⟩ := am_ifR hF
          refine va_tb hx hb X.2.2.1.1.2.2.2.2.2.2.2.1 hh.2.2 hq29 rfl dJ6_getChars_ba4f3_54 ?_
          obtain ⟨hq30, hF⟩ := am_ifR hF
          refine am_bastB X hh 1 (by decide) rfl hq30 dJ6_getChars_ba4f3_55 (fun H locs hh => ?_)
          obtain ⟨w31, hw31, hF⟩ := am_wl hF
          have hh := AH_eqB hw31 hh
          refine lv_aload_n hx hb dJ6_getChars_ba4f3_56 rfl (lv_at hl 6 rfl) ?_
          refine lv_iinc (v := ((y24 + (-1 : Int32)) + (-1 : Int32))) (lv' := [(5, .int ((y24 + (-1 : Int32)) + (-1 : Int32))), (0, .int (y23 / (100 : Int32))), (4, .int (((y23 / (100 : Int32)) * (100 : Int32)) - y23)), (3, .int (y23 / (100 : Int32))), (6, .int (1 : Int32)), (1, .int x1), (2, .ref (gAd G 1))]) hx hb dJ6_getChars_ba4f3_57 hl (k := 0) rfl rfl (by decide) rfl (fun ls hl => ?_)
          refine lv_iload hx hb dJ6_getChars_ba4f3_60 (lv_at hl 0 rfl) ?_
          refine va_gets hx hb X.2.2.1.1.2.2.2.2.2.2.2.2.1 hh.2.2 hown (hts _ (show Cond.fieldLink RJ6 87 "java/lang/Integer" "DigitTens" "[B"  ∈ wsJ6_getChars_ba4f3 by decide +kernel)) (fun _ h9 => h9) dJ6_getChars_ba4f3_62 ?_
          refine lv_iload hx hb dJ6_getChars_ba4f3_65 (lv_at hl 2 rfl) ?_
          obtain ⟨hq32, hF⟩ := am_ifR hF
          refine va_tb hx hb X.2.2.1.1.2.2.2.2.2.2.2.2.2.1 hh.2.2 hq32 rfl dJ6_getChars_ba4f3_67 ?_
          obtain ⟨hq33, hF⟩ := am_ifR hF
          refine am_bastB X hh 1 (by decide) rfl hq33 dJ6_getChars_ba4f3_68 (fun H locs hh => ?_)
          obtain ⟨w34, hw34, hF⟩ := am_wl hF
          have hh := AH_eqB hw34 hh
          refine lv_goto (tgt := 22) hx hb dJ6_getChars_ba4f3_69 (by decide) ?_
          exact ih (y23 / (100 : Int32)) ((y24 + (-1 : Int32)) + (-1 : Int32)) w34 ab H locs ls _ hF hh (lv_sub hl [1, 0, 4, 5, 6] rfl) kE
    obtain ⟨z35, hz36, hF⟩ := am_bind hF
    refine hlp22 2000 x0 x1 w ab H locs ls z35 hz36 hh (lv_sub hl [2, 1, 0, 3, 4] rfl) (fun y23 y24 w25 ab H locs ls hz hh hl => ?_)
    · subst hz
      have hF := am_zl hF
      have hF := am_u3 hF
      refine lv_aload_n hx hb dJ6_getChars_ba4f3_72 rfl (lv_at hl 4 rfl) ?_
      refine lv_iinc (v := (y24 + (-1 : Int32))) (lv' := [(5, .int (y24 + (-1 : Int32))), (0, .int y23), (6, .int (1 : Int32)), (1, .int x1), (2, .ref (gAd G 1))]) hx hb dJ6_getChars_ba4f3_73 hl (k := 1) rfl rfl (by decide) rfl (fun ls hl => ?_)
      refine lv_iload hx hb dJ6_getChars_ba4f3_76 (lv_at hl 0 rfl) ?_
      refine va_gets hx hb X.2.2.1.1.2.2.2.2.2.2.1 hh.2.2 hown (hts _ (show Cond.fieldLink RJ6 83 "java/lang/Integer" "DigitOnes" "[B"  ∈ wsJ6_getChars_ba4f3 by decide +kernel)) (fun _ h9 => h9) dJ6_getChars_ba4f3_78 ?_
      refine lv_iload_n hx hb dJ6_getChars_ba4f3_81 rfl (lv_at hl 1 rfl) ?_
      refine lv_ineg hx hb dJ6_getChars_ba4f3_82 ?_
      obtain ⟨hq37, hF⟩ := am_ifR hF
      refine va_tb hx hb X.2.2.1.1.2.2.2.2.2.2.2.1 hh.2.2 hq37 rfl dJ6_getChars_ba4f3_83 ?_
      obtain ⟨hq38, hF⟩ := am_ifR hF
      refine am_bastB X hh 1 (by decide) rfl hq38 dJ6_getChars_ba4f3_84 (fun H locs hh => ?_)
      obtain ⟨w39, hw39, hF⟩ := am_wl hF
      have hh := AH_eqB hw39 hh
      refine lv_iload_n hx hb dJ6_getChars_ba4f3_85 rfl (lv_at hl 1 rfl) ?_
      refine lv_bipush (v := (-9 : Int32)) hx hb dJ6_getChars_ba4f3_86 (by decide) ?_
      refine lv_icmp_ge (tgt := 104) hx hb dJ6_getChars_ba4f3_88 (by decide) (fun hc40 => ?_) (fun hc40 => ?_)
      · have hF := am_pos hc40 hF
        refine lv_iload hx hb dJ6_getChars_ba4f3_104 (lv_at hl 2 rfl) ?_
        refine lv_if_eq (tgt := 118) hx hb dJ6_getChars_ba4f3_106 (by decide) (fun hz => absurd hz (by decide)) (fun _ => ?_)
        refine lv_aload_n hx hb dJ6_getChars_ba4f3_109 rfl (lv_at hl 4 rfl) ?_
        refine lv_iinc (v := ((y24 + (-1 : Int32)) + (-1 : Int32))) (lv' := [(5, .int ((y24 + (-1 : Int32)) + (-1 : Int32))), (0, .int y23), (6, .int (1 : Int32)), (1, .int x1), (2, .ref (gAd G 1))]) hx hb dJ6_getChars_ba4f3_110 hl (k := 0) rfl rfl (by decide) rfl (fun ls hl => ?_)
        refine lv_iload hx hb dJ6_getChars_ba4f3_113 (lv_at hl 0 rfl) ?_
        refine lv_bipush (v := (45 : Int32)) hx hb dJ6_getChars_ba4f3_115 (by decide) ?_
        obtain ⟨hq41, hF⟩ := am_ifR hF
        refine am_bastB X hh 1 (by decide) rfl hq41 dJ6_getChars_ba4f3_117 (fun H locs hh => ?_)
        obtain ⟨w42, hw42, hF⟩ := am_wl hF
        have hh := AH_eqB hw42 hh
        refine lv_iload hx hb dJ6_getChars_ba4f3_118 (lv_at hl 0 rfl) ?_
        exact amF_iretB X hr hh (fun t ht => am_qwFB (mk := oI) hF ht) (Nat.le_of_ble_eq_true rfl) (Nat.le_of_ble_eq_true rfl) dJ6_getChars_ba4f3_120
      · have hF := am_neg hc40 hF
        refine lv_aload_n hx hb dJ6_getChars_ba4f3_91 rfl (lv_at hl 4 rfl) ?_
        refine lv_iinc (v := ((y24 + (-1 : Int32)) + (-1 : Int32))) (lv' := [(5, .int ((y24 + (-1 : Int32)) + (-1 : Int32))), (0, .int y23), (6, .int (1 : Int32)), (1, .int x1), (2, .ref (gAd G 1))]) hx hb dJ6_getChars_ba4f3_92 hl (k := 0) rfl rfl (by decide) rfl (fun ls hl => ?_)
        refine lv_iload hx hb dJ6_getChars_ba4f3_95 (lv_at hl 0 rfl) ?_
        refine va_gets hx hb X.2.2.1.1.2.2.2.2.2.2.2.2.1 hh.2.2 hown (hts _ (show Cond.fieldLink RJ6 87 "java/lang/Integer" "DigitTens" "[B"  ∈ wsJ6_getChars_ba4f3 by decide +kernel)) (fun _ h9 => h9) dJ6_getChars_ba4f3_97 ?_
        refine lv_iload_n hx hb dJ6_getChars_ba4f3_100 rfl (lv_at hl 1 rfl) ?_
        refine lv_ineg hx hb dJ6_getChars_ba4f3_101 ?_
        obtain ⟨hq43, hF⟩ := am_ifR hF
        refine va_tb hx hb X.2.2.1.1.2.2.2.2.2.2.2.2.2.1 hh.2.2 hq43 rfl dJ6_getChars_ba4f3_102 ?_
        obtain ⟨hq44, hF⟩ := am_ifR hF
        refine am_bastB X hh 1 (by decide) rfl hq44 dJ6_getChars_ba4f3_103 (fun H locs hh => ?_)
        obtain ⟨w45, hw45, hF⟩ := am_wl hF
        have hh := AH_eqB hw45 hh
        refine lv_iload hx hb dJ6_getChars_ba4f3_104 (lv_at hl 2 rfl) ?_
        refine lv_if_eq (tgt := 118) hx hb dJ6_getChars_ba4f3_106 (by decide) (fun hz => absurd hz (by decide)) (fun _ => ?_)
        refine lv_aload_n hx hb dJ6_getChars_ba4f3_109 rfl (lv_at hl 4 rfl) ?_
        refine lv_iinc (v := (((y24 + (-1 : Int32)) + (-1 : Int32)) + (-1 : Int32))) (lv' := [(5, .int (((y24 + (-1 : Int32)) + (-1 : Int32)) + (-1 : Int32))), (0, .int y23), (6, .int (1 : Int32)), (1, .int x1), (2, .ref (gAd G 1))]) hx hb dJ6_getChars_ba4f3_110 hl (k := 0) rfl rfl (by decide) rfl (fun ls hl => ?_)
        refine lv_iload hx hb dJ6_getChars_ba4f3_113 (lv_at hl 0 rfl) ?_
        refine lv_bipush (v := (45 : Int32)) hx hb dJ6_getChars_ba4f3_115 (by decide) ?_
        obtain ⟨hq46, hF⟩ := am_ifR hF
        refine am_bastB X hh 1 (by decide) rfl hq46 dJ6_getChars_ba4f3_117 (fun H locs hh => ?_)
        obtain ⟨w47, hw47, hF⟩ := am_wl hF
        have hh := AH_eqB hw47 hh
        refine lv_iload hx hb dJ6_getChars_ba4f3_118 (lv_at hl 0 rfl) ?_
        exact amF_iretB X hr hh (fun t ht => am_qwFB (mk := oI) hF ht) (Nat.le_of_ble_eq_true rfl) (Nat.le_of_ble_eq_true rfl) dJ6_getChars_ba4f3_120
def fB_J5_isLatin1_aae02 (w : Wd) : Option Int32 := (if (gI w 0 1) = 0 then (some (1 : Int32)) else (some (0 : Int32)))
set_option maxHeartbeats 4000000 in
set_option maxRecDepth 100000 in
theorem cB_J5_isLatin1_aae02 (l : Launch) (G : GG) {w : Wd} {r0 : Int32} (hF : fB_J5_isLatin1_aae02 w = some r0) : Met l yJ5_isLatin1_aae02 wsJ5_isLatin1_aae02 ({ frames := 0, cells := 0, slots := 0, locals := 0 } : Room) (va_Pc [.ref (gAd G 0)] (RelB G w)) (amQB G (oI r0) w) 0 0 (gA G) := by
  refine am_metFB (own := RJ5) (cc := cJ5_isLatin1_aae02) (maxL := 1) (ret := (some .boolean)) (by decide +kernel) rfl rfl (Nat.le_of_ble_eq_true rfl) ?_
  intro p e s m args below meth c ab H locs ls X hr hh hl
  have hx := X.1.1; have hb := X.1.2.1; have hml := X.1.2.2.1; have hown := X.1.2.2.2.1; have hts := X.1.2.2.2.2
  have hl : lv_has ls 1 [(0, .ref (gAd G 0))] := hl
  have hwRJ4 : ∀ z ∈ u_ws RJ4 TJ4 4, z ∈ wsJ5_isLatin1_aae02 := by decide +kernel
  unfold fB_J5_isLatin1_aae02 at hF
  refine va_gets hx hb X.2.2.1.2.2.1.1 hh.2.2 hown (hts _ (show Cond.fieldLink RJ5 18 "java/lang/String" "COMPACT_STRINGS" "Z"  ∈ wsJ5_isLatin1_aae02 by decide +kernel)) (fun _ h9 => h9) dJ5_isLatin1_aae02_0 ?_
  refine lv_if_eq (tgt := 17) hx hb dJ5_isLatin1_aae02_3 (by decide) (fun hz => absurd hz (by decide)) (fun _ => ?_)
  refine lv_aload_n hx hb dJ5_isLatin1_aae02_6 rfl (lv_at hl 0 rfl) ?_
  refine am_getIB X hh 0 1 1 (by decide) rfl rfl (by decide) hwRJ4 (show Cond.fieldLink RJ5 22 "java/lang/AbstractStringBuilder" "coder" "B" ∈ wsJ5_isLatin1_aae02 by decide +kernel) rfl dJ5_isLatin1_aae02_7 ?_
  refine lv_if_ne (tgt := 17) hx hb dJ5_isLatin1_aae02_10 (by decide) (fun hc1 => ?_) (fun hc1 => ?_)
  · have hF := am_neg hc1 hF
    refine lv_iconst (v := (0 : Int32)) hx hb dJ5_isLatin1_aae02_17 (by decide) ?_
    exact am_zretB (v' := (0 : Int32)) X hr rfl hh (fun t ht => am_qpB (mk := oI) hF ht) (Nat.le_of_ble_eq_true rfl) (Nat.le_of_ble_eq_true rfl) dJ5_isLatin1_aae02_18
  · have hF := am_pos hc1 hF
    refine lv_iconst (v := (1 : Int32)) hx hb dJ5_isLatin1_aae02_13 (by decide) ?_
    refine lv_goto (tgt := 18) hx hb dJ5_isLatin1_aae02_14 (by decide) ?_
    exact am_zretB (v' := (1 : Int32)) X hr rfl hh (fun t ht => am_qpB (mk := oI) hF ht) (Nat.le_of_ble_eq_true rfl) (Nat.le_of_ble_eq_true rfl) dJ5_isLatin1_aae02_18
def fB_J5_length_8abf5 (w : Wd) : Option Int32 := (some (gI w 0 3))
set_option maxHeartbeats 4000000 in
set_option maxRecDepth 100000 in
theorem cB_J5_length_8abf5 (l : Launch) (G : GG) {w : Wd} {r0 : Int32} (hF : fB_J5_length_8abf5 w = some r0) : Met l yJ5_length_8abf5 wsJ5_length_8abf5 ({ frames := 0, cells := 0, slots := 0, locals := 0 } : Room) (va_Pc [.ref (gAd G 0)] (RelB G w)) (amQB G (oI r0) w) 0 0 (gA G) := by
  refine am_metFB (own := RJ5) (cc := cJ5_length_8abf5) (maxL := 1) (ret := (some .int)) (by decide +kernel) rfl rfl (Nat.le_of_ble_eq_true rfl) ?_
  intro p e s m args below meth c ab H locs ls X hr hh hl
  have hx := X.1.1; have hb := X.1.2.1; have hml := X.1.2.2.1; have hown := X.1.2.2.2.1; have hts := X.1.2.2.2.2
  have hl : lv_has ls 1 [(0, .ref (gAd G 0))] := hl
  have hwRJ4 : ∀ z ∈ u_ws RJ4 TJ4 4, z ∈ wsJ5_length_8abf5 := by decide +kernel
  unfold fB_J5_length_8abf5 at hF
  refine lv_aload_n hx hb dJ5_length_8abf5_0 rfl (lv_at hl 0 rfl) ?_
  refine am_getIB X hh 0 1 3 (by decide) rfl rfl (by decide) hwRJ4 (show Cond.fieldLink RJ5 79 "java/lang/AbstractStringBuilder" "count" "I" ∈ wsJ5_length_8abf5 by decide +kernel) rfl dJ5_length_8abf5_1 ?_
  exact am_iretB X hr hh (fun t ht => am_qpB (mk := oI) hF ht) (Nat.le_of_ble_eq_true rfl) (Nat.le_of_ble_eq_true rfl) dJ5_length_8abf5_4
def fB_J5_ensureCapacityInternal_d00df (w : Wd) (x1 : Int32) : Option Wd := (if (x1 - ((nI (gC w)) >>> ((gI w 0 1) &&& 31))) ≤ 0 then (some w) else none)
set_option maxHeartbeats 4000000 in
set_option maxRecDepth 100000 in
theorem cB_J5_ensureCapacityInternal_d00df (l : Launch) (G : GG) {w : Wd} {x1 : Int32} {w1 : Wd} (hF : fB_J5_ensureCapacityInternal_d00df w x1 = some w1) : Met l yJ5_ensureCapacityInternal_d00df wsJ5_ensureCapacityInternal_d00df ({ frames := 0, cells := 0, slots := 0, locals := 0 } : Room) (va_Pc [.ref (gAd G 0), .int x1] (RelB G w)) (amQB G none w1) 0 0 (gA G) := by
  refine am_metFB (own := RJ5) (cc := cJ5_ensureCapacityInternal_d00df) (maxL := 3) (ret := none) (by decide +kernel) rfl rfl (Nat.le_of_ble_eq_true rfl) ?_
  intro p e s m args below meth c ab H locs ls X hr hh hl
  have hx := X.1.1; have hb := X.1.2.1; have hml := X.1.2.2.1; have hown := X.1.2.2.2.1; have hts := X.1.2.2.2.2
  have hl : lv_has ls 3 [(0, .ref (gAd G 0)), (1, .int x1)] := hl
  have hwRJ4 : ∀ z ∈ u_ws RJ4 TJ4 4, z ∈ wsJ5_ensureCapacityInternal_d00df := by decide +kernel
  unfold fB_J5_ensureCapacityInternal_d00df at hF
  refine lv_aload_n hx hb dJ5_ensureCapacityInternal_d00df_0 rfl (lv_at hl 0 rfl) ?_
  refine am_getRB X hh 0 1 0 1 (by decide) rfl rfl (by decide) hwRJ4 (show Cond.fieldLink RJ5 15 "java/lang/AbstractStringBuilder" "value" "[B" ∈ wsJ5_ensureCapacityInternal_d00df by decide +kernel) rfl dJ5_ensureCapacityInternal_d00df_1 ?_
  refine am_alenCB X hh dJ5_ensureCapacityInternal_d00df_4 ?_
  refine lv_aload_n hx hb dJ5_ensureCapacityInternal_d00df_5 rfl (lv_at hl 0 rfl) ?_
  refine am_getIB X hh 0 1 1 (by decide) rfl rfl (by decide) hwRJ4 (show Cond.fieldLink RJ5 22 "java/lang/AbstractStringBuilder" "coder" "B" ∈ wsJ5_ensureCapacityInternal_d00df by decide +kernel) rfl dJ5_ensureCapacityInternal_d00df_6 ?_
  refine lv_ishr hx hb dJ5_ensureCapacityInternal_d00df_9 ?_
  refine lv_istore_n (lv' := [(2, .int ((nI (gC w)) >>> ((gI w 0 1) &&& 31))), (0, .ref (gAd G 0)), (1, .int x1)]) hx hb dJ5_ensureCapacityInternal_d00df_10 rfl hl (by decide) rfl (fun ls hl => ?_)
  refine lv_iload_n hx hb dJ5_ensureCapacityInternal_d00df_11 rfl (lv_at hl 2 rfl) ?_
  refine lv_iload_n hx hb dJ5_ensureCapacityInternal_d00df_12 rfl (lv_at hl 0 rfl) ?_
  refine lv_isub hx hb dJ5_ensureCapacityInternal_d00df_13 ?_
  refine lv_if_le (tgt := 38) hx hb dJ5_ensureCapacityInternal_d00df_14 (by decide) (fun hc1 => ?_) (fun hc1 => ?_)
  · have hF := am_pos hc1 hF
    exact am_vretB X hr hh (fun t ht => am_qvB hF ht) (Nat.le_of_ble_eq_true rfl) (Nat.le_of_ble_eq_true rfl) dJ5_ensureCapacityInternal_d00df_38
  · have hF := am_neg hc1 hF
    refine lv_aload_n hx hb dJ5_ensureCapacityInternal_d00df_17 rfl (lv_at hl 1 rfl) ?_
    refine lv_aload_n hx hb dJ5_ensureCapacityInternal_d00df_18 rfl (lv_at hl 1 rfl) ?_
    refine am_getRB X hh 0 1 0 1 (by decide) rfl rfl (by decide) hwRJ4 (show Cond.fieldLink RJ5 15 "java/lang/AbstractStringBuilder" "value" "[B" ∈ wsJ5_ensureCapacityInternal_d00df by decide +kernel) rfl dJ5_ensureCapacityInternal_d00df_19 ?_
    refine lv_aload_n hx hb dJ5_ensureCapacityInternal_d00df_22 rfl (lv_at hl 1 rfl) ?_
    refine lv_iload_n hx hb dJ5_ensureCapacityInternal_d00df_23 rfl (lv_at hl 2 rfl) ?_
    cases hF
def fB_J5_append_c97b9 (w : Wd) (x1 : Int32) : Option Wd := ((fB_J6_stringSize_0f7a4 x1).bind fun r2 => ((fB_J5_ensureCapacityInternal_d00df w ((gI w 0 3) + r2)).bind fun w5 => ((fB_J5_isLatin1_aae02 w5).bind fun r7 => (if r7 = 0 then none else ((fB_J6_getChars_ba4f3 w5 x1 ((gI w 0 3) + r2)).bind fun z => u2 z fun r10 w11 => (wl (uI w11 0 3 ((gI w 0 3) + r2)) fun w13 => (some w13)))))))
set_option maxHeartbeats 4000000 in
set_option maxRecDepth 100000 in
theorem cB_J5_append_c97b9 (l : Launch) (G : GG) {w : Wd} {x1 : Int32} {w1 : Wd} (hF : fB_J5_append_c97b9 w x1 = some w1) : Met l yJ5_append_c97b9 wsJ5_append_c97b9 ({ frames := 1, cells := 0, slots := 0, locals := 26 } : Room) (va_Pc [.ref (gAd G 0), .int x1] (RelB G w)) (amQB G (some (.ref (gAd G 0))) w1) 0 0 (gA G) := by
  refine am_metFB (own := RJ5) (cc := cJ5_append_c97b9) (maxL := 4) (ret := (some (.object "java/lang/AbstractStringBuilder"))) (by decide +kernel) rfl rfl (Nat.le_of_ble_eq_true rfl) ?_
  intro p e s m args below meth c ab H locs ls X hr hh hl
  have hx := X.1.1; have hb := X.1.2.1; have hml := X.1.2.2.1; have hown := X.1.2.2.2.1; have hts := X.1.2.2.2.2
  have hl : lv_has ls 4 [(0, .ref (gAd G 0)), (1, .int x1)] := hl
  have hwRJ4 : ∀ z ∈ u_ws RJ4 TJ4 4, z ∈ wsJ5_append_c97b9 := by decide +kernel
  unfold fB_J5_append_c97b9 at hF
  refine lv_aload_n hx hb dJ5_append_c97b9_0 rfl (lv_at hl 0 rfl) ?_
  refine am_getIB X hh 0 1 3 (by decide) rfl rfl (by decide) hwRJ4 (show Cond.fieldLink RJ5 79 "java/lang/AbstractStringBuilder" "count" "I" ∈ wsJ5_append_c97b9 by decide +kernel) rfl dJ5_append_c97b9_1 ?_
  refine lv_istore_n (lv' := [(2, .int (gI w 0 3)), (0, .ref (gAd G 0)), (1, .int x1)]) hx hb dJ5_append_c97b9_4 rfl hl (by decide) rfl (fun ls hl => ?_)
  refine lv_iload_n hx hb dJ5_append_c97b9_5 rfl (lv_at hl 0 rfl) ?_
  refine lv_iload_n hx hb dJ5_append_c97b9_6 rfl (lv_at hl 2 rfl) ?_
  obtain ⟨r2, hk1, hF⟩ := am_bind hF
  refine am_callFB X hh (va_runS (As := [.int x1]) (rest := [.int (gI w 0 3)]) X.1 (cB_J6_stringSize_0f7a4 l G hk1) (va_cwS 1 hts gJ5_append_c97b9_J6_stringSize_0f7a4 rfl rfl rfl (by decide +kernel) ⟨Nat.le_of_ble_eq_true rfl, Nat.le_of_ble_eq_true rfl⟩) (am_preSFB X hh) rfl rfl hl.1 rfl (lv_room (Nat.le_of_ble_eq_true rfl)) dJ5_append_c97b9_7 ⟨Nat.le_of_ble_eq_true rfl, Nat.le_of_ble_eq_true rfl⟩) (fun H locs hh => ?_)
  refine lv_iadd hx hb dJ5_append_c97b9_10 ?_
  refine lv_istore_n (lv' := [(3, .int ((gI w 0 3) + r2)), (2, .int (gI w 0 3)), (0, .ref (gAd G 0)), (1, .int x1)]) hx hb dJ5_append_c97b9_11 rfl hl (by decide) rfl (fun ls hl => ?_)
  refine lv_aload_n hx hb dJ5_append_c97b9_12 rfl (lv_at hl 2 rfl) ?_
  refine lv_iload_n hx hb dJ5_append_c97b9_13 rfl (lv_at hl 0 rfl) ?_
  obtain ⟨w5, hk3, hF⟩ := am_bind hF
  refine am_callB X hh (va_runU (As := [.int ((gI w 0 3) + r2)]) (rest := []) X.1 (cB_J5_ensureCapacityInternal_d00df l G hk3) (va_cwU 1 hts gJ5_append_c97b9_J5_ensureCapacityInternal_d00df_u100J4 rfl rfl rfl rfl (by decide +kernel) ⟨Nat.le_of_ble_eq_true rfl, Nat.le_of_ble_eq_true rfl⟩) (am_preVB X hh 0 1 (by decide) rfl rfl) rfl rfl hl.1 rfl (lv_room (Nat.le_of_ble_eq_true rfl)) dJ5_append_c97b9_14 ⟨Nat.le_of_ble_eq_true rfl, Nat.le_of_ble_eq_true rfl⟩) (fun ab H locs hh => ?_)
  refine lv_aload_n hx hb dJ5_append_c97b9_17 rfl (lv_at hl 2 rfl) ?_
  obtain ⟨r7, hk6, hF⟩ := am_bind hF
  refine am_callB X hh (va_runU (As := []) (rest := []) X.1 (cB_J5_isLatin1_aae02 l G hk6) (va_cwU 0 hts gJ5_append_c97b9_J5_isLatin1_aae02_u83J4 rfl rfl rfl rfl (by decide +kernel) ⟨Nat.le_of_ble_eq_true rfl, Nat.le_of_ble_eq_true rfl⟩) (am_preVB X hh 0 1 (by decide) rfl rfl) rfl rfl hl.1 rfl (lv_room (Nat.le_of_ble_eq_true rfl)) dJ5_append_c97b9_18 ⟨Nat.le_of_ble_eq_true rfl, Nat.le_of_ble_eq_true rfl⟩) (fun ab H locs hh => ?_)
  refine lv_if_eq (tgt := 37) hx hb dJ5_append_c97b9_21 (by decide) (fun hc8 => ?_) (fun hc8 => ?_)
  · have hF := am_pos hc8 hF
    refine lv_iload_n hx hb dJ5_append_c97b9_37 rfl (lv_at hl 3 rfl) ?_
    refine lv_iload_n hx hb dJ5_append_c97b9_38 rfl (lv_at hl 1 rfl) ?_
    refine lv_iload_n hx hb dJ5_append_c97b9_39 rfl (lv_at hl 0 rfl) ?_
    refine lv_aload_n hx hb dJ5_append_c97b9_40 rfl (lv_at hl 2 rfl) ?_
    refine am_getRB X hh 0 1 0 1 (by decide) rfl rfl (by decide) hwRJ4 (show Cond.fieldLink RJ5 15 "java/lang/AbstractStringBuilder" "value" "[B" ∈ wsJ5_append_c97b9 by decide +kernel) rfl dJ5_append_c97b9_41 ?_
    cases hF
  · have hF := am_neg hc8 hF
    refine lv_iload_n hx hb dJ5_append_c97b9_24 rfl (lv_at hl 3 rfl) ?_
    refine lv_iload_n hx hb dJ5_append_c97b9_25 rfl (lv_at hl 0 rfl) ?_
    refine lv_aload_n hx hb dJ5_append_c97b9_26 rfl (lv_at hl 2 rfl) ?_
    refine am_getRB X hh 0 1 0 1 (by decide) rfl rfl (by decide) hwRJ4 (show Cond.fieldLink RJ5 15 "java/lang/AbstractStringBuilder" "value" "[B" ∈ wsJ5_append_c97b9 by decide +kernel) rfl dJ5_append_c97b9_27 ?_
    obtain ⟨⟨r10, w11⟩, hk9, hF⟩ := am_bind hF
    have hF := am_u2 hF
    refine am_callFB X hh (va_runS (As := [.int x1, .int ((gI w 0 3) + r2), .ref (gAd G 1)]) (rest := []) X.1 (cB_J6_getChars_ba4f3 l G hk9) (va_cwS 3 hts gJ5_append_c97b9_J6_getChars_ba4f3 rfl rfl rfl (by decide +kernel) ⟨Nat.le_of_ble_eq_true rfl, Nat.le_of_ble_eq_true rfl⟩) (am_preSFB X hh) rfl rfl hl.1 rfl (lv_room (Nat.le_of_ble_eq_true rfl)) dJ5_append_c97b9_30 ⟨Nat.le_of_ble_eq_true rfl, Nat.le_of_ble_eq_true rfl⟩) (fun H locs hh => ?_)
    refine lv_pop hx hb dJ5_append_c97b9_33 rfl ?_
    refine lv_goto (tgt := 48) hx hb dJ5_append_c97b9_34 (by decide) ?_
    refine lv_aload_n hx hb dJ5_append_c97b9_48 rfl (lv_at hl 2 rfl) ?_
    refine lv_iload_n hx hb dJ5_append_c97b9_49 rfl (lv_at hl 0 rfl) ?_
    refine am_putIB X hh 0 1 3 (by decide) rfl rfl (by decide) hwRJ4 tyJ4 tyJ4_ok nmJ4 (show Cond.fieldLink RJ5 79 "java/lang/AbstractStringBuilder" "count" "I" ∈ wsJ5_append_c97b9 by decide +kernel) rfl rfl rfl rfl dJ5_append_c97b9_50 (fun H locs hh => ?_)
    obtain ⟨w13, hw13, hF⟩ := am_wl hF
    have hh := AH_eqB hw13 hh
    refine lv_aload_n hx hb dJ5_append_c97b9_53 rfl (lv_at hl 2 rfl) ?_
    exact am_aretB X hr (Or.inl ⟨_, rfl⟩) (Or.inr ⟨_, rfl⟩) hh (fun t ht => am_qvTB hF ht) (Nat.le_of_ble_eq_true rfl) (Nat.le_of_ble_eq_true rfl) dJ5_append_c97b9_54
def fB_J4_append_bf812 (w : Wd) (x1 : Int32) : Option Wd := ((fB_J5_append_c97b9 w x1).bind fun w3 => (some w3))
set_option maxHeartbeats 4000000 in
set_option maxRecDepth 100000 in
theorem cB_J4_append_bf812 (l : Launch) (G : GG) {w : Wd} {x1 : Int32} {w1 : Wd} (hF : fB_J4_append_bf812 w x1 = some w1) : Met l yJ4_append_bf812 wsJ4_append_bf812 ({ frames := 2, cells := 0, slots := 0, locals := 49 } : Room) (va_Pc [.ref (gAd G 0), .int x1] (RelB G w)) (amQB G (some (.ref (gAd G 0))) w1) 0 0 (gA G) := by
  refine am_metFB (own := RJ4) (cc := cJ4_append_bf812) (maxL := 2) (ret := (some (.object "java/lang/StringBuilder"))) (by decide +kernel) rfl rfl (Nat.le_of_ble_eq_true rfl) ?_
  intro p e s m args below meth c ab H locs ls X hr hh hl
  have hx := X.1.1; have hb := X.1.2.1; have hml := X.1.2.2.1; have hown := X.1.2.2.2.1; have hts := X.1.2.2.2.2
  have hl : lv_has ls 2 [(0, .ref (gAd G 0)), (1, .int x1)] := hl
  unfold fB_J4_append_bf812 at hF
  refine lv_aload_n hx hb dJ4_append_bf812_0 rfl (lv_at hl 0 rfl) ?_
  refine lv_iload_n hx hb dJ4_append_bf812_1 rfl (lv_at hl 1 rfl) ?_
  obtain ⟨w3, hk1, hF⟩ := am_bind hF
  refine am_callB X hh (va_runSU (As := [.int x1]) (rest := []) (X.2.1.1 1 _ rfl).2 X.1 (cB_J5_append_c97b9 l G hk1) (va_cwSU 1 hts gJ4_append_bf812_J5_append_c97b9_s53 rfl rfl rfl (by decide +kernel) ⟨Nat.le_of_ble_eq_true rfl, Nat.le_of_ble_eq_true rfl⟩) (am_preVB X hh 0 1 (by decide) rfl rfl) rfl rfl hl.1 rfl (lv_room (Nat.le_of_ble_eq_true rfl)) dJ4_append_bf812_2 ⟨Nat.le_of_ble_eq_true rfl, Nat.le_of_ble_eq_true rfl⟩) (fun ab H locs hh => ?_)
  refine lv_pop hx hb dJ4_append_bf812_5 rfl ?_
  refine lv_aload_n hx hb dJ4_append_bf812_6 rfl (lv_at hl 0 rfl) ?_
  exact am_aretB X hr (Or.inl ⟨_, rfl⟩) (Or.inr ⟨_, rfl⟩) hh (fun t ht => am_qvTB hF ht) (Nat.le_of_ble_eq_true rfl) (Nat.le_of_ble_eq_true rfl) dJ4_append_bf812_7
def fB_J0_getBytes_840e7 (w : Wd) (x0 : Nat) (x2 : Int32) (x3 : Int32) : Option Wd := ((fB_J0_coder_7d493 x0).bind fun r2 => (if r2 = x3 then (if cpK (x2 <<< (x3 &&& 31)) (nI (cLens.getD x0 0)) (cLens.getD x0 0) (gC w) then (wl (uCpy w x0 (x2 <<< (x3 &&& 31)) (nI (cLens.getD x0 0))) fun w5 => (some w5)) else none) else none))
set_option maxHeartbeats 4000000 in
set_option maxRecDepth 100000 in
theorem cB_J0_getBytes_840e7 (l : Launch) (G : GG) {ab : Nat} {w : Wd} {x0 : Nat} {x2 : Int32} {x3 : Int32} {w1 : Wd} (hx0 : gAv G (300 + x0) = 1) (hF : fB_J0_getBytes_840e7 w x0 x2 x3 = some w1) : Met l yJ0_getBytes_840e7 wsJ0_getBytes_840e7 ({ frames := 1, cells := 0, slots := 0, locals := 60 } : Room) (va_Pc [.ref (gAv G (100 + x0)), .ref (gAd G 1), .int x2, .int x3] (RelFB G ab w)) (amQFB G ab none w1) 0 0 (gA G) := by
  refine am_metBB (own := RJ0) (cc := cJ0_getBytes_840e7) (maxL := 4) (ret := none) (by decide +kernel) rfl rfl (Nat.le_of_ble_eq_true rfl) ?_
  intro p e s m args below meth c H locs ls X hr hh hl
  have hx := X.1.1; have hb := X.1.2.1; have hml := X.1.2.2.1; have hown := X.1.2.2.2.1; have hts := X.1.2.2.2.2
  have hl : lv_has ls 4 [(0, .ref (gAv G (100 + x0))), (1, .ref (gAd G 1)), (2, .int x2), (3, .int x3)] := hl
  unfold fB_J0_getBytes_840e7 at hF
  refine lv_aload_n hx hb dJ0_getBytes_840e7_0 rfl (lv_at hl 0 rfl) ?_
  obtain ⟨r2, hk1, hF⟩ := am_bind hF
  refine am_callFB X hh (va_runV (As := []) (rest := []) X.1 (cB_J0_coder_7d493 l G hx0 hk1) (cwV 0 hts gJ0_getBytes_840e7_J0_coder_7d493 rfl rfl rfl (by decide +kernel) ⟨Nat.le_of_ble_eq_true rfl, Nat.le_of_ble_eq_true rfl⟩) ⟨am_blindFB, tx_recv X.2.2.1.2.1.2.2.2.2 (i := x0) hx0 hh.2.2, fun U hU hW => ⟨rfl, am_relFB X hh hU hW⟩⟩ rfl rfl hl.1 rfl (lv_room (Nat.le_of_ble_eq_true rfl)) dJ0_getBytes_840e7_1 ⟨Nat.le_of_ble_eq_true rfl, Nat.le_of_ble_eq_true rfl⟩) (fun H locs hh => ?_)
  refine lv_iload_n hx hb dJ0_getBytes_840e7_4 rfl (lv_at hl 3 rfl) ?_
  refine lv_icmp_ne (tgt := 28) hx hb dJ0_getBytes_840e7_5 (by decide) (fun hc3 => ?_) (fun hc3 => ?_)
  · have hF := am_neg hc3 hF
    refine lv_aload_n hx hb dJ0_getBytes_840e7_28 rfl (lv_at hl 0 rfl) ?_
    refine vk_getf hx hb (X.2.2.1.2.1.2.2.2.2.1 x0 hx0).2.2.1 hh.2.2 hown (hts _ (show Cond.fieldLink RJ0 9 "java/lang/String" "value" "[B"  ∈ wsJ0_getBytes_840e7 by decide +kernel)) (fun _ h9 => h9) dJ0_getBytes_840e7_29 ?_
    refine lv_iconst (v := (0 : Int32)) hx hb dJ0_getBytes_840e7_32 (by decide) ?_
    refine lv_aload_n hx hb dJ0_getBytes_840e7_33 rfl (lv_at hl 1 rfl) ?_
    refine lv_iload_n hx hb dJ0_getBytes_840e7_34 rfl (lv_at hl 2 rfl) ?_
    refine lv_aload_n hx hb dJ0_getBytes_840e7_35 rfl (lv_at hl 0 rfl) ?_
    refine vk_getf hx hb (X.2.2.1.2.1.2.2.2.2.1 x0 hx0).2.2.1 hh.2.2 hown (hts _ (show Cond.fieldLink RJ0 9 "java/lang/String" "value" "[B"  ∈ wsJ0_getBytes_840e7 by decide +kernel)) (fun _ h9 => h9) dJ0_getBytes_840e7_36 ?_
    refine va_tlen (v := nI (cLens.getD x0 0)) hx hb (X.2.2.1.2.1.2.2.2.2.1 x0 hx0).2.2.2 hh.2.2 rfl dJ0_getBytes_840e7_39 ?_
    cases hF
  · have hF := am_pos hc3 hF
    refine lv_aload_n hx hb dJ0_getBytes_840e7_8 rfl (lv_at hl 0 rfl) ?_
    refine vk_getf hx hb (X.2.2.1.2.1.2.2.2.2.1 x0 hx0).2.2.1 hh.2.2 hown (hts _ (show Cond.fieldLink RJ0 9 "java/lang/String" "value" "[B"  ∈ wsJ0_getBytes_840e7 by decide +kernel)) (fun _ h9 => h9) dJ0_getBytes_840e7_9 ?_
    refine lv_iconst (v := (0 : Int32)) hx hb dJ0_getBytes_840e7_12 (by decide) ?_
    refine lv_aload_n hx hb dJ0_getBytes_840e7_13 rfl (lv_at hl 1 rfl) ?_
    refine lv_iload_n hx hb dJ0_getBytes_840e7_14 rfl (lv_at hl 2 rfl) ?_
    refine lv_iload_n hx hb dJ0_getBytes_840e7_15 rfl (lv_at hl 3 rfl) ?_
    refine lv_ishl hx hb dJ0_getBytes_840e7_16 ?_
    refine lv_aload_n hx hb dJ0_getBytes_840e7_17 rfl (lv_at hl 0 rfl) ?_
    refine vk_getf hx hb (X.2.2.1.2.1.2.2.2.2.1 x0 hx0).2.2.1 hh.2.2 hown (hts _ (show Cond.fieldLink RJ0 9 "java/lang/String" "value" "[B"  ∈ wsJ0_getBytes_840e7 by decide +kernel)) (fun _ h9 => h9) dJ0_getBytes_840e7_18 ?_
    refine va_tlen (v := nI (cLens.getD x0 0)) hx hb (X.2.2.1.2.1.2.2.2.2.1 x0 hx0).2.2.2 hh.2.2 rfl dJ0_getBytes_840e7_21 ?_
    obtain ⟨hq4, hF⟩ := am_if hF
    refine am_cpytB X hh (x0 := x0) hx0 hq4 hml hl.1 (hts _ (show Cond.methodLink RJ0 212 arraycopyName ∈ wsJ0_getBytes_840e7 by decide +kernel)) (hts _ (show Cond.native arraycopyName ∈ wsJ0_getBytes_840e7 by decide +kernel)) (hts _ (show Cond.static arraycopyName ∈ wsJ0_getBytes_840e7 by decide +kernel)) (hts _ (show Cond.initialized "java/lang/System" ∈ wsJ0_getBytes_840e7 by decide +kernel)) (Nat.le_of_ble_eq_true rfl) (Nat.le_of_ble_eq_true rfl) dJ0_getBytes_840e7_22 (fun H locs hh => ?_)
    obtain ⟨w5, hw5, hF⟩ := am_wl hF
    have hh := AH_eqB hw5 hh
    refine lv_goto (tgt := 43) hx hb dJ0_getBytes_840e7_25 (by decide) ?_
    exact amF_vretB X hr hh (fun t ht => am_qvFB hF ht) (Nat.le_of_ble_eq_true rfl) (Nat.le_of_ble_eq_true rfl) dJ0_getBytes_840e7_43
def fB_J5_inflateIfNeededFor_a7421 (w : Wd) (x1 : Nat) : Option Unit := ((fB_J0_coder_7d493 x1).bind fun r2 => (if (gI w 0 1) = r2 then (some ()) else none))
set_option maxHeartbeats 4000000 in
set_option maxRecDepth 100000 in
theorem cB_J5_inflateIfNeededFor_a7421 (l : Launch) (G : GG) {w : Wd} {x1 : Nat} {r0 : Unit} (hx1 : gAv G (300 + x1) = 1) (hF : fB_J5_inflateIfNeededFor_a7421 w x1 = some r0) : Met l yJ5_inflateIfNeededFor_a7421 wsJ5_inflateIfNeededFor_a7421 ({ frames := 1, cells := 0, slots := 0, locals := 20 } : Room) (va_Pc [.ref (gAd G 0), .ref (gAv G (100 + x1))] (RelB G w)) (amQB G none w) 0 0 (gA G) := by
  refine am_metFB (own := RJ5) (cc := cJ5_inflateIfNeededFor_a7421) (maxL := 2) (ret := none) (by decide +kernel) rfl rfl (Nat.le_of_ble_eq_true rfl) ?_
  intro p e s m args below meth c ab H locs ls X hr hh hl
  have hx := X.1.1; have hb := X.1.2.1; have hml := X.1.2.2.1; have hown := X.1.2.2.2.1; have hts := X.1.2.2.2.2
  have hl : lv_has ls 2 [(0, .ref (gAd G 0)), (1, .ref (gAv G (100 + x1)))] := hl
  have hwRJ4 : ∀ z ∈ u_ws RJ4 TJ4 4, z ∈ wsJ5_inflateIfNeededFor_a7421 := by decide +kernel
  unfold fB_J5_inflateIfNeededFor_a7421 at hF
  refine va_gets hx hb X.2.2.1.2.2.1.1 hh.2.2 hown (hts _ (show Cond.fieldLink RJ5 18 "java/lang/String" "COMPACT_STRINGS" "Z"  ∈ wsJ5_inflateIfNeededFor_a7421 by decide +kernel)) (fun _ h9 => h9) dJ5_inflateIfNeededFor_a7421_0 ?_
  refine lv_if_eq (tgt := 21) hx hb dJ5_inflateIfNeededFor_a7421_3 (by decide) (fun hz => absurd hz (by decide)) (fun _ => ?_)
  refine lv_aload_n hx hb dJ5_inflateIfNeededFor_a7421_6 rfl (lv_at hl 0 rfl) ?_
  refine am_getIB X hh 0 1 1 (by decide) rfl rfl (by decide) hwRJ4 (show Cond.fieldLink RJ5 22 "java/lang/AbstractStringBuilder" "coder" "B" ∈ wsJ5_inflateIfNeededFor_a7421 by decide +kernel) rfl dJ5_inflateIfNeededFor_a7421_7 ?_
  refine lv_aload_n hx hb dJ5_inflateIfNeededFor_a7421_10 rfl (lv_at hl 1 rfl) ?_
  obtain ⟨r2, hk1, hF⟩ := am_bind hF
  refine am_callFB X hh (va_runV (As := []) (rest := [.int (gI w 0 1)]) X.1 (cB_J0_coder_7d493 l G hx1 hk1) (cwV 0 hts gJ5_inflateIfNeededFor_a7421_J0_coder_7d493 rfl rfl rfl (by decide +kernel) ⟨Nat.le_of_ble_eq_true rfl, Nat.le_of_ble_eq_true rfl⟩) ⟨am_blindFB, tx_recv X.2.2.1.2.1.2.2.2.2 (i := x1) hx1 hh.2.2, fun U hU hW => ⟨rfl, am_relFB X hh hU hW⟩⟩ rfl rfl hl.1 rfl (lv_room (Nat.le_of_ble_eq_true rfl)) dJ5_inflateIfNeededFor_a7421_11 ⟨Nat.le_of_ble_eq_true rfl, Nat.le_of_ble_eq_true rfl⟩) (fun H locs hh => ?_)
  refine lv_icmp_eq (tgt := 21) hx hb dJ5_inflateIfNeededFor_a7421_14 (by decide) (fun hc3 => ?_) (fun hc3 => ?_)
  · have hF := am_pos hc3 hF
    exact am_vretB X hr hh (fun t ht => am_qpB (mk := oV) hF ht) (Nat.le_of_ble_eq_true rfl) (Nat.le_of_ble_eq_true rfl) dJ5_inflateIfNeededFor_a7421_21
  · have hF := am_neg hc3 hF
    refine lv_aload_n hx hb dJ5_inflateIfNeededFor_a7421_17 rfl (lv_at hl 0 rfl) ?_
    cases hF
def fB_J5_putStringAt_47b60 (w : Wd) (x1 : Int32) (x2 : Nat) : Option Wd := ((fB_J5_inflateIfNeededFor_a7421 w x2).bind fun _ => ((fB_J0_getBytes_840e7 w x2 x1 (gI w 0 1)).bind fun w5 => (some w5)))
set_option maxHeartbeats 4000000 in
set_option maxRecDepth 100000 in
theorem cB_J5_putStringAt_47b60 (l : Launch) (G : GG) {w : Wd} {x1 : Int32} {x2 : Nat} {w1 : Wd} (hx2 : gAv G (300 + x2) = 1) (hF : fB_J5_putStringAt_47b60 w x1 x2 = some w1) : Met l yJ5_putStringAt_47b60 wsJ5_putStringAt_47b60 ({ frames := 2, cells := 0, slots := 0, locals := 83 } : Room) (va_Pc [.ref (gAd G 0), .int x1, .ref (gAv G (100 + x2))] (RelB G w)) (amQB G none w1) 0 0 (gA G) := by
  refine am_metFB (own := RJ5) (cc := cJ5_putStringAt_47b60) (maxL := 3) (ret := none) (by decide +kernel) rfl rfl (Nat.le_of_ble_eq_true rfl) ?_
  intro p e s m args below meth c ab H locs ls X hr hh hl
  have hx := X.1.1; have hb := X.1.2.1; have hml := X.1.2.2.1; have hown := X.1.2.2.2.1; have hts := X.1.2.2.2.2
  have hl : lv_has ls 3 [(0, .ref (gAd G 0)), (1, .int x1), (2, .ref (gAv G (100 + x2)))] := hl
  have hwRJ4 : ∀ z ∈ u_ws RJ4 TJ4 4, z ∈ wsJ5_putStringAt_47b60 := by decide +kernel
  unfold fB_J5_putStringAt_47b60 at hF
  refine lv_aload_n hx hb dJ5_putStringAt_47b60_0 rfl (lv_at hl 0 rfl) ?_
  refine lv_aload_n hx hb dJ5_putStringAt_47b60_1 rfl (lv_at hl 2 rfl) ?_
  obtain ⟨r2, hk1, hF⟩ := am_bind hF
  refine am_callB X hh (va_runU (As := [.ref (gAv G (100 + x2))]) (rest := []) X.1 (cB_J5_inflateIfNeededFor_a7421 l G hx2 hk1) (va_cwU 1 hts gJ5_putStringAt_47b60_J5_inflateIfNeededFor_a7421_u397J4 rfl rfl rfl rfl (by decide +kernel) ⟨Nat.le_of_ble_eq_true rfl, Nat.le_of_ble_eq_true rfl⟩) (am_preVB X hh 0 1 (by decide) rfl rfl) rfl rfl hl.1 rfl (lv_room (Nat.le_of_ble_eq_true rfl)) dJ5_putStringAt_47b60_2 ⟨Nat.le_of_ble_eq_true rfl, Nat.le_of_ble_eq_true rfl⟩) (fun ab H locs hh => ?_)
  refine lv_aload_n hx hb dJ5_putStringAt_47b60_5 rfl (lv_at hl 2 rfl) ?_
  refine lv_aload_n hx hb dJ5_putStringAt_47b60_6 rfl (lv_at hl 0 rfl) ?_
  refine am_getRB X hh 0 1 0 1 (by decide) rfl rfl (by decide) hwRJ4 (show Cond.fieldLink RJ5 15 "java/lang/AbstractStringBuilder" "value" "[B" ∈ wsJ5_putStringAt_47b60 by decide +kernel) rfl dJ5_putStringAt_47b60_7 ?_
  refine lv_iload_n hx hb dJ5_putStringAt_47b60_10 rfl (lv_at hl 1 rfl) ?_
  refine lv_aload_n hx hb dJ5_putStringAt_47b60_11 rfl (lv_at hl 0 rfl) ?_
  refine am_getIB X hh 0 1 1 (by decide) rfl rfl (by decide) hwRJ4 (show Cond.fieldLink RJ5 22 "java/lang/AbstractStringBuilder" "coder" "B" ∈ wsJ5_putStringAt_47b60 by decide +kernel) rfl dJ5_putStringAt_47b60_12 ?_
  obtain ⟨w5, hk3, hF⟩ := am_bind hF
  refine am_callFB X hh (va_runV (As := [.ref (gAd G 1), .int x1, .int (gI w 0 1)]) (rest := []) X.1 (cB_J0_getBytes_840e7 l G hx2 hk3) (cwV 3 hts gJ5_putStringAt_47b60_J0_getBytes_840e7 rfl rfl rfl (by decide +kernel) ⟨Nat.le_of_ble_eq_true rfl, Nat.le_of_ble_eq_true rfl⟩) ⟨am_blindFB, tx_recv X.2.2.1.2.1.2.2.2.2 (i := x2) hx2 hh.2.2, fun U hU hW => ⟨rfl, am_relFB X hh hU hW⟩⟩ rfl rfl hl.1 rfl (lv_room (Nat.le_of_ble_eq_true rfl)) dJ5_putStringAt_47b60_15 ⟨Nat.le_of_ble_eq_true rfl, Nat.le_of_ble_eq_true rfl⟩) (fun H locs hh => ?_)
  exact am_vretB X hr hh (fun t ht => am_qvB hF ht) (Nat.le_of_ble_eq_true rfl) (Nat.le_of_ble_eq_true rfl) dJ5_putStringAt_47b60_18
def fB_J5_append_cf1ce (w : Wd) (x1 : Nat) : Option Wd := ((fB_J0_length_8abf5 x1).bind fun r2 => ((fB_J5_ensureCapacityInternal_d00df w ((gI w 0 3) + r2)).bind fun w5 => ((fB_J5_putStringAt_47b60 w5 (gI w5 0 3) x1).bind fun w8 => (wl (uI w8 0 3 ((gI w8 0 3) + r2)) fun w9 => (some w9)))))
set_option maxHeartbeats 4000000 in
set_option maxRecDepth 100000 in
theorem cB_J5_append_cf1ce (l : Launch) (G : GG) {w : Wd} {x1 : Nat} {w1 : Wd} (hx1 : gAv G (300 + x1) = 1) (hF : fB_J5_append_cf1ce w x1 = some w1) : Met l yJ5_append_cf1ce wsJ5_append_cf1ce ({ frames := 3, cells := 0, slots := 0, locals := 105 } : Room) (va_Pc [.ref (gAd G 0), .ref (gAv G (100 + x1))] (RelB G w)) (amQB G (some (.ref (gAd G 0))) w1) 0 0 (gA G) := by
  refine am_metFB (own := RJ5) (cc := cJ5_append_cf1ce) (maxL := 3) (ret := (some (.object "java/lang/AbstractStringBuilder"))) (by decide +kernel) rfl rfl (Nat.le_of_ble_eq_true rfl) ?_
  intro p e s m args below meth c ab H locs ls X hr hh hl
  have hx := X.1.1; have hb := X.1.2.1; have hml := X.1.2.2.1; have hown := X.1.2.2.2.1; have hts := X.1.2.2.2.2
  have hl : lv_has ls 3 [(0, .ref (gAd G 0)), (1, .ref (gAv G (100 + x1)))] := hl
  have hwRJ4 : ∀ z ∈ u_ws RJ4 TJ4 4, z ∈ wsJ5_append_cf1ce := by decide +kernel
  unfold fB_J5_append_cf1ce at hF
  refine lv_aload_n hx hb dJ5_append_cf1ce_0 rfl (lv_at hl 1 rfl) ?_
  refine lv_ifnonnull (tgt := 9) hx hb dJ5_append_cf1ce_1 (by decide) ?_
  refine lv_aload_n hx hb dJ5_append_cf1ce_9 rfl (lv_at hl 1 rfl) ?_
  obtain ⟨r2, hk1, hF⟩ := am_bind hF
  refine am_callFB X hh (va_runV (As := []) (rest := []) X.1 (cB_J0_length_8abf5 l G hx1 hk1) (cwV 0 hts gJ5_append_cf1ce_J0_length_8abf5 rfl rfl rfl (by decide +kernel) ⟨Nat.le_of_ble_eq_true rfl, Nat.le_of_ble_eq_true rfl⟩) ⟨am_blindFB, tx_recv X.2.2.1.2.1.2.2.2.2 (i := x1) hx1 hh.2.2, fun U hU hW => ⟨rfl, am_relFB X hh hU hW⟩⟩ rfl rfl hl.1 rfl (lv_room (Nat.le_of_ble_eq_true rfl)) dJ5_append_cf1ce_10 ⟨Nat.le_of_ble_eq_true rfl, Nat.le_of_ble_eq_true rfl⟩) (fun H locs hh => ?_)
  refine lv_istore_n (lv' := [(2, .int r2), (0, .ref (gAd G 0)), (1, .ref (gAv G (100 + x1)))]) hx hb dJ5_append_cf1ce_13 rfl hl (by decide) rfl (fun ls hl => ?_)
  refine lv_aload_n hx hb dJ5_append_cf1ce_14 rfl (lv_at hl 1 rfl) ?_
  refine lv_aload_n hx hb dJ5_append_cf1ce_15 rfl (lv_at hl 1 rfl) ?_
  refine am_getIB X hh 0 1 3 (by decide) rfl rfl (by decide) hwRJ4 (show Cond.fieldLink RJ5 79 "java/lang/AbstractStringBuilder" "count" "I" ∈ wsJ5_append_cf1ce by decide +kernel) rfl dJ5_append_cf1ce_16 ?_
  refine lv_iload_n hx hb dJ5_append_cf1ce_19 rfl (lv_at hl 0 rfl) ?_
  refine lv_iadd hx hb dJ5_append_cf1ce_20 ?_
  obtain ⟨w5, hk3, hF⟩ := am_bind hF
  refine am_callB X hh (va_runU (As := [.int ((gI w 0 3) + r2)]) (rest := []) X.1 (cB_J5_ensureCapacityInternal_d00df l G hk3) (va_cwU 1 hts gJ5_append_cf1ce_J5_ensureCapacityInternal_d00df_u100J4 rfl rfl rfl rfl (by decide +kernel) ⟨Nat.le_of_ble_eq_true rfl, Nat.le_of_ble_eq_true rfl⟩) (am_preVB X hh 0 1 (by decide) rfl rfl) rfl rfl hl.1 rfl (lv_room (Nat.le_of_ble_eq_true rfl)) dJ5_append_cf1ce_21 ⟨Nat.le_of_ble_eq_true rfl, Nat.le_of_ble_eq_true rfl⟩) (fun ab H locs hh => ?_)
  refine lv_aload_n hx hb dJ5_append_cf1ce_24 rfl (lv_at hl 1 rfl) ?_
  refine lv_aload_n hx hb dJ5_append_cf1ce_25 rfl (lv_at hl 1 rfl) ?_
  refine am_getIB X hh 0 1 3 (by decide) rfl rfl (by decide) hwRJ4 (show Cond.fieldLink RJ5 79 "java/lang/AbstractStringBuilder" "count" "I" ∈ wsJ5_append_cf1ce by decide +kernel) rfl dJ5_append_cf1ce_26 ?_
  refine lv_aload_n hx hb dJ5_append_cf1ce_29 rfl (lv_at hl 2 rfl) ?_
  obtain ⟨w8, hk6, hF⟩ := am_bind hF
  refine am_callB X hh (va_runU (As := [.int (gI w5 0 3), .ref (gAv G (100 + x1))]) (rest := []) X.1 (cB_J5_putStringAt_47b60 l G hx1 hk6) (va_cwU 2 hts gJ5_append_cf1ce_J5_putStringAt_47b60_u208J4 rfl rfl rfl rfl (by decide +kernel) ⟨Nat.le_of_ble_eq_true rfl, Nat.le_of_ble_eq_true rfl⟩) (am_preVB X hh 0 1 (by decide) rfl rfl) rfl rfl hl.1 rfl (lv_room (Nat.le_of_ble_eq_true rfl)) dJ5_append_cf1ce_30 ⟨Nat.le_of_ble_eq_true rfl, Nat.le_of_ble_eq_true rfl⟩) (fun ab H locs hh => ?_)
  refine lv_aload_n hx hb dJ5_append_cf1ce_33 rfl (lv_at hl 1 rfl) ?_
  refine lv_dup hx hb dJ5_append_cf1ce_34 rfl ?_
  refine am_getIB X hh 0 1 3 (by decide) rfl rfl (by decide) hwRJ4 (show Cond.fieldLink RJ5 79 "java/lang/AbstractStringBuilder" "count" "I" ∈ wsJ5_append_cf1ce by decide +kernel) rfl dJ5_append_cf1ce_35 ?_
  refine lv_iload_n hx hb dJ5_append_cf1ce_38 rfl (lv_at hl 0 rfl) ?_
  refine lv_iadd hx hb dJ5_append_cf1ce_39 ?_
  refine am_putIB X hh 0 1 3 (by decide) rfl rfl (by decide) hwRJ4 tyJ4 tyJ4_ok nmJ4 (show Cond.fieldLink RJ5 79 "java/lang/AbstractStringBuilder" "count" "I" ∈ wsJ5_append_cf1ce by decide +kernel) rfl rfl rfl rfl dJ5_append_cf1ce_40 (fun H locs hh => ?_)
  obtain ⟨w9, hw9, hF⟩ := am_wl hF
  have hh := AH_eqB hw9 hh
  refine lv_aload_n hx hb dJ5_append_cf1ce_43 rfl (lv_at hl 1 rfl) ?_
  exact am_aretB X hr (Or.inl ⟨_, rfl⟩) (Or.inr ⟨_, rfl⟩) hh (fun t ht => am_qvTB hF ht) (Nat.le_of_ble_eq_true rfl) (Nat.le_of_ble_eq_true rfl) dJ5_append_cf1ce_44
def fB_J4_append_15ec4 (w : Wd) (x1 : Nat) : Option Wd := ((fB_J5_append_cf1ce w x1).bind fun w3 => (some w3))
set_option maxHeartbeats 4000000 in
set_option maxRecDepth 100000 in
theorem cB_J4_append_15ec4 (l : Launch) (G : GG) {w : Wd} {x1 : Nat} {w1 : Wd} (hx1 : gAv G (300 + x1) = 1) (hF : fB_J4_append_15ec4 w x1 = some w1) : Met l yJ4_append_15ec4 wsJ4_append_15ec4 ({ frames := 4, cells := 0, slots := 0, locals := 127 } : Room) (va_Pc [.ref (gAd G 0), .ref (gAv G (100 + x1))] (RelB G w)) (amQB G (some (.ref (gAd G 0))) w1) 0 0 (gA G) := by
  refine am_metFB (own := RJ4) (cc := cJ4_append_15ec4) (maxL := 2) (ret := (some (.object "java/lang/StringBuilder"))) (by decide +kernel) rfl rfl (Nat.le_of_ble_eq_true rfl) ?_
  intro p e s m args below meth c ab H locs ls X hr hh hl
  have hx := X.1.1; have hb := X.1.2.1; have hml := X.1.2.2.1; have hown := X.1.2.2.2.1; have hts := X.1.2.2.2.2
  have hl : lv_has ls 2 [(0, .ref (gAd G 0)), (1, .ref (gAv G (100 + x1)))] := hl
  unfold fB_J4_append_15ec4 at hF
  refine lv_aload_n hx hb dJ4_append_15ec4_0 rfl (lv_at hl 0 rfl) ?_
  refine lv_aload_n hx hb dJ4_append_15ec4_1 rfl (lv_at hl 1 rfl) ?_
  obtain ⟨w3, hk1, hF⟩ := am_bind hF
  refine am_callB X hh (va_runSU (As := [.ref (gAv G (100 + x1))]) (rest := []) (X.2.1.1 1 _ rfl).2 X.1 (cB_J5_append_cf1ce l G hx1 hk1) (va_cwSU 1 hts gJ4_append_15ec4_J5_append_cf1ce_s29 rfl rfl rfl (by decide +kernel) ⟨Nat.le_of_ble_eq_true rfl, Nat.le_of_ble_eq_true rfl⟩) (am_preVB X hh 0 1 (by decide) rfl rfl) rfl rfl hl.1 rfl (lv_room (Nat.le_of_ble_eq_true rfl)) dJ4_append_15ec4_2 ⟨Nat.le_of_ble_eq_true rfl, Nat.le_of_ble_eq_true rfl⟩) (fun ab H locs hh => ?_)
  refine lv_pop hx hb dJ4_append_15ec4_5 rfl ?_
  refine lv_aload_n hx hb dJ4_append_15ec4_6 rfl (lv_at hl 0 rfl) ?_
  exact am_aretB X hr (Or.inl ⟨_, rfl⟩) (Or.inr ⟨_, rfl⟩) hh (fun t ht => am_qvTB hF ht) (Nat.le_of_ble_eq_true rfl) (Nat.le_of_ble_eq_true rfl) dJ4_append_15ec4_7
