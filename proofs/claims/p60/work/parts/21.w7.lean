set_option maxHeartbeats 4000000 in
set_option maxRecDepth 100000 in
theorem c_X7_copyFrom (l : Launch) (G : GG) {w : Wd} {b0 : Nat} {b1 : Nat} {w1 : Wd} (hb0 : isSt b0) (hb1 : isSt b1) (hF : f_X7_copyFrom w b0 b1 = some w1) : Met l yX7_copyFrom wsX7_copyFrom ({ frames := 0, cells := 0, slots := 0, locals := 0 } : Room) (va_Pc [.ref (gAd G b0), .ref (gAd G b1)] (Rel G w)) (amQ G none w1) 0 0 (gA G) := by
  refine am_met (own := RX7) (cc := cX7_copyFrom) (maxL := 3) (ret := none) (by decide +kernel) rfl rfl (Nat.le_of_ble_eq_true rfl) ?_
  intro p e s m args below meth c ab H locs ls X hr hh hl
  have hx := X.1.1; have hb := X.1.2.1; have hml := X.1.2.2.1; have hown := X.1.2.2.2.1; have hts := X.1.2.2.2.2
  have hl : lv_has ls 3 [(0, .ref (gAd G b0)), (1, .ref (gAd G b1))] := hl
  rw [← adx_b (ad := gAd G) (ab := ab) hb0, ← adx_b (ad := gAd G) (ab := ab) hb1] at hl
  have hwRX7 : ∀ z ∈ u_ws RX7 TX7 17, z ∈ wsX7_copyFrom := by decide +kernel
  unfold f_X7_copyFrom at hF
  refine lv_iconst (v := (0 : Int32)) hx hb dX7_copyFrom_0 (by decide) ?_
  refine lv_istore_n (lv' := [(2, .int (0 : Int32)), (0, .ref (adx (gAd G) ab b0)), (1, .ref (adx (gAd G) ab b1))]) hx hb dX7_copyFrom_1 rfl hl (by decide) rfl (fun ls hl => ?_)
  have hlp2 : ∀ (n : Nat) (y1 : Int32) (w2 : Wd) (ab : Nat) (H : Heap) (locs : List Loc) (ls : Array Slot) (z : (Int32 × Wd) ⊕ Unit), p_X7_copyFrom_2 b0 b1 n y1 w2 = some z → AH G s.heap w2 ab H locs → lv_has ls 3 [(2, .int y1), (0, .ref (adx (gAd G) ab b0)), (1, .ref (adx (gAd G) ab b1))] → (∀ (y1 : Int32) (w2 : Wd) (ab : Nat) (H : Heap) (locs : List Loc) (ls : Array Slot), z = .inl (y1, w2) → AH G s.heap w2 ab H locs → lv_has ls 3 [(2, .int y1), (0, .ref (adx (gAd G) ab b0)), (1, .ref (adx (gAd G) ab b1))] → W p l e ({ frames := 0, cells := 0, slots := 0, locals := 0 } : Room) s m args below meth c H locs 0 0 (MQ below (amQ G none w1) args s 0 0 (gA G)) (F0 m 110 ls [])) → W p l e ({ frames := 0, cells := 0, slots := 0, locals := 0 } : Room) s m args below meth c H locs 0 0 (MQ below (amQ G none w1) args s 0 0 (gA G)) (F0 m 2 ls []) := by
    intro n
    induction n with
    | zero =>
      intro y1 w2 ab H locs ls z hF
      unfold p_X7_copyFrom_2 at hF
      cases hF
    | succ n ih =>
      intro y1 w2 ab H locs ls z hF hh hl kE
      unfold p_X7_copyFrom_2 at hF
      refine lv_iload_n hx hb dX7_copyFrom_2 rfl (lv_at hl 0 rfl) ?_
      refine lv_bipush (v := (10 : Int32)) hx hb dX7_copyFrom_3 (by decide) ?_
      refine lv_icmp_ge (tgt := 110) hx hb dX7_copyFrom_5 (by decide) (fun hc4 => ?_) (fun hc4 => ?_)
      · have hF := am_pos hc4 hF
        exact kE y1 w2 ab H locs ls (Option.some.inj hF).symm hh (lv_sub hl [0, 1, 2] rfl)
      · have hF := am_neg hc4 hF
        refine lv_aload_n hx hb dX7_copyFrom_8 rfl (lv_at hl 1 rfl) ?_
        refine am_getR X hh b0 9 0 (b0 + 1) (st_lt hb0 0 (by decide)) (dsc_st hb0 _ 0 (by decide)) rfl (by decide) hwRX7 (show Cond.fieldLink RX7 9 "PlanetWorkshop$State" "teeth" "[I" ∈ wsX7_copyFrom by decide +kernel) rfl dX7_copyFrom_9 ?_
        refine lv_iload_n hx hb dX7_copyFrom_12 rfl (lv_at hl 0 rfl) ?_
        refine lv_aload_n hx hb dX7_copyFrom_13 rfl (lv_at hl 2 rfl) ?_
        refine am_getR X hh b1 9 0 (b1 + 1) (st_lt hb1 0 (by decide)) (dsc_st hb1 _ 0 (by decide)) rfl (by decide) hwRX7 (show Cond.fieldLink RX7 9 "PlanetWorkshop$State" "teeth" "[I" ∈ wsX7_copyFrom by decide +kernel) rfl dX7_copyFrom_14 ?_
        refine lv_iload_n hx hb dX7_copyFrom_17 rfl (lv_at hl 0 rfl) ?_
        obtain ⟨hq5, hF⟩ := am_ifR hF
        refine am_iald X hh (b1 + 1) (st_lt hb1 1 (by decide)) (dsc_st hb1 _ 1 (by decide)) hq5 dX7_copyFrom_18 ?_
        obtain ⟨hq6, hF⟩ := am_ifR hF
        refine am_iast X hh (b0 + 1) (st_lt hb0 1 (by decide)) (dsc_st hb0 _ 1 (by decide)) hq6 dX7_copyFrom_19 (fun H locs hh => ?_)
        obtain ⟨w7, hw7, hF⟩ := am_wl hF
        have hh := AH_eq hw7 hh
        refine lv_aload_n hx hb dX7_copyFrom_20 rfl (lv_at hl 1 rfl) ?_
        refine am_getR X hh b0 9 1 (b0 + 2) (st_lt hb0 0 (by decide)) (dsc_st hb0 _ 0 (by decide)) rfl (by decide) hwRX7 (show Cond.fieldLink RX7 15 "PlanetWorkshop$State" "angles" "[J" ∈ wsX7_copyFrom by decide +kernel) rfl dX7_copyFrom_21 ?_
        refine lv_iload_n hx hb dX7_copyFrom_24 rfl (lv_at hl 0 rfl) ?_
        refine lv_aload_n hx hb dX7_copyFrom_25 rfl (lv_at hl 2 rfl) ?_
        refine am_getR X hh b1 9 1 (b1 + 2) (st_lt hb1 0 (by decide)) (dsc_st hb1 _ 0 (by decide)) rfl (by decide) hwRX7 (show Cond.fieldLink RX7 15 "PlanetWorkshop$State" "angles" "[J" ∈ wsX7_copyFrom by decide +kernel) rfl dX7_copyFrom_26 ?_
        refine lv_iload_n hx hb dX7_copyFrom_29 rfl (lv_at hl 0 rfl) ?_
        obtain ⟨hq8, hF⟩ := am_ifR hF
        refine am_lald X hh (b1 + 2) (st_lt hb1 2 (by decide)) (dsc_st hb1 _ 2 (by decide)) hq8 dX7_copyFrom_30 ?_
        obtain ⟨hq9, hF⟩ := am_ifR hF
        refine am_last X hh (b0 + 2) (st_lt hb0 2 (by decide)) (dsc_st hb0 _ 2 (by decide)) hq9 dX7_copyFrom_31 (fun H locs hh => ?_)
        obtain ⟨w10, hw10, hF⟩ := am_wl hF
        have hh := AH_eq hw10 hh
        refine lv_aload_n hx hb dX7_copyFrom_32 rfl (lv_at hl 1 rfl) ?_
        refine am_getR X hh b0 9 2 (b0 + 3) (st_lt hb0 0 (by decide)) (dsc_st hb0 _ 0 (by decide)) rfl (by decide) hwRX7 (show Cond.fieldLink RX7 19 "PlanetWorkshop$State" "oiled" "[Z" ∈ wsX7_copyFrom by decide +kernel) rfl dX7_copyFrom_33 ?_
        refine lv_iload_n hx hb dX7_copyFrom_36 rfl (lv_at hl 0 rfl) ?_
        refine lv_aload_n hx hb dX7_copyFrom_37 rfl (lv_at hl 2 rfl) ?_
        refine am_getR X hh b1 9 2 (b1 + 3) (st_lt hb1 0 (by decide)) (dsc_st hb1 _ 0 (by decide)) rfl (by decide) hwRX7 (show Cond.fieldLink RX7 19 "PlanetWorkshop$State" "oiled" "[Z" ∈ wsX7_copyFrom by decide +kernel) rfl dX7_copyFrom_38 ?_
        refine lv_iload_n hx hb dX7_copyFrom_41 rfl (lv_at hl 0 rfl) ?_
        obtain ⟨hq11, hF⟩ := am_ifR hF
        refine am_zald X hh (b1 + 3) (st_lt hb1 3 (by decide)) (dsc_st hb1 _ 3 (by decide)) hq11 dX7_copyFrom_42 ?_
        obtain ⟨hq12, hF⟩ := am_ifR hF
        refine am_zast X hh (b0 + 3) (st_lt hb0 3 (by decide)) (dsc_st hb0 _ 3 (by decide)) hq12 dX7_copyFrom_43 (fun H locs hh => ?_)
        obtain ⟨w13, hw13, hF⟩ := am_wl hF
        have hh := AH_eq hw13 hh
        refine lv_aload_n hx hb dX7_copyFrom_44 rfl (lv_at hl 1 rfl) ?_
        refine am_getR X hh b0 9 3 (b0 + 4) (st_lt hb0 0 (by decide)) (dsc_st hb0 _ 0 (by decide)) rfl (by decide) hwRX7 (show Cond.fieldLink RX7 23 "PlanetWorkshop$State" "wears" "[J" ∈ wsX7_copyFrom by decide +kernel) rfl dX7_copyFrom_45 ?_
        refine lv_iload_n hx hb dX7_copyFrom_48 rfl (lv_at hl 0 rfl) ?_
        refine lv_aload_n hx hb dX7_copyFrom_49 rfl (lv_at hl 2 rfl) ?_
        refine am_getR X hh b1 9 3 (b1 + 4) (st_lt hb1 0 (by decide)) (dsc_st hb1 _ 0 (by decide)) rfl (by decide) hwRX7 (show Cond.fieldLink RX7 23 "PlanetWorkshop$State" "wears" "[J" ∈ wsX7_copyFrom by decide +kernel) rfl dX7_copyFrom_50 ?_
        refine lv_iload_n hx hb dX7_copyFrom_53 rfl (lv_at hl 0 rfl) ?_
        obtain ⟨hq14, hF⟩ := am_ifR hF
        refine am_lald X hh (b1 + 4) (st_lt hb1 4 (by decide)) (dsc_st hb1 _ 4 (by decide)) hq14 dX7_copyFrom_54 ?_
        obtain ⟨hq15, hF⟩ := am_ifR hF
        refine am_last X hh (b0 + 4) (st_lt hb0 4 (by decide)) (dsc_st hb0 _ 4 (by decide)) hq15 dX7_copyFrom_55 (fun H locs hh => ?_)
        obtain ⟨w16, hw16, hF⟩ := am_wl hF
        have hh := AH_eq hw16 hh
        refine lv_aload_n hx hb dX7_copyFrom_56 rfl (lv_at hl 1 rfl) ?_
        refine am_getR X hh b0 9 4 (b0 + 5) (st_lt hb0 0 (by decide)) (dsc_st hb0 _ 0 (by decide)) rfl (by decide) hwRX7 (show Cond.fieldLink RX7 26 "PlanetWorkshop$State" "ratchets" "[Z" ∈ wsX7_copyFrom by decide +kernel) rfl dX7_copyFrom_57 ?_
        refine lv_iload_n hx hb dX7_copyFrom_60 rfl (lv_at hl 0 rfl) ?_
        refine lv_aload_n hx hb dX7_copyFrom_61 rfl (lv_at hl 2 rfl) ?_
        refine am_getR X hh b1 9 4 (b1 + 5) (st_lt hb1 0 (by decide)) (dsc_st hb1 _ 0 (by decide)) rfl (by decide) hwRX7 (show Cond.fieldLink RX7 26 "PlanetWorkshop$State" "ratchets" "[Z" ∈ wsX7_copyFrom by decide +kernel) rfl dX7_copyFrom_62 ?_
        refine lv_iload_n hx hb dX7_copyFrom_65 rfl (lv_at hl 0 rfl) ?_
        obtain ⟨hq17, hF⟩ := am_ifR hF
        refine am_zald X hh (b1 + 5) (st_lt hb1 5 (by decide)) (dsc_st hb1 _ 5 (by decide)) hq17 dX7_copyFrom_66 ?_
        obtain ⟨hq18, hF⟩ := am_ifR hF
        refine am_zast X hh (b0 + 5) (st_lt hb0 5 (by decide)) (dsc_st hb0 _ 5 (by decide)) hq18 dX7_copyFrom_67 (fun H locs hh => ?_)
        obtain ⟨w19, hw19, hF⟩ := am_wl hF
        have hh := AH_eq hw19 hh
        refine lv_aload_n hx hb dX7_copyFrom_68 rfl (lv_at hl 1 rfl) ?_
        refine am_getR X hh b0 9 5 (b0 + 6) (st_lt hb0 0 (by decide)) (dsc_st hb0 _ 0 (by decide)) rfl (by decide) hwRX7 (show Cond.fieldLink RX7 29 "PlanetWorkshop$State" "springSizes" "[I" ∈ wsX7_copyFrom by decide +kernel) rfl dX7_copyFrom_69 ?_
        refine lv_iload_n hx hb dX7_copyFrom_72 rfl (lv_at hl 0 rfl) ?_
        refine lv_aload_n hx hb dX7_copyFrom_73 rfl (lv_at hl 2 rfl) ?_
        refine am_getR X hh b1 9 5 (b1 + 6) (st_lt hb1 0 (by decide)) (dsc_st hb1 _ 0 (by decide)) rfl (by decide) hwRX7 (show Cond.fieldLink RX7 29 "PlanetWorkshop$State" "springSizes" "[I" ∈ wsX7_copyFrom by decide +kernel) rfl dX7_copyFrom_74 ?_
        refine lv_iload_n hx hb dX7_copyFrom_77 rfl (lv_at hl 0 rfl) ?_
        obtain ⟨hq20, hF⟩ := am_ifR hF
        refine am_iald X hh (b1 + 6) (st_lt hb1 6 (by decide)) (dsc_st hb1 _ 6 (by decide)) hq20 dX7_copyFrom_78 ?_
        obtain ⟨hq21, hF⟩ := am_ifR hF
        refine am_iast X hh (b0 + 6) (st_lt hb0 6 (by decide)) (dsc_st hb0 _ 6 (by decide)) hq21 dX7_copyFrom_79 (fun H locs hh => ?_)
        obtain ⟨w22, hw22, hF⟩ := am_wl hF
        have hh := AH_eq hw22 hh
        refine lv_aload_n hx hb dX7_copyFrom_80 rfl (lv_at hl 1 rfl) ?_
        refine am_getR X hh b0 9 6 (b0 + 7) (st_lt hb0 0 (by decide)) (dsc_st hb0 _ 0 (by decide)) rfl (by decide) hwRX7 (show Cond.fieldLink RX7 32 "PlanetWorkshop$State" "tensions" "[I" ∈ wsX7_copyFrom by decide +kernel) rfl dX7_copyFrom_81 ?_
        refine lv_iload_n hx hb dX7_copyFrom_84 rfl (lv_at hl 0 rfl) ?_
        refine lv_aload_n hx hb dX7_copyFrom_85 rfl (lv_at hl 2 rfl) ?_
        refine am_getR X hh b1 9 6 (b1 + 7) (st_lt hb1 0 (by decide)) (dsc_st hb1 _ 0 (by decide)) rfl (by decide) hwRX7 (show Cond.fieldLink RX7 32 "PlanetWorkshop$State" "tensions" "[I" ∈ wsX7_copyFrom by decide +kernel) rfl dX7_copyFrom_86 ?_
        refine lv_iload_n hx hb dX7_copyFrom_89 rfl (lv_at hl 0 rfl) ?_
        obtain ⟨hq23, hF⟩ := am_ifR hF
        refine am_iald X hh (b1 + 7) (st_lt hb1 7 (by decide)) (dsc_st hb1 _ 7 (by decide)) hq23 dX7_copyFrom_90 ?_
        obtain ⟨hq24, hF⟩ := am_ifR hF
        refine am_iast X hh (b0 + 7) (st_lt hb0 7 (by decide)) (dsc_st hb0 _ 7 (by decide)) hq24 dX7_copyFrom_91 (fun H locs hh => ?_)
        obtain ⟨w25, hw25, hF⟩ := am_wl hF
        have hh := AH_eq hw25 hh
        refine lv_aload_n hx hb dX7_copyFrom_92 rfl (lv_at hl 1 rfl) ?_
        refine am_getR X hh b0 9 7 (b0 + 8) (st_lt hb0 0 (by decide)) (dsc_st hb0 _ 0 (by decide)) rfl (by decide) hwRX7 (show Cond.fieldLink RX7 35 "PlanetWorkshop$State" "reversed" "[Z" ∈ wsX7_copyFrom by decide +kernel) rfl dX7_copyFrom_93 ?_
        refine lv_iload_n hx hb dX7_copyFrom_96 rfl (lv_at hl 0 rfl) ?_
        refine lv_aload_n hx hb dX7_copyFrom_97 rfl (lv_at hl 2 rfl) ?_
        refine am_getR X hh b1 9 7 (b1 + 8) (st_lt hb1 0 (by decide)) (dsc_st hb1 _ 0 (by decide)) rfl (by decide) hwRX7 (show Cond.fieldLink RX7 35 "PlanetWorkshop$State" "reversed" "[Z" ∈ wsX7_copyFrom by decide +kernel) rfl dX7_copyFrom_98 ?_
        refine lv_iload_n hx hb dX7_copyFrom_101 rfl (lv_at hl 0 rfl) ?_
        obtain ⟨hq26, hF⟩ := am_ifR hF
        refine am_zald X hh (b1 + 8) (st_lt hb1 8 (by decide)) (dsc_st hb1 _ 8 (by decide)) hq26 dX7_copyFrom_102 ?_
        obtain ⟨hq27, hF⟩ := am_ifR hF
        refine am_zast X hh (b0 + 8) (st_lt hb0 8 (by decide)) (dsc_st hb0 _ 8 (by decide)) hq27 dX7_copyFrom_103 (fun H locs hh => ?_)
        obtain ⟨w28, hw28, hF⟩ := am_wl hF
        have hh := AH_eq hw28 hh
        refine lv_iinc (v := (y1 + (1 : Int32))) (lv' := [(2, .int (y1 + (1 : Int32))), (0, .ref (adx (gAd G) ab b0)), (1, .ref (adx (gAd G) ab b1))]) hx hb dX7_copyFrom_104 hl (k := 0) rfl rfl (by decide) rfl (fun ls hl => ?_)
        refine lv_goto (tgt := 2) hx hb dX7_copyFrom_107 (by decide) ?_
        exact ih (y1 + (1 : Int32)) w28 ab H locs ls _ hF hh (lv_sub hl [0, 1, 2] rfl) kE
  obtain ⟨z29, hz30, hF⟩ := am_bind hF
  refine hlp2 2000 (0 : Int32) w ab H locs ls z29 hz30 hh (lv_sub hl [0, 1, 2] rfl) (fun y1 w2 ab H locs ls hz hh hl => ?_)
  · subst hz
    have hF := am_zl hF
    have hF := am_u2 hF
    refine lv_iconst (v := (0 : Int32)) hx hb dX7_copyFrom_110 (by decide) ?_
    refine lv_istore_n (lv' := [(2, .int (0 : Int32)), (0, .ref (adx (gAd G) ab b0)), (1, .ref (adx (gAd G) ab b1))]) hx hb dX7_copyFrom_111 rfl hl (by decide) rfl (fun ls hl => ?_)
    have hlp112 : ∀ (n : Nat) (y31 : Int32) (w32 : Wd) (ab : Nat) (H : Heap) (locs : List Loc) (ls : Array Slot) (z : (Int32 × Wd) ⊕ Unit), p_X7_copyFrom_112 b0 b1 n y31 w32 = some z → AH G s.heap w32 ab H locs → lv_has ls 3 [(2, .int y31), (0, .ref (adx (gAd G) ab b0)), (1, .ref (adx (gAd G) ab b1))] → (∀ (y31 : Int32) (w32 : Wd) (ab : Nat) (H : Heap) (locs : List Loc) (ls : Array Slot), z = .inl (y31, w32) → AH G s.heap w32 ab H locs → lv_has ls 3 [(2, .int y31), (0, .ref (adx (gAd G) ab b0)), (1, .ref (adx (gAd G) ab b1))] → W p l e ({ frames := 0, cells := 0, slots := 0, locals := 0 } : Room) s m args below meth c H locs 0 0 (MQ below (amQ G none w1) args s 0 0 (gA G)) (F0 m 136 ls [])) → W p l e ({ frames := 0, cells := 0, slots := 0, locals := 0 } : Room) s m args below meth c H locs 0 0 (MQ below (amQ G none w1) args s 0 0 (gA G)) (F0 m 112 ls []) := by
      intro n
      induction n with
      | zero =>
        intro y31 w32 ab H locs ls z hF
        unfold p_X7_copyFrom_112 at hF
        cases hF
      | succ n ih =>
        intro y31 w32 ab H locs ls z hF hh hl kE
        unfold p_X7_copyFrom_112 at hF
        refine lv_iload_n hx hb dX7_copyFrom_112 rfl (lv_at hl 0 rfl) ?_
        refine lv_bipush (v := (100 : Int32)) hx hb dX7_copyFrom_113 (by decide) ?_
        refine lv_icmp_ge (tgt := 136) hx hb dX7_copyFrom_115 (by decide) (fun hc34 => ?_) (fun hc34 => ?_)
        · have hF := am_pos hc34 hF
          exact kE y31 w32 ab H locs ls (Option.some.inj hF).symm hh (lv_sub hl [0, 1, 2] rfl)
        · have hF := am_neg hc34 hF
          refine lv_aload_n hx hb dX7_copyFrom_118 rfl (lv_at hl 1 rfl) ?_
          refine am_getR X hh b0 9 8 (b0 + 9) (st_lt hb0 0 (by decide)) (dsc_st hb0 _ 0 (by decide)) rfl (by decide) hwRX7 (show Cond.fieldLink RX7 38 "PlanetWorkshop$State" "jointKinds" "[C" ∈ wsX7_copyFrom by decide +kernel) rfl dX7_copyFrom_119 ?_
          refine lv_iload_n hx hb dX7_copyFrom_122 rfl (lv_at hl 0 rfl) ?_
          refine lv_aload_n hx hb dX7_copyFrom_123 rfl (lv_at hl 2 rfl) ?_
          refine am_getR X hh b1 9 8 (b1 + 9) (st_lt hb1 0 (by decide)) (dsc_st hb1 _ 0 (by decide)) rfl (by decide) hwRX7 (show Cond.fieldLink RX7 38 "PlanetWorkshop$State" "jointKinds" "[C" ∈ wsX7_copyFrom by decide +kernel) rfl dX7_copyFrom_124 ?_
          refine lv_iload_n hx hb dX7_copyFrom_127 rfl (lv_at hl 0 rfl) ?_
          obtain ⟨hq35, hF⟩ := am_ifR hF
          refine am_cald X hh (b1 + 9) (st_lt hb1 9 (by decide)) (dsc_st hb1 _ 9 (by decide)) hq35 dX7_copyFrom_128 ?_
          obtain ⟨hq36, hF⟩ := am_ifR hF
          refine am_cast X hh (b0 + 9) (st_lt hb0 9 (by decide)) (dsc_st hb0 _ 9 (by decide)) hq36 dX7_copyFrom_129 (fun H locs hh => ?_)
          obtain ⟨w37, hw37, hF⟩ := am_wl hF
          have hh := AH_eq hw37 hh
          refine lv_iinc (v := (y31 + (1 : Int32))) (lv' := [(2, .int (y31 + (1 : Int32))), (0, .ref (adx (gAd G) ab b0)), (1, .ref (adx (gAd G) ab b1))]) hx hb dX7_copyFrom_130 hl (k := 0) rfl rfl (by decide) rfl (fun ls hl => ?_)
          refine lv_goto (tgt := 112) hx hb dX7_copyFrom_133 (by decide) ?_
          exact ih (y31 + (1 : Int32)) w37 ab H locs ls _ hF hh (lv_sub hl [0, 1, 2] rfl) kE
    obtain ⟨z38, hz39, hF⟩ := am_bind hF
    refine hlp112 2000 (0 : Int32) w2 ab H locs ls z38 hz39 hh (lv_sub hl [0, 1, 2] rfl) (fun y31 w32 ab H locs ls hz hh hl => ?_)
    · subst hz
      have hF := am_zl hF
      have hF := am_u2 hF
      refine lv_iconst (v := (0 : Int32)) hx hb dX7_copyFrom_136 (by decide) ?_
      refine lv_istore_n (lv' := [(2, .int (0 : Int32)), (0, .ref (adx (gAd G) ab b0)), (1, .ref (adx (gAd G) ab b1))]) hx hb dX7_copyFrom_137 rfl hl (by decide) rfl (fun ls hl => ?_)
      have hlp138 : ∀ (n : Nat) (y40 : Int32) (w41 : Wd) (ab : Nat) (H : Heap) (locs : List Loc) (ls : Array Slot) (z : (Int32 × Wd) ⊕ Unit), p_X7_copyFrom_138 b0 b1 n y40 w41 = some z → AH G s.heap w41 ab H locs → lv_has ls 3 [(2, .int y40), (0, .ref (adx (gAd G) ab b0)), (1, .ref (adx (gAd G) ab b1))] → (∀ (y40 : Int32) (w41 : Wd) (ab : Nat) (H : Heap) (locs : List Loc) (ls : Array Slot), z = .inl (y40, w41) → AH G s.heap w41 ab H locs → lv_has ls 3 [(2, .int y40), (0, .ref (adx (gAd G) ab b0)), (1, .ref (adx (gAd G) ab b1))] → W p l e ({ frames := 0, cells := 0, slots := 0, locals := 0 } : Room) s m args below meth c H locs 0 0 (MQ below (amQ G none w1) args s 0 0 (gA G)) (F0 m 162 ls [])) → W p l e ({ frames := 0, cells := 0, slots := 0, locals := 0 } : Room) s m args below meth c H locs 0 0 (MQ below (amQ G none w1) args s 0 0 (gA G)) (F0 m 138 ls []) := by
        intro n
        induction n with
        | zero =>
          intro y40 w41 ab H locs ls z hF
          unfold p_X7_copyFrom_138 at hF
          cases hF
        | succ n ih =>
          intro y40 w41 ab H locs ls z hF hh hl kE
          unfold p_X7_copyFrom_138 at hF
          refine lv_iload_n hx hb dX7_copyFrom_138 rfl (lv_at hl 0 rfl) ?_
          refine lv_bipush (v := (6 : Int32)) hx hb dX7_copyFrom_139 (by decide) ?_
          refine lv_icmp_ge (tgt := 162) hx hb dX7_copyFrom_141 (by decide) (fun hc43 => ?_) (fun hc43 => ?_)
          · have hF := am_pos hc43 hF
            exact kE y40 w41 ab H locs ls (Option.some.inj hF).symm hh (lv_sub hl [0, 1, 2] rfl)
          · have hF := am_neg hc43 hF
            refine lv_aload_n hx hb dX7_copyFrom_144 rfl (lv_at hl 1 rfl) ?_
            refine am_getR X hh b0 9 9 (b0 + 10) (st_lt hb0 0 (by decide)) (dsc_st hb0 _ 0 (by decide)) rfl (by decide) hwRX7 (show Cond.fieldLink RX7 42 "PlanetWorkshop$State" "carriers" "[I" ∈ wsX7_copyFrom by decide +kernel) rfl dX7_copyFrom_145 ?_
            refine lv_iload_n hx hb dX7_copyFrom_148 rfl (lv_at hl 0 rfl) ?_
            refine lv_aload_n hx hb dX7_copyFrom_149 rfl (lv_at hl 2 rfl) ?_
            refine am_getR X hh b1 9 9 (b1 + 10) (st_lt hb1 0 (by decide)) (dsc_st hb1 _ 0 (by decide)) rfl (by decide) hwRX7 (show Cond.fieldLink RX7 42 "PlanetWorkshop$State" "carriers" "[I" ∈ wsX7_copyFrom by decide +kernel) rfl dX7_copyFrom_150 ?_
            refine lv_iload_n hx hb dX7_copyFrom_153 rfl (lv_at hl 0 rfl) ?_
            obtain ⟨hq44, hF⟩ := am_ifR hF
            refine am_iald X hh (b1 + 10) (st_lt hb1 10 (by decide)) (dsc_st hb1 _ 10 (by decide)) hq44 dX7_copyFrom_154 ?_
            obtain ⟨hq45, hF⟩ := am_ifR hF
            refine am_iast X hh (b0 + 10) (st_lt hb0 10 (by decide)) (dsc_st hb0 _ 10 (by decide)) hq45 dX7_copyFrom_155 (fun H locs hh => ?_)
            obtain ⟨w46, hw46, hF⟩ := am_wl hF
            have hh := AH_eq hw46 hh
            refine lv_iinc (v := (y40 + (1 : Int32))) (lv' := [(2, .int (y40 + (1 : Int32))), (0, .ref (adx (gAd G) ab b0)), (1, .ref (adx (gAd G) ab b1))]) hx hb dX7_copyFrom_156 hl (k := 0) rfl rfl (by decide) rfl (fun ls hl => ?_)
            refine lv_goto (tgt := 138) hx hb dX7_copyFrom_159 (by decide) ?_
            exact ih (y40 + (1 : Int32)) w46 ab H locs ls _ hF hh (lv_sub hl [0, 1, 2] rfl) kE
      obtain ⟨z47, hz48, hF⟩ := am_bind hF
      refine hlp138 2000 (0 : Int32) w32 ab H locs ls z47 hz48 hh (lv_sub hl [0, 1, 2] rfl) (fun y40 w41 ab H locs ls hz hh hl => ?_)
      · subst hz
        have hF := am_zl hF
        have hF := am_u2 hF
        refine lv_aload_n hx hb dX7_copyFrom_162 rfl (lv_at hl 1 rfl) ?_
        refine lv_aload_n hx hb dX7_copyFrom_163 rfl (lv_at hl 2 rfl) ?_
        refine am_getI X hh b1 9 10 (st_lt hb1 0 (by decide)) (dsc_st hb1 _ 0 (by decide)) rfl (by decide) hwRX7 (show Cond.fieldLink RX7 45 "PlanetWorkshop$State" "gears" "I" ∈ wsX7_copyFrom by decide +kernel) rfl dX7_copyFrom_164 ?_
        refine am_putI X hh b0 9 10 (st_lt hb0 0 (by decide)) (dsc_st hb0 _ 0 (by decide)) rfl (by decide) hwRX7 tyX7 tyX7_ok nmX7 (show Cond.fieldLink RX7 45 "PlanetWorkshop$State" "gears" "I" ∈ wsX7_copyFrom by decide +kernel) rfl rfl rfl rfl dX7_copyFrom_167 (fun H locs hh => ?_)
        obtain ⟨w49, hw49, hF⟩ := am_wl hF
        have hh := AH_eq hw49 hh
        refine lv_aload_n hx hb dX7_copyFrom_170 rfl (lv_at hl 1 rfl) ?_
        refine lv_aload_n hx hb dX7_copyFrom_171 rfl (lv_at hl 2 rfl) ?_
        refine am_getI X hh b1 9 11 (st_lt hb1 0 (by decide)) (dsc_st hb1 _ 0 (by decide)) rfl (by decide) hwRX7 (show Cond.fieldLink RX7 49 "PlanetWorkshop$State" "joints" "I" ∈ wsX7_copyFrom by decide +kernel) rfl dX7_copyFrom_172 ?_
        refine am_putI X hh b0 9 11 (st_lt hb0 0 (by decide)) (dsc_st hb0 _ 0 (by decide)) rfl (by decide) hwRX7 tyX7 tyX7_ok nmX7 (show Cond.fieldLink RX7 49 "PlanetWorkshop$State" "joints" "I" ∈ wsX7_copyFrom by decide +kernel) rfl rfl rfl rfl dX7_copyFrom_175 (fun H locs hh => ?_)
        obtain ⟨w50, hw50, hF⟩ := am_wl hF
        have hh := AH_eq hw50 hh
        refine lv_aload_n hx hb dX7_copyFrom_178 rfl (lv_at hl 1 rfl) ?_
        refine lv_aload_n hx hb dX7_copyFrom_179 rfl (lv_at hl 2 rfl) ?_
        refine am_getI X hh b1 9 12 (st_lt hb1 0 (by decide)) (dsc_st hb1 _ 0 (by decide)) rfl (by decide) hwRX7 (show Cond.fieldLink RX7 52 "PlanetWorkshop$State" "planets" "I" ∈ wsX7_copyFrom by decide +kernel) rfl dX7_copyFrom_180 ?_
        refine am_putI X hh b0 9 12 (st_lt hb0 0 (by decide)) (dsc_st hb0 _ 0 (by decide)) rfl (by decide) hwRX7 tyX7 tyX7_ok nmX7 (show Cond.fieldLink RX7 52 "PlanetWorkshop$State" "planets" "I" ∈ wsX7_copyFrom by decide +kernel) rfl rfl rfl rfl dX7_copyFrom_183 (fun H locs hh => ?_)
        obtain ⟨w51, hw51, hF⟩ := am_wl hF
        have hh := AH_eq hw51 hh
        refine lv_aload_n hx hb dX7_copyFrom_186 rfl (lv_at hl 1 rfl) ?_
        refine lv_aload_n hx hb dX7_copyFrom_187 rfl (lv_at hl 2 rfl) ?_
        refine am_getI X hh b1 9 13 (st_lt hb1 0 (by decide)) (dsc_st hb1 _ 0 (by decide)) rfl (by decide) hwRX7 (show Cond.fieldLink RX7 55 "PlanetWorkshop$State" "drops" "I" ∈ wsX7_copyFrom by decide +kernel) rfl dX7_copyFrom_188 ?_
        refine am_putI X hh b0 9 13 (st_lt hb0 0 (by decide)) (dsc_st hb0 _ 0 (by decide)) rfl (by decide) hwRX7 tyX7 tyX7_ok nmX7 (show Cond.fieldLink RX7 55 "PlanetWorkshop$State" "drops" "I" ∈ wsX7_copyFrom by decide +kernel) rfl rfl rfl rfl dX7_copyFrom_191 (fun H locs hh => ?_)
        obtain ⟨w52, hw52, hF⟩ := am_wl hF
        have hh := AH_eq hw52 hh
        refine lv_aload_n hx hb dX7_copyFrom_194 rfl (lv_at hl 1 rfl) ?_
        refine lv_aload_n hx hb dX7_copyFrom_195 rfl (lv_at hl 2 rfl) ?_
        refine am_getI X hh b1 9 14 (st_lt hb1 0 (by decide)) (dsc_st hb1 _ 0 (by decide)) rfl (by decide) hwRX7 (show Cond.fieldLink RX7 58 "PlanetWorkshop$State" "wound" "I" ∈ wsX7_copyFrom by decide +kernel) rfl dX7_copyFrom_196 ?_
        refine am_putI X hh b0 9 14 (st_lt hb0 0 (by decide)) (dsc_st hb0 _ 0 (by decide)) rfl (by decide) hwRX7 tyX7 tyX7_ok nmX7 (show Cond.fieldLink RX7 58 "PlanetWorkshop$State" "wound" "I" ∈ wsX7_copyFrom by decide +kernel) rfl rfl rfl rfl dX7_copyFrom_199 (fun H locs hh => ?_)
        obtain ⟨w53, hw53, hF⟩ := am_wl hF
        have hh := AH_eq hw53 hh
        refine lv_aload_n hx hb dX7_copyFrom_202 rfl (lv_at hl 1 rfl) ?_
        refine lv_aload_n hx hb dX7_copyFrom_203 rfl (lv_at hl 2 rfl) ?_
        refine am_getI X hh b1 9 15 (st_lt hb1 0 (by decide)) (dsc_st hb1 _ 0 (by decide)) rfl (by decide) hwRX7 (show Cond.fieldLink RX7 61 "PlanetWorkshop$State" "taken" "I" ∈ wsX7_copyFrom by decide +kernel) rfl dX7_copyFrom_204 ?_
        refine am_putI X hh b0 9 15 (st_lt hb0 0 (by decide)) (dsc_st hb0 _ 0 (by decide)) rfl (by decide) hwRX7 tyX7 tyX7_ok nmX7 (show Cond.fieldLink RX7 61 "PlanetWorkshop$State" "taken" "I" ∈ wsX7_copyFrom by decide +kernel) rfl rfl rfl rfl dX7_copyFrom_207 (fun H locs hh => ?_)
        obtain ⟨w54, hw54, hF⟩ := am_wl hF
        have hh := AH_eq hw54 hh
        refine lv_aload_n hx hb dX7_copyFrom_210 rfl (lv_at hl 1 rfl) ?_
        refine lv_aload_n hx hb dX7_copyFrom_211 rfl (lv_at hl 2 rfl) ?_
        refine am_getI X hh b1 9 16 (st_lt hb1 0 (by decide)) (dsc_st hb1 _ 0 (by decide)) rfl (by decide) hwRX7 (show Cond.fieldLink RX7 64 "PlanetWorkshop$State" "releases" "I" ∈ wsX7_copyFrom by decide +kernel) rfl dX7_copyFrom_212 ?_
        refine am_putI X hh b0 9 16 (st_lt hb0 0 (by decide)) (dsc_st hb0 _ 0 (by decide)) rfl (by decide) hwRX7 tyX7 tyX7_ok nmX7 (show Cond.fieldLink RX7 64 "PlanetWorkshop$State" "releases" "I" ∈ wsX7_copyFrom by decide +kernel) rfl rfl rfl rfl dX7_copyFrom_215 (fun H locs hh => ?_)
        obtain ⟨w55, hw55, hF⟩ := am_wl hF
        have hh := AH_eq hw55 hh
        exact am_vret X hr hh (fun t ht => am_qv hF ht) (Nat.le_of_ble_eq_true rfl) (Nat.le_of_ble_eq_true rfl) dX7_copyFrom_218
set_option maxHeartbeats 4000000 in
set_option maxRecDepth 100000 in
theorem c_X7_isGear (l : Launch) (G : GG) {w : Wd} {x1 : Int32} {r0 : Int32} (hF : f_X7_isGear w x1 = some r0) : Met l yX7_isGear wsX7_isGear ({ frames := 0, cells := 0, slots := 0, locals := 0 } : Room) (va_Pc [.ref (gAd G 1), .int x1] (Rel G w)) (amQ G (oI r0) w) 0 0 (gA G) := by
  refine am_met (own := RX7) (cc := cX7_isGear) (maxL := 2) (ret := (some .boolean)) (by decide +kernel) rfl rfl (Nat.le_of_ble_eq_true rfl) ?_
  intro p e s m args below meth c ab H locs ls X hr hh hl
  have hx := X.1.1; have hb := X.1.2.1; have hml := X.1.2.2.1; have hown := X.1.2.2.2.1; have hts := X.1.2.2.2.2
  have hl : lv_has ls 2 [(0, .ref (gAd G 1)), (1, .int x1)] := hl
  have hwRX7 : ∀ z ∈ u_ws RX7 TX7 17, z ∈ wsX7_isGear := by decide +kernel
  unfold f_X7_isGear at hF
  refine lv_iload_n hx hb dX7_isGear_0 rfl (lv_at hl 1 rfl) ?_
  refine lv_if_lt (tgt := 16) hx hb dX7_isGear_1 (by decide) (fun hc1 => ?_) (fun hc1 => ?_)
  · have hF := am_pos hc1 hF
    refine lv_iconst (v := (0 : Int32)) hx hb dX7_isGear_16 (by decide) ?_
    exact am_zret (v' := (0 : Int32)) X hr rfl hh (fun t ht => am_qp (mk := oI) hF ht) (Nat.le_of_ble_eq_true rfl) (Nat.le_of_ble_eq_true rfl) dX7_isGear_17
  · have hF := am_neg hc1 hF
    refine lv_iload_n hx hb dX7_isGear_4 rfl (lv_at hl 1 rfl) ?_
    refine lv_aload_n hx hb dX7_isGear_5 rfl (lv_at hl 0 rfl) ?_
    refine am_getI X hh 1 9 10 (by decide) rfl rfl (by decide) hwRX7 (show Cond.fieldLink RX7 45 "PlanetWorkshop$State" "gears" "I" ∈ wsX7_isGear by decide +kernel) rfl dX7_isGear_6 ?_
    refine lv_icmp_ge (tgt := 16) hx hb dX7_isGear_9 (by decide) (fun hc2 => ?_) (fun hc2 => ?_)
    · have hF := am_pos hc2 hF
      refine lv_iconst (v := (0 : Int32)) hx hb dX7_isGear_16 (by decide) ?_
      exact am_zret (v' := (0 : Int32)) X hr rfl hh (fun t ht => am_qp (mk := oI) hF ht) (Nat.le_of_ble_eq_true rfl) (Nat.le_of_ble_eq_true rfl) dX7_isGear_17
    · have hF := am_neg hc2 hF
      refine lv_iconst (v := (1 : Int32)) hx hb dX7_isGear_12 (by decide) ?_
      refine lv_goto (tgt := 17) hx hb dX7_isGear_13 (by decide) ?_
      exact am_zret (v' := (1 : Int32)) X hr rfl hh (fun t ht => am_qp (mk := oI) hF ht) (Nat.le_of_ble_eq_true rfl) (Nat.le_of_ble_eq_true rfl) dX7_isGear_17
set_option maxHeartbeats 4000000 in
set_option maxRecDepth 100000 in
theorem c_X7_isPlanet (l : Launch) (G : GG) {w : Wd} {x1 : Int32} {r0 : Int32} (hF : f_X7_isPlanet w x1 = some r0) : Met l yX7_isPlanet wsX7_isPlanet ({ frames := 0, cells := 0, slots := 0, locals := 0 } : Room) (va_Pc [.ref (gAd G 1), .int x1] (Rel G w)) (amQ G (oI r0) w) 0 0 (gA G) := by
  refine am_met (own := RX7) (cc := cX7_isPlanet) (maxL := 2) (ret := (some .boolean)) (by decide +kernel) rfl rfl (Nat.le_of_ble_eq_true rfl) ?_
  intro p e s m args below meth c ab H locs ls X hr hh hl
  have hx := X.1.1; have hb := X.1.2.1; have hml := X.1.2.2.1; have hown := X.1.2.2.2.1; have hts := X.1.2.2.2.2
  have hl : lv_has ls 2 [(0, .ref (gAd G 1)), (1, .int x1)] := hl
  have hwRX7 : ∀ z ∈ u_ws RX7 TX7 17, z ∈ wsX7_isPlanet := by decide +kernel
  unfold f_X7_isPlanet at hF
  refine lv_iload_n hx hb dX7_isPlanet_0 rfl (lv_at hl 1 rfl) ?_
  refine lv_if_lt (tgt := 16) hx hb dX7_isPlanet_1 (by decide) (fun hc1 => ?_) (fun hc1 => ?_)
  · have hF := am_pos hc1 hF
    refine lv_iconst (v := (0 : Int32)) hx hb dX7_isPlanet_16 (by decide) ?_
    exact am_zret (v' := (0 : Int32)) X hr rfl hh (fun t ht => am_qp (mk := oI) hF ht) (Nat.le_of_ble_eq_true rfl) (Nat.le_of_ble_eq_true rfl) dX7_isPlanet_17
  · have hF := am_neg hc1 hF
    refine lv_iload_n hx hb dX7_isPlanet_4 rfl (lv_at hl 1 rfl) ?_
    refine lv_aload_n hx hb dX7_isPlanet_5 rfl (lv_at hl 0 rfl) ?_
    refine am_getI X hh 1 9 12 (by decide) rfl rfl (by decide) hwRX7 (show Cond.fieldLink RX7 52 "PlanetWorkshop$State" "planets" "I" ∈ wsX7_isPlanet by decide +kernel) rfl dX7_isPlanet_6 ?_
    refine lv_icmp_ge (tgt := 16) hx hb dX7_isPlanet_9 (by decide) (fun hc2 => ?_) (fun hc2 => ?_)
    · have hF := am_pos hc2 hF
      refine lv_iconst (v := (0 : Int32)) hx hb dX7_isPlanet_16 (by decide) ?_
      exact am_zret (v' := (0 : Int32)) X hr rfl hh (fun t ht => am_qp (mk := oI) hF ht) (Nat.le_of_ble_eq_true rfl) (Nat.le_of_ble_eq_true rfl) dX7_isPlanet_17
    · have hF := am_neg hc2 hF
      refine lv_iconst (v := (1 : Int32)) hx hb dX7_isPlanet_12 (by decide) ?_
      refine lv_goto (tgt := 17) hx hb dX7_isPlanet_13 (by decide) ?_
      exact am_zret (v' := (1 : Int32)) X hr rfl hh (fun t ht => am_qp (mk := oI) hF ht) (Nat.le_of_ble_eq_true rfl) (Nat.le_of_ble_eq_true rfl) dX7_isPlanet_17
set_option maxHeartbeats 4000000 in
set_option maxRecDepth 100000 in
theorem c_X7_hasSpring (l : Launch) (G : GG) {w : Wd} {x1 : Int32} {r0 : Int32} (hF : f_X7_hasSpring w x1 = some r0) : Met l yX7_hasSpring wsX7_hasSpring ({ frames := 0, cells := 0, slots := 0, locals := 0 } : Room) (va_Pc [.ref (gAd G 1), .int x1] (Rel G w)) (amQ G (oI r0) w) 0 0 (gA G) := by
  refine am_met (own := RX7) (cc := cX7_hasSpring) (maxL := 2) (ret := (some .boolean)) (by decide +kernel) rfl rfl (Nat.le_of_ble_eq_true rfl) ?_
  intro p e s m args below meth c ab H locs ls X hr hh hl
  have hx := X.1.1; have hb := X.1.2.1; have hml := X.1.2.2.1; have hown := X.1.2.2.2.1; have hts := X.1.2.2.2.2
  have hl : lv_has ls 2 [(0, .ref (gAd G 1)), (1, .int x1)] := hl
  have hwRX7 : ∀ z ∈ u_ws RX7 TX7 17, z ∈ wsX7_hasSpring := by decide +kernel
  unfold f_X7_hasSpring at hF
  refine lv_aload_n hx hb dX7_hasSpring_0 rfl (lv_at hl 0 rfl) ?_
  refine am_getR X hh 1 9 5 7 (by decide) rfl rfl (by decide) hwRX7 (show Cond.fieldLink RX7 29 "PlanetWorkshop$State" "springSizes" "[I" ∈ wsX7_hasSpring by decide +kernel) rfl dX7_hasSpring_1 ?_
  refine lv_iload_n hx hb dX7_hasSpring_4 rfl (lv_at hl 1 rfl) ?_
  obtain ⟨hq1, hF⟩ := am_ifR hF
  refine am_iald X hh 7 (by decide) rfl hq1 dX7_hasSpring_5 ?_
  refine lv_if_le (tgt := 13) hx hb dX7_hasSpring_6 (by decide) (fun hc2 => ?_) (fun hc2 => ?_)
  · have hF := am_pos hc2 hF
    refine lv_iconst (v := (0 : Int32)) hx hb dX7_hasSpring_13 (by decide) ?_
    exact am_zret (v' := (0 : Int32)) X hr rfl hh (fun t ht => am_qp (mk := oI) hF ht) (Nat.le_of_ble_eq_true rfl) (Nat.le_of_ble_eq_true rfl) dX7_hasSpring_14
  · have hF := am_neg hc2 hF
    refine lv_iconst (v := (1 : Int32)) hx hb dX7_hasSpring_9 (by decide) ?_
    refine lv_goto (tgt := 14) hx hb dX7_hasSpring_10 (by decide) ?_
    exact am_zret (v' := (1 : Int32)) X hr rfl hh (fun t ht => am_qp (mk := oI) hF ht) (Nat.le_of_ble_eq_true rfl) (Nat.le_of_ble_eq_true rfl) dX7_hasSpring_14
set_option maxHeartbeats 4000000 in
set_option maxRecDepth 100000 in
theorem c_X7_jointOf (l : Launch) (G : GG) {w : Wd} {x1 : Int32} {x2 : Int32} {r0 : Int32} (hF : f_X7_jointOf w x1 x2 = some r0) : Met l yX7_jointOf wsX7_jointOf ({ frames := 0, cells := 0, slots := 0, locals := 0 } : Room) (va_Pc [.ref (gAd G 1), .int x1, .int x2] (Rel G w)) (amQ G (oI r0) w) 0 0 (gA G) := by
  refine am_met (own := RX7) (cc := cX7_jointOf) (maxL := 3) (ret := (some .char)) (by decide +kernel) rfl rfl (Nat.le_of_ble_eq_true rfl) ?_
  intro p e s m args below meth c ab H locs ls X hr hh hl
  have hx := X.1.1; have hb := X.1.2.1; have hml := X.1.2.2.1; have hown := X.1.2.2.2.1; have hts := X.1.2.2.2.2
  have hl : lv_has ls 3 [(0, .ref (gAd G 1)), (1, .int x1), (2, .int x2)] := hl
  have hwRX7 : ∀ z ∈ u_ws RX7 TX7 17, z ∈ wsX7_jointOf := by decide +kernel
  unfold f_X7_jointOf at hF
  refine lv_aload_n hx hb dX7_jointOf_0 rfl (lv_at hl 0 rfl) ?_
  refine am_getR X hh 1 9 8 10 (by decide) rfl rfl (by decide) hwRX7 (show Cond.fieldLink RX7 38 "PlanetWorkshop$State" "jointKinds" "[C" ∈ wsX7_jointOf by decide +kernel) rfl dX7_jointOf_1 ?_
  refine lv_iload_n hx hb dX7_jointOf_4 rfl (lv_at hl 1 rfl) ?_
  refine lv_bipush (v := (10 : Int32)) hx hb dX7_jointOf_5 (by decide) ?_
  refine lv_imul hx hb dX7_jointOf_7 ?_
  refine lv_iload_n hx hb dX7_jointOf_8 rfl (lv_at hl 2 rfl) ?_
  refine lv_iadd hx hb dX7_jointOf_9 ?_
  obtain ⟨hq1, hF⟩ := am_ifR hF
  refine am_cald X hh 10 (by decide) rfl hq1 dX7_jointOf_10 ?_
  exact am_zret (v' := (vp_nar .char (gI w 10 (((x1 * (10 : Int32)) + x2)).toNatClampNeg))) X hr (nar_c _) hh (fun t ht => am_qp (mk := oI) hF ht) (Nat.le_of_ble_eq_true rfl) (Nat.le_of_ble_eq_true rfl) dX7_jointOf_11
set_option maxHeartbeats 4000000 in
set_option maxRecDepth 100000 in
theorem c_X7_putJoint (l : Launch) (G : GG) {w : Wd} {x1 : Int32} {x2 : Int32} {x3 : Int32} {w1 : Wd} (hF : f_X7_putJoint w x1 x2 x3 = some w1) : Met l yX7_putJoint wsX7_putJoint ({ frames := 0, cells := 0, slots := 0, locals := 0 } : Room) (va_Pc [.ref (gAd G 1), .int x1, .int x2, .int x3] (Rel G w)) (amQ G none w1) 0 0 (gA G) := by
  refine am_met (own := RX7) (cc := cX7_putJoint) (maxL := 4) (ret := none) (by decide +kernel) rfl rfl (Nat.le_of_ble_eq_true rfl) ?_
  intro p e s m args below meth c ab H locs ls X hr hh hl
  have hx := X.1.1; have hb := X.1.2.1; have hml := X.1.2.2.1; have hown := X.1.2.2.2.1; have hts := X.1.2.2.2.2
  have hl : lv_has ls 4 [(0, .ref (gAd G 1)), (1, .int x1), (2, .int x2), (3, .int x3)] := hl
  have hwRX7 : ∀ z ∈ u_ws RX7 TX7 17, z ∈ wsX7_putJoint := by decide +kernel
  unfold f_X7_putJoint at hF
  refine lv_aload_n hx hb dX7_putJoint_0 rfl (lv_at hl 0 rfl) ?_
  refine am_getR X hh 1 9 8 10 (by decide) rfl rfl (by decide) hwRX7 (show Cond.fieldLink RX7 38 "PlanetWorkshop$State" "jointKinds" "[C" ∈ wsX7_putJoint by decide +kernel) rfl dX7_putJoint_1 ?_
  refine lv_iload_n hx hb dX7_putJoint_4 rfl (lv_at hl 1 rfl) ?_
  refine lv_bipush (v := (10 : Int32)) hx hb dX7_putJoint_5 (by decide) ?_
  refine lv_imul hx hb dX7_putJoint_7 ?_
  refine lv_iload_n hx hb dX7_putJoint_8 rfl (lv_at hl 2 rfl) ?_
  refine lv_iadd hx hb dX7_putJoint_9 ?_
  refine lv_iload_n hx hb dX7_putJoint_10 rfl (lv_at hl 3 rfl) ?_
  obtain ⟨hq1, hF⟩ := am_ifR hF
  refine am_cast X hh 10 (by decide) rfl hq1 dX7_putJoint_11 (fun H locs hh => ?_)
  obtain ⟨w2, hw2, hF⟩ := am_wl hF
  have hh := AH_eq hw2 hh
  refine lv_aload_n hx hb dX7_putJoint_12 rfl (lv_at hl 0 rfl) ?_
  refine am_getR X hh 1 9 8 10 (by decide) rfl rfl (by decide) hwRX7 (show Cond.fieldLink RX7 38 "PlanetWorkshop$State" "jointKinds" "[C" ∈ wsX7_putJoint by decide +kernel) rfl dX7_putJoint_13 ?_
  refine lv_iload_n hx hb dX7_putJoint_16 rfl (lv_at hl 2 rfl) ?_
  refine lv_bipush (v := (10 : Int32)) hx hb dX7_putJoint_17 (by decide) ?_
  refine lv_imul hx hb dX7_putJoint_19 ?_
  refine lv_iload_n hx hb dX7_putJoint_20 rfl (lv_at hl 1 rfl) ?_
  refine lv_iadd hx hb dX7_putJoint_21 ?_
  refine lv_iload_n hx hb dX7_putJoint_22 rfl (lv_at hl 3 rfl) ?_
  obtain ⟨hq3, hF⟩ := am_ifR hF
  refine am_cast X hh 10 (by decide) rfl hq3 dX7_putJoint_23 (fun H locs hh => ?_)
  obtain ⟨w4, hw4, hF⟩ := am_wl hF
  have hh := AH_eq hw4 hh
  exact am_vret X hr hh (fun t ht => am_qv hF ht) (Nat.le_of_ble_eq_true rfl) (Nat.le_of_ble_eq_true rfl) dX7_putJoint_24
set_option maxHeartbeats 4000000 in
set_option maxRecDepth 100000 in
theorem c_X7_carriesPlanet (l : Launch) (G : GG) {w : Wd} {x1 : Int32} {r0 : Int32} (hF : f_X7_carriesPlanet w x1 = some r0) : Met l yX7_carriesPlanet wsX7_carriesPlanet ({ frames := 0, cells := 0, slots := 0, locals := 0 } : Room) (va_Pc [.ref (gAd G 1), .int x1] (Rel G w)) (amQ G (oI r0) w) 0 0 (gA G) := by
  refine am_met (own := RX7) (cc := cX7_carriesPlanet) (maxL := 3) (ret := (some .boolean)) (by decide +kernel) rfl rfl (Nat.le_of_ble_eq_true rfl) ?_
  intro p e s m args below meth c ab H locs ls X hr hh hl
  have hx := X.1.1; have hb := X.1.2.1; have hml := X.1.2.2.1; have hown := X.1.2.2.2.1; have hts := X.1.2.2.2.2
  have hl : lv_has ls 3 [(0, .ref (gAd G 1)), (1, .int x1)] := hl
  have hwRX7 : ∀ z ∈ u_ws RX7 TX7 17, z ∈ wsX7_carriesPlanet := by decide +kernel
  unfold f_X7_carriesPlanet at hF
  refine lv_iconst (v := (0 : Int32)) hx hb dX7_carriesPlanet_0 (by decide) ?_
  refine lv_istore_n (lv' := [(2, .int (0 : Int32)), (0, .ref (gAd G 1)), (1, .int x1)]) hx hb dX7_carriesPlanet_1 rfl hl (by decide) rfl (fun ls hl => ?_)
  have hlp2 : ∀ (n : Nat) (y1 : Int32) (ab : Nat) (H : Heap) (locs : List Loc) (ls : Array Slot) (z : (Int32) ⊕ Int32), p_X7_carriesPlanet_2 w x1 n y1 = some z → AH G s.heap w ab H locs → lv_has ls 3 [(2, .int y1), (0, .ref (gAd G 1)), (1, .int x1)] → (∀ (y1 : Int32) (ab : Nat) (H : Heap) (locs : List Loc) (ls : Array Slot), z = .inl y1 → AH G s.heap w ab H locs → lv_has ls 3 [(2, .int y1), (0, .ref (gAd G 1)), (1, .int x1)] → W p l e ({ frames := 0, cells := 0, slots := 0, locals := 0 } : Room) s m args below meth c H locs 0 0 (MQ below (amQ G (oI r0) w) args s 0 0 (gA G)) (F0 m 28 ls [])) → (∀ r, z = .inr r → some r = some r0) → W p l e ({ frames := 0, cells := 0, slots := 0, locals := 0 } : Room) s m args below meth c H locs 0 0 (MQ below (amQ G (oI r0) w) args s 0 0 (gA G)) (F0 m 2 ls []) := by
    intro n
    induction n with
    | zero =>
      intro y1 ab H locs ls z hF
      unfold p_X7_carriesPlanet_2 at hF
      cases hF
    | succ n ih =>
      intro y1 ab H locs ls z hF hh hl kE kR
      unfold p_X7_carriesPlanet_2 at hF
      refine lv_iload_n hx hb dX7_carriesPlanet_2 rfl (lv_at hl 0 rfl) ?_
      refine lv_aload_n hx hb dX7_carriesPlanet_3 rfl (lv_at hl 1 rfl) ?_
      refine am_getI X hh 1 9 12 (by decide) rfl rfl (by decide) hwRX7 (show Cond.fieldLink RX7 52 "PlanetWorkshop$State" "planets" "I" ∈ wsX7_carriesPlanet by decide +kernel) rfl dX7_carriesPlanet_4 ?_
      refine lv_icmp_ge (tgt := 28) hx hb dX7_carriesPlanet_7 (by decide) (fun hc3 => ?_) (fun hc3 => ?_)
      · have hF := am_pos hc3 hF
        exact kE y1 ab H locs ls (Option.some.inj hF).symm hh (lv_sub hl [0, 1, 2] rfl)
      · have hF := am_neg hc3 hF
        refine lv_aload_n hx hb dX7_carriesPlanet_10 rfl (lv_at hl 1 rfl) ?_
        refine am_getR X hh 1 9 9 11 (by decide) rfl rfl (by decide) hwRX7 (show Cond.fieldLink RX7 42 "PlanetWorkshop$State" "carriers" "[I" ∈ wsX7_carriesPlanet by decide +kernel) rfl dX7_carriesPlanet_11 ?_
        refine lv_iload_n hx hb dX7_carriesPlanet_14 rfl (lv_at hl 0 rfl) ?_
        obtain ⟨hq4, hF⟩ := am_ifR hF
        refine am_iald X hh 11 (by decide) rfl hq4 dX7_carriesPlanet_15 ?_
        refine lv_iload_n hx hb dX7_carriesPlanet_16 rfl (lv_at hl 2 rfl) ?_
        refine lv_icmp_ne (tgt := 22) hx hb dX7_carriesPlanet_17 (by decide) (fun hc5 => ?_) (fun hc5 => ?_)
        · have hF := am_neg hc5 hF
          refine lv_iinc (v := (y1 + (1 : Int32))) (lv' := [(2, .int (y1 + (1 : Int32))), (0, .ref (gAd G 1)), (1, .int x1)]) hx hb dX7_carriesPlanet_22 hl (k := 0) rfl rfl (by decide) rfl (fun ls hl => ?_)
          refine lv_goto (tgt := 2) hx hb dX7_carriesPlanet_25 (by decide) ?_
          exact ih (y1 + (1 : Int32)) ab H locs ls _ hF hh (lv_sub hl [0, 1, 2] rfl) kE kR
        · have hF := am_pos hc5 hF
          refine lv_iconst (v := (1 : Int32)) hx hb dX7_carriesPlanet_20 (by decide) ?_
          have hF := kR _ (Option.some.inj hF).symm
          exact am_zret (v' := (1 : Int32)) X hr rfl hh (fun t ht => am_qp (mk := oI) hF ht) (Nat.le_of_ble_eq_true rfl) (Nat.le_of_ble_eq_true rfl) dX7_carriesPlanet_21
  obtain ⟨z6, hz7, hF⟩ := am_bind hF
  refine hlp2 2000 (0 : Int32) ab H locs ls z6 hz7 hh (lv_sub hl [0, 1, 2] rfl) (fun y1 ab H locs ls hz hh hl => ?_) (fun r hz => ?_)
  · subst hz
    have hF := am_zl hF
    refine lv_iconst (v := (0 : Int32)) hx hb dX7_carriesPlanet_28 (by decide) ?_
    exact am_zret (v' := (0 : Int32)) X hr rfl hh (fun t ht => am_qp (mk := oI) hF ht) (Nat.le_of_ble_eq_true rfl) (Nat.le_of_ble_eq_true rfl) dX7_carriesPlanet_29
  · subst hz
    have hF := am_zr hF
    exact hF
set_option maxHeartbeats 4000000 in
set_option maxRecDepth 100000 in
theorem c_X7_springs (l : Launch) (G : GG) {w : Wd} {r0 : Int32} (hF : f_X7_springs w = some r0) : Met l yX7_springs wsX7_springs ({ frames := 1, cells := 0, slots := 0, locals := 21 } : Room) (va_Pc [.ref (gAd G 1)] (Rel G w)) (amQ G (oI r0) w) 0 0 (gA G) := by
  refine am_met (own := RX7) (cc := cX7_springs) (maxL := 3) (ret := (some .int)) (by decide +kernel) rfl rfl (Nat.le_of_ble_eq_true rfl) ?_
  intro p e s m args below meth c ab H locs ls X hr hh hl
  have hx := X.1.1; have hb := X.1.2.1; have hml := X.1.2.2.1; have hown := X.1.2.2.2.1; have hts := X.1.2.2.2.2
  have hl : lv_has ls 3 [(0, .ref (gAd G 1))] := hl
  have hwRX7 : ∀ z ∈ u_ws RX7 TX7 17, z ∈ wsX7_springs := by decide +kernel
  unfold f_X7_springs at hF
  refine lv_iconst (v := (0 : Int32)) hx hb dX7_springs_0 (by decide) ?_
  refine lv_istore_n (lv' := [(1, .int (0 : Int32)), (0, .ref (gAd G 1))]) hx hb dX7_springs_1 rfl hl (by decide) rfl (fun ls hl => ?_)
  refine lv_iconst (v := (0 : Int32)) hx hb dX7_springs_2 (by decide) ?_
  refine lv_istore_n (lv' := [(2, .int (0 : Int32)), (1, .int (0 : Int32)), (0, .ref (gAd G 1))]) hx hb dX7_springs_3 rfl hl (by decide) rfl (fun ls hl => ?_)
  have hlp4 : ∀ (n : Nat) (y1 : Int32) (y2 : Int32) (ab : Nat) (H : Heap) (locs : List Loc) (ls : Array Slot) (z : (Int32 × Int32) ⊕ Unit), p_X7_springs_4 w n y1 y2 = some z → AH G s.heap w ab H locs → lv_has ls 3 [(1, .int y1), (2, .int y2), (0, .ref (gAd G 1))] → (∀ (y1 : Int32) (y2 : Int32) (ab : Nat) (H : Heap) (locs : List Loc) (ls : Array Slot), z = .inl (y1, y2) → AH G s.heap w ab H locs → lv_has ls 3 [(1, .int y1), (2, .int y2), (0, .ref (gAd G 1))] → W p l e ({ frames := 1, cells := 0, slots := 0, locals := 21 } : Room) s m args below meth c H locs 0 0 (MQ below (amQ G (oI r0) w) args s 0 0 (gA G)) (F0 m 29 ls [])) → W p l e ({ frames := 1, cells := 0, slots := 0, locals := 21 } : Room) s m args below meth c H locs 0 0 (MQ below (amQ G (oI r0) w) args s 0 0 (gA G)) (F0 m 4 ls []) := by
    intro n
    induction n with
    | zero =>
      intro y1 y2 ab H locs ls z hF
      unfold p_X7_springs_4 at hF
      cases hF
    | succ n ih =>
      intro y1 y2 ab H locs ls z hF hh hl kE
      unfold p_X7_springs_4 at hF
      refine lv_iload_n hx hb dX7_springs_4 rfl (lv_at hl 1 rfl) ?_
      refine lv_aload_n hx hb dX7_springs_5 rfl (lv_at hl 2 rfl) ?_
      refine am_getI X hh 1 9 10 (by decide) rfl rfl (by decide) hwRX7 (show Cond.fieldLink RX7 45 "PlanetWorkshop$State" "gears" "I" ∈ wsX7_springs by decide +kernel) rfl dX7_springs_6 ?_
      refine lv_icmp_ge (tgt := 29) hx hb dX7_springs_9 (by decide) (fun hc4 => ?_) (fun hc4 => ?_)
      · have hF := am_pos hc4 hF
        exact kE y1 y2 ab H locs ls (Option.some.inj hF).symm hh (lv_sub hl [0, 1, 2] rfl)
      · have hF := am_neg hc4 hF
        refine lv_aload_n hx hb dX7_springs_12 rfl (lv_at hl 2 rfl) ?_
        refine lv_iload_n hx hb dX7_springs_13 rfl (lv_at hl 1 rfl) ?_
        obtain ⟨r6, hk5, hF⟩ := am_bind hF
        refine am_call X hh (va_runV (As := [.int y2]) (rest := []) X.1 (c_X7_hasSpring l G hk5) (cwV 1 hts gX7_springs_X7_hasSpring rfl rfl rfl (by decide +kernel) ⟨Nat.le_of_ble_eq_true rfl, Nat.le_of_ble_eq_true rfl⟩) (am_preV X hh 1 9 (by decide) rfl rfl) rfl rfl hl.1 rfl (lv_room (Nat.le_of_ble_eq_true rfl)) dX7_springs_14 ⟨Nat.le_of_ble_eq_true rfl, Nat.le_of_ble_eq_true rfl⟩) (fun ab H locs hh => ?_)
        refine lv_if_eq (tgt := 23) hx hb dX7_springs_17 (by decide) (fun hc7 => ?_) (fun hc7 => ?_)
        · have hF := am_pos hc7 hF
          refine lv_iinc (v := (y2 + (1 : Int32))) (lv' := [(2, .int (y2 + (1 : Int32))), (1, .int y1), (0, .ref (gAd G 1))]) hx hb dX7_springs_23 hl (k := 1) rfl rfl (by decide) rfl (fun ls hl => ?_)
          refine lv_goto (tgt := 4) hx hb dX7_springs_26 (by decide) ?_
          exact ih y1 (y2 + (1 : Int32)) ab H locs ls _ hF hh (lv_sub hl [1, 0, 2] rfl) kE
        · have hF := am_neg hc7 hF
          refine lv_iinc (v := (y1 + (1 : Int32))) (lv' := [(1, .int (y1 + (1 : Int32))), (2, .int y2), (0, .ref (gAd G 1))]) hx hb dX7_springs_20 hl (k := 0) rfl rfl (by decide) rfl (fun ls hl => ?_)
          refine lv_iinc (v := (y2 + (1 : Int32))) (lv' := [(2, .int (y2 + (1 : Int32))), (1, .int (y1 + (1 : Int32))), (0, .ref (gAd G 1))]) hx hb dX7_springs_23 hl (k := 1) rfl rfl (by decide) rfl (fun ls hl => ?_)
          refine lv_goto (tgt := 4) hx hb dX7_springs_26 (by decide) ?_
          exact ih (y1 + (1 : Int32)) (y2 + (1 : Int32)) ab H locs ls _ hF hh (lv_sub hl [1, 0, 2] rfl) kE
  obtain ⟨z8, hz9, hF⟩ := am_bind hF
  refine hlp4 2000 (0 : Int32) (0 : Int32) ab H locs ls z8 hz9 hh (lv_sub hl [1, 0, 2] rfl) (fun y1 y2 ab H locs ls hz hh hl => ?_)
  · subst hz
    have hF := am_zl hF
    have hF := am_u2 hF
    refine lv_iload_n hx hb dX7_springs_29 rfl (lv_at hl 0 rfl) ?_
    exact am_iret X hr hh (fun t ht => am_qp (mk := oI) hF ht) (Nat.le_of_ble_eq_true rfl) (Nat.le_of_ble_eq_true rfl) dX7_springs_30
set_option maxHeartbeats 4000000 in
set_option maxRecDepth 100000 in
theorem c_X7_sumOfTensions (l : Launch) (G : GG) {w : Wd} {r0 : Int32} (hF : f_X7_sumOfTensions w = some r0) : Met l yX7_sumOfTensions wsX7_sumOfTensions ({ frames := 0, cells := 0, slots := 0, locals := 0 } : Room) (va_Pc [.ref (gAd G 1)] (Rel G w)) (amQ G (oI r0) w) 0 0 (gA G) := by
  refine am_met (own := RX7) (cc := cX7_sumOfTensions) (maxL := 3) (ret := (some .int)) (by decide +kernel) rfl rfl (Nat.le_of_ble_eq_true rfl) ?_
  intro p e s m args below meth c ab H locs ls X hr hh hl
  have hx := X.1.1; have hb := X.1.2.1; have hml := X.1.2.2.1; have hown := X.1.2.2.2.1; have hts := X.1.2.2.2.2
  have hl : lv_has ls 3 [(0, .ref (gAd G 1))] := hl
  have hwRX7 : ∀ z ∈ u_ws RX7 TX7 17, z ∈ wsX7_sumOfTensions := by decide +kernel
  unfold f_X7_sumOfTensions at hF
  refine lv_iconst (v := (0 : Int32)) hx hb dX7_sumOfTensions_0 (by decide) ?_
  refine lv_istore_n (lv' := [(1, .int (0 : Int32)), (0, .ref (gAd G 1))]) hx hb dX7_sumOfTensions_1 rfl hl (by decide) rfl (fun ls hl => ?_)
  refine lv_iconst (v := (0 : Int32)) hx hb dX7_sumOfTensions_2 (by decide) ?_
  refine lv_istore_n (lv' := [(2, .int (0 : Int32)), (1, .int (0 : Int32)), (0, .ref (gAd G 1))]) hx hb dX7_sumOfTensions_3 rfl hl (by decide) rfl (fun ls hl => ?_)
  have hlp4 : ∀ (n : Nat) (y1 : Int32) (y2 : Int32) (ab : Nat) (H : Heap) (locs : List Loc) (ls : Array Slot) (z : (Int32 × Int32) ⊕ Unit), p_X7_sumOfTensions_4 w n y1 y2 = some z → AH G s.heap w ab H locs → lv_has ls 3 [(1, .int y1), (2, .int y2), (0, .ref (gAd G 1))] → (∀ (y1 : Int32) (y2 : Int32) (ab : Nat) (H : Heap) (locs : List Loc) (ls : Array Slot), z = .inl (y1, y2) → AH G s.heap w ab H locs → lv_has ls 3 [(1, .int y1), (2, .int y2), (0, .ref (gAd G 1))] → W p l e ({ frames := 0, cells := 0, slots := 0, locals := 0 } : Room) s m args below meth c H locs 0 0 (MQ below (amQ G (oI r0) w) args s 0 0 (gA G)) (F0 m 27 ls [])) → W p l e ({ frames := 0, cells := 0, slots := 0, locals := 0 } : Room) s m args below meth c H locs 0 0 (MQ below (amQ G (oI r0) w) args s 0 0 (gA G)) (F0 m 4 ls []) := by
    intro n
    induction n with
    | zero =>
      intro y1 y2 ab H locs ls z hF
      unfold p_X7_sumOfTensions_4 at hF
      cases hF
    | succ n ih =>
      intro y1 y2 ab H locs ls z hF hh hl kE
      unfold p_X7_sumOfTensions_4 at hF
      refine lv_iload_n hx hb dX7_sumOfTensions_4 rfl (lv_at hl 1 rfl) ?_
      refine lv_aload_n hx hb dX7_sumOfTensions_5 rfl (lv_at hl 2 rfl) ?_
      refine am_getI X hh 1 9 10 (by decide) rfl rfl (by decide) hwRX7 (show Cond.fieldLink RX7 45 "PlanetWorkshop$State" "gears" "I" ∈ wsX7_sumOfTensions by decide +kernel) rfl dX7_sumOfTensions_6 ?_
      refine lv_icmp_ge (tgt := 27) hx hb dX7_sumOfTensions_9 (by decide) (fun hc4 => ?_) (fun hc4 => ?_)
      · have hF := am_pos hc4 hF
        exact kE y1 y2 ab H locs ls (Option.some.inj hF).symm hh (lv_sub hl [0, 1, 2] rfl)
      · have hF := am_neg hc4 hF
        refine lv_iload_n hx hb dX7_sumOfTensions_12 rfl (lv_at hl 0 rfl) ?_
        refine lv_aload_n hx hb dX7_sumOfTensions_13 rfl (lv_at hl 2 rfl) ?_
        refine am_getR X hh 1 9 6 8 (by decide) rfl rfl (by decide) hwRX7 (show Cond.fieldLink RX7 32 "PlanetWorkshop$State" "tensions" "[I" ∈ wsX7_sumOfTensions by decide +kernel) rfl dX7_sumOfTensions_14 ?_
        refine lv_iload_n hx hb dX7_sumOfTensions_17 rfl (lv_at hl 1 rfl) ?_
        obtain ⟨hq5, hF⟩ := am_ifR hF
        refine am_iald X hh 8 (by decide) rfl hq5 dX7_sumOfTensions_18 ?_
        refine lv_iadd hx hb dX7_sumOfTensions_19 ?_
        refine lv_istore_n (lv' := [(1, .int (y1 + (gI w 8 (y2).toNatClampNeg))), (2, .int y2), (0, .ref (gAd G 1))]) hx hb dX7_sumOfTensions_20 rfl hl (by decide) rfl (fun ls hl => ?_)
        refine lv_iinc (v := (y2 + (1 : Int32))) (lv' := [(2, .int (y2 + (1 : Int32))), (1, .int (y1 + (gI w 8 (y2).toNatClampNeg))), (0, .ref (gAd G 1))]) hx hb dX7_sumOfTensions_21 hl (k := 1) rfl rfl (by decide) rfl (fun ls hl => ?_)
        refine lv_goto (tgt := 4) hx hb dX7_sumOfTensions_24 (by decide) ?_
        exact ih (y1 + (gI w 8 (y2).toNatClampNeg)) (y2 + (1 : Int32)) ab H locs ls _ hF hh (lv_sub hl [1, 0, 2] rfl) kE
  obtain ⟨z6, hz7, hF⟩ := am_bind hF
  refine hlp4 2000 (0 : Int32) (0 : Int32) ab H locs ls z6 hz7 hh (lv_sub hl [1, 0, 2] rfl) (fun y1 y2 ab H locs ls hz hh hl => ?_)
  · subst hz
    have hF := am_zl hF
    have hF := am_u2 hF
    refine lv_iload_n hx hb dX7_sumOfTensions_27 rfl (lv_at hl 0 rfl) ?_
    exact am_iret X hr hh (fun t ht => am_qp (mk := oI) hF ht) (Nat.le_of_ble_eq_true rfl) (Nat.le_of_ble_eq_true rfl) dX7_sumOfTensions_28
set_option maxHeartbeats 4000000 in
set_option maxRecDepth 100000 in
theorem c_X7_sumOfTeeth (l : Launch) (G : GG) {w : Wd} {r0 : Int32} (hF : f_X7_sumOfTeeth w = some r0) : Met l yX7_sumOfTeeth wsX7_sumOfTeeth ({ frames := 0, cells := 0, slots := 0, locals := 0 } : Room) (va_Pc [.ref (gAd G 1)] (Rel G w)) (amQ G (oI r0) w) 0 0 (gA G) := by
  refine am_met (own := RX7) (cc := cX7_sumOfTeeth) (maxL := 3) (ret := (some .int)) (by decide +kernel) rfl rfl (Nat.le_of_ble_eq_true rfl) ?_
  intro p e s m args below meth c ab H locs ls X hr hh hl
  have hx := X.1.1; have hb := X.1.2.1; have hml := X.1.2.2.1; have hown := X.1.2.2.2.1; have hts := X.1.2.2.2.2
  have hl : lv_has ls 3 [(0, .ref (gAd G 1))] := hl
  have hwRX7 : ∀ z ∈ u_ws RX7 TX7 17, z ∈ wsX7_sumOfTeeth := by decide +kernel
  unfold f_X7_sumOfTeeth at hF
  refine lv_iconst (v := (0 : Int32)) hx hb dX7_sumOfTeeth_0 (by decide) ?_
  refine lv_istore_n (lv' := [(1, .int (0 : Int32)), (0, .ref (gAd G 1))]) hx hb dX7_sumOfTeeth_1 rfl hl (by decide) rfl (fun ls hl => ?_)
  refine lv_iconst (v := (0 : Int32)) hx hb dX7_sumOfTeeth_2 (by decide) ?_
  refine lv_istore_n (lv' := [(2, .int (0 : Int32)), (1, .int (0 : Int32)), (0, .ref (gAd G 1))]) hx hb dX7_sumOfTeeth_3 rfl hl (by decide) rfl (fun ls hl => ?_)
  have hlp4 : ∀ (n : Nat) (y1 : Int32) (y2 : Int32) (ab : Nat) (H : Heap) (locs : List Loc) (ls : Array Slot) (z : (Int32 × Int32) ⊕ Unit), p_X7_sumOfTeeth_4 w n y1 y2 = some z → AH G s.heap w ab H locs → lv_has ls 3 [(1, .int y1), (2, .int y2), (0, .ref (gAd G 1))] → (∀ (y1 : Int32) (y2 : Int32) (ab : Nat) (H : Heap) (locs : List Loc) (ls : Array Slot), z = .inl (y1, y2) → AH G s.heap w ab H locs → lv_has ls 3 [(1, .int y1), (2, .int y2), (0, .ref (gAd G 1))] → W p l e ({ frames := 0, cells := 0, slots := 0, locals := 0 } : Room) s m args below meth c H locs 0 0 (MQ below (amQ G (oI r0) w) args s 0 0 (gA G)) (F0 m 27 ls [])) → W p l e ({ frames := 0, cells := 0, slots := 0, locals := 0 } : Room) s m args below meth c H locs 0 0 (MQ below (amQ G (oI r0) w) args s 0 0 (gA G)) (F0 m 4 ls []) := by
    intro n
    induction n with
    | zero =>
      intro y1 y2 ab H locs ls z hF
      unfold p_X7_sumOfTeeth_4 at hF
      cases hF
    | succ n ih =>
      intro y1 y2 ab H locs ls z hF hh hl kE
      unfold p_X7_sumOfTeeth_4 at hF
      refine lv_iload_n hx hb dX7_sumOfTeeth_4 rfl (lv_at hl 1 rfl) ?_
      refine lv_aload_n hx hb dX7_sumOfTeeth_5 rfl (lv_at hl 2 rfl) ?_
      refine am_getI X hh 1 9 10 (by decide) rfl rfl (by decide) hwRX7 (show Cond.fieldLink RX7 45 "PlanetWorkshop$State" "gears" "I" ∈ wsX7_sumOfTeeth by decide +kernel) rfl dX7_sumOfTeeth_6 ?_
      refine lv_icmp_ge (tgt := 27) hx hb dX7_sumOfTeeth_9 (by decide) (fun hc4 => ?_) (fun hc4 => ?_)
      · have hF := am_pos hc4 hF
        exact kE y1 y2 ab H locs ls (Option.some.inj hF).symm hh (lv_sub hl [0, 1, 2] rfl)
      · have hF := am_neg hc4 hF
        refine lv_iload_n hx hb dX7_sumOfTeeth_12 rfl (lv_at hl 0 rfl) ?_
        refine lv_aload_n hx hb dX7_sumOfTeeth_13 rfl (lv_at hl 2 rfl) ?_
        refine am_getR X hh 1 9 0 2 (by decide) rfl rfl (by decide) hwRX7 (show Cond.fieldLink RX7 9 "PlanetWorkshop$State" "teeth" "[I" ∈ wsX7_sumOfTeeth by decide +kernel) rfl dX7_sumOfTeeth_14 ?_
        refine lv_iload_n hx hb dX7_sumOfTeeth_17 rfl (lv_at hl 1 rfl) ?_
        obtain ⟨hq5, hF⟩ := am_ifR hF
        refine am_iald X hh 2 (by decide) rfl hq5 dX7_sumOfTeeth_18 ?_
        refine lv_iadd hx hb dX7_sumOfTeeth_19 ?_
        refine lv_istore_n (lv' := [(1, .int (y1 + (gI w 2 (y2).toNatClampNeg))), (2, .int y2), (0, .ref (gAd G 1))]) hx hb dX7_sumOfTeeth_20 rfl hl (by decide) rfl (fun ls hl => ?_)
        refine lv_iinc (v := (y2 + (1 : Int32))) (lv' := [(2, .int (y2 + (1 : Int32))), (1, .int (y1 + (gI w 2 (y2).toNatClampNeg))), (0, .ref (gAd G 1))]) hx hb dX7_sumOfTeeth_21 hl (k := 1) rfl rfl (by decide) rfl (fun ls hl => ?_)
        refine lv_goto (tgt := 4) hx hb dX7_sumOfTeeth_24 (by decide) ?_
        exact ih (y1 + (gI w 2 (y2).toNatClampNeg)) (y2 + (1 : Int32)) ab H locs ls _ hF hh (lv_sub hl [1, 0, 2] rfl) kE
  obtain ⟨z6, hz7, hF⟩ := am_bind hF
  refine hlp4 2000 (0 : Int32) (0 : Int32) ab H locs ls z6 hz7 hh (lv_sub hl [1, 0, 2] rfl) (fun y1 y2 ab H locs ls hz hh hl => ?_)
  · subst hz
    have hF := am_zl hF
    have hF := am_u2 hF
    refine lv_iload_n hx hb dX7_sumOfTeeth_27 rfl (lv_at hl 0 rfl) ?_
    exact am_iret X hr hh (fun t ht => am_qp (mk := oI) hF ht) (Nat.le_of_ble_eq_true rfl) (Nat.le_of_ble_eq_true rfl) dX7_sumOfTeeth_28
set_option maxHeartbeats 4000000 in
set_option maxRecDepth 100000 in
theorem c_X7_dryGears (l : Launch) (G : GG) {w : Wd} {r0 : Int32} (hF : f_X7_dryGears w = some r0) : Met l yX7_dryGears wsX7_dryGears ({ frames := 0, cells := 0, slots := 0, locals := 0 } : Room) (va_Pc [.ref (gAd G 1)] (Rel G w)) (amQ G (oI r0) w) 0 0 (gA G) := by
  refine am_met (own := RX7) (cc := cX7_dryGears) (maxL := 3) (ret := (some .int)) (by decide +kernel) rfl rfl (Nat.le_of_ble_eq_true rfl) ?_
  intro p e s m args below meth c ab H locs ls X hr hh hl
  have hx := X.1.1; have hb := X.1.2.1; have hml := X.1.2.2.1; have hown := X.1.2.2.2.1; have hts := X.1.2.2.2.2
  have hl : lv_has ls 3 [(0, .ref (gAd G 1))] := hl
  have hwRX7 : ∀ z ∈ u_ws RX7 TX7 17, z ∈ wsX7_dryGears := by decide +kernel
  unfold f_X7_dryGears at hF
  refine lv_iconst (v := (0 : Int32)) hx hb dX7_dryGears_0 (by decide) ?_
  refine lv_istore_n (lv' := [(1, .int (0 : Int32)), (0, .ref (gAd G 1))]) hx hb dX7_dryGears_1 rfl hl (by decide) rfl (fun ls hl => ?_)
  refine lv_iconst (v := (0 : Int32)) hx hb dX7_dryGears_2 (by decide) ?_
  refine lv_istore_n (lv' := [(2, .int (0 : Int32)), (1, .int (0 : Int32)), (0, .ref (gAd G 1))]) hx hb dX7_dryGears_3 rfl hl (by decide) rfl (fun ls hl => ?_)
  have hlp4 : ∀ (n : Nat) (y1 : Int32) (y2 : Int32) (ab : Nat) (H : Heap) (locs : List Loc) (ls : Array Slot) (z : (Int32 × Int32) ⊕ Unit), p_X7_dryGears_4 w n y1 y2 = some z → AH G s.heap w ab H locs → lv_has ls 3 [(1, .int y1), (2, .int y2), (0, .ref (gAd G 1))] → (∀ (y1 : Int32) (y2 : Int32) (ab : Nat) (H : Heap) (locs : List Loc) (ls : Array Slot), z = .inl (y1, y2) → AH G s.heap w ab H locs → lv_has ls 3 [(1, .int y1), (2, .int y2), (0, .ref (gAd G 1))] → W p l e ({ frames := 0, cells := 0, slots := 0, locals := 0 } : Room) s m args below meth c H locs 0 0 (MQ below (amQ G (oI r0) w) args s 0 0 (gA G)) (F0 m 30 ls [])) → W p l e ({ frames := 0, cells := 0, slots := 0, locals := 0 } : Room) s m args below meth c H locs 0 0 (MQ below (amQ G (oI r0) w) args s 0 0 (gA G)) (F0 m 4 ls []) := by
    intro n
    induction n with
    | zero =>
      intro y1 y2 ab H locs ls z hF
      unfold p_X7_dryGears_4 at hF
      cases hF
    | succ n ih =>
      intro y1 y2 ab H locs ls z hF hh hl kE
      unfold p_X7_dryGears_4 at hF
      refine lv_iload_n hx hb dX7_dryGears_4 rfl (lv_at hl 1 rfl) ?_
      refine lv_aload_n hx hb dX7_dryGears_5 rfl (lv_at hl 2 rfl) ?_
      refine am_getI X hh 1 9 10 (by decide) rfl rfl (by decide) hwRX7 (show Cond.fieldLink RX7 45 "PlanetWorkshop$State" "gears" "I" ∈ wsX7_dryGears by decide +kernel) rfl dX7_dryGears_6 ?_
      refine lv_icmp_ge (tgt := 30) hx hb dX7_dryGears_9 (by decide) (fun hc4 => ?_) (fun hc4 => ?_)
      · have hF := am_pos hc4 hF
        exact kE y1 y2 ab H locs ls (Option.some.inj hF).symm hh (lv_sub hl [0, 1, 2] rfl)
      · have hF := am_neg hc4 hF
        refine lv_aload_n hx hb dX7_dryGears_12 rfl (lv_at hl 2 rfl) ?_
        refine am_getR X hh 1 9 2 4 (by decide) rfl rfl (by decide) hwRX7 (show Cond.fieldLink RX7 19 "PlanetWorkshop$State" "oiled" "[Z" ∈ wsX7_dryGears by decide +kernel) rfl dX7_dryGears_13 ?_
        refine lv_iload_n hx hb dX7_dryGears_16 rfl (lv_at hl 1 rfl) ?_
        obtain ⟨hq5, hF⟩ := am_ifR hF
        refine am_zald X hh 4 (by decide) rfl hq5 dX7_dryGears_17 ?_
        refine lv_if_ne (tgt := 24) hx hb dX7_dryGears_18 (by decide) (fun hc6 => ?_) (fun hc6 => ?_)
        · have hF := am_neg hc6 hF
          refine lv_iinc (v := (y2 + (1 : Int32))) (lv' := [(2, .int (y2 + (1 : Int32))), (1, .int y1), (0, .ref (gAd G 1))]) hx hb dX7_dryGears_24 hl (k := 1) rfl rfl (by decide) rfl (fun ls hl => ?_)
          refine lv_goto (tgt := 4) hx hb dX7_dryGears_27 (by decide) ?_
          exact ih y1 (y2 + (1 : Int32)) ab H locs ls _ hF hh (lv_sub hl [1, 0, 2] rfl) kE
        · have hF := am_pos hc6 hF
          refine lv_iinc (v := (y1 + (1 : Int32))) (lv' := [(1, .int (y1 + (1 : Int32))), (2, .int y2), (0, .ref (gAd G 1))]) hx hb dX7_dryGears_21 hl (k := 0) rfl rfl (by decide) rfl (fun ls hl => ?_)
          refine lv_iinc (v := (y2 + (1 : Int32))) (lv' := [(2, .int (y2 + (1 : Int32))), (1, .int (y1 + (1 : Int32))), (0, .ref (gAd G 1))]) hx hb dX7_dryGears_24 hl (k := 1) rfl rfl (by decide) rfl (fun ls hl => ?_)
          refine lv_goto (tgt := 4) hx hb dX7_dryGears_27 (by decide) ?_
          exact ih (y1 + (1 : Int32)) (y2 + (1 : Int32)) ab H locs ls _ hF hh (lv_sub hl [1, 0, 2] rfl) kE
  obtain ⟨z7, hz8, hF⟩ := am_bind hF
  refine hlp4 2000 (0 : Int32) (0 : Int32) ab H locs ls z7 hz8 hh (lv_sub hl [1, 0, 2] rfl) (fun y1 y2 ab H locs ls hz hh hl => ?_)
  · subst hz
    have hF := am_zl hF
    have hF := am_u2 hF
    refine lv_iload_n hx hb dX7_dryGears_30 rfl (lv_at hl 0 rfl) ?_
    exact am_iret X hr hh (fun t ht => am_qp (mk := oI) hF ht) (Nat.le_of_ble_eq_true rfl) (Nat.le_of_ble_eq_true rfl) dX7_dryGears_31
set_option maxHeartbeats 4000000 in
set_option maxRecDepth 100000 in
theorem c_X7_unitsBehind (l : Launch) (G : GG) {w : Wd} {x1 : Int64} {x3 : Int32} {x4 : Int32} {x5 : Int32} {r0 : Int64} (hF : f_X7_unitsBehind w x1 x3 x4 x5 = some r0) : Met l yX7_unitsBehind wsX7_unitsBehind ({ frames := 2, cells := 0, slots := 0, locals := 48 } : Room) (va_Pc [.ref (gAd G 1), .long x1, .int x3, .int x4, .int x5] (Rel G w)) (amQ G (oL r0) w) 0 0 (gA G) := by
  refine am_met (own := RX7) (cc := cX7_unitsBehind) (maxL := 6) (ret := (some .long)) (by decide +kernel) rfl rfl (Nat.le_of_ble_eq_true rfl) ?_
  intro p e s m args below meth c ab H locs ls X hr hh hl
  have hx := X.1.1; have hb := X.1.2.1; have hml := X.1.2.2.1; have hown := X.1.2.2.2.1; have hts := X.1.2.2.2.2
  have hl : lv_has ls 6 [(0, .ref (gAd G 1)), (1, .long x1), (3, .int x3), (4, .int x4), (5, .int x5)] := hl
  have hwRX7 : ∀ z ∈ u_ws RX7 TX7 17, z ∈ wsX7_unitsBehind := by decide +kernel
  unfold f_X7_unitsBehind at hF
  refine lv_iload hx hb dX7_unitsBehind_0 (lv_at hl 4 rfl) ?_
  refine lv_bipush (v := (97 : Int32)) hx hb dX7_unitsBehind_2 (by decide) ?_
  refine lv_icmp_ne (tgt := 9) hx hb dX7_unitsBehind_4 (by decide) (fun hc1 => ?_) (fun hc1 => ?_)
  · have hF := am_neg hc1 hF
    refine lv_lload_n hx hb dX7_unitsBehind_9 rfl (lv_at hl 1 rfl) ?_
    refine lv_aload_n hx hb dX7_unitsBehind_10 rfl (lv_at hl 0 rfl) ?_
    refine am_getR X hh 1 9 0 2 (by decide) rfl rfl (by decide) hwRX7 (show Cond.fieldLink RX7 9 "PlanetWorkshop$State" "teeth" "[I" ∈ wsX7_unitsBehind by decide +kernel) rfl dX7_unitsBehind_11 ?_
    refine lv_iload_n hx hb dX7_unitsBehind_14 rfl (lv_at hl 2 rfl) ?_
    obtain ⟨hq2, hF⟩ := am_ifR hF
    refine am_iald X hh 2 (by decide) rfl hq2 dX7_unitsBehind_15 ?_
    refine lv_i2l hx hb dX7_unitsBehind_16 rfl ?_
    refine lv_lmul hx hb dX7_unitsBehind_17 ?_
    refine lv_aload_n hx hb dX7_unitsBehind_18 rfl (lv_at hl 0 rfl) ?_
    refine am_getR X hh 1 9 0 2 (by decide) rfl rfl (by decide) hwRX7 (show Cond.fieldLink RX7 9 "PlanetWorkshop$State" "teeth" "[I" ∈ wsX7_unitsBehind by decide +kernel) rfl dX7_unitsBehind_19 ?_
    refine lv_iload hx hb dX7_unitsBehind_22 (lv_at hl 3 rfl) ?_
    obtain ⟨hq3, hF⟩ := am_ifR hF
    refine am_iald X hh 2 (by decide) rfl hq3 dX7_unitsBehind_24 ?_
    refine lv_i2l hx hb dX7_unitsBehind_25 rfl ?_
    obtain ⟨r5, hk4, hF⟩ := am_bind hF
    refine am_call X hh (va_runS (As := [.long (x1 * ((gI w 2 (x3).toNatClampNeg)).toInt64), .long (((gI w 2 (x4).toNatClampNeg)).toInt64)]) (rest := []) X.1 (c_X4_quotient l G hk4) (va_cwS 2 hts gX7_unitsBehind_X4_quotient rfl rfl rfl (by decide +kernel) ⟨Nat.le_of_ble_eq_true rfl, Nat.le_of_ble_eq_true rfl⟩) (am_preS X hh) rfl rfl hl.1 rfl (lv_room (Nat.le_of_ble_eq_true rfl)) dX7_unitsBehind_26 ⟨Nat.le_of_ble_eq_true rfl, Nat.le_of_ble_eq_true rfl⟩) (fun ab H locs hh => ?_)
    refine lv_lneg hx hb dX7_unitsBehind_29 ?_
    exact am_lret X hr hh (fun t ht => am_qp (mk := oL) hF ht) (Nat.le_of_ble_eq_true rfl) (Nat.le_of_ble_eq_true rfl) dX7_unitsBehind_30
  · have hF := am_pos hc1 hF
    refine lv_lload_n hx hb dX7_unitsBehind_7 rfl (lv_at hl 1 rfl) ?_
    exact am_lret X hr hh (fun t ht => am_qp (mk := oL) hF ht) (Nat.le_of_ble_eq_true rfl) (Nat.le_of_ble_eq_true rfl) dX7_unitsBehind_8
