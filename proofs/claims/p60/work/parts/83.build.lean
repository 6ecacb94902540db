def p_L_build_23 (c4 : Int32) (r1 : Int32) : Nat → Int32 → Wd → Option ((Int32 × Wd) ⊕ Unit)
  | 0, _, _ => none
  | n + 1, y3, w5 => (if c4 ≤ y3 then (some (.inl (y3, w5))) else (if ¬ (10 : Int32) = 0 then (if inR (((r1 >>> (((2 : Int32) + ((3 : Int32) * y3)) &&& 31)) &&& (15 : Int32)) - ((r1 >>> (((2 : Int32) + ((3 : Int32) * y3)) &&& 31)) &&& (15 : Int32)) / (10 : Int32) * (10 : Int32)) 10 then ((f_L_act w5 (0 : Int32) (cTeeth.getD ((((r1 >>> (((2 : Int32) + ((3 : Int32) * y3)) &&& 31)) &&& (15 : Int32)) - ((r1 >>> (((2 : Int32) + ((3 : Int32) * y3)) &&& 31)) &&& (15 : Int32)) / (10 : Int32) * (10 : Int32))).toNatClampNeg 0) (0 : Int32)).bind fun z => u2 z fun r11 w12 => (p_L_build_23 c4 r1 n (y3 + (1 : Int32)) w12)) else none) else none))
def p_L_build_63 (c17 : Int32) (r1 : Int32) : Nat → Int32 → Wd → Option ((Int32 × Wd) ⊕ Unit)
  | 0, _, _ => none
  | n + 1, y16, w18 => (if c17 ≤ y16 then (some (.inl (y16, w18))) else (if ¬ y16 = 0 then ((f_L_act w18 (((r1 >>> (y16 &&& 31)) &&& (1 : Int32)) + (1 : Int32)) (((r1 >>> (((3 : Int32) + y16) &&& 31)) &&& (7 : Int32)) - ((r1 >>> (((3 : Int32) + y16) &&& 31)) &&& (7 : Int32)) / y16 * y16) y16).bind fun z => u2 z fun r23 w24 => (p_L_build_63 c17 r1 n (y16 + (1 : Int32)) w24)) else none))
def p_L_build_126 (c36 : Int32) (r1 : Int32) : Nat → Int32 → Wd → Option ((Int32 × Wd) ⊕ Unit)
  | 0, _, _ => none
  | n + 1, y35, w37 => (if (3 : Int32) ≤ y35 then (some (.inl (y35, w37))) else (if ¬ c36 = 0 then ((f_L_act w37 (10 : Int32) (((r1 >>> (((4 : Int32) * y35) &&& 31)) &&& (7 : Int32)) - ((r1 >>> (((4 : Int32) * y35) &&& 31)) &&& (7 : Int32)) / c36 * c36) (0 : Int32)).bind fun z => u2 z fun r42 w43 => (p_L_build_126 c36 r1 n (y35 + (1 : Int32)) w43)) else none))
def s_L_build_213 (c62 : Int32) (r52 : Int32) (w60 : Wd) : Option Wd := ((f_L_has w60 c62).bind fun z => u2 z fun r64 w65 => (if r64 = 0 then (some w65) else ((f_L_act w65 (7 : Int32) c62 ((1 : Int32) + ((r52 >>> ((11 : Int32) &&& 31)) &&& (7 : Int32)))).bind fun z => u2 z fun r69 w70 => (some w70))))
def s_L_build_241 (r52 : Int32) (c76 : Int32) (w74 : Wd) : Option Wd := (if ((r52 >>> ((14 : Int32) &&& 31)) &&& (3 : Int32)) = 0 then ((f_L_act w74 (4 : Int32) c76 ((20 : Int32) + ((r52 >>> ((16 : Int32) &&& 31)) &&& (63 : Int32)))).bind fun z => u2 z fun r79 w80 => (some w80)) else (some w74))
def s_L_build_270 (r52 : Int32) (c85 : Int32) (w84 : Wd) : Option Wd := (if ((r52 >>> ((14 : Int32) &&& 31)) &&& (3 : Int32)) = (1 : Int32) then ((f_L_act w84 (8 : Int32) c85 (0 : Int32)).bind fun z => u2 z fun r89 w90 => (some w90)) else (some w84))
def s_L_build_291 (r52 : Int32) (c96 : Int32) (c95 : Int32) (w94 : Wd) : Option Wd := (if ((r52 >>> ((14 : Int32) &&& 31)) &&& (7 : Int32)) = (2 : Int32) then ((f_L_act w94 (3 : Int32) c96 c95).bind fun z => u2 z fun r99 w100 => (some w100)) else (some w94))
def s_L_build_313 (r52 : Int32) (c106 : Int32) (c105 : Int32) (w104 : Wd) : Option Wd := (if ((r52 >>> ((14 : Int32) &&& 31)) &&& (7 : Int32)) = (6 : Int32) then ((f_L_act w104 (((r52 >>> ((17 : Int32) &&& 31)) &&& (1 : Int32)) + (1 : Int32)) c106 c105).bind fun z => u2 z fun r109 w110 => (some w110)) else (some w104))
def s_L_build_344 (r52 : Int32) (c116 : Int32) (w114 : Wd) : Option Wd := (if ((r52 >>> ((14 : Int32) &&& 31)) &&& (7 : Int32)) = (3 : Int32) then ((f_L_act w114 (6 : Int32) c116 (0 : Int32)).bind fun z => u2 z fun r119 w120 => (some w120)) else (some w114))
def s_L_build_366 (r52 : Int32) (c125 : Int32) (w124 : Wd) : Option Wd := (if ((r52 >>> ((18 : Int32) &&& 31)) &&& (7 : Int32)) = 0 then ((f_L_act w124 (9 : Int32) c125 (1 : Int32)).bind fun z => u2 z fun r129 w130 => (some w130)) else (some w124))
def s_L_build_387 (r52 : Int32) (c135 : Int32) (w134 : Wd) : Option Wd := (if ((r52 >>> ((18 : Int32) &&& 31)) &&& (7 : Int32)) = (4 : Int32) then ((f_L_act w134 (9 : Int32) c135 (0 : Int32)).bind fun z => u2 z fun r139 w140 => (some w140)) else (some w134))
def s_L_build_409 (r52 : Int32) (c145 : Int32) (w144 : Wd) : Option Wd := (if ((r52 >>> ((18 : Int32) &&& 31)) &&& (7 : Int32)) = (1 : Int32) then ((f_L_act w144 (10 : Int32) c145 (0 : Int32)).bind fun z => u2 z fun r149 w150 => (some w150)) else (some w144))
def s_L_build_431 (r52 : Int32) (w154 : Wd) : Option Wd := (if ((r52 >>> ((18 : Int32) &&& 31)) &&& (7 : Int32)) = (2 : Int32) then ((f_L_act w154 (11 : Int32) ((1 : Int32) + ((r52 >>> ((21 : Int32) &&& 31)) &&& (15 : Int32))) (0 : Int32)).bind fun z => u2 z fun r159 w160 => (some w160)) else (some w154))
def s_L_build_461 (r52 : Int32) (w164 : Wd) : Option Wd := (if ((r52 >>> ((18 : Int32) &&& 31)) &&& (7 : Int32)) = (3 : Int32) then (if ¬ (10 : Int32) = 0 then (if inR (((r52 >>> ((21 : Int32) &&& 31)) &&& (15 : Int32)) - ((r52 >>> ((21 : Int32) &&& 31)) &&& (15 : Int32)) / (10 : Int32) * (10 : Int32)) 10 then ((f_L_act w164 (0 : Int32) (cTeeth.getD ((((r52 >>> ((21 : Int32) &&& 31)) &&& (15 : Int32)) - ((r52 >>> ((21 : Int32) &&& 31)) &&& (15 : Int32)) / (10 : Int32) * (10 : Int32))).toNatClampNeg 0) (0 : Int32)).bind fun z => u2 z fun r171 w172 => (some w172)) else none) else none) else (some w164))
def p_L_build_160 (sc : Sc) (c48 : Int32) : Nat → Int32 → Wd → Option ((Int32 × Wd) ⊕ Unit)
  | 0, _, _ => none
  | n + 1, y47, w49 => (if (13 : Int32) ≤ y47 then (some (.inl (y47, w49))) else ((f_L_at sc y47).bind fun r52 => (if ¬ c48 = 0 then (if ¬ c48 = 0 then ((f_L_act w49 (5 : Int32) ((r52 &&& (7 : Int32)) - (r52 &&& (7 : Int32)) / c48 * c48) ((1 : Int32) + ((r52 >>> ((6 : Int32) &&& 31)) &&& (31 : Int32)))).bind fun z => u2 z fun r57 w58 => ((s_L_build_213 ((r52 &&& (7 : Int32)) - (r52 &&& (7 : Int32)) / c48 * c48) r52 w58).bind fun w72 => ((s_L_build_241 r52 ((r52 &&& (7 : Int32)) - (r52 &&& (7 : Int32)) / c48 * c48) w72).bind fun w82 => ((s_L_build_270 r52 (((r52 >>> ((3 : Int32) &&& 31)) &&& (7 : Int32)) - ((r52 >>> ((3 : Int32) &&& 31)) &&& (7 : Int32)) / c48 * c48) w82).bind fun w92 => ((s_L_build_291 r52 ((r52 &&& (7 : Int32)) - (r52 &&& (7 : Int32)) / c48 * c48) (((r52 >>> ((3 : Int32) &&& 31)) &&& (7 : Int32)) - ((r52 >>> ((3 : Int32) &&& 31)) &&& (7 : Int32)) / c48 * c48) w92).bind fun w102 => ((s_L_build_313 r52 ((r52 &&& (7 : Int32)) - (r52 &&& (7 : Int32)) / c48 * c48) (((r52 >>> ((3 : Int32) &&& 31)) &&& (7 : Int32)) - ((r52 >>> ((3 : Int32) &&& 31)) &&& (7 : Int32)) / c48 * c48) w102).bind fun w112 => ((s_L_build_344 r52 ((r52 &&& (7 : Int32)) - (r52 &&& (7 : Int32)) / c48 * c48) w112).bind fun w122 => ((s_L_build_366 r52 (((r52 >>> ((3 : Int32) &&& 31)) &&& (7 : Int32)) - ((r52 >>> ((3 : Int32) &&& 31)) &&& (7 : Int32)) / c48 * c48) w122).bind fun w132 => ((s_L_build_387 r52 (((r52 >>> ((3 : Int32) &&& 31)) &&& (7 : Int32)) - ((r52 >>> ((3 : Int32) &&& 31)) &&& (7 : Int32)) / c48 * c48) w132).bind fun w142 => ((s_L_build_409 r52 (((r52 >>> ((3 : Int32) &&& 31)) &&& (7 : Int32)) - ((r52 >>> ((3 : Int32) &&& 31)) &&& (7 : Int32)) / c48 * c48) w142).bind fun w152 => ((s_L_build_431 r52 w152).bind fun w162 => ((s_L_build_461 r52 w162).bind fun w174 => (p_L_build_160 sc c48 n (y47 + (1 : Int32)) w174))))))))))))) else none) else none)))
def f_L_build (sc : Sc) : Option Wd := ((f_L_at sc (0 : Int32)).bind fun r1 => ((p_L_build_23 ((4 : Int32) + (r1 &&& (3 : Int32))) r1 8 (0 : Int32) w0).bind fun z => zc z (fun q => u2 q fun y3 w5 => ((p_L_build_63 ((4 : Int32) + (r1 &&& (3 : Int32))) r1 8 (1 : Int32) w5).bind fun z => zc z (fun q => u2 q fun y16 w18 => (if ¬ ((4 : Int32) + (r1 &&& (3 : Int32))) = 0 then (if 0 ≤ (r1 - r1 / ((4 : Int32) + (r1 &&& (3 : Int32))) * ((4 : Int32) + (r1 &&& (3 : Int32)))) then (if ¬ ((4 : Int32) + (r1 &&& (3 : Int32))) = 0 then ((f_L_act w18 (4 : Int32) (r1 - r1 / ((4 : Int32) + (r1 &&& (3 : Int32))) * ((4 : Int32) + (r1 &&& (3 : Int32)))) (60 : Int32)).bind fun z => u2 z fun r32 w33 => ((p_L_build_126 ((4 : Int32) + (r1 &&& (3 : Int32))) r1 4 (0 : Int32) w33).bind fun z => zc z (fun q => u2 q fun y35 w37 => ((p_L_build_160 sc ((4 : Int32) + (r1 &&& (3 : Int32))) 14 (1 : Int32) w37).bind fun z => zc z (fun q => u2 q fun y47 w49 => (some w49)) (fun _ => none))) (fun _ => none))) else none) else ((f_L_act w18 (4 : Int32) (0 : Int32) (60 : Int32)).bind fun z => u2 z fun r179 w180 => ((p_L_build_126 ((4 : Int32) + (r1 &&& (3 : Int32))) r1 4 (0 : Int32) w180).bind fun z => zc z (fun q => u2 q fun y182 w184 => ((p_L_build_160 sc ((4 : Int32) + (r1 &&& (3 : Int32))) 14 (1 : Int32) w184).bind fun z => zc z (fun q => u2 q fun y194 w196 => (some w196)) (fun _ => none))) (fun _ => none)))) else none)) (fun _ => none))) (fun _ => none)))
set_option maxHeartbeats 16000000 in
set_option maxRecDepth 100000 in
theorem L_build_8 (l : Launch) (hst : l.stackTraces = false) {G : GG} {p : Program} {e : Env} {s : State} {m : MethodId} {args : Array Value} {below : List Frame} {meth : Method} {c : Code} {b ab : Nat} {sc : Sc} {H : Heap} {locs : List Loc} {ls : Array Slot} {w1 : Wd} (X : CX G p s m args meth c cL_build 8 RL wsL_buildQ) (hr : meth.sig.returnType = some (.object "PlanetWorkshop")) (hX : va_X b sc.1 sc.2 s s.heap) (hbl : b < s.heap.size) (hbA : ¬ gA G b) (hF : f_L_build sc = some w1) (hh : AH G s.heap w0 ab H locs) (hl : lv_has ls 8 [(1, .ref (gAd G 0)), (0, .ref b)]) : W p l e ({ frames := 11, cells := 750, slots := 6572, locals := 216 } : Room) s m args below meth c H locs 141 2918 (MQ below (bdQ G w1) args s 750 6572 (gA G)) (F0 m 8 ls []) := by
  have hx := X.1.1; have hb := X.1.2.1; have hml := X.1.2.2.1; have hown := X.1.2.2.2.1; have hts := X.1.2.2.2.2
  unfold f_L_build at hF
  refine lv_aload_n hx hb dL_build_8 rfl (lv_at hl 1 rfl) ?_
  refine lv_iconst (v := (0 : Int32)) hx hb dL_build_9 (by decide) ?_
  obtain ⟨r1, hk2, hF⟩ := am_bind hF
  refine am_callAt X hh (va_runS (As := [.ref b, .int (0 : Int32)]) (rest := []) X.1 (c_L_at l hk2) (va_cwS 2 hts gL_build_L_at rfl rfl rfl (by decide +kernel) ⟨Nat.le_of_ble_eq_true rfl, Nat.le_of_ble_eq_true rfl⟩) (at_pre X hX hbl hbA hh) rfl rfl hl.1 rfl (lv_room (Nat.le_of_ble_eq_true rfl)) dL_build_10 ⟨Nat.le_of_ble_eq_true rfl, Nat.le_of_ble_eq_true rfl⟩) (fun H locs hh => ?_)
  refine lv_istore_n (lv' := [(2, .int r1), (1, .ref (gAd G 0)), (0, .ref b)]) hx hb dL_build_13 rfl hl (by decide) rfl (fun ls hl => ?_)
  refine lv_iconst (v := (4 : Int32)) hx hb dL_build_14 (by decide) ?_
  refine lv_iload_n hx hb dL_build_15 rfl (lv_at hl 0 rfl) ?_
  refine lv_iconst (v := (3 : Int32)) hx hb dL_build_16 (by decide) ?_
  refine lv_iand hx hb dL_build_17 ?_
  refine lv_iadd hx hb dL_build_18 ?_
  refine lv_istore_n (lv' := [(3, .int ((4 : Int32) + (r1 &&& (3 : Int32)))), (2, .int r1), (1, .ref (gAd G 0)), (0, .ref b)]) hx hb dL_build_19 rfl hl (by decide) rfl (fun ls hl => ?_)
  refine lv_iconst (v := (0 : Int32)) hx hb dL_build_20 (by decide) ?_
  refine lv_istore (lv' := [(4, .int (0 : Int32)), (3, .int ((4 : Int32) + (r1 &&& (3 : Int32)))), (2, .int r1), (1, .ref (gAd G 0)), (0, .ref b)]) hx hb dL_build_21 hl (by decide) rfl (fun ls hl => ?_)
  have hlp23 : ∀ (c4 : Int32) (n : Nat) (j : Nat) (y3 : Int32) (w5 : Wd) (ab : Nat) (H : Heap) (locs : List Loc) (ls : Array Slot) (z : (Int32 × Wd) ⊕ Unit), n + j ≤ 8 → p_L_build_23 c4 r1 n y3 w5 = some z → AH G s.heap w5 ab H locs → lv_has ls 8 [(4, .int y3), (3, .int c4), (2, .int r1), (1, .ref (gAd G 0)), (0, .ref b)] → (∀ (y3 : Int32) (w5 : Wd) (ab : Nat) (H : Heap) (locs : List Loc) (ls : Array Slot), z = .inl (y3, w5) → AH G s.heap w5 ab H locs → lv_has ls 8 [(4, .int y3), (3, .int c4), (2, .int r1), (1, .ref (gAd G 0)), (0, .ref b)] → W p l e ({ frames := 11, cells := 750, slots := 6572, locals := 216 } : Room) s m args below meth c H locs (141 + 3 * 8) (2918 + 18 * 8) (MQ below (bdQ G w1) args s 750 6572 (gA G)) (F0 m 60 ls [])) → W p l e ({ frames := 11, cells := 750, slots := 6572, locals := 216 } : Room) s m args below meth c H locs (141 + 3 * j) (2918 + 18 * j) (MQ below (bdQ G w1) args s 750 6572 (gA G)) (F0 m 23 ls []) := by
    intro c4 n
    induction n with
    | zero =>
      intro j y3 w5 ab H locs ls z hj hF
      unfold p_L_build_23 at hF
      cases hF
    | succ n ih =>
      intro j y3 w5 ab H locs ls z hj hF hh hl kE
      unfold p_L_build_23 at hF
      refine lv_iload hx hb dL_build_23 (lv_at hl 0 rfl) ?_
      refine lv_iload_n hx hb dL_build_25 rfl (lv_at hl 1 rfl) ?_
      refine lv_icmp_ge (tgt := 60) hx hb dL_build_26 (by decide) (fun hc7 => ?_) (fun hc7 => ?_)
      · have hF := am_pos hc7 hF
        exact W.widen (by omega) (by omega) (kE y3 w5 ab H locs ls (Option.some.inj hF).symm hh (lv_sub hl [0, 1, 2, 3, 4] rfl))
      · have hF := am_neg hc7 hF
        refine lv_aload_n hx hb dL_build_29 rfl (lv_at hl 3 rfl) ?_
        refine lv_iconst (v := (0 : Int32)) hx hb dL_build_30 (by decide) ?_
        refine va_gets hx hb X.2.2.1.1.2.2.2.2.2.2.2.2.2.2.1 hh.2.2 hown (hts _ (show Cond.fieldLink RL 30 "PlanetWorkshopLaw" "TEETH" "[I"  ∈ wsL_buildQ by decide +kernel)) (fun _ h9 => h9) dL_build_31 ?_
        refine lv_iload_n hx hb dL_build_34 rfl (lv_at hl 2 rfl) ?_
        refine lv_iconst (v := (2 : Int32)) hx hb dL_build_35 (by decide) ?_
        refine lv_iconst (v := (3 : Int32)) hx hb dL_build_36 (by decide) ?_
        refine lv_iload hx hb dL_build_37 (lv_at hl 0 rfl) ?_
        refine lv_imul hx hb dL_build_39 ?_
        refine lv_iadd hx hb dL_build_40 ?_
        refine lv_ishr hx hb dL_build_41 ?_
        refine lv_bipush (v := (15 : Int32)) hx hb dL_build_42 (by decide) ?_
        refine lv_iand hx hb dL_build_44 ?_
        refine lv_bipush (v := (10 : Int32)) hx hb dL_build_45 (by decide) ?_
        obtain ⟨hq8, hF⟩ := am_if hF
        refine lv_irem hx hb dL_build_47 hq8 ?_
        obtain ⟨hq9, hF⟩ := am_ifR hF
        refine va_ti hx hb X.2.2.1.1.2.2.2.2.2.2.2.2.2.2.2 hh.2.2 hq9 rfl dL_build_48 ?_
        refine lv_iconst (v := (0 : Int32)) hx hb dL_build_49 (by decide) ?_
        obtain ⟨⟨r11, w12⟩, hk10, hF⟩ := am_bind hF
        have hF := am_u2 hF
        refine am_callW X hh (vx_runSX (As := [.ref (gAd G 0), .int (0 : Int32), .int (cTeeth.getD ((((r1 >>> (((2 : Int32) + ((3 : Int32) * y3)) &&& 31)) &&& (15 : Int32)) - ((r1 >>> (((2 : Int32) + ((3 : Int32) * y3)) &&& 31)) &&& (15 : Int32)) / (10 : Int32) * (10 : Int32))).toNatClampNeg 0), .int (0 : Int32)]) (rest := []) X.1 (c_L_act l G hst hk10) (vx_cwSW 4 hts gL_build_L_act rfl rfl rfl (by decide +kernel) ⟨Nat.le_of_ble_eq_true rfl, Nat.le_of_ble_eq_true rfl⟩) (am_preS X hh) rfl rfl hl.1 rfl (lv_room (Nat.le_of_ble_eq_true rfl)) dL_build_50 ⟨by show (141 + 3 * j) + 3 ≤ 750; omega, by show (2918 + 18 * j) + 18 ≤ 6572; omega⟩) (fun ab H locs hh => ?_)
        refine lv_pop hx hb dL_build_53 rfl ?_
        refine lv_iinc (v := (y3 + (1 : Int32))) (lv' := [(4, .int (y3 + (1 : Int32))), (3, .int c4), (2, .int r1), (1, .ref (gAd G 0)), (0, .ref b)]) hx hb dL_build_54 hl (k := 0) rfl rfl (by decide) rfl (fun ls hl => ?_)
        refine lv_goto (tgt := 23) hx hb dL_build_57 (by decide) ?_
        exact W.widen (by omega) (by omega) (ih (j + 1) (y3 + (1 : Int32)) w12 ab H locs ls _ (by omega) hF hh (lv_sub hl [0, 1, 2, 3, 4] rfl) kE)
  obtain ⟨z14, hz15, hF⟩ := am_bind hF
  refine W.widen (show 141 ≤ 141 + 3 * 0 by omega) (show 2918 ≤ 2918 + 18 * 0 by omega) (hlp23 ((4 : Int32) + (r1 &&& (3 : Int32))) 8 0 (0 : Int32) w0 ab H locs ls z14 (Nat.le_refl _) hz15 hh (lv_sub hl [0, 1, 2, 3, 4] rfl) (fun y3 w5 ab H locs ls hz hh hl => ?_))
  · subst hz
    have hF := am_zl hF
    have hF := am_u2 hF
    refine lv_iconst (v := (1 : Int32)) hx hb dL_build_60 (by decide) ?_
    refine lv_istore (lv' := [(4, .int (1 : Int32)), (3, .int ((4 : Int32) + (r1 &&& (3 : Int32)))), (2, .int r1), (1, .ref (gAd G 0)), (0, .ref b)]) hx hb dL_build_61 hl (by decide) rfl (fun ls hl => ?_)
    have hlp63 : ∀ (c17 : Int32) (n : Nat) (j : Nat) (y16 : Int32) (w18 : Wd) (ab : Nat) (H : Heap) (locs : List Loc) (ls : Array Slot) (z : (Int32 × Wd) ⊕ Unit), n + j ≤ 8 → p_L_build_63 c17 r1 n y16 w18 = some z → AH G s.heap w18 ab H locs → lv_has ls 8 [(4, .int y16), (3, .int c17), (2, .int r1), (1, .ref (gAd G 0)), (0, .ref b)] → (∀ (y16 : Int32) (w18 : Wd) (ab : Nat) (H : Heap) (locs : List Loc) (ls : Array Slot), z = .inl (y16, w18) → AH G s.heap w18 ab H locs → lv_has ls 8 [(4, .int y16), (3, .int c17), (2, .int r1), (1, .ref (gAd G 0)), (0, .ref b)] → W p l e ({ frames := 11, cells := 750, slots := 6572, locals := 216 } : Room) s m args below meth c H locs (165 + 3 * 8) (3062 + 18 * 8) (MQ below (bdQ G w1) args s 750 6572 (gA G)) (F0 m 102 ls [])) → W p l e ({ frames := 11, cells := 750, slots := 6572, locals := 216 } : Room) s m args below meth c H locs (165 + 3 * j) (3062 + 18 * j) (MQ below (bdQ G w1) args s 750 6572 (gA G)) (F0 m 63 ls []) := by
      intro c17 n
      induction n with
      | zero =>
        intro j y16 w18 ab H locs ls z hj hF
        unfold p_L_build_63 at hF
        cases hF
      | succ n ih =>
        intro j y16 w18 ab H locs ls z hj hF hh hl kE
        unfold p_L_build_63 at hF
        refine lv_iload hx hb dL_build_63 (lv_at hl 0 rfl) ?_
        refine lv_iload_n hx hb dL_build_65 rfl (lv_at hl 1 rfl) ?_
        refine lv_icmp_ge (tgt := 102) hx hb dL_build_66 (by decide) (fun hc20 => ?_) (fun hc20 => ?_)
        · have hF := am_pos hc20 hF
          exact W.widen (by omega) (by omega) (kE y16 w18 ab H locs ls (Option.some.inj hF).symm hh (lv_sub hl [0, 1, 2, 3, 4] rfl))
        · have hF := am_neg hc20 hF
          refine lv_aload_n hx hb dL_build_69 rfl (lv_at hl 3 rfl) ?_
          refine lv_iload_n hx hb dL_build_70 rfl (lv_at hl 2 rfl) ?_
          refine lv_iload hx hb dL_build_71 (lv_at hl 0 rfl) ?_
          refine lv_ishr hx hb dL_build_73 ?_
          refine lv_iconst (v := (1 : Int32)) hx hb dL_build_74 (by decide) ?_
          refine lv_iand hx hb dL_build_75 ?_
          refine lv_iconst (v := (1 : Int32)) hx hb dL_build_76 (by decide) ?_
          refine lv_iadd hx hb dL_build_77 ?_
          refine lv_iload_n hx hb dL_build_78 rfl (lv_at hl 2 rfl) ?_
          refine lv_iconst (v := (3 : Int32)) hx hb dL_build_79 (by decide) ?_
          refine lv_iload hx hb dL_build_80 (lv_at hl 0 rfl) ?_
          refine lv_iadd hx hb dL_build_82 ?_
          refine lv_ishr hx hb dL_build_83 ?_
          refine lv_bipush (v := (7 : Int32)) hx hb dL_build_84 (by decide) ?_
          refine lv_iand hx hb dL_build_86 ?_
          refine lv_iload hx hb dL_build_87 (lv_at hl 0 rfl) ?_
          obtain ⟨hq21, hF⟩ := am_if hF
          refine lv_irem hx hb dL_build_89 hq21 ?_
          refine lv_iload hx hb dL_build_90 (lv_at hl 0 rfl) ?_
          obtain ⟨⟨r23, w24⟩, hk22, hF⟩ := am_bind hF
          have hF := am_u2 hF
          refine am_callW X hh (vx_runSX (As := [.ref (gAd G 0), .int (((r1 >>> (y16 &&& 31)) &&& (1 : Int32)) + (1 : Int32)), .int (((r1 >>> (((3 : Int32) + y16) &&& 31)) &&& (7 : Int32)) - ((r1 >>> (((3 : Int32) + y16) &&& 31)) &&& (7 : Int32)) / y16 * y16), .int y16]) (rest := []) X.1 (c_L_act l G hst hk22) (vx_cwSW 4 hts gL_build_L_act rfl rfl rfl (by decide +kernel) ⟨Nat.le_of_ble_eq_true rfl, Nat.le_of_ble_eq_true rfl⟩) (am_preS X hh) rfl rfl hl.1 rfl (lv_room (Nat.le_of_ble_eq_true rfl)) dL_build_92 ⟨by show (165 + 3 * j) + 3 ≤ 750; omega, by show (3062 + 18 * j) + 18 ≤ 6572; omega⟩) (fun ab H locs hh => ?_)
          refine lv_pop hx hb dL_build_95 rfl ?_
          refine lv_iinc (v := (y16 + (1 : Int32))) (lv' := [(4, .int (y16 + (1 : Int32))), (3, .int c17), (2, .int r1), (1, .ref (gAd G 0)), (0, .ref b)]) hx hb dL_build_96 hl (k := 0) rfl rfl (by decide) rfl (fun ls hl => ?_)
          refine lv_goto (tgt := 63) hx hb dL_build_99 (by decide) ?_
          exact W.widen (by omega) (by omega) (ih (j + 1) (y16 + (1 : Int32)) w24 ab H locs ls _ (by omega) hF hh (lv_sub hl [0, 1, 2, 3, 4] rfl) kE)
    obtain ⟨z26, hz27, hF⟩ := am_bind hF
    refine W.widen (show 165 ≤ 165 + 3 * 0 by omega) (show 3062 ≤ 3062 + 18 * 0 by omega) (hlp63 ((4 : Int32) + (r1 &&& (3 : Int32))) 8 0 (1 : Int32) w5 ab H locs ls z26 (Nat.le_refl _) hz27 hh (lv_sub hl [0, 1, 2, 3, 4] rfl) (fun y16 w18 ab H locs ls hz hh hl => ?_))
    · subst hz
      have hF := am_zl hF
      have hF := am_u2 hF
      refine lv_aload_n hx hb dL_build_102 rfl (lv_at hl 3 rfl) ?_
      refine lv_iconst (v := (4 : Int32)) hx hb dL_build_103 (by decide) ?_
      refine lv_iload_n hx hb dL_build_104 rfl (lv_at hl 2 rfl) ?_
      refine lv_iload_n hx hb dL_build_105 rfl (lv_at hl 1 rfl) ?_
      obtain ⟨hq28, hF⟩ := am_if hF
      refine lv_irem hx hb dL_build_106 hq28 ?_
      refine lv_if_ge (tgt := 114) hx hb dL_build_107 (by decide) (fun hc29 => ?_) (fun hc29 => ?_)
      · have hF := am_pos hc29 hF
        refine lv_iload_n hx hb dL_build_114 rfl (lv_at hl 2 rfl) ?_
        refine lv_iload_n hx hb dL_build_115 rfl (lv_at hl 1 rfl) ?_
        obtain ⟨hq30, hF⟩ := am_if hF
        refine lv_irem hx hb dL_build_116 hq30 ?_
        refine lv_bipush (v := (60 : Int32)) hx hb dL_build_117 (by decide) ?_
        obtain ⟨⟨r32, w33⟩, hk31, hF⟩ := am_bind hF
        have hF := am_u2 hF
        refine am_callW X hh (vx_runSX (As := [.ref (gAd G 0), .int (4 : Int32), .int (r1 - r1 / ((4 : Int32) + (r1 &&& (3 : Int32))) * ((4 : Int32) + (r1 &&& (3 : Int32)))), .int (60 : Int32)]) (rest := []) X.1 (c_L_act l G hst hk31) (vx_cwSW 4 hts gL_build_L_act rfl rfl rfl (by decide +kernel) ⟨Nat.le_of_ble_eq_true rfl, Nat.le_of_ble_eq_true rfl⟩) (am_preS X hh) rfl rfl hl.1 rfl (lv_room (Nat.le_of_ble_eq_true rfl)) dL_build_119 ⟨Nat.le_of_ble_eq_true rfl, Nat.le_of_ble_eq_true rfl⟩) (fun ab H locs hh => ?_)
        refine lv_pop hx hb dL_build_122 rfl ?_
        refine lv_iconst (v := (0 : Int32)) hx hb dL_build_123 (by decide) ?_
        refine lv_istore (lv' := [(4, .int (0 : Int32)), (3, .int ((4 : Int32) + (r1 &&& (3 : Int32)))), (2, .int r1), (1, .ref (gAd G 0)), (0, .ref b)]) hx hb dL_build_124 hl (by decide) rfl (fun ls hl => ?_)
        have hlp126 : ∀ (c36 : Int32) (n : Nat) (j : Nat) (y35 : Int32) (w37 : Wd) (ab : Nat) (H : Heap) (locs : List Loc) (ls : Array Slot) (z : (Int32 × Wd) ⊕ Unit), n + j ≤ 4 → p_L_build_126 c36 r1 n y35 w37 = some z → AH G s.heap w37 ab H locs → lv_has ls 8 [(4, .int y35), (3, .int c36), (2, .int r1), (1, .ref (gAd G 0)), (0, .ref b)] → (∀ (y35 : Int32) (w37 : Wd) (ab : Nat) (H : Heap) (locs : List Loc) (ls : Array Slot), z = .inl (y35, w37) → AH G s.heap w37 ab H locs → lv_has ls 8 [(4, .int y35), (3, .int c36), (2, .int r1), (1, .ref (gAd G 0)), (0, .ref b)] → W p l e ({ frames := 11, cells := 750, slots := 6572, locals := 216 } : Room) s m args below meth c H locs (192 + 3 * 4) (3224 + 18 * 4) (MQ below (bdQ G w1) args s 750 6572 (gA G)) (F0 m 157 ls [])) → W p l e ({ frames := 11, cells := 750, slots := 6572, locals := 216 } : Room) s m args below meth c H locs (192 + 3 * j) (3224 + 18 * j) (MQ below (bdQ G w1) args s 750 6572 (gA G)) (F0 m 126 ls []) := by
          intro c36 n
          induction n with
          | zero =>
            intro j y35 w37 ab H locs ls z hj hF
            unfold p_L_build_126 at hF
            cases hF
          | succ n ih =>
            intro j y35 w37 ab H locs ls z hj hF hh hl kE
            unfold p_L_build_126 at hF
            refine lv_iload hx hb dL_build_126 (lv_at hl 0 rfl) ?_
            refine lv_iconst (v := (3 : Int32)) hx hb dL_build_128 (by decide) ?_
            refine lv_icmp_ge (tgt := 157) hx hb dL_build_129 (by decide) (fun hc39 => ?_) (fun hc39 => ?_)
            · have hF := am_pos hc39 hF
              exact W.widen (by omega) (by omega) (kE y35 w37 ab H locs ls (Option.some.inj hF).symm hh (lv_sub hl [0, 1, 2, 3, 4] rfl))
            · have hF := am_neg hc39 hF
              refine lv_aload_n hx hb dL_build_132 rfl (lv_at hl 3 rfl) ?_
              refine lv_bipush (v := (10 : Int32)) hx hb dL_build_133 (by decide) ?_
              refine lv_iload_n hx hb dL_build_135 rfl (lv_at hl 2 rfl) ?_
              refine lv_iconst (v := (4 : Int32)) hx hb dL_build_136 (by decide) ?_
              refine lv_iload hx hb dL_build_137 (lv_at hl 0 rfl) ?_
              refine lv_imul hx hb dL_build_139 ?_
              refine lv_ishr hx hb dL_build_140 ?_
              refine lv_bipush (v := (7 : Int32)) hx hb dL_build_141 (by decide) ?_
              refine lv_iand hx hb dL_build_143 ?_
              refine lv_iload_n hx hb dL_build_144 rfl (lv_at hl 1 rfl) ?_
              obtain ⟨hq40, hF⟩ := am_if hF
              refine lv_irem hx hb dL_build_145 hq40 ?_
              refine lv_iconst (v := (0 : Int32)) hx hb dL_build_146 (by decide) ?_
              obtain ⟨⟨r42, w43⟩, hk41, hF⟩ := am_bind hF
              have hF := am_u2 hF
              refine am_callW X hh (vx_runSX (As := [.ref (gAd G 0), .int (10 : Int32), .int (((r1 >>> (((4 : Int32) * y35) &&& 31)) &&& (7 : Int32)) - ((r1 >>> (((4 : Int32) * y35) &&& 31)) &&& (7 : Int32)) / c36 * c36), .int (0 : Int32)]) (rest := []) X.1 (c_L_act l G hst hk41) (vx_cwSW 4 hts gL_build_L_act rfl rfl rfl (by decide +kernel) ⟨Nat.le_of_ble_eq_true rfl, Nat.le_of_ble_eq_true rfl⟩) (am_preS X hh) rfl rfl hl.1 rfl (lv_room (Nat.le_of_ble_eq_true rfl)) dL_build_147 ⟨by show (192 + 3 * j) + 3 ≤ 750; omega, by show (3224 + 18 * j) + 18 ≤ 6572; omega⟩) (fun ab H locs hh => ?_)
              refine lv_pop hx hb dL_build_150 rfl ?_
              refine lv_iinc (v := (y35 + (1 : Int32))) (lv' := [(4, .int (y35 + (1 : Int32))), (3, .int c36), (2, .int r1), (1, .ref (gAd G 0)), (0, .ref b)]) hx hb dL_build_151 hl (k := 0) rfl rfl (by decide) rfl (fun ls hl => ?_)
              refine lv_goto (tgt := 126) hx hb dL_build_154 (by decide) ?_
              exact W.widen (by omega) (by omega) (ih (j + 1) (y35 + (1 : Int32)) w43 ab H locs ls _ (by omega) hF hh (lv_sub hl [0, 1, 2, 3, 4] rfl) kE)
        obtain ⟨z45, hz46, hF⟩ := am_bind hF
        refine W.widen (show 192 ≤ 192 + 3 * 0 by omega) (show 3224 ≤ 3224 + 18 * 0 by omega) (hlp126 ((4 : Int32) + (r1 &&& (3 : Int32))) 4 0 (0 : Int32) w33 ab H locs ls z45 (Nat.le_refl _) hz46 hh (lv_sub hl [0, 1, 2, 3, 4] rfl) (fun y35 w37 ab H locs ls hz hh hl => ?_))
        · subst hz
          have hF := am_zl hF
          have hF := am_u2 hF
          refine lv_iconst (v := (1 : Int32)) hx hb dL_build_157 (by decide) ?_
          refine lv_istore (lv' := [(4, .int (1 : Int32)), (3, .int ((4 : Int32) + (r1 &&& (3 : Int32)))), (2, .int r1), (1, .ref (gAd G 0)), (0, .ref b)]) hx hb dL_build_158 hl (by decide) rfl (fun ls hl => ?_)
          have hlp160 : ∀ (c48 : Int32) (n : Nat) (j : Nat) (y47 : Int32) (w49 : Wd) (ab : Nat) (H : Heap) (locs : List Loc) (ls : Array Slot) (z : (Int32 × Wd) ⊕ Unit), n + j ≤ 14 → p_L_build_160 sc c48 n y47 w49 = some z → AH G s.heap w49 ab H locs → lv_has ls 8 [(4, .int y47), (3, .int c48), (2, .int r1), (1, .ref (gAd G 0)), (0, .ref b)] → (∀ (y47 : Int32) (w49 : Wd) (ab : Nat) (H : Heap) (locs : List Loc) (ls : Array Slot), z = .inl (y47, w49) → AH G s.heap w49 ab H locs → lv_has ls 8 [(4, .int y47), (3, .int c48), (2, .int r1), (1, .ref (gAd G 0)), (0, .ref b)] → W p l e ({ frames := 11, cells := 750, slots := 6572, locals := 216 } : Room) s m args below meth c H locs (204 + 39 * 14) (3296 + 234 * 14) (MQ below (bdQ G w1) args s 750 6572 (gA G)) (F0 m 501 ls [])) → W p l e ({ frames := 11, cells := 750, slots := 6572, locals := 216 } : Room) s m args below meth c H locs (204 + 39 * j) (3296 + 234 * j) (MQ below (bdQ G w1) args s 750 6572 (gA G)) (F0 m 160 ls []) := by
            intro c48 n
            induction n with
            | zero =>
              intro j y47 w49 ab H locs ls z hj hF
              unfold p_L_build_160 at hF
              cases hF
            | succ n ih =>
              intro j y47 w49 ab H locs ls z hj hF hh hl kE
              unfold p_L_build_160 at hF
              refine lv_iload hx hb dL_build_160 (lv_at hl 0 rfl) ?_
              refine lv_bipush (v := (13 : Int32)) hx hb dL_build_162 (by decide) ?_
              refine lv_icmp_ge (tgt := 501) hx hb dL_build_164 (by decide) (fun hc51 => ?_) (fun hc51 => ?_)
              · have hF := am_pos hc51 hF
                exact W.widen (by omega) (by omega) (kE y47 w49 ab H locs ls (Option.some.inj hF).symm hh (lv_sub hl [0, 1, 2, 3, 4] rfl))
              · have hF := am_neg hc51 hF
                refine lv_aload_n hx hb dL_build_167 rfl (lv_at hl 4 rfl) ?_
                refine lv_iload hx hb dL_build_168 (lv_at hl 0 rfl) ?_
                obtain ⟨r52, hk53, hF⟩ := am_bind hF
                refine am_callAt X hh (va_runS (As := [.ref b, .int y47]) (rest := []) X.1 (c_L_at l hk53) (va_cwS 2 hts gL_build_L_at rfl rfl rfl (by decide +kernel) ⟨Nat.le_of_ble_eq_true rfl, Nat.le_of_ble_eq_true rfl⟩) (at_pre X hX hbl hbA hh) rfl rfl hl.1 rfl (lv_room (Nat.le_of_ble_eq_true rfl)) dL_build_170 ⟨by show (204 + 39 * j) + 0 ≤ 750; omega, by show (3296 + 234 * j) + 0 ≤ 6572; omega⟩) (fun H locs hh => ?_)
                refine lv_istore (lv' := [(5, .int r52), (4, .int y47), (3, .int c48), (2, .int r1), (1, .ref (gAd G 0)), (0, .ref b)]) hx hb dL_build_173 hl (by decide) rfl (fun ls hl => ?_)
                refine lv_iload hx hb dL_build_175 (lv_at hl 0 rfl) ?_
                refine lv_bipush (v := (7 : Int32)) hx hb dL_build_177 (by decide) ?_
                refine lv_iand hx hb dL_build_179 ?_
                refine lv_iload_n hx hb dL_build_180 rfl (lv_at hl 2 rfl) ?_
                obtain ⟨hq54, hF⟩ := am_if hF
                refine lv_irem hx hb dL_build_181 hq54 ?_
                refine lv_istore (lv' := [(6, .int ((r52 &&& (7 : Int32)) - (r52 &&& (7 : Int32)) / c48 * c48)), (5, .int r52), (4, .int y47), (3, .int c48), (2, .int r1), (1, .ref (gAd G 0)), (0, .ref b)]) hx hb dL_build_182 hl (by decide) rfl (fun ls hl => ?_)
                refine lv_iload hx hb dL_build_184 (lv_at hl 1 rfl) ?_
                refine lv_iconst (v := (3 : Int32)) hx hb dL_build_186 (by decide) ?_
                refine lv_ishr hx hb dL_build_187 ?_
                refine lv_bipush (v := (7 : Int32)) hx hb dL_build_188 (by decide) ?_
                refine lv_iand hx hb dL_build_190 ?_
                refine lv_iload_n hx hb dL_build_191 rfl (lv_at hl 3 rfl) ?_
                obtain ⟨hq55, hF⟩ := am_if hF
                refine lv_irem hx hb dL_build_192 hq55 ?_
                refine lv_istore (lv' := [(7, .int (((r52 >>> ((3 : Int32) &&& 31)) &&& (7 : Int32)) - ((r52 >>> ((3 : Int32) &&& 31)) &&& (7 : Int32)) / c48 * c48)), (6, .int ((r52 &&& (7 : Int32)) - (r52 &&& (7 : Int32)) / c48 * c48)), (5, .int r52), (4, .int y47), (3, .int c48), (2, .int r1), (1, .ref (gAd G 0)), (0, .ref b)]) hx hb dL_build_193 hl (by decide) rfl (fun ls hl => ?_)
                refine lv_aload_n hx hb dL_build_195 rfl (lv_at hl 6 rfl) ?_
                refine lv_iconst (v := (5 : Int32)) hx hb dL_build_196 (by decide) ?_
                refine lv_iload hx hb dL_build_197 (lv_at hl 1 rfl) ?_
                refine lv_iconst (v := (1 : Int32)) hx hb dL_build_199 (by decide) ?_
                refine lv_iload hx hb dL_build_200 (lv_at hl 2 rfl) ?_
                refine lv_bipush (v := (6 : Int32)) hx hb dL_build_202 (by decide) ?_
                refine lv_ishr hx hb dL_build_204 ?_
                refine lv_bipush (v := (31 : Int32)) hx hb dL_build_205 (by decide) ?_
                refine lv_iand hx hb dL_build_207 ?_
                refine lv_iadd hx hb dL_build_208 ?_
                obtain ⟨⟨r57, w58⟩, hk56, hF⟩ := am_bind hF
                have hF := am_u2 hF
                refine am_callW X hh (vx_runSX (As := [.ref (gAd G 0), .int (5 : Int32), .int ((r52 &&& (7 : Int32)) - (r52 &&& (7 : Int32)) / c48 * c48), .int ((1 : Int32) + ((r52 >>> ((6 : Int32) &&& 31)) &&& (31 : Int32)))]) (rest := []) X.1 (c_L_act l G hst hk56) (vx_cwSW 4 hts gL_build_L_act rfl rfl rfl (by decide +kernel) ⟨Nat.le_of_ble_eq_true rfl, Nat.le_of_ble_eq_true rfl⟩) (am_preS X hh) rfl rfl hl.1 rfl (lv_room (Nat.le_of_ble_eq_true rfl)) dL_build_209 ⟨by show (204 + 39 * j) + 3 ≤ 750; omega, by show (3296 + 234 * j) + 18 ≤ 6572; omega⟩) (fun ab H locs hh => ?_)
                refine lv_pop hx hb dL_build_212 rfl ?_
                have hsg213 : ∀ (c61 : Int32) (c62 : Int32) (w60 : Wd) (ab : Nat) (H : Heap) (locs : List Loc) (ls : Array Slot) (z : Wd), s_L_build_213 c62 r52 w60 = some z → AH G s.heap w60 ab H locs → lv_has ls 8 [(7, .int c61), (6, .int c62), (5, .int r52), (4, .int y47), (3, .int c48), (2, .int r1), (1, .ref (gAd G 0)), (0, .ref b)] → (∀ (ab : Nat) (H : Heap) (locs : List Loc) (ls : Array Slot), AH G s.heap z ab H locs → lv_has ls 8 [(7, .int c61), (6, .int c62), (5, .int r52), (4, .int y47), (3, .int c48), (2, .int r1), (1, .ref (gAd G 0)), (0, .ref b)] → W p l e ({ frames := 11, cells := 750, slots := 6572, locals := 216 } : Room) s m args below meth c H locs (((204 + 39 * j) + 3) + 6) (((3296 + 234 * j) + 18) + 36) (MQ below (bdQ G w1) args s 750 6572 (gA G)) (F0 m 241 ls [])) → W p l e ({ frames := 11, cells := 750, slots := 6572, locals := 216 } : Room) s m args below meth c H locs ((204 + 39 * j) + 3) ((3296 + 234 * j) + 18) (MQ below (bdQ G w1) args s 750 6572 (gA G)) (F0 m 213 ls []) := by
                  intro c61 c62 w60 ab H locs ls z hF hh hl kE
                  unfold s_L_build_213 at hF
                  refine lv_aload_n hx hb dL_build_213 rfl (lv_at hl 6 rfl) ?_
                  refine lv_iload hx hb dL_build_214 (lv_at hl 1 rfl) ?_
                  obtain ⟨⟨r64, w65⟩, hk63, hF⟩ := am_bind hF
                  have hF := am_u2 hF
                  refine am_call X hh (va_runS (As := [.ref (gAd G 0), .int c62]) (rest := []) X.1 (c_L_has l G hst hk63) (va_cwS 2 hts gL_build_L_has rfl rfl rfl (by decide +kernel) ⟨Nat.le_of_ble_eq_true rfl, Nat.le_of_ble_eq_true rfl⟩) (am_preS X hh) rfl rfl hl.1 rfl (lv_room (Nat.le_of_ble_eq_true rfl)) dL_build_216 ⟨by show ((204 + 39 * j) + 3) + 3 ≤ 750; omega, by show ((3296 + 234 * j) + 18) + 18 ≤ 6572; omega⟩) (fun ab H locs hh => ?_)
                  refine lv_if_eq (tgt := 241) hx hb dL_build_219 (by decide) (fun hc67 => ?_) (fun hc67 => ?_)
                  · have hF := am_pos hc67 hF
                    cases hF
                    exact W.widen (by omega) (by omega) (kE ab H locs ls hh (lv_sub hl [0, 1, 2, 3, 4, 5, 6, 7] rfl))
                  · have hF := am_neg hc67 hF
                    refine lv_aload_n hx hb dL_build_222 rfl (lv_at hl 6 rfl) ?_
                    refine lv_bipush (v := (7 : Int32)) hx hb dL_build_223 (by decide) ?_
                    refine lv_iload hx hb dL_build_225 (lv_at hl 1 rfl) ?_
                    refine lv_iconst (v := (1 : Int32)) hx hb dL_build_227 (by decide) ?_
                    refine lv_iload hx hb dL_build_228 (lv_at hl 2 rfl) ?_
                    refine lv_bipush (v := (11 : Int32)) hx hb dL_build_230 (by decide) ?_
                    refine lv_ishr hx hb dL_build_232 ?_
                    refine lv_bipush (v := (7 : Int32)) hx hb dL_build_233 (by decide) ?_
                    refine lv_iand hx hb dL_build_235 ?_
                    refine lv_iadd hx hb dL_build_236 ?_
                    obtain ⟨⟨r69, w70⟩, hk68, hF⟩ := am_bind hF
                    have hF := am_u2 hF
                    refine am_callW X hh (vx_runSX (As := [.ref (gAd G 0), .int (7 : Int32), .int c62, .int ((1 : Int32) + ((r52 >>> ((11 : Int32) &&& 31)) &&& (7 : Int32)))]) (rest := []) X.1 (c_L_act l G hst hk68) (vx_cwSW 4 hts gL_build_L_act rfl rfl rfl (by decide +kernel) ⟨Nat.le_of_ble_eq_true rfl, Nat.le_of_ble_eq_true rfl⟩) (am_preS X hh) rfl rfl hl.1 rfl (lv_room (Nat.le_of_ble_eq_true rfl)) dL_build_237 ⟨by show (((204 + 39 * j) + 3) + 3) + 3 ≤ 750; omega, by show (((3296 + 234 * j) + 18) + 18) + 18 ≤ 6572; omega⟩) (fun ab H locs hh => ?_)
                    refine lv_pop hx hb dL_build_240 rfl ?_
                    cases hF
                    exact W.widen (by omega) (by omega) (kE ab H locs ls hh (lv_sub hl [0, 1, 2, 3, 4, 5, 6, 7] rfl))
                obtain ⟨w72, hz73, hF⟩ := am_bind hF
                refine hsg213 (((r52 >>> ((3 : Int32) &&& 31)) &&& (7 : Int32)) - ((r52 >>> ((3 : Int32) &&& 31)) &&& (7 : Int32)) / c48 * c48) ((r52 &&& (7 : Int32)) - (r52 &&& (7 : Int32)) / c48 * c48) w58 ab H locs ls w72 hz73 hh hl (fun ab H locs ls hh hl => ?_)
                have hsg241 : ∀ (c75 : Int32) (c76 : Int32) (w74 : Wd) (ab : Nat) (H : Heap) (locs : List Loc) (ls : Array Slot) (z : Wd), s_L_build_241 r52 c76 w74 = some z → AH G s.heap w74 ab H locs → lv_has ls 8 [(7, .int c75), (6, .int c76), (5, .int r52), (4, .int y47), (3, .int c48), (2, .int r1), (1, .ref (gAd G 0)), (0, .ref b)] → (∀ (ab : Nat) (H : Heap) (locs : List Loc) (ls : Array Slot), AH G s.heap z ab H locs → lv_has ls 8 [(7, .int c75), (6, .int c76), (5, .int r52), (4, .int y47), (3, .int c48), (2, .int r1), (1, .ref (gAd G 0)), (0, .ref b)] → W p l e ({ frames := 11, cells := 750, slots := 6572, locals := 216 } : Room) s m args below meth c H locs ((((204 + 39 * j) + 3) + 6) + 3) ((((3296 + 234 * j) + 18) + 36) + 18) (MQ below (bdQ G w1) args s 750 6572 (gA G)) (F0 m 270 ls [])) → W p l e ({ frames := 11, cells := 750, slots := 6572, locals := 216 } : Room) s m args below meth c H locs (((204 + 39 * j) + 3) + 6) (((3296 + 234 * j) + 18) + 36) (MQ below (bdQ G w1) args s 750 6572 (gA G)) (F0 m 241 ls []) := by
                  intro c75 c76 w74 ab H locs ls z hF hh hl kE
                  unfold s_L_build_241 at hF
                  refine lv_iload hx hb dL_build_241 (lv_at hl 2 rfl) ?_
                  refine lv_bipush (v := (14 : Int32)) hx hb dL_build_243 (by decide) ?_
                  refine lv_ishr hx hb dL_build_245 ?_
                  refine lv_iconst (v := (3 : Int32)) hx hb dL_build_246 (by decide) ?_
                  refine lv_iand hx hb dL_build_247 ?_
                  refine lv_if_ne (tgt := 270) hx hb dL_build_248 (by decide) (fun hc77 => ?_) (fun hc77 => ?_)
                  · have hF := am_neg hc77 hF
                    cases hF
                    exact W.widen (by omega) (by omega) (kE ab H locs ls hh (lv_sub hl [0, 1, 2, 3, 4, 5, 6, 7] rfl))
                  · have hF := am_pos hc77 hF
                    refine lv_aload_n hx hb dL_build_251 rfl (lv_at hl 6 rfl) ?_
                    refine lv_iconst (v := (4 : Int32)) hx hb dL_build_252 (by decide) ?_
                    refine lv_iload hx hb dL_build_253 (lv_at hl 1 rfl) ?_
                    refine lv_bipush (v := (20 : Int32)) hx hb dL_build_255 (by decide) ?_
                    refine lv_iload hx hb dL_build_257 (lv_at hl 2 rfl) ?_
                    refine lv_bipush (v := (16 : Int32)) hx hb dL_build_259 (by decide) ?_
                    refine lv_ishr hx hb dL_build_261 ?_
                    refine lv_bipush (v := (63 : Int32)) hx hb dL_build_262 (by decide) ?_
                    refine lv_iand hx hb dL_build_264 ?_
                    refine lv_iadd hx hb dL_build_265 ?_
                    obtain ⟨⟨r79, w80⟩, hk78, hF⟩ := am_bind hF
                    have hF := am_u2 hF
                    refine am_callW X hh (vx_runSX (As := [.ref (gAd G 0), .int (4 : Int32), .int c76, .int ((20 : Int32) + ((r52 >>> ((16 : Int32) &&& 31)) &&& (63 : Int32)))]) (rest := []) X.1 (c_L_act l G hst hk78) (vx_cwSW 4 hts gL_build_L_act rfl rfl rfl (by decide +kernel) ⟨Nat.le_of_ble_eq_true rfl, Nat.le_of_ble_eq_true rfl⟩) (am_preS X hh) rfl rfl hl.1 rfl (lv_room (Nat.le_of_ble_eq_true rfl)) dL_build_266 ⟨by show (((204 + 39 * j) + 3) + 6) + 3 ≤ 750; omega, by show (((3296 + 234 * j) + 18) + 36) + 18 ≤ 6572; omega⟩) (fun ab H locs hh => ?_)
                    refine lv_pop hx hb dL_build_269 rfl ?_
                    cases hF
                    exact W.widen (by omega) (by omega) (kE ab H locs ls hh (lv_sub hl [0, 1, 2, 3, 4, 5, 6, 7] rfl))
                obtain ⟨w82, hz83, hF⟩ := am_bind hF
                refine hsg241 (((r52 >>> ((3 : Int32) &&& 31)) &&& (7 : Int32)) - ((r52 >>> ((3 : Int32) &&& 31)) &&& (7 : Int32)) / c48 * c48) ((r52 &&& (7 : Int32)) - (r52 &&& (7 : Int32)) / c48 * c48) w72 ab H locs ls w82 hz83 hh hl (fun ab H locs ls hh hl => ?_)
                have hsg270 : ∀ (c85 : Int32) (c86 : Int32) (w84 : Wd) (ab : Nat) (H : Heap) (locs : List Loc) (ls : Array Slot) (z : Wd), s_L_build_270 r52 c85 w84 = some z → AH G s.heap w84 ab H locs → lv_has ls 8 [(7, .int c85), (6, .int c86), (5, .int r52), (4, .int y47), (3, .int c48), (2, .int r1), (1, .ref (gAd G 0)), (0, .ref b)] → (∀ (ab : Nat) (H : Heap) (locs : List Loc) (ls : Array Slot), AH G s.heap z ab H locs → lv_has ls 8 [(7, .int c85), (6, .int c86), (5, .int r52), (4, .int y47), (3, .int c48), (2, .int r1), (1, .ref (gAd G 0)), (0, .ref b)] → W p l e ({ frames := 11, cells := 750, slots := 6572, locals := 216 } : Room) s m args below meth c H locs (((((204 + 39 * j) + 3) + 6) + 3) + 3) (((((3296 + 234 * j) + 18) + 36) + 18) + 18) (MQ below (bdQ G w1) args s 750 6572 (gA G)) (F0 m 291 ls [])) → W p l e ({ frames := 11, cells := 750, slots := 6572, locals := 216 } : Room) s m args below meth c H locs ((((204 + 39 * j) + 3) + 6) + 3) ((((3296 + 234 * j) + 18) + 36) + 18) (MQ below (bdQ G w1) args s 750 6572 (gA G)) (F0 m 270 ls []) := by
                  intro c85 c86 w84 ab H locs ls z hF hh hl kE
                  unfold s_L_build_270 at hF
                  refine lv_iload hx hb dL_build_270 (lv_at hl 2 rfl) ?_
                  refine lv_bipush (v := (14 : Int32)) hx hb dL_build_272 (by decide) ?_
                  refine lv_ishr hx hb dL_build_274 ?_
                  refine lv_iconst (v := (3 : Int32)) hx hb dL_build_275 (by decide) ?_
                  refine lv_iand hx hb dL_build_276 ?_
                  refine lv_iconst (v := (1 : Int32)) hx hb dL_build_277 (by decide) ?_
                  refine lv_icmp_ne (tgt := 291) hx hb dL_build_278 (by decide) (fun hc87 => ?_) (fun hc87 => ?_)
                  · have hF := am_neg hc87 hF
                    cases hF
                    exact W.widen (by omega) (by omega) (kE ab H locs ls hh (lv_sub hl [0, 1, 2, 3, 4, 5, 6, 7] rfl))
                  · have hF := am_pos hc87 hF
                    refine lv_aload_n hx hb dL_build_281 rfl (lv_at hl 6 rfl) ?_
                    refine lv_bipush (v := (8 : Int32)) hx hb dL_build_282 (by decide) ?_
                    refine lv_iload hx hb dL_build_284 (lv_at hl 0 rfl) ?_
                    refine lv_iconst (v := (0 : Int32)) hx hb dL_build_286 (by decide) ?_
                    obtain ⟨⟨r89, w90⟩, hk88, hF⟩ := am_bind hF
                    have hF := am_u2 hF
                    refine am_callW X hh (vx_runSX (As := [.ref (gAd G 0), .int (8 : Int32), .int c85, .int (0 : Int32)]) (rest := []) X.1 (c_L_act l G hst hk88) (vx_cwSW 4 hts gL_build_L_act rfl rfl rfl (by decide +kernel) ⟨Nat.le_of_ble_eq_true rfl, Nat.le_of_ble_eq_true rfl⟩) (am_preS X hh) rfl rfl hl.1 rfl (lv_room (Nat.le_of_ble_eq_true rfl)) dL_build_287 ⟨by show ((((204 + 39 * j) + 3) + 6) + 3) + 3 ≤ 750; omega, by show ((((3296 + 234 * j) + 18) + 36) + 18) + 18 ≤ 6572; omega⟩) (fun ab H locs hh => ?_)
                    refine lv_pop hx hb dL_build_290 rfl ?_
                    cases hF
                    exact W.widen (by omega) (by omega) (kE ab H locs ls hh (lv_sub hl [0, 1, 2, 3, 4, 5, 6, 7] rfl))
                obtain ⟨w92, hz93, hF⟩ := am_bind hF
                refine hsg270 (((r52 >>> ((3 : Int32) &&& 31)) &&& (7 : Int32)) - ((r52 >>> ((3 : Int32) &&& 31)) &&& (7 : Int32)) / c48 * c48) ((r52 &&& (7 : Int32)) - (r52 &&& (7 : Int32)) / c48 * c48) w82 ab H locs ls w92 hz93 hh hl (fun ab H locs ls hh hl => ?_)
                have hsg291 : ∀ (c95 : Int32) (c96 : Int32) (w94 : Wd) (ab : Nat) (H : Heap) (locs : List Loc) (ls : Array Slot) (z : Wd), s_L_build_291 r52 c96 c95 w94 = some z → AH G s.heap w94 ab H locs → lv_has ls 8 [(7, .int c95), (6, .int c96), (5, .int r52), (4, .int y47), (3, .int c48), (2, .int r1), (1, .ref (gAd G 0)), (0, .ref b)] → (∀ (ab : Nat) (H : Heap) (locs : List Loc) (ls : Array Slot), AH G s.heap z ab H locs → lv_has ls 8 [(7, .int c95), (6, .int c96), (5, .int r52), (4, .int y47), (3, .int c48), (2, .int r1), (1, .ref (gAd G 0)), (0, .ref b)] → W p l e ({ frames := 11, cells := 750, slots := 6572, locals := 216 } : Room) s m args below meth c H locs ((((((204 + 39 * j) + 3) + 6) + 3) + 3) + 3) ((((((3296 + 234 * j) + 18) + 36) + 18) + 18) + 18) (MQ below (bdQ G w1) args s 750 6572 (gA G)) (F0 m 313 ls [])) → W p l e ({ frames := 11, cells := 750, slots := 6572, locals := 216 } : Room) s m args below meth c H locs (((((204 + 39 * j) + 3) + 6) + 3) + 3) (((((3296 + 234 * j) + 18) + 36) + 18) + 18) (MQ below (bdQ G w1) args s 750 6572 (gA G)) (F0 m 291 ls []) := by
                  intro c95 c96 w94 ab H locs ls z hF hh hl kE
                  unfold s_L_build_291 at hF
                  refine lv_iload hx hb dL_build_291 (lv_at hl 2 rfl) ?_
                  refine lv_bipush (v := (14 : Int32)) hx hb dL_build_293 (by decide) ?_
                  refine lv_ishr hx hb dL_build_295 ?_
                  refine lv_bipush (v := (7 : Int32)) hx hb dL_build_296 (by decide) ?_
                  refine lv_iand hx hb dL_build_298 ?_
                  refine lv_iconst (v := (2 : Int32)) hx hb dL_build_299 (by decide) ?_
                  refine lv_icmp_ne (tgt := 313) hx hb dL_build_300 (by decide) (fun hc97 => ?_) (fun hc97 => ?_)
                  · have hF := am_neg hc97 hF
                    cases hF
                    exact W.widen (by omega) (by omega) (kE ab H locs ls hh (lv_sub hl [0, 1, 2, 3, 4, 5, 6, 7] rfl))
                  · have hF := am_pos hc97 hF
                    refine lv_aload_n hx hb dL_build_303 rfl (lv_at hl 6 rfl) ?_
                    refine lv_iconst (v := (3 : Int32)) hx hb dL_build_304 (by decide) ?_
                    refine lv_iload hx hb dL_build_305 (lv_at hl 1 rfl) ?_
                    refine lv_iload hx hb dL_build_307 (lv_at hl 0 rfl) ?_
                    obtain ⟨⟨r99, w100⟩, hk98, hF⟩ := am_bind hF
                    have hF := am_u2 hF
                    refine am_callW X hh (vx_runSX (As := [.ref (gAd G 0), .int (3 : Int32), .int c96, .int c95]) (rest := []) X.1 (c_L_act l G hst hk98) (vx_cwSW 4 hts gL_build_L_act rfl rfl rfl (by decide +kernel) ⟨Nat.le_of_ble_eq_true rfl, Nat.le_of_ble_eq_true rfl⟩) (am_preS X hh) rfl rfl hl.1 rfl (lv_room (Nat.le_of_ble_eq_true rfl)) dL_build_309 ⟨by show (((((204 + 39 * j) + 3) + 6) + 3) + 3) + 3 ≤ 750; omega, by show (((((3296 + 234 * j) + 18) + 36) + 18) + 18) + 18 ≤ 6572; omega⟩) (fun ab H locs hh => ?_)
                    refine lv_pop hx hb dL_build_312 rfl ?_
                    cases hF
                    exact W.widen (by omega) (by omega) (kE ab H locs ls hh (lv_sub hl [0, 1, 2, 3, 4, 5, 6, 7] rfl))
                obtain ⟨w102, hz103, hF⟩ := am_bind hF
                refine hsg291 (((r52 >>> ((3 : Int32) &&& 31)) &&& (7 : Int32)) - ((r52 >>> ((3 : Int32) &&& 31)) &&& (7 : Int32)) / c48 * c48) ((r52 &&& (7 : Int32)) - (r52 &&& (7 : Int32)) / c48 * c48) w92 ab H locs ls w102 hz103 hh hl (fun ab H locs ls hh hl => ?_)
                have hsg313 : ∀ (c105 : Int32) (c106 : Int32) (w104 : Wd) (ab : Nat) (H : Heap) (locs : List Loc) (ls : Array Slot) (z : Wd), s_L_build_313 r52 c106 c105 w104 = some z → AH G s.heap w104 ab H locs → lv_has ls 8 [(7, .int c105), (6, .int c106), (5, .int r52), (4, .int y47), (3, .int c48), (2, .int r1), (1, .ref (gAd G 0)), (0, .ref b)] → (∀ (ab : Nat) (H : Heap) (locs : List Loc) (ls : Array Slot), AH G s.heap z ab H locs → lv_has ls 8 [(7, .int c105), (6, .int c106), (5, .int r52), (4, .int y47), (3, .int c48), (2, .int r1), (1, .ref (gAd G 0)), (0, .ref b)] → W p l e ({ frames := 11, cells := 750, slots := 6572, locals := 216 } : Room) s m args below meth c H locs (((((((204 + 39 * j) + 3) + 6) + 3) + 3) + 3) + 3) (((((((3296 + 234 * j) + 18) + 36) + 18) + 18) + 18) + 18) (MQ below (bdQ G w1) args s 750 6572 (gA G)) (F0 m 344 ls [])) → W p l e ({ frames := 11, cells := 750, slots := 6572, locals := 216 } : Room) s m args below meth c H locs ((((((204 + 39 * j) + 3) + 6) + 3) + 3) + 3) ((((((3296 + 234 * j) + 18) + 36) + 18) + 18) + 18) (MQ below (bdQ G w1) args s 750 6572 (gA G)) (F0 m 313 ls []) := by
                  intro c105 c106 w104 ab H locs ls z hF hh hl kE
                  unfold s_L_build_313 at hF
                  refine lv_iload hx hb dL_build_313 (lv_at hl 2 rfl) ?_
                  refine lv_bipush (v := (14 : Int32)) hx hb dL_build_315 (by decide) ?_
                  refine lv_ishr hx hb dL_build_317 ?_
                  refine lv_bipush (v := (7 : Int32)) hx hb dL_build_318 (by decide) ?_
                  refine lv_iand hx hb dL_build_320 ?_
                  refine lv_bipush (v := (6 : Int32)) hx hb dL_build_321 (by decide) ?_
                  refine lv_icmp_ne (tgt := 344) hx hb dL_build_323 (by decide) (fun hc107 => ?_) (fun hc107 => ?_)
                  · have hF := am_neg hc107 hF
                    cases hF
                    exact W.widen (by omega) (by omega) (kE ab H locs ls hh (lv_sub hl [0, 1, 2, 3, 4, 5, 6, 7] rfl))
                  · have hF := am_pos hc107 hF
                    refine lv_aload_n hx hb dL_build_326 rfl (lv_at hl 6 rfl) ?_
                    refine lv_iload hx hb dL_build_327 (lv_at hl 2 rfl) ?_
                    refine lv_bipush (v := (17 : Int32)) hx hb dL_build_329 (by decide) ?_
                    refine lv_ishr hx hb dL_build_331 ?_
                    refine lv_iconst (v := (1 : Int32)) hx hb dL_build_332 (by decide) ?_
                    refine lv_iand hx hb dL_build_333 ?_
                    refine lv_iconst (v := (1 : Int32)) hx hb dL_build_334 (by decide) ?_
                    refine lv_iadd hx hb dL_build_335 ?_
                    refine lv_iload hx hb dL_build_336 (lv_at hl 1 rfl) ?_
                    refine lv_iload hx hb dL_build_338 (lv_at hl 0 rfl) ?_
                    obtain ⟨⟨r109, w110⟩, hk108, hF⟩ := am_bind hF
                    have hF := am_u2 hF
                    refine am_callW X hh (vx_runSX (As := [.ref (gAd G 0), .int (((r52 >>> ((17 : Int32) &&& 31)) &&& (1 : Int32)) + (1 : Int32)), .int c106, .int c105]) (rest := []) X.1 (c_L_act l G hst hk108) (vx_cwSW 4 hts gL_build_L_act rfl rfl rfl (by decide +kernel) ⟨Nat.le_of_ble_eq_true rfl, Nat.le_of_ble_eq_true rfl⟩) (am_preS X hh) rfl rfl hl.1 rfl (lv_room (Nat.le_of_ble_eq_true rfl)) dL_build_340 ⟨by show ((((((204 + 39 * j) + 3) + 6) + 3) + 3) + 3) + 3 ≤ 750; omega, by show ((((((3296 + 234 * j) + 18) + 36) + 18) + 18) + 18) + 18 ≤ 6572; omega⟩) (fun ab H locs hh => ?_)
                    refine lv_pop hx hb dL_build_343 rfl ?_
                    cases hF
                    exact W.widen (by omega) (by omega) (kE ab H locs ls hh (lv_sub hl [0, 1, 2, 3, 4, 5, 6, 7] rfl))
                obtain ⟨w112, hz113, hF⟩ := am_bind hF
                refine hsg313 (((r52 >>> ((3 : Int32) &&& 31)) &&& (7 : Int32)) - ((r52 >>> ((3 : Int32) &&& 31)) &&& (7 : Int32)) / c48 * c48) ((r52 &&& (7 : Int32)) - (r52 &&& (7 : Int32)) / c48 * c48) w102 ab H locs ls w112 hz113 hh hl (fun ab H locs ls hh hl => ?_)
                have hsg344 : ∀ (c115 : Int32) (c116 : Int32) (w114 : Wd) (ab : Nat) (H : Heap) (locs : List Loc) (ls : Array Slot) (z : Wd), s_L_build_344 r52 c116 w114 = some z → AH G s.heap w114 ab H locs → lv_has ls 8 [(7, .int c115), (6, .int c116), (5, .int r52), (4, .int y47), (3, .int c48), (2, .int r1), (1, .ref (gAd G 0)), (0, .ref b)] → (∀ (ab : Nat) (H : Heap) (locs : List Loc) (ls : Array Slot), AH G s.heap z ab H locs → lv_has ls 8 [(7, .int c115), (6, .int c116), (5, .int r52), (4, .int y47), (3, .int c48), (2, .int r1), (1, .ref (gAd G 0)), (0, .ref b)] → W p l e ({ frames := 11, cells := 750, slots := 6572, locals := 216 } : Room) s m args below meth c H locs ((((((((204 + 39 * j) + 3) + 6) + 3) + 3) + 3) + 3) + 3) ((((((((3296 + 234 * j) + 18) + 36) + 18) + 18) + 18) + 18) + 18) (MQ below (bdQ G w1) args s 750 6572 (gA G)) (F0 m 366 ls [])) → W p l e ({ frames := 11, cells := 750, slots := 6572, locals := 216 } : Room) s m args below meth c H locs (((((((204 + 39 * j) + 3) + 6) + 3) + 3) + 3) + 3) (((((((3296 + 234 * j) + 18) + 36) + 18) + 18) + 18) + 18) (MQ below (bdQ G w1) args s 750 6572 (gA G)) (F0 m 344 ls []) := by
                  intro c115 c116 w114 ab H locs ls z hF hh hl kE
                  unfold s_L_build_344 at hF
                  refine lv_iload hx hb dL_build_344 (lv_at hl 2 rfl) ?_
                  refine lv_bipush (v := (14 : Int32)) hx hb dL_build_346 (by decide) ?_
                  refine lv_ishr hx hb dL_build_348 ?_
                  refine lv_bipush (v := (7 : Int32)) hx hb dL_build_349 (by decide) ?_
                  refine lv_iand hx hb dL_build_351 ?_
                  refine lv_iconst (v := (3 : Int32)) hx hb dL_build_352 (by decide) ?_
                  refine lv_icmp_ne (tgt := 366) hx hb dL_build_353 (by decide) (fun hc117 => ?_) (fun hc117 => ?_)
                  · have hF := am_neg hc117 hF
                    cases hF
                    exact W.widen (by omega) (by omega) (kE ab H locs ls hh (lv_sub hl [0, 1, 2, 3, 4, 5, 6, 7] rfl))
                  · have hF := am_pos hc117 hF
                    refine lv_aload_n hx hb dL_build_356 rfl (lv_at hl 6 rfl) ?_
                    refine lv_bipush (v := (6 : Int32)) hx hb dL_build_357 (by decide) ?_
                    refine lv_iload hx hb dL_build_359 (lv_at hl 1 rfl) ?_
                    refine lv_iconst (v := (0 : Int32)) hx hb dL_build_361 (by decide) ?_
                    obtain ⟨⟨r119, w120⟩, hk118, hF⟩ := am_bind hF
                    have hF := am_u2 hF
                    refine am_callW X hh (vx_runSX (As := [.ref (gAd G 0), .int (6 : Int32), .int c116, .int (0 : Int32)]) (rest := []) X.1 (c_L_act l G hst hk118) (vx_cwSW 4 hts gL_build_L_act rfl rfl rfl (by decide +kernel) ⟨Nat.le_of_ble_eq_true rfl, Nat.le_of_ble_eq_true rfl⟩) (am_preS X hh) rfl rfl hl.1 rfl (lv_room (Nat.le_of_ble_eq_true rfl)) dL_build_362 ⟨by show (((((((204 + 39 * j) + 3) + 6) + 3) + 3) + 3) + 3) + 3 ≤ 750; omega, by show (((((((3296 + 234 * j) + 18) + 36) + 18) + 18) + 18) + 18) + 18 ≤ 6572; omega⟩) (fun ab H locs hh => ?_)
                    refine lv_pop hx hb dL_build_365 rfl ?_
                    cases hF
                    exact W.widen (by omega) (by omega) (kE ab H locs ls hh (lv_sub hl [0, 1, 2, 3, 4, 5, 6, 7] rfl))
                obtain ⟨w122, hz123, hF⟩ := am_bind hF
                refine hsg344 (((r52 >>> ((3 : Int32) &&& 31)) &&& (7 : Int32)) - ((r52 >>> ((3 : Int32) &&& 31)) &&& (7 : Int32)) / c48 * c48) ((r52 &&& (7 : Int32)) - (r52 &&& (7 : Int32)) / c48 * c48) w112 ab H locs ls w122 hz123 hh hl (fun ab H locs ls hh hl => ?_)
                have hsg366 : ∀ (c125 : Int32) (c126 : Int32) (w124 : Wd) (ab : Nat) (H : Heap) (locs : List Loc) (ls : Array Slot) (z : Wd), s_L_build_366 r52 c125 w124 = some z → AH G s.heap w124 ab H locs → lv_has ls 8 [(7, .int c125), (6, .int c126), (5, .int r52), (4, .int y47), (3, .int c48), (2, .int r1), (1, .ref (gAd G 0)), (0, .ref b)] → (∀ (ab : Nat) (H : Heap) (locs : List Loc) (ls : Array Slot), AH G s.heap z ab H locs → lv_has ls 8 [(7, .int c125), (6, .int c126), (5, .int r52), (4, .int y47), (3, .int c48), (2, .int r1), (1, .ref (gAd G 0)), (0, .ref b)] → W p l e ({ frames := 11, cells := 750, slots := 6572, locals := 216 } : Room) s m args below meth c H locs (((((((((204 + 39 * j) + 3) + 6) + 3) + 3) + 3) + 3) + 3) + 3) (((((((((3296 + 234 * j) + 18) + 36) + 18) + 18) + 18) + 18) + 18) + 18) (MQ below (bdQ G w1) args s 750 6572 (gA G)) (F0 m 387 ls [])) → W p l e ({ frames := 11, cells := 750, slots := 6572, locals := 216 } : Room) s m args below meth c H locs ((((((((204 + 39 * j) + 3) + 6) + 3) + 3) + 3) + 3) + 3) ((((((((3296 + 234 * j) + 18) + 36) + 18) + 18) + 18) + 18) + 18) (MQ below (bdQ G w1) args s 750 6572 (gA G)) (F0 m 366 ls []) := by
                  intro c125 c126 w124 ab H locs ls z hF hh hl kE
                  unfold s_L_build_366 at hF
                  refine lv_iload hx hb dL_build_366 (lv_at hl 2 rfl) ?_
                  refine lv_bipush (v := (18 : Int32)) hx hb dL_build_368 (by decide) ?_
                  refine lv_ishr hx hb dL_build_370 ?_
                  refine lv_bipush (v := (7 : Int32)) hx hb dL_build_371 (by decide) ?_
                  refine lv_iand hx hb dL_build_373 ?_
                  refine lv_if_ne (tgt := 387) hx hb dL_build_374 (by decide) (fun hc127 => ?_) (fun hc127 => ?_)
                  · have hF := am_neg hc127 hF
                    cases hF
                    exact W.widen (by omega) (by omega) (kE ab H locs ls hh (lv_sub hl [0, 1, 2, 3, 4, 5, 6, 7] rfl))
                  · have hF := am_pos hc127 hF
                    refine lv_aload_n hx hb dL_build_377 rfl (lv_at hl 6 rfl) ?_
                    refine lv_bipush (v := (9 : Int32)) hx hb dL_build_378 (by decide) ?_
                    refine lv_iload hx hb dL_build_380 (lv_at hl 0 rfl) ?_
                    refine lv_iconst (v := (1 : Int32)) hx hb dL_build_382 (by decide) ?_
                    obtain ⟨⟨r129, w130⟩, hk128, hF⟩ := am_bind hF
                    have hF := am_u2 hF
                    refine am_callW X hh (vx_runSX (As := [.ref (gAd G 0), .int (9 : Int32), .int c125, .int (1 : Int32)]) (rest := []) X.1 (c_L_act l G hst hk128) (vx_cwSW 4 hts gL_build_L_act rfl rfl rfl (by decide +kernel) ⟨Nat.le_of_ble_eq_true rfl, Nat.le_of_ble_eq_true rfl⟩) (am_preS X hh) rfl rfl hl.1 rfl (lv_room (Nat.le_of_ble_eq_true rfl)) dL_build_383 ⟨by show ((((((((204 + 39 * j) + 3) + 6) + 3) + 3) + 3) + 3) + 3) + 3 ≤ 750; omega, by show ((((((((3296 + 234 * j) + 18) + 36) + 18) + 18) + 18) + 18) + 18) + 18 ≤ 6572; omega⟩) (fun ab H locs hh => ?_)
                    refine lv_pop hx hb dL_build_386 rfl ?_
                    cases hF
                    exact W.widen (by omega) (by omega) (kE ab H locs ls hh (lv_sub hl [0, 1, 2, 3, 4, 5, 6, 7] rfl))
                obtain ⟨w132, hz133, hF⟩ := am_bind hF
                refine hsg366 (((r52 >>> ((3 : Int32) &&& 31)) &&& (7 : Int32)) - ((r52 >>> ((3 : Int32) &&& 31)) &&& (7 : Int32)) / c48 * c48) ((r52 &&& (7 : Int32)) - (r52 &&& (7 : Int32)) / c48 * c48) w122 ab H locs ls w132 hz133 hh hl (fun ab H locs ls hh hl => ?_)
                have hsg387 : ∀ (c135 : Int32) (c136 : Int32) (w134 : Wd) (ab : Nat) (H : Heap) (locs : List Loc) (ls : Array Slot) (z : Wd), s_L_build_387 r52 c135 w134 = some z → AH G s.heap w134 ab H locs → lv_has ls 8 [(7, .int c135), (6, .int c136), (5, .int r52), (4, .int y47), (3, .int c48), (2, .int r1), (1, .ref (gAd G 0)), (0, .ref b)] → (∀ (ab : Nat) (H : Heap) (locs : List Loc) (ls : Array Slot), AH G s.heap z ab H locs → lv_has ls 8 [(7, .int c135), (6, .int c136), (5, .int r52), (4, .int y47), (3, .int c48), (2, .int r1), (1, .ref (gAd G 0)), (0, .ref b)] → W p l e ({ frames := 11, cells := 750, slots := 6572, locals := 216 } : Room) s m args below meth c H locs ((((((((((204 + 39 * j) + 3) + 6) + 3) + 3) + 3) + 3) + 3) + 3) + 3) ((((((((((3296 + 234 * j) + 18) + 36) + 18) + 18) + 18) + 18) + 18) + 18) + 18) (MQ below (bdQ G w1) args s 750 6572 (gA G)) (F0 m 409 ls [])) → W p l e ({ frames := 11, cells := 750, slots := 6572, locals := 216 } : Room) s m args below meth c H locs (((((((((204 + 39 * j) + 3) + 6) + 3) + 3) + 3) + 3) + 3) + 3) (((((((((3296 + 234 * j) + 18) + 36) + 18) + 18) + 18) + 18) + 18) + 18) (MQ below (bdQ G w1) args s 750 6572 (gA G)) (F0 m 387 ls []) := by
                  intro c135 c136 w134 ab H locs ls z hF hh hl kE
                  unfold s_L_build_387 at hF
                  refine lv_iload hx hb dL_build_387 (lv_at hl 2 rfl) ?_
                  refine lv_bipush (v := (18 : Int32)) hx hb dL_build_389 (by decide) ?_
                  refine lv_ishr hx hb dL_build_391 ?_
                  refine lv_bipush (v := (7 : Int32)) hx hb dL_build_392 (by decide) ?_
                  refine lv_iand hx hb dL_build_394 ?_
                  refine lv_iconst (v := (4 : Int32)) hx hb dL_build_395 (by decide) ?_
                  refine lv_icmp_ne (tgt := 409) hx hb dL_build_396 (by decide) (fun hc137 => ?_) (fun hc137 => ?_)
                  · have hF := am_neg hc137 hF
                    cases hF
                    exact W.widen (by omega) (by omega) (kE ab H locs ls hh (lv_sub hl [0, 1, 2, 3, 4, 5, 6, 7] rfl))
                  · have hF := am_pos hc137 hF
                    refine lv_aload_n hx hb dL_build_399 rfl (lv_at hl 6 rfl) ?_
                    refine lv_bipush (v := (9 : Int32)) hx hb dL_build_400 (by decide) ?_
                    refine lv_iload hx hb dL_build_402 (lv_at hl 0 rfl) ?_
                    refine lv_iconst (v := (0 : Int32)) hx hb dL_build_404 (by decide) ?_
                    obtain ⟨⟨r139, w140⟩, hk138, hF⟩ := am_bind hF
                    have hF := am_u2 hF
                    refine am_callW X hh (vx_runSX (As := [.ref (gAd G 0), .int (9 : Int32), .int c135, .int (0 : Int32)]) (rest := []) X.1 (c_L_act l G hst hk138) (vx_cwSW 4 hts gL_build_L_act rfl rfl rfl (by decide +kernel) ⟨Nat.le_of_ble_eq_true rfl, Nat.le_of_ble_eq_true rfl⟩) (am_preS X hh) rfl rfl hl.1 rfl (lv_room (Nat.le_of_ble_eq_true rfl)) dL_build_405 ⟨by show (((((((((204 + 39 * j) + 3) + 6) + 3) + 3) + 3) + 3) + 3) + 3) + 3 ≤ 750; omega, by show (((((((((3296 + 234 * j) + 18) + 36) + 18) + 18) + 18) + 18) + 18) + 18) + 18 ≤ 6572; omega⟩) (fun ab H locs hh => ?_)
                    refine lv_pop hx hb dL_build_408 rfl ?_
                    cases hF
                    exact W.widen (by omega) (by omega) (kE ab H locs ls hh (lv_sub hl [0, 1, 2, 3, 4, 5, 6, 7] rfl))
                obtain ⟨w142, hz143, hF⟩ := am_bind hF
                refine hsg387 (((r52 >>> ((3 : Int32) &&& 31)) &&& (7 : Int32)) - ((r52 >>> ((3 : Int32) &&& 31)) &&& (7 : Int32)) / c48 * c48) ((r52 &&& (7 : Int32)) - (r52 &&& (7 : Int32)) / c48 * c48) w132 ab H locs ls w142 hz143 hh hl (fun ab H locs ls hh hl => ?_)
                have hsg409 : ∀ (c145 : Int32) (c146 : Int32) (w144 : Wd) (ab : Nat) (H : Heap) (locs : List Loc) (ls : Array Slot) (z : Wd), s_L_build_409 r52 c145 w144 = some z → AH G s.heap w144 ab H locs → lv_has ls 8 [(7, .int c145), (6, .int c146), (5, .int r52), (4, .int y47), (3, .int c48), (2, .int r1), (1, .ref (gAd G 0)), (0, .ref b)] → (∀ (ab : Nat) (H : Heap) (locs : List Loc) (ls : Array Slot), AH G s.heap z ab H locs → lv_has ls 8 [(7, .int c145), (6, .int c146), (5, .int r52), (4, .int y47), (3, .int c48), (2, .int r1), (1, .ref (gAd G 0)), (0, .ref b)] → W p l e ({ frames := 11, cells := 750, slots := 6572, locals := 216 } : Room) s m args below meth c H locs (((((((((((204 + 39 * j) + 3) + 6) + 3) + 3) + 3) + 3) + 3) + 3) + 3) + 3) (((((((((((3296 + 234 * j) + 18) + 36) + 18) + 18) + 18) + 18) + 18) + 18) + 18) + 18) (MQ below (bdQ G w1) args s 750 6572 (gA G)) (F0 m 431 ls [])) → W p l e ({ frames := 11, cells := 750, slots := 6572, locals := 216 } : Room) s m args below meth c H locs ((((((((((204 + 39 * j) + 3) + 6) + 3) + 3) + 3) + 3) + 3) + 3) + 3) ((((((((((3296 + 234 * j) + 18) + 36) + 18) + 18) + 18) + 18) + 18) + 18) + 18) (MQ below (bdQ G w1) args s 750 6572 (gA G)) (F0 m 409 ls []) := by
                  intro c145 c146 w144 ab H locs ls z hF hh hl kE
                  unfold s_L_build_409 at hF
                  refine lv_iload hx hb dL_build_409 (lv_at hl 2 rfl) ?_
                  refine lv_bipush (v := (18 : Int32)) hx hb dL_build_411 (by decide) ?_
                  refine lv_ishr hx hb dL_build_413 ?_
                  refine lv_bipush (v := (7 : Int32)) hx hb dL_build_414 (by decide) ?_
                  refine lv_iand hx hb dL_build_416 ?_
                  refine lv_iconst (v := (1 : Int32)) hx hb dL_build_417 (by decide) ?_
                  refine lv_icmp_ne (tgt := 431) hx hb dL_build_418 (by decide) (fun hc147 => ?_) (fun hc147 => ?_)
                  · have hF := am_neg hc147 hF
                    cases hF
                    exact W.widen (by omega) (by omega) (kE ab H locs ls hh (lv_sub hl [0, 1, 2, 3, 4, 5, 6, 7] rfl))
                  · have hF := am_pos hc147 hF
                    refine lv_aload_n hx hb dL_build_421 rfl (lv_at hl 6 rfl) ?_
                    refine lv_bipush (v := (10 : Int32)) hx hb dL_build_422 (by decide) ?_
                    refine lv_iload hx hb dL_build_424 (lv_at hl 0 rfl) ?_
                    refine lv_iconst (v := (0 : Int32)) hx hb dL_build_426 (by decide) ?_
                    obtain ⟨⟨r149, w150⟩, hk148, hF⟩ := am_bind hF
                    have hF := am_u2 hF
                    refine am_callW X hh (vx_runSX (As := [.ref (gAd G 0), .int (10 : Int32), .int c145, .int (0 : Int32)]) (rest := []) X.1 (c_L_act l G hst hk148) (vx_cwSW 4 hts gL_build_L_act rfl rfl rfl (by decide +kernel) ⟨Nat.le_of_ble_eq_true rfl, Nat.le_of_ble_eq_true rfl⟩) (am_preS X hh) rfl rfl hl.1 rfl (lv_room (Nat.le_of_ble_eq_true rfl)) dL_build_427 ⟨by show ((((((((((204 + 39 * j) + 3) + 6) + 3) + 3) + 3) + 3) + 3) + 3) + 3) + 3 ≤ 750; omega, by show ((((((((((3296 + 234 * j) + 18) + 36) + 18) + 18) + 18) + 18) + 18) + 18) + 18) + 18 ≤ 6572; omega⟩) (fun ab H locs hh => ?_)
                    refine lv_pop hx hb dL_build_430 rfl ?_
                    cases hF
                    exact W.widen (by omega) (by omega) (kE ab H locs ls hh (lv_sub hl [0, 1, 2, 3, 4, 5, 6, 7] rfl))
                obtain ⟨w152, hz153, hF⟩ := am_bind hF
                refine hsg409 (((r52 >>> ((3 : Int32) &&& 31)) &&& (7 : Int32)) - ((r52 >>> ((3 : Int32) &&& 31)) &&& (7 : Int32)) / c48 * c48) ((r52 &&& (7 : Int32)) - (r52 &&& (7 : Int32)) / c48 * c48) w142 ab H locs ls w152 hz153 hh hl (fun ab H locs ls hh hl => ?_)
                have hsg431 : ∀ (c155 : Int32) (c156 : Int32) (w154 : Wd) (ab : Nat) (H : Heap) (locs : List Loc) (ls : Array Slot) (z : Wd), s_L_build_431 r52 w154 = some z → AH G s.heap w154 ab H locs → lv_has ls 8 [(7, .int c155), (6, .int c156), (5, .int r52), (4, .int y47), (3, .int c48), (2, .int r1), (1, .ref (gAd G 0)), (0, .ref b)] → (∀ (ab : Nat) (H : Heap) (locs : List Loc) (ls : Array Slot), AH G s.heap z ab H locs → lv_has ls 8 [(7, .int c155), (6, .int c156), (5, .int r52), (4, .int y47), (3, .int c48), (2, .int r1), (1, .ref (gAd G 0)), (0, .ref b)] → W p l e ({ frames := 11, cells := 750, slots := 6572, locals := 216 } : Room) s m args below meth c H locs ((((((((((((204 + 39 * j) + 3) + 6) + 3) + 3) + 3) + 3) + 3) + 3) + 3) + 3) + 3) ((((((((((((3296 + 234 * j) + 18) + 36) + 18) + 18) + 18) + 18) + 18) + 18) + 18) + 18) + 18) (MQ below (bdQ G w1) args s 750 6572 (gA G)) (F0 m 461 ls [])) → W p l e ({ frames := 11, cells := 750, slots := 6572, locals := 216 } : Room) s m args below meth c H locs (((((((((((204 + 39 * j) + 3) + 6) + 3) + 3) + 3) + 3) + 3) + 3) + 3) + 3) (((((((((((3296 + 234 * j) + 18) + 36) + 18) + 18) + 18) + 18) + 18) + 18) + 18) + 18) (MQ below (bdQ G w1) args s 750 6572 (gA G)) (F0 m 431 ls []) := by
                  intro c155 c156 w154 ab H locs ls z hF hh hl kE
                  unfold s_L_build_431 at hF
                  refine lv_iload hx hb dL_build_431 (lv_at hl 2 rfl) ?_
                  refine lv_bipush (v := (18 : Int32)) hx hb dL_build_433 (by decide) ?_
                  refine lv_ishr hx hb dL_build_435 ?_
                  refine lv_bipush (v := (7 : Int32)) hx hb dL_build_436 (by decide) ?_
                  refine lv_iand hx hb dL_build_438 ?_
                  refine lv_iconst (v := (2 : Int32)) hx hb dL_build_439 (by decide) ?_
                  refine lv_icmp_ne (tgt := 461) hx hb dL_build_440 (by decide) (fun hc157 => ?_) (fun hc157 => ?_)
                  · have hF := am_neg hc157 hF
                    cases hF
                    exact W.widen (by omega) (by omega) (kE ab H locs ls hh (lv_sub hl [0, 1, 2, 3, 4, 5, 6, 7] rfl))
                  · have hF := am_pos hc157 hF
                    refine lv_aload_n hx hb dL_build_443 rfl (lv_at hl 6 rfl) ?_
                    refine lv_bipush (v := (11 : Int32)) hx hb dL_build_444 (by decide) ?_
                    refine lv_iconst (v := (1 : Int32)) hx hb dL_build_446 (by decide) ?_
                    refine lv_iload hx hb dL_build_447 (lv_at hl 2 rfl) ?_
                    refine lv_bipush (v := (21 : Int32)) hx hb dL_build_449 (by decide) ?_
                    refine lv_ishr hx hb dL_build_451 ?_
                    refine lv_bipush (v := (15 : Int32)) hx hb dL_build_452 (by decide) ?_
                    refine lv_iand hx hb dL_build_454 ?_
                    refine lv_iadd hx hb dL_build_455 ?_
                    refine lv_iconst (v := (0 : Int32)) hx hb dL_build_456 (by decide) ?_
                    obtain ⟨⟨r159, w160⟩, hk158, hF⟩ := am_bind hF
                    have hF := am_u2 hF
                    refine am_callW X hh (vx_runSX (As := [.ref (gAd G 0), .int (11 : Int32), .int ((1 : Int32) + ((r52 >>> ((21 : Int32) &&& 31)) &&& (15 : Int32))), .int (0 : Int32)]) (rest := []) X.1 (c_L_act l G hst hk158) (vx_cwSW 4 hts gL_build_L_act rfl rfl rfl (by decide +kernel) ⟨Nat.le_of_ble_eq_true rfl, Nat.le_of_ble_eq_true rfl⟩) (am_preS X hh) rfl rfl hl.1 rfl (lv_room (Nat.le_of_ble_eq_true rfl)) dL_build_457 ⟨by show (((((((((((204 + 39 * j) + 3) + 6) + 3) + 3) + 3) + 3) + 3) + 3) + 3) + 3) + 3 ≤ 750; omega, by show (((((((((((3296 + 234 * j) + 18) + 36) + 18) + 18) + 18) + 18) + 18) + 18) + 18) + 18) + 18 ≤ 6572; omega⟩) (fun ab H locs hh => ?_)
                    refine lv_pop hx hb dL_build_460 rfl ?_
                    cases hF
                    exact W.widen (by omega) (by omega) (kE ab H locs ls hh (lv_sub hl [0, 1, 2, 3, 4, 5, 6, 7] rfl))
                obtain ⟨w162, hz163, hF⟩ := am_bind hF
                refine hsg431 (((r52 >>> ((3 : Int32) &&& 31)) &&& (7 : Int32)) - ((r52 >>> ((3 : Int32) &&& 31)) &&& (7 : Int32)) / c48 * c48) ((r52 &&& (7 : Int32)) - (r52 &&& (7 : Int32)) / c48 * c48) w152 ab H locs ls w162 hz163 hh hl (fun ab H locs ls hh hl => ?_)
                have hsg461 : ∀ (c165 : Int32) (c166 : Int32) (w164 : Wd) (ab : Nat) (H : Heap) (locs : List Loc) (ls : Array Slot) (z : Wd), s_L_build_461 r52 w164 = some z → AH G s.heap w164 ab H locs → lv_has ls 8 [(7, .int c165), (6, .int c166), (5, .int r52), (4, .int y47), (3, .int c48), (2, .int r1), (1, .ref (gAd G 0)), (0, .ref b)] → (∀ (ab : Nat) (H : Heap) (locs : List Loc) (ls : Array Slot), AH G s.heap z ab H locs → lv_has ls 8 [(7, .int c165), (6, .int c166), (5, .int r52), (4, .int y47), (3, .int c48), (2, .int r1), (1, .ref (gAd G 0)), (0, .ref b)] → W p l e ({ frames := 11, cells := 750, slots := 6572, locals := 216 } : Room) s m args below meth c H locs (((((((((((((204 + 39 * j) + 3) + 6) + 3) + 3) + 3) + 3) + 3) + 3) + 3) + 3) + 3) + 3) (((((((((((((3296 + 234 * j) + 18) + 36) + 18) + 18) + 18) + 18) + 18) + 18) + 18) + 18) + 18) + 18) (MQ below (bdQ G w1) args s 750 6572 (gA G)) (F0 m 495 ls [])) → W p l e ({ frames := 11, cells := 750, slots := 6572, locals := 216 } : Room) s m args below meth c H locs ((((((((((((204 + 39 * j) + 3) + 6) + 3) + 3) + 3) + 3) + 3) + 3) + 3) + 3) + 3) ((((((((((((3296 + 234 * j) + 18) + 36) + 18) + 18) + 18) + 18) + 18) + 18) + 18) + 18) + 18) (MQ below (bdQ G w1) args s 750 6572 (gA G)) (F0 m 461 ls []) := by
                  intro c165 c166 w164 ab H locs ls z hF hh hl kE
                  unfold s_L_build_461 at hF
                  refine lv_iload hx hb dL_build_461 (lv_at hl 2 rfl) ?_
                  refine lv_bipush (v := (18 : Int32)) hx hb dL_build_463 (by decide) ?_
                  refine lv_ishr hx hb dL_build_465 ?_
                  refine lv_bipush (v := (7 : Int32)) hx hb dL_build_466 (by decide) ?_
                  refine lv_iand hx hb dL_build_468 ?_
                  refine lv_iconst (v := (3 : Int32)) hx hb dL_build_469 (by decide) ?_
                  refine lv_icmp_ne (tgt := 495) hx hb dL_build_470 (by decide) (fun hc167 => ?_) (fun hc167 => ?_)
                  · have hF := am_neg hc167 hF
                    cases hF
                    exact W.widen (by omega) (by omega) (kE ab H locs ls hh (lv_sub hl [0, 1, 2, 3, 4, 5, 6, 7] rfl))
                  · have hF := am_pos hc167 hF
                    refine lv_aload_n hx hb dL_build_473 rfl (lv_at hl 6 rfl) ?_
                    refine lv_iconst (v := (0 : Int32)) hx hb dL_build_474 (by decide) ?_
                    refine va_gets hx hb X.2.2.1.1.2.2.2.2.2.2.2.2.2.2.1 hh.2.2 hown (hts _ (show Cond.fieldLink RL 30 "PlanetWorkshopLaw" "TEETH" "[I"  ∈ wsL_buildQ by decide +kernel)) (fun _ h9 => h9) dL_build_475 ?_
                    refine lv_iload hx hb dL_build_478 (lv_at hl 2 rfl) ?_
                    refine lv_bipush (v := (21 : Int32)) hx hb dL_build_480 (by decide) ?_
                    refine lv_ishr hx hb dL_build_482 ?_
                    refine lv_bipush (v := (15 : Int32)) hx hb dL_build_483 (by decide) ?_
                    refine lv_iand hx hb dL_build_485 ?_
                    refine lv_bipush (v := (10 : Int32)) hx hb dL_build_486 (by decide) ?_
                    obtain ⟨hq168, hF⟩ := am_if hF
                    refine lv_irem hx hb dL_build_488 hq168 ?_
                    obtain ⟨hq169, hF⟩ := am_ifR hF
                    refine va_ti hx hb X.2.2.1.1.2.2.2.2.2.2.2.2.2.2.2 hh.2.2 hq169 rfl dL_build_489 ?_
                    refine lv_iconst (v := (0 : Int32)) hx hb dL_build_490 (by decide) ?_
                    obtain ⟨⟨r171, w172⟩, hk170, hF⟩ := am_bind hF
                    have hF := am_u2 hF
                    refine am_callW X hh (vx_runSX (As := [.ref (gAd G 0), .int (0 : Int32), .int (cTeeth.getD ((((r52 >>> ((21 : Int32) &&& 31)) &&& (15 : Int32)) - ((r52 >>> ((21 : Int32) &&& 31)) &&& (15 : Int32)) / (10 : Int32) * (10 : Int32))).toNatClampNeg 0), .int (0 : Int32)]) (rest := []) X.1 (c_L_act l G hst hk170) (vx_cwSW 4 hts gL_build_L_act rfl rfl rfl (by decide +kernel) ⟨Nat.le_of_ble_eq_true rfl, Nat.le_of_ble_eq_true rfl⟩) (am_preS X hh) rfl rfl hl.1 rfl (lv_room (Nat.le_of_ble_eq_true rfl)) dL_build_491 ⟨by show ((((((((((((204 + 39 * j) + 3) + 6) + 3) + 3) + 3) + 3) + 3) + 3) + 3) + 3) + 3) + 3 ≤ 750; omega, by show ((((((((((((3296 + 234 * j) + 18) + 36) + 18) + 18) + 18) + 18) + 18) + 18) + 18) + 18) + 18) + 18 ≤ 6572; omega⟩) (fun ab H locs hh => ?_)
                    refine lv_pop hx hb dL_build_494 rfl ?_
                    cases hF
                    exact W.widen (by omega) (by omega) (kE ab H locs ls hh (lv_sub hl [0, 1, 2, 3, 4, 5, 6, 7] rfl))
                obtain ⟨w174, hz175, hF⟩ := am_bind hF
                refine hsg461 (((r52 >>> ((3 : Int32) &&& 31)) &&& (7 : Int32)) - ((r52 >>> ((3 : Int32) &&& 31)) &&& (7 : Int32)) / c48 * c48) ((r52 &&& (7 : Int32)) - (r52 &&& (7 : Int32)) / c48 * c48) w162 ab H locs ls w174 hz175 hh hl (fun ab H locs ls hh hl => ?_)
                refine lv_iinc (v := (y47 + (1 : Int32))) (lv' := [(4, .int (y47 + (1 : Int32))), (7, .int (((r52 >>> ((3 : Int32) &&& 31)) &&& (7 : Int32)) - ((r52 >>> ((3 : Int32) &&& 31)) &&& (7 : Int32)) / c48 * c48)), (6, .int ((r52 &&& (7 : Int32)) - (r52 &&& (7 : Int32)) / c48 * c48)), (5, .int r52), (3, .int c48), (2, .int r1), (1, .ref (gAd G 0)), (0, .ref b)]) hx hb dL_build_495 hl (k := 3) rfl rfl (by decide) rfl (fun ls hl => ?_)
                refine lv_goto (tgt := 160) hx hb dL_build_498 (by decide) ?_
                exact W.widen (by omega) (by omega) (ih (j + 1) (y47 + (1 : Int32)) w174 ab H locs ls _ (by omega) hF hh (lv_sub hl [0, 4, 5, 6, 7] rfl) kE)
          obtain ⟨z176, hz177, hF⟩ := am_bind hF
          refine W.widen (show 204 ≤ 204 + 39 * 0 by omega) (show 3296 ≤ 3296 + 234 * 0 by omega) (hlp160 ((4 : Int32) + (r1 &&& (3 : Int32))) 14 0 (1 : Int32) w37 ab H locs ls z176 (Nat.le_refl _) hz177 hh (lv_sub hl [0, 1, 2, 3, 4] rfl) (fun y47 w49 ab H locs ls hz hh hl => ?_))
          · subst hz
            have hF := am_zl hF
            have hF := am_u2 hF
            refine lv_aload_n hx hb dL_build_501 rfl (lv_at hl 3 rfl) ?_
            exact am_aret X hr (Or.inl ⟨_, rfl⟩) (Or.inr ⟨_, rfl⟩) hh (fun t ht => am_bq hF ht) (Nat.le_of_ble_eq_true rfl) (Nat.le_of_ble_eq_true rfl) dL_build_502
      · have hF := am_neg hc29 hF
        refine lv_iconst (v := (0 : Int32)) hx hb dL_build_110 (by decide) ?_
        refine lv_goto (tgt := 117) hx hb dL_build_111 (by decide) ?_
        refine lv_bipush (v := (60 : Int32)) hx hb dL_build_117 (by decide) ?_
        obtain ⟨⟨r179, w180⟩, hk178, hF⟩ := am_bind hF
        have hF := am_u2 hF
        refine am_callW X hh (vx_runSX (As := [.ref (gAd G 0), .int (4 : Int32), .int (0 : Int32), .int (60 : Int32)]) (rest := []) X.1 (c_L_act l G hst hk178) (vx_cwSW 4 hts gL_build_L_act rfl rfl rfl (by decide +kernel) ⟨Nat.le_of_ble_eq_true rfl, Nat.le_of_ble_eq_true rfl⟩) (am_preS X hh) rfl rfl hl.1 rfl (lv_room (Nat.le_of_ble_eq_true rfl)) dL_build_119 ⟨Nat.le_of_ble_eq_true rfl, Nat.le_of_ble_eq_true rfl⟩) (fun ab H locs hh => ?_)
        refine lv_pop hx hb dL_build_122 rfl ?_
        refine lv_iconst (v := (0 : Int32)) hx hb dL_build_123 (by decide) ?_
        refine lv_istore (lv' := [(4, .int (0 : Int32)), (3, .int ((4 : Int32) + (r1 &&& (3 : Int32)))), (2, .int r1), (1, .ref (gAd G 0)), (0, .ref b)]) hx hb dL_build_124 hl (by decide) rfl (fun ls hl => ?_)
        have hlp126 : ∀ (c183 : Int32) (n : Nat) (j : Nat) (y182 : Int32) (w184 : Wd) (ab : Nat) (H : Heap) (locs : List Loc) (ls : Array Slot) (z : (Int32 × Wd) ⊕ Unit), n + j ≤ 4 → p_L_build_126 c183 r1 n y182 w184 = some z → AH G s.heap w184 ab H locs → lv_has ls 8 [(4, .int y182), (3, .int c183), (2, .int r1), (1, .ref (gAd G 0)), (0, .ref b)] → (∀ (y182 : Int32) (w184 : Wd) (ab : Nat) (H : Heap) (locs : List Loc) (ls : Array Slot), z = .inl (y182, w184) → AH G s.heap w184 ab H locs → lv_has ls 8 [(4, .int y182), (3, .int c183), (2, .int r1), (1, .ref (gAd G 0)), (0, .ref b)] → W p l e ({ frames := 11, cells := 750, slots := 6572, locals := 216 } : Room) s m args below meth c H locs (192 + 3 * 4) (3224 + 18 * 4) (MQ below (bdQ G w1) args s 750 6572 (gA G)) (F0 m 157 ls [])) → W p l e ({ frames := 11, cells := 750, slots := 6572, locals := 216 } : Room) s m args below meth c H locs (192 + 3 * j) (3224 + 18 * j) (MQ below (bdQ G w1) args s 750 6572 (gA G)) (F0 m 126 ls []) := by
          intro c183 n
          induction n with
          | zero =>
            intro j y182 w184 ab H locs ls z hj hF
            unfold p_L_build_126 at hF
            cases hF
          | succ n ih =>
            intro j y182 w184 ab H locs ls z hj hF hh hl kE
            unfold p_L_build_126 at hF
            refine lv_iload hx hb dL_build_126 (lv_at hl 0 rfl) ?_
            refine lv_iconst (v := (3 : Int32)) hx hb dL_build_128 (by decide) ?_
            refine lv_icmp_ge (tgt := 157) hx hb dL_build_129 (by decide) (fun hc186 => ?_) (fun hc186 => ?_)
            · have hF := am_pos hc186 hF
              exact W.widen (by omega) (by omega) (kE y182 w184 ab H locs ls (Option.some.inj hF).symm hh (lv_sub hl [0, 1, 2, 3, 4] rfl))
            · have hF := am_neg hc186 hF
              refine lv_aload_n hx hb dL_build_132 rfl (lv_at hl 3 rfl) ?_
              refine lv_bipush (v := (10 : Int32)) hx hb dL_build_133 (by decide) ?_
              refine lv_iload_n hx hb dL_build_135 rfl (lv_at hl 2 rfl) ?_
              refine lv_iconst (v := (4 : Int32)) hx hb dL_build_136 (by decide) ?_
              refine lv_iload hx hb dL_build_137 (lv_at hl 0 rfl) ?_
              refine lv_imul hx hb dL_build_139 ?_
              refine lv_ishr hx hb dL_build_140 ?_
              refine lv_bipush (v := (7 : Int32)) hx hb dL_build_141 (by decide) ?_
              refine lv_iand hx hb dL_build_143 ?_
              refine lv_iload_n hx hb dL_build_144 rfl (lv_at hl 1 rfl) ?_
              obtain ⟨hq187, hF⟩ := am_if hF
              refine lv_irem hx hb dL_build_145 hq187 ?_
              refine lv_iconst (v := (0 : Int32)) hx hb dL_build_146 (by decide) ?_
              obtain ⟨⟨r189, w190⟩, hk188, hF⟩ := am_bind hF
              have hF := am_u2 hF
              refine am_callW X hh (vx_runSX (As := [.ref (gAd G 0), .int (10 : Int32), .int (((r1 >>> (((4 : Int32) * y182) &&& 31)) &&& (7 : Int32)) - ((r1 >>> (((4 : Int32) * y182) &&& 31)) &&& (7 : Int32)) / c183 * c183), .int (0 : Int32)]) (rest := []) X.1 (c_L_act l G hst hk188) (vx_cwSW 4 hts gL_build_L_act rfl rfl rfl (by decide +kernel) ⟨Nat.le_of_ble_eq_true rfl, Nat.le_of_ble_eq_true rfl⟩) (am_preS X hh) rfl rfl hl.1 rfl (lv_room (Nat.le_of_ble_eq_true rfl)) dL_build_147 ⟨by show (192 + 3 * j) + 3 ≤ 750; omega, by show (3224 + 18 * j) + 18 ≤ 6572; omega⟩) (fun ab H locs hh => ?_)
              refine lv_pop hx hb dL_build_150 rfl ?_
              refine lv_iinc (v := (y182 + (1 : Int32))) (lv' := [(4, .int (y182 + (1 : Int32))), (3, .int c183), (2, .int r1), (1, .ref (gAd G 0)), (0, .ref b)]) hx hb dL_build_151 hl (k := 0) rfl rfl (by decide) rfl (fun ls hl => ?_)
              refine lv_goto (tgt := 126) hx hb dL_build_154 (by decide) ?_
              exact W.widen (by omega) (by omega) (ih (j + 1) (y182 + (1 : Int32)) w190 ab H locs ls _ (by omega) hF hh (lv_sub hl [0, 1, 2, 3, 4] rfl) kE)
        obtain ⟨z192, hz193, hF⟩ := am_bind hF
        refine W.widen (show 192 ≤ 192 + 3 * 0 by omega) (show 3224 ≤ 3224 + 18 * 0 by omega) (hlp126 ((4 : Int32) + (r1 &&& (3 : Int32))) 4 0 (0 : Int32) w180 ab H locs ls z192 (Nat.le_refl _) hz193 hh (lv_sub hl [0, 1, 2, 3, 4] rfl) (fun y182 w184 ab H locs ls hz hh hl => ?_))
        · subst hz
          have hF := am_zl hF
          have hF := am_u2 hF
          refine lv_iconst (v := (1 : Int32)) hx hb dL_build_157 (by decide) ?_
          refine lv_istore (lv' := [(4, .int (1 : Int32)), (3, .int ((4 : Int32) + (r1 &&& (3 : Int32)))), (2, .int r1), (1, .ref (gAd G 0)), (0, .ref b)]) hx hb dL_build_158 hl (by decide) rfl (fun ls hl => ?_)
          have hlp160 : ∀ (c195 : Int32) (n : Nat) (j : Nat) (y194 : Int32) (w196 : Wd) (ab : Nat) (H : Heap) (locs : List Loc) (ls : Array Slot) (z : (Int32 × Wd) ⊕ Unit), n + j ≤ 14 → p_L_build_160 sc c195 n y194 w196 = some z → AH G s.heap w196 ab H locs → lv_has ls 8 [(4, .int y194), (3, .int c195), (2, .int r1), (1, .ref (gAd G 0)), (0, .ref b)] → (∀ (y194 : Int32) (w196 : Wd) (ab : Nat) (H : Heap) (locs : List Loc) (ls : Array Slot), z = .inl (y194, w196) → AH G s.heap w196 ab H locs → lv_has ls 8 [(4, .int y194), (3, .int c195), (2, .int r1), (1, .ref (gAd G 0)), (0, .ref b)] → W p l e ({ frames := 11, cells := 750, slots := 6572, locals := 216 } : Room) s m args below meth c H locs (204 + 39 * 14) (3296 + 234 * 14) (MQ below (bdQ G w1) args s 750 6572 (gA G)) (F0 m 501 ls [])) → W p l e ({ frames := 11, cells := 750, slots := 6572, locals := 216 } : Room) s m args below meth c H locs (204 + 39 * j) (3296 + 234 * j) (MQ below (bdQ G w1) args s 750 6572 (gA G)) (F0 m 160 ls []) := by
            intro c195 n
            induction n with
            | zero =>
              intro j y194 w196 ab H locs ls z hj hF
              unfold p_L_build_160 at hF
              cases hF
            | succ n ih =>
              intro j y194 w196 ab H locs ls z hj hF hh hl kE
              unfold p_L_build_160 at hF
              refine lv_iload hx hb dL_build_160 (lv_at hl 0 rfl) ?_
              refine lv_bipush (v := (13 : Int32)) hx hb dL_build_162 (by decide) ?_
              refine lv_icmp_ge (tgt := 501) hx hb dL_build_164 (by decide) (fun hc198 => ?_) (fun hc198 => ?_)
              · have hF := am_pos hc198 hF
                exact W.widen (by omega) (by omega) (kE y194 w196 ab H locs ls (Option.some.inj hF).symm hh (lv_sub hl [0, 1, 2, 3, 4] rfl))
              · have hF := am_neg hc198 hF
                refine lv_aload_n hx hb dL_build_167 rfl (lv_at hl 4 rfl) ?_
                refine lv_iload hx hb dL_build_168 (lv_at hl 0 rfl) ?_
                obtain ⟨r199, hk200, hF⟩ := am_bind hF
                refine am_callAt X hh (va_runS (As := [.ref b, .int y194]) (rest := []) X.1 (c_L_at l hk200) (va_cwS 2 hts gL_build_L_at rfl rfl rfl (by decide +kernel) ⟨Nat.le_of_ble_eq_true rfl, Nat.le_of_ble_eq_true rfl⟩) (at_pre X hX hbl hbA hh) rfl rfl hl.1 rfl (lv_room (Nat.le_of_ble_eq_true rfl)) dL_build_170 ⟨by show (204 + 39 * j) + 0 ≤ 750; omega, by show (3296 + 234 * j) + 0 ≤ 6572; omega⟩) (fun H locs hh => ?_)
                refine lv_istore (lv' := [(5, .int r199), (4, .int y194), (3, .int c195), (2, .int r1), (1, .ref (gAd G 0)), (0, .ref b)]) hx hb dL_build_173 hl (by decide) rfl (fun ls hl => ?_)
                refine lv_iload hx hb dL_build_175 (lv_at hl 0 rfl) ?_
                refine lv_bipush (v := (7 : Int32)) hx hb dL_build_177 (by decide) ?_
                refine lv_iand hx hb dL_build_179 ?_
                refine lv_iload_n hx hb dL_build_180 rfl (lv_at hl 2 rfl) ?_
                obtain ⟨hq201, hF⟩ := am_if hF
                refine lv_irem hx hb dL_build_181 hq201 ?_
                refine lv_istore (lv' := [(6, .int ((r199 &&& (7 : Int32)) - (r199 &&& (7 : Int32)) / c195 * c195)), (5, .int r199), (4, .int y194), (3, .int c195), (2, .int r1), (1, .ref (gAd G 0)), (0, .ref b)]) hx hb dL_build_182 hl (by decide) rfl (fun ls hl => ?_)
                refine lv_iload hx hb dL_build_184 (lv_at hl 1 rfl) ?_
                refine lv_iconst (v := (3 : Int32)) hx hb dL_build_186 (by decide) ?_
                refine lv_ishr hx hb dL_build_187 ?_
                refine lv_bipush (v := (7 : Int32)) hx hb dL_build_188 (by decide) ?_
                refine lv_iand hx hb dL_build_190 ?_
                refine lv_iload_n hx hb dL_build_191 rfl (lv_at hl 3 rfl) ?_
                obtain ⟨hq202, hF⟩ := am_if hF
                refine lv_irem hx hb dL_build_192 hq202 ?_
                refine lv_istore (lv' := [(7, .int (((r199 >>> ((3 : Int32) &&& 31)) &&& (7 : Int32)) - ((r199 >>> ((3 : Int32) &&& 31)) &&& (7 : Int32)) / c195 * c195)), (6, .int ((r199 &&& (7 : Int32)) - (r199 &&& (7 : Int32)) / c195 * c195)), (5, .int r199), (4, .int y194), (3, .int c195), (2, .int r1), (1, .ref (gAd G 0)), (0, .ref b)]) hx hb dL_build_193 hl (by decide) rfl (fun ls hl => ?_)
                refine lv_aload_n hx hb dL_build_195 rfl (lv_at hl 6 rfl) ?_
                refine lv_iconst (v := (5 : Int32)) hx hb dL_build_196 (by decide) ?_
                refine lv_iload hx hb dL_build_197 (lv_at hl 1 rfl) ?_
                refine lv_iconst (v := (1 : Int32)) hx hb dL_build_199 (by decide) ?_
                refine lv_iload hx hb dL_build_200 (lv_at hl 2 rfl) ?_
                refine lv_bipush (v := (6 : Int32)) hx hb dL_build_202 (by decide) ?_
                refine lv_ishr hx hb dL_build_204 ?_
                refine lv_bipush (v := (31 : Int32)) hx hb dL_build_205 (by decide) ?_
                refine lv_iand hx hb dL_build_207 ?_
                refine lv_iadd hx hb dL_build_208 ?_
                obtain ⟨⟨r204, w205⟩, hk203, hF⟩ := am_bind hF
                have hF := am_u2 hF
                refine am_callW X hh (vx_runSX (As := [.ref (gAd G 0), .int (5 : Int32), .int ((r199 &&& (7 : Int32)) - (r199 &&& (7 : Int32)) / c195 * c195), .int ((1 : Int32) + ((r199 >>> ((6 : Int32) &&& 31)) &&& (31 : Int32)))]) (rest := []) X.1 (c_L_act l G hst hk203) (vx_cwSW 4 hts gL_build_L_act rfl rfl rfl (by decide +kernel) ⟨Nat.le_of_ble_eq_true rfl, Nat.le_of_ble_eq_true rfl⟩) (am_preS X hh) rfl rfl hl.1 rfl (lv_room (Nat.le_of_ble_eq_true rfl)) dL_build_209 ⟨by show (204 + 39 * j) + 3 ≤ 750; omega, by show (3296 + 234 * j) + 18 ≤ 6572; omega⟩) (fun ab H locs hh => ?_)
                refine lv_pop hx hb dL_build_212 rfl ?_
                have hsg213 : ∀ (c208 : Int32) (c209 : Int32) (w207 : Wd) (ab : Nat) (H : Heap) (locs : List Loc) (ls : Array Slot) (z : Wd), s_L_build_213 c209 r199 w207 = some z → AH G s.heap w207 ab H locs → lv_has ls 8 [(7, .int c208), (6, .int c209), (5, .int r199), (4, .int y194), (3, .int c195), (2, .int r1), (1, .ref (gAd G 0)), (0, .ref b)] → (∀ (ab : Nat) (H : Heap) (locs : List Loc) (ls : Array Slot), AH G s.heap z ab H locs → lv_has ls 8 [(7, .int c208), (6, .int c209), (5, .int r199), (4, .int y194), (3, .int c195), (2, .int r1), (1, .ref (gAd G 0)), (0, .ref b)] → W p l e ({ frames := 11, cells := 750, slots := 6572, locals := 216 } : Room) s m args below meth c H locs (((204 + 39 * j) + 3) + 6) (((3296 + 234 * j) + 18) + 36) (MQ below (bdQ G w1) args s 750 6572 (gA G)) (F0 m 241 ls [])) → W p l e ({ frames := 11, cells := 750, slots := 6572, locals := 216 } : Room) s m args below meth c H locs ((204 + 39 * j) + 3) ((3296 + 234 * j) + 18) (MQ below (bdQ G w1) args s 750 6572 (gA G)) (F0 m 213 ls []) := by
                  intro c208 c209 w207 ab H locs ls z hF hh hl kE
                  unfold s_L_build_213 at hF
                  refine lv_aload_n hx hb dL_build_213 rfl (lv_at hl 6 rfl) ?_
                  refine lv_iload hx hb dL_build_214 (lv_at hl 1 rfl) ?_
                  obtain ⟨⟨r211, w212⟩, hk210, hF⟩ := am_bind hF
                  have hF := am_u2 hF
                  refine am_call X hh (va_runS (As := [.ref (gAd G 0), .int c209]) (rest := []) X.1 (c_L_has l G hst hk210) (va_cwS 2 hts gL_build_L_has rfl rfl rfl (by decide +kernel) ⟨Nat.le_of_ble_eq_true rfl, Nat.le_of_ble_eq_true rfl⟩) (am_preS X hh) rfl rfl hl.1 rfl (lv_room (Nat.le_of_ble_eq_true rfl)) dL_build_216 ⟨by show ((204 + 39 * j) + 3) + 3 ≤ 750; omega, by show ((3296 + 234 * j) + 18) + 18 ≤ 6572; omega⟩) (fun ab H locs hh => ?_)
                  refine lv_if_eq (tgt := 241) hx hb dL_build_219 (by decide) (fun hc214 => ?_) (fun hc214 => ?_)
                  · have hF := am_pos hc214 hF
                    cases hF
                    exact W.widen (by omega) (by omega) (kE ab H locs ls hh (lv_sub hl [0, 1, 2, 3, 4, 5, 6, 7] rfl))
                  · have hF := am_neg hc214 hF
                    refine lv_aload_n hx hb dL_build_222 rfl (lv_at hl 6 rfl) ?_
                    refine lv_bipush (v := (7 : Int32)) hx hb dL_build_223 (by decide) ?_
                    refine lv_iload hx hb dL_build_225 (lv_at hl 1 rfl) ?_
                    refine lv_iconst (v := (1 : Int32)) hx hb dL_build_227 (by decide) ?_
                    refine lv_iload hx hb dL_build_228 (lv_at hl 2 rfl) ?_
                    refine lv_bipush (v := (11 : Int32)) hx hb dL_build_230 (by decide) ?_
                    refine lv_ishr hx hb dL_build_232 ?_
                    refine lv_bipush (v := (7 : Int32)) hx hb dL_build_233 (by decide) ?_
                    refine lv_iand hx hb dL_build_235 ?_
                    refine lv_iadd hx hb dL_build_236 ?_
                    obtain ⟨⟨r216, w217⟩, hk215, hF⟩ := am_bind hF
                    have hF := am_u2 hF
                    refine am_callW X hh (vx_runSX (As := [.ref (gAd G 0), .int (7 : Int32), .int c209, .int ((1 : Int32) + ((r199 >>> ((11 : Int32) &&& 31)) &&& (7 : Int32)))]) (rest := []) X.1 (c_L_act l G hst hk215) (vx_cwSW 4 hts gL_build_L_act rfl rfl rfl (by decide +kernel) ⟨Nat.le_of_ble_eq_true rfl, Nat.le_of_ble_eq_true rfl⟩) (am_preS X hh) rfl rfl hl.1 rfl (lv_room (Nat.le_of_ble_eq_true rfl)) dL_build_237 ⟨by show (((204 + 39 * j) + 3) + 3) + 3 ≤ 750; omega, by show (((3296 + 234 * j) + 18) + 18) + 18 ≤ 6572; omega⟩) (fun ab H locs hh => ?_)
                    refine lv_pop hx hb dL_build_240 rfl ?_
                    cases hF
                    exact W.widen (by omega) (by omega) (kE ab H locs ls hh (lv_sub hl [0, 1, 2, 3, 4, 5, 6, 7] rfl))
                obtain ⟨w219, hz220, hF⟩ := am_bind hF
                refine hsg213 (((r199 >>> ((3 : Int32) &&& 31)) &&& (7 : Int32)) - ((r199 >>> ((3 : Int32) &&& 31)) &&& (7 : Int32)) / c195 * c195) ((r199 &&& (7 : Int32)) - (r199 &&& (7 : Int32)) / c195 * c195) w205 ab H locs ls w219 hz220 hh hl (fun ab H locs ls hh hl => ?_)
                have hsg241 : ∀ (c222 : Int32) (c223 : Int32) (w221 : Wd) (ab : Nat) (H : Heap) (locs : List Loc) (ls : Array Slot) (z : Wd), s_L_build_241 r199 c223 w221 = some z → AH G s.heap w221 ab H locs → lv_has ls 8 [(7, .int c222), (6, .int c223), (5, .int r199), (4, .int y194), (3, .int c195), (2, .int r1), (1, .ref (gAd G 0)), (0, .ref b)] → (∀ (ab : Nat) (H : Heap) (locs : List Loc) (ls : Array Slot), AH G s.heap z ab H locs → lv_has ls 8 [(7, .int c222), (6, .int c223), (5, .int r199), (4, .int y194), (3, .int c195), (2, .int r1), (1, .ref (gAd G 0)), (0, .ref b)] → W p l e ({ frames := 11, cells := 750, slots := 6572, locals := 216 } : Room) s m args below meth c H locs ((((204 + 39 * j) + 3) + 6) + 3) ((((3296 + 234 * j) + 18) + 36) + 18) (MQ below (bdQ G w1) args s 750 6572 (gA G)) (F0 m 270 ls [])) → W p l e ({ frames := 11, cells := 750, slots := 6572, locals := 216 } : Room) s m args below meth c H locs (((204 + 39 * j) + 3) + 6) (((3296 + 234 * j) + 18) + 36) (MQ below (bdQ G w1) args s 750 6572 (gA G)) (F0 m 241 ls []) := by
                  intro c222 c223 w221 ab H locs ls z hF hh hl kE
                  unfold s_L_build_241 at hF
                  refine lv_iload hx hb dL_build_241 (lv_at hl 2 rfl) ?_
                  refine lv_bipush (v := (14 : Int32)) hx hb dL_build_243 (by decide) ?_
                  refine lv_ishr hx hb dL_build_245 ?_
                  refine lv_iconst (v := (3 : Int32)) hx hb dL_build_246 (by decide) ?_
                  refine lv_iand hx hb dL_build_247 ?_
                  refine lv_if_ne (tgt := 270) hx hb dL_build_248 (by decide) (fun hc224 => ?_) (fun hc224 => ?_)
                  · have hF := am_neg hc224 hF
                    cases hF
                    exact W.widen (by omega) (by omega) (kE ab H locs ls hh (lv_sub hl [0, 1, 2, 3, 4, 5, 6, 7] rfl))
                  · have hF := am_pos hc224 hF
                    refine lv_aload_n hx hb dL_build_251 rfl (lv_at hl 6 rfl) ?_
                    refine lv_iconst (v := (4 : Int32)) hx hb dL_build_252 (by decide) ?_
                    refine lv_iload hx hb dL_build_253 (lv_at hl 1 rfl) ?_
                    refine lv_bipush (v := (20 : Int32)) hx hb dL_build_255 (by decide) ?_
                    refine lv_iload hx hb dL_build_257 (lv_at hl 2 rfl) ?_
                    refine lv_bipush (v := (16 : Int32)) hx hb dL_build_259 (by decide) ?_
                    refine lv_ishr hx hb dL_build_261 ?_
                    refine lv_bipush (v := (63 : Int32)) hx hb dL_build_262 (by decide) ?_
                    refine lv_iand hx hb dL_build_264 ?_
                    refine lv_iadd hx hb dL_build_265 ?_
                    obtain ⟨⟨r226, w227⟩, hk225, hF⟩ := am_bind hF
                    have hF := am_u2 hF
                    refine am_callW X hh (vx_runSX (As := [.ref (gAd G 0), .int (4 : Int32), .int c223, .int ((20 : Int32) + ((r199 >>> ((16 : Int32) &&& 31)) &&& (63 : Int32)))]) (rest := []) X.1 (c_L_act l G hst hk225) (vx_cwSW 4 hts gL_build_L_act rfl rfl rfl (by decide +kernel) ⟨Nat.le_of_ble_eq_true rfl, Nat.le_of_ble_eq_true rfl⟩) (am_preS X hh) rfl rfl hl.1 rfl (lv_room (Nat.le_of_ble_eq_true rfl)) dL_build_266 ⟨by show (((204 + 39 * j) + 3) + 6) + 3 ≤ 750; omega, by show (((3296 + 234 * j) + 18) + 36) + 18 ≤ 6572; omega⟩) (fun ab H locs hh => ?_)
                    refine lv_pop hx hb dL_build_269 rfl ?_
                    cases hF
                    exact W.widen (by omega) (by omega) (kE ab H locs ls hh (lv_sub hl [0, 1, 2, 3, 4, 5, 6, 7] rfl))
                obtain ⟨w229, hz230, hF⟩ := am_bind hF
                refine hsg241 (((r199 >>> ((3 : Int32) &&& 31)) &&& (7 : Int32)) - ((r199 >>> ((3 : Int32) &&& 31)) &&& (7 : Int32)) / c195 * c195) ((r199 &&& (7 : Int32)) - (r199 &&& (7 : Int32)) / c195 * c195) w219 ab H locs ls w229 hz230 hh hl (fun ab H locs ls hh hl => ?_)
                have hsg270 : ∀ (c232 : Int32) (c233 : Int32) (w231 : Wd) (ab : Nat) (H : Heap) (locs : List Loc) (ls : Array Slot) (z : Wd), s_L_build_270 r199 c232 w231 = some z → AH G s.heap w231 ab H locs → lv_has ls 8 [(7, .int c232), (6, .int c233), (5, .int r199), (4, .int y194), (3, .int c195), (2, .int r1), (1, .ref (gAd G 0)), (0, .ref b)] → (∀ (ab : Nat) (H : Heap) (locs : List Loc) (ls : Array Slot), AH G s.heap z ab H locs → lv_has ls 8 [(7, .int c232), (6, .int c233), (5, .int r199), (4, .int y194), (3, .int c195), (2, .int r1), (1, .ref (gAd G 0)), (0, .ref b)] → W p l e ({ frames := 11, cells := 750, slots := 6572, locals := 216 } : Room) s m args below meth c H locs (((((204 + 39 * j) + 3) + 6) + 3) + 3) (((((3296 + 234 * j) + 18) + 36) + 18) + 18) (MQ below (bdQ G w1) args s 750 6572 (gA G)) (F0 m 291 ls [])) → W p l e ({ frames := 11, cells := 750, slots := 6572, locals := 216 } : Room) s m args below meth c H locs ((((204 + 39 * j) + 3) + 6) + 3) ((((3296 + 234 * j) + 18) + 36) + 18) (MQ below (bdQ G w1) args s 750 6572 (gA G)) (F0 m 270 ls []) := by
                  intro c232 c233 w231 ab H locs ls z hF hh hl kE
                  unfold s_L_build_270 at hF
                  refine lv_iload hx hb dL_build_270 (lv_at hl 2 rfl) ?_
                  refine lv_bipush (v := (14 : Int32)) hx hb dL_build_272 (by decide) ?_
                  refine lv_ishr hx hb dL_build_274 ?_
                  refine lv_iconst (v := (3 : Int32)) hx hb dL_build_275 (by decide) ?_
                  refine lv_iand hx hb dL_build_276 ?_
                  refine lv_iconst (v := (1 : Int32)) hx hb dL_build_277 (by decide) ?_
                  refine lv_icmp_ne (tgt := 291) hx hb dL_build_278 (by decide) (fun hc234 => ?_) (fun hc234 => ?_)
                  · have hF := am_neg hc234 hF
                    cases hF
                    exact W.widen (by omega) (by omega) (kE ab H locs ls hh (lv_sub hl [0, 1, 2, 3, 4, 5, 6, 7] rfl))
                  · have hF := am_pos hc234 hF
                    refine lv_aload_n hx hb dL_build_281 rfl (lv_at hl 6 rfl) ?_
                    refine lv_bipush (v := (8 : Int32)) hx hb dL_build_282 (by decide) ?_
                    refine lv_iload hx hb dL_build_284 (lv_at hl 0 rfl) ?_
                    refine lv_iconst (v := (0 : Int32)) hx hb dL_build_286 (by decide) ?_
                    obtain ⟨⟨r236, w237⟩, hk235, hF⟩ := am_bind hF
                    have hF := am_u2 hF
                    refine am_callW X hh (vx_runSX (As := [.ref (gAd G 0), .int (8 : Int32), .int c232, .int (0 : Int32)]) (rest := []) X.1 (c_L_act l G hst hk235) (vx_cwSW 4 hts gL_build_L_act rfl rfl rfl (by decide +kernel) ⟨Nat.le_of_ble_eq_true rfl, Nat.le_of_ble_eq_true rfl⟩) (am_preS X hh) rfl rfl hl.1 rfl (lv_room (Nat.le_of_ble_eq_true rfl)) dL_build_287 ⟨by show ((((204 + 39 * j) + 3) + 6) + 3) + 3 ≤ 750; omega, by show ((((3296 + 234 * j) + 18) + 36) + 18) + 18 ≤ 6572; omega⟩) (fun ab H locs hh => ?_)
                    refine lv_pop hx hb dL_build_290 rfl ?_
                    cases hF
                    exact W.widen (by omega) (by omega) (kE ab H locs ls hh (lv_sub hl [0, 1, 2, 3, 4, 5, 6, 7] rfl))
                obtain ⟨w239, hz240, hF⟩ := am_bind hF
                refine hsg270 (((r199 >>> ((3 : Int32) &&& 31)) &&& (7 : Int32)) - ((r199 >>> ((3 : Int32) &&& 31)) &&& (7 : Int32)) / c195 * c195) ((r199 &&& (7 : Int32)) - (r199 &&& (7 : Int32)) / c195 * c195) w229 ab H locs ls w239 hz240 hh hl (fun ab H locs ls hh hl => ?_)
                have hsg291 : ∀ (c242 : Int32) (c243 : Int32) (w241 : Wd) (ab : Nat) (H : Heap) (locs : List Loc) (ls : Array Slot) (z : Wd), s_L_build_291 r199 c243 c242 w241 = some z → AH G s.heap w241 ab H locs → lv_has ls 8 [(7, .int c242), (6, .int c243), (5, .int r199), (4, .int y194), (3, .int c195), (2, .int r1), (1, .ref (gAd G 0)), (0, .ref b)] → (∀ (ab : Nat) (H : Heap) (locs : List Loc) (ls : Array Slot), AH G s.heap z ab H locs → lv_has ls 8 [(7, .int c242), (6, .int c243), (5, .int r199), (4, .int y194), (3, .int c195), (2, .int r1), (1, .ref (gAd G 0)), (0, .ref b)] → W p l e ({ frames := 11, cells := 750, slots := 6572, locals := 216 } : Room) s m args below meth c H locs ((((((204 + 39 * j) + 3) + 6) + 3) + 3) + 3) ((((((3296 + 234 * j) + 18) + 36) + 18) + 18) + 18) (MQ below (bdQ G w1) args s 750 6572 (gA G)) (F0 m 313 ls [])) → W p l e ({ frames := 11, cells := 750, slots := 6572, locals := 216 } : Room) s m args below meth c H locs (((((204 + 39 * j) + 3) + 6) + 3) + 3) (((((3296 + 234 * j) + 18) + 36) + 18) + 18) (MQ below (bdQ G w1) args s 750 6572 (gA G)) (F0 m 291 ls []) := by
                  intro c242 c243 w241 ab H locs ls z hF hh hl kE
                  unfold s_L_build_291 at hF
                  refine lv_iload hx hb dL_build_291 (lv_at hl 2 rfl) ?_
                  refine lv_bipush (v := (14 : Int32)) hx hb dL_build_293 (by decide) ?_
                  refine lv_ishr hx hb dL_build_295 ?_
                  refine lv_bipush (v := (7 : Int32)) hx hb dL_build_296 (by decide) ?_
                  refine lv_iand hx hb dL_build_298 ?_
                  refine lv_iconst (v := (2 : Int32)) hx hb dL_build_299 (by decide) ?_
                  refine lv_icmp_ne (tgt := 313) hx hb dL_build_300 (by decide) (fun hc244 => ?_) (fun hc244 => ?_)
                  · have hF := am_neg hc244 hF
                    cases hF
                    exact W.widen (by omega) (by omega) (kE ab H locs ls hh (lv_sub hl [0, 1, 2, 3, 4, 5, 6, 7] rfl))
                  · have hF := am_pos hc244 hF
                    refine lv_aload_n hx hb dL_build_303 rfl (lv_at hl 6 rfl) ?_
                    refine lv_iconst (v := (3 : Int32)) hx hb dL_build_304 (by decide) ?_
                    refine lv_iload hx hb dL_build_305 (lv_at hl 1 rfl) ?_
                    refine lv_iload hx hb dL_build_307 (lv_at hl 0 rfl) ?_
                    obtain ⟨⟨r246, w247⟩, hk245, hF⟩ := am_bind hF
                    have hF := am_u2 hF
                    refine am_callW X hh (vx_runSX (As := [.ref (gAd G 0), .int (3 : Int32), .int c243, .int c242]) (rest := []) X.1 (c_L_act l G hst hk245) (vx_cwSW 4 hts gL_build_L_act rfl rfl rfl (by decide +kernel) ⟨Nat.le_of_ble_eq_true rfl, Nat.le_of_ble_eq_true rfl⟩) (am_preS X hh) rfl rfl hl.1 rfl (lv_room (Nat.le_of_ble_eq_true rfl)) dL_build_309 ⟨by show (((((204 + 39 * j) + 3) + 6) + 3) + 3) + 3 ≤ 750; omega, by show (((((3296 + 234 * j) + 18) + 36) + 18) + 18) + 18 ≤ 6572; omega⟩) (fun ab H locs hh => ?_)
                    refine lv_pop hx hb dL_build_312 rfl ?_
                    cases hF
                    exact W.widen (by omega) (by omega) (kE ab H locs ls hh (lv_sub hl [0, 1, 2, 3, 4, 5, 6, 7] rfl))
                obtain ⟨w249, hz250, hF⟩ := am_bind hF
                refine hsg291 (((r199 >>> ((3 : Int32) &&& 31)) &&& (7 : Int32)) - ((r199 >>> ((3 : Int32) &&& 31)) &&& (7 : Int32)) / c195 * c195) ((r199 &&& (7 : Int32)) - (r199 &&& (7 : Int32)) / c195 * c195) w239 ab H locs ls w249 hz250 hh hl (fun ab H locs ls hh hl => ?_)
                have hsg313 : ∀ (c252 : Int32) (c253 : Int32) (w251 : Wd) (ab : Nat) (H : Heap) (locs : List Loc) (ls : Array Slot) (z : Wd), s_L_build_313 r199 c253 c252 w251 = some z → AH G s.heap w251 ab H locs → lv_has ls 8 [(7, .int c252), (6, .int c253), (5, .int r199), (4, .int y194), (3, .int c195), (2, .int r1), (1, .ref (gAd G 0)), (0, .ref b)] → (∀ (ab : Nat) (H : Heap) (locs : List Loc) (ls : Array Slot), AH G s.heap z ab H locs → lv_has ls 8 [(7, .int c252), (6, .int c253), (5, .int r199), (4, .int y194), (3, .int c195), (2, .int r1), (1, .ref (gAd G 0)), (0, .ref b)] → W p l e ({ frames := 11, cells := 750, slots := 6572, locals := 216 } : Room) s m args below meth c H locs (((((((204 + 39 * j) + 3) + 6) + 3) + 3) + 3) + 3) (((((((3296 + 234 * j) + 18) + 36) + 18) + 18) + 18) + 18) (MQ below (bdQ G w1) args s 750 6572 (gA G)) (F0 m 344 ls [])) → W p l e ({ frames := 11, cells := 750, slots := 6572, locals := 216 } : Room) s m args below meth c H locs ((((((204 + 39 * j) + 3) + 6) + 3) + 3) + 3) ((((((3296 + 234 * j) + 18) + 36) + 18) + 18) + 18) (MQ below (bdQ G w1) args s 750 6572 (gA G)) (F0 m 313 ls []) := by
                  intro c252 c253 w251 ab H locs ls z hF hh hl kE
                  unfold s_L_build_313 at hF
                  refine lv_iload hx hb dL_build_313 (lv_at hl 2 rfl) ?_
                  refine lv_bipush (v := (14 : Int32)) hx hb dL_build_315 (by decide) ?_
                  refine lv_ishr hx hb dL_build_317 ?_
                  refine lv_bipush (v := (7 : Int32)) hx hb dL_build_318 (by decide) ?_
                  refine lv_iand hx hb dL_build_320 ?_
                  refine lv_bipush (v := (6 : Int32)) hx hb dL_build_321 (by decide) ?_
                  refine lv_icmp_ne (tgt := 344) hx hb dL_build_323 (by decide) (fun hc254 => ?_) (fun hc254 => ?_)
                  · have hF := am_neg hc254 hF
                    cases hF
                    exact W.widen (by omega) (by omega) (kE ab H locs ls hh (lv_sub hl [0, 1, 2, 3, 4, 5, 6, 7] rfl))
                  · have hF := am_pos hc254 hF
                    refine lv_aload_n hx hb dL_build_326 rfl (lv_at hl 6 rfl) ?_
                    refine lv_iload hx hb dL_build_327 (lv_at hl 2 rfl) ?_
                    refine lv_bipush (v := (17 : Int32)) hx hb dL_build_329 (by decide) ?_
                    refine lv_ishr hx hb dL_build_331 ?_
                    refine lv_iconst (v := (1 : Int32)) hx hb dL_build_332 (by decide) ?_
                    refine lv_iand hx hb dL_build_333 ?_
                    refine lv_iconst (v := (1 : Int32)) hx hb dL_build_334 (by decide) ?_
                    refine lv_iadd hx hb dL_build_335 ?_
                    refine lv_iload hx hb dL_build_336 (lv_at hl 1 rfl) ?_
                    refine lv_iload hx hb dL_build_338 (lv_at hl 0 rfl) ?_
                    obtain ⟨⟨r256, w257⟩, hk255, hF⟩ := am_bind hF
                    have hF := am_u2 hF
                    refine am_callW X hh (vx_runSX (As := [.ref (gAd G 0), .int (((r199 >>> ((17 : Int32) &&& 31)) &&& (1 : Int32)) + (1 : Int32)), .int c253, .int c252]) (rest := []) X.1 (c_L_act l G hst hk255) (vx_cwSW 4 hts gL_build_L_act rfl rfl rfl (by decide +kernel) ⟨Nat.le_of_ble_eq_true rfl, Nat.le_of_ble_eq_true rfl⟩) (am_preS X hh) rfl rfl hl.1 rfl (lv_room (Nat.le_of_ble_eq_true rfl)) dL_build_340 ⟨by show ((((((204 + 39 * j) + 3) + 6) + 3) + 3) + 3) + 3 ≤ 750; omega, by show ((((((3296 + 234 * j) + 18) + 36) + 18) + 18) + 18) + 18 ≤ 6572; omega⟩) (fun ab H locs hh => ?_)
                    refine lv_pop hx hb dL_build_343 rfl ?_
                    cases hF
                    exact W.widen (by omega) (by omega) (kE ab H locs ls hh (lv_sub hl [0, 1, 2, 3, 4, 5, 6, 7] rfl))
                obtain ⟨w259, hz260, hF⟩ := am_bind hF
                refine hsg313 (((r199 >>> ((3 : Int32) &&& 31)) &&& (7 : Int32)) - ((r199 >>> ((3 : Int32) &&& 31)) &&& (7 : Int32)) / c195 * c195) ((r199 &&& (7 : Int32)) - (r199 &&& (7 : Int32)) / c195 * c195) w249 ab H locs ls w259 hz260 hh hl (fun ab H locs ls hh hl => ?_)
                have hsg344 : ∀ (c262 : Int32) (c263 : Int32) (w261 : Wd) (ab : Nat) (H : Heap) (locs : List Loc) (ls : Array Slot) (z : Wd), s_L_build_344 r199 c263 w261 = some z → AH G s.heap w261 ab H locs → lv_has ls 8 [(7, .int c262), (6, .int c263), (5, .int r199), (4, .int y194), (3, .int c195), (2, .int r1), (1, .ref (gAd G 0)), (0, .ref b)] → (∀ (ab : Nat) (H : Heap) (locs : List Loc) (ls : Array Slot), AH G s.heap z ab H locs → lv_has ls 8 [(7, .int c262), (6, .int c263), (5, .int r199), (4, .int y194), (3, .int c195), (2, .int r1), (1, .ref (gAd G 0)), (0, .ref b)] → W p l e ({ frames := 11, cells := 750, slots := 6572, locals := 216 } : Room) s m args below meth c H locs ((((((((204 + 39 * j) + 3) + 6) + 3) + 3) + 3) + 3) + 3) ((((((((3296 + 234 * j) + 18) + 36) + 18) + 18) + 18) + 18) + 18) (MQ below (bdQ G w1) args s 750 6572 (gA G)) (F0 m 366 ls [])) → W p l e ({ frames := 11, cells := 750, slots := 6572, locals := 216 } : Room) s m args below meth c H locs (((((((204 + 39 * j) + 3) + 6) + 3) + 3) + 3) + 3) (((((((3296 + 234 * j) + 18) + 36) + 18) + 18) + 18) + 18) (MQ below (bdQ G w1) args s 750 6572 (gA G)) (F0 m 344 ls []) := by
                  intro c262 c263 w261 ab H locs ls z hF hh hl kE
                  unfold s_L_build_344 at hF
                  refine lv_iload hx hb dL_build_344 (lv_at hl 2 rfl) ?_
                  refine lv_bipush (v := (14 : Int32)) hx hb dL_build_346 (by decide) ?_
                  refine lv_ishr hx hb dL_build_348 ?_
                  refine lv_bipush (v := (7 : Int32)) hx hb dL_build_349 (by decide) ?_
                  refine lv_iand hx hb dL_build_351 ?_
                  refine lv_iconst (v := (3 : Int32)) hx hb dL_build_352 (by decide) ?_
                  refine lv_icmp_ne (tgt := 366) hx hb dL_build_353 (by decide) (fun hc264 => ?_) (fun hc264 => ?_)
                  · have hF := am_neg hc264 hF
                    cases hF
                    exact W.widen (by omega) (by omega) (kE ab H locs ls hh (lv_sub hl [0, 1, 2, 3, 4, 5, 6, 7] rfl))
                  · have hF := am_pos hc264 hF
                    refine lv_aload_n hx hb dL_build_356 rfl (lv_at hl 6 rfl) ?_
                    refine lv_bipush (v := (6 : Int32)) hx hb dL_build_357 (by decide) ?_
                    refine lv_iload hx hb dL_build_359 (lv_at hl 1 rfl) ?_
                    refine lv_iconst (v := (0 : Int32)) hx hb dL_build_361 (by decide) ?_
                    obtain ⟨⟨r266, w267⟩, hk265, hF⟩ := am_bind hF
                    have hF := am_u2 hF
                    refine am_callW X hh (vx_runSX (As := [.ref (gAd G 0), .int (6 : Int32), .int c263, .int (0 : Int32)]) (rest := []) X.1 (c_L_act l G hst hk265) (vx_cwSW 4 hts gL_build_L_act rfl rfl rfl (by decide +kernel) ⟨Nat.le_of_ble_eq_true rfl, Nat.le_of_ble_eq_true rfl⟩) (am_preS X hh) rfl rfl hl.1 rfl (lv_room (Nat.le_of_ble_eq_true rfl)) dL_build_362 ⟨by show (((((((204 + 39 * j) + 3) + 6) + 3) + 3) + 3) + 3) + 3 ≤ 750; omega, by show (((((((3296 + 234 * j) + 18) + 36) + 18) + 18) + 18) + 18) + 18 ≤ 6572; omega⟩) (fun ab H locs hh => ?_)
                    refine lv_pop hx hb dL_build_365 rfl ?_
                    cases hF
                    exact W.widen (by omega) (by omega) (kE ab H locs ls hh (lv_sub hl [0, 1, 2, 3, 4, 5, 6, 7] rfl))
                obtain ⟨w269, hz270, hF⟩ := am_bind hF
                refine hsg344 (((r199 >>> ((3 : Int32) &&& 31)) &&& (7 : Int32)) - ((r199 >>> ((3 : Int32) &&& 31)) &&& (7 : Int32)) / c195 * c195) ((r199 &&& (7 : Int32)) - (r199 &&& (7 : Int32)) / c195 * c195) w259 ab H locs ls w269 hz270 hh hl (fun ab H locs ls hh hl => ?_)
                have hsg366 : ∀ (c272 : Int32) (c273 : Int32) (w271 : Wd) (ab : Nat) (H : Heap) (locs : List Loc) (ls : Array Slot) (z : Wd), s_L_build_366 r199 c272 w271 = some z → AH G s.heap w271 ab H locs → lv_has ls 8 [(7, .int c272), (6, .int c273), (5, .int r199), (4, .int y194), (3, .int c195), (2, .int r1), (1, .ref (gAd G 0)), (0, .ref b)] → (∀ (ab : Nat) (H : Heap) (locs : List Loc) (ls : Array Slot), AH G s.heap z ab H locs → lv_has ls 8 [(7, .int c272), (6, .int c273), (5, .int r199), (4, .int y194), (3, .int c195), (2, .int r1), (1, .ref (gAd G 0)), (0, .ref b)] → W p l e ({ frames := 11, cells := 750, slots := 6572, locals := 216 } : Room) s m args below meth c H locs (((((((((204 + 39 * j) + 3) + 6) + 3) + 3) + 3) + 3) + 3) + 3) (((((((((3296 + 234 * j) + 18) + 36) + 18) + 18) + 18) + 18) + 18) + 18) (MQ below (bdQ G w1) args s 750 6572 (gA G)) (F0 m 387 ls [])) → W p l e ({ frames := 11, cells := 750, slots := 6572, locals := 216 } : Room) s m args below meth c H locs ((((((((204 + 39 * j) + 3) + 6) + 3) + 3) + 3) + 3) + 3) ((((((((3296 + 234 * j) + 18) + 36) + 18) + 18) + 18) + 18) + 18) (MQ below (bdQ G w1) args s 750 6572 (gA G)) (F0 m 366 ls []) := by
                  intro c272 c273 w271 ab H locs ls z hF hh hl kE
                  unfold s_L_build_366 at hF
                  refine lv_iload hx hb dL_build_366 (lv_at hl 2 rfl) ?_
                  refine lv_bipush (v := (18 : Int32)) hx hb dL_build_368 (by decide) ?_
                  refine lv_ishr hx hb dL_build_370 ?_
                  refine lv_bipush (v := (7 : Int32)) hx hb dL_build_371 (by decide) ?_
                  refine lv_iand hx hb dL_build_373 ?_
                  refine lv_if_ne (tgt := 387) hx hb dL_build_374 (by decide) (fun hc274 => ?_) (fun hc274 => ?_)
                  · have hF := am_neg hc274 hF
                    cases hF
                    exact W.widen (by omega) (by omega) (kE ab H locs ls hh (lv_sub hl [0, 1, 2, 3, 4, 5, 6, 7] rfl))
                  · have hF := am_pos hc274 hF
                    refine lv_aload_n hx hb dL_build_377 rfl (lv_at hl 6 rfl) ?_
                    refine lv_bipush (v := (9 : Int32)) hx hb dL_build_378 (by decide) ?_
                    refine lv_iload hx hb dL_build_380 (lv_at hl 0 rfl) ?_
                    refine lv_iconst (v := (1 : Int32)) hx hb dL_build_382 (by decide) ?_
                    obtain ⟨⟨r276, w277⟩, hk275, hF⟩ := am_bind hF
                    have hF := am_u2 hF
                    refine am_callW X hh (vx_runSX (As := [.ref (gAd G 0), .int (9 : Int32), .int c272, .int (1 : Int32)]) (rest := []) X.1 (c_L_act l G hst hk275) (vx_cwSW 4 hts gL_build_L_act rfl rfl rfl (by decide +kernel) ⟨Nat.le_of_ble_eq_true rfl, Nat.le_of_ble_eq_true rfl⟩) (am_preS X hh) rfl rfl hl.1 rfl (lv_room (Nat.le_of_ble_eq_true rfl)) dL_build_383 ⟨by show ((((((((204 + 39 * j) + 3) + 6) + 3) + 3) + 3) + 3) + 3) + 3 ≤ 750; omega, by show ((((((((3296 + 234 * j) + 18) + 36) + 18) + 18) + 18) + 18) + 18) + 18 ≤ 6572; omega⟩) (fun ab H locs hh => ?_)
                    refine lv_pop hx hb dL_build_386 rfl ?_
                    cases hF
                    exact W.widen (by omega) (by omega) (kE ab H locs ls hh (lv_sub hl [0, 1, 2, 3, 4, 5, 6, 7] rfl))
                obtain ⟨w279, hz280, hF⟩ := am_bind hF
                refine hsg366 (((r199 >>> ((3 : Int32) &&& 31)) &&& (7 : Int32)) - ((r199 >>> ((3 : Int32) &&& 31)) &&& (7 : Int32)) / c195 * c195) ((r199 &&& (7 : Int32)) - (r199 &&& (7 : Int32)) / c195 * c195) w269 ab H locs ls w279 hz280 hh hl (fun ab H locs ls hh hl => ?_)
                have hsg387 : ∀ (c282 : Int32) (c283 : Int32) (w281 : Wd) (ab : Nat) (H : Heap) (locs : List Loc) (ls : Array Slot) (z : Wd), s_L_build_387 r199 c282 w281 = some z → AH G s.heap w281 ab H locs → lv_has ls 8 [(7, .int c282), (6, .int c283), (5, .int r199), (4, .int y194), (3, .int c195), (2, .int r1), (1, .ref (gAd G 0)), (0, .ref b)] → (∀ (ab : Nat) (H : Heap) (locs : List Loc) (ls : Array Slot), AH G s.heap z ab H locs → lv_has ls 8 [(7, .int c282), (6, .int c283), (5, .int r199), (4, .int y194), (3, .int c195), (2, .int r1), (1, .ref (gAd G 0)), (0, .ref b)] → W p l e ({ frames := 11, cells := 750, slots := 6572, locals := 216 } : Room) s m args below meth c H locs ((((((((((204 + 39 * j) + 3) + 6) + 3) + 3) + 3) + 3) + 3) + 3) + 3) ((((((((((3296 + 234 * j) + 18) + 36) + 18) + 18) + 18) + 18) + 18) + 18) + 18) (MQ below (bdQ G w1) args s 750 6572 (gA G)) (F0 m 409 ls [])) → W p l e ({ frames := 11, cells := 750, slots := 6572, locals := 216 } : Room) s m args below meth c H locs (((((((((204 + 39 * j) + 3) + 6) + 3) + 3) + 3) + 3) + 3) + 3) (((((((((3296 + 234 * j) + 18) + 36) + 18) + 18) + 18) + 18) + 18) + 18) (MQ below (bdQ G w1) args s 750 6572 (gA G)) (F0 m 387 ls []) := by
                  intro c282 c283 w281 ab H locs ls z hF hh hl kE
                  unfold s_L_build_387 at hF
                  refine lv_iload hx hb dL_build_387 (lv_at hl 2 rfl) ?_
                  refine lv_bipush (v := (18 : Int32)) hx hb dL_build_389 (by decide) ?_
                  refine lv_ishr hx hb dL_build_391 ?_
                  refine lv_bipush (v := (7 : Int32)) hx hb dL_build_392 (by decide) ?_
                  refine lv_iand hx hb dL_build_394 ?_
                  refine lv_iconst (v := (4 : Int32)) hx hb dL_build_395 (by decide) ?_
                  refine lv_icmp_ne (tgt := 409) hx hb dL_build_396 (by decide) (fun hc284 => ?_) (fun hc284 => ?_)
                  · have hF := am_neg hc284 hF
                    cases hF
                    exact W.widen (by omega) (by omega) (kE ab H locs ls hh (lv_sub hl [0, 1, 2, 3, 4, 5, 6, 7] rfl))
                  · have hF := am_pos hc284 hF
                    refine lv_aload_n hx hb dL_build_399 rfl (lv_at hl 6 rfl) ?_
                    refine lv_bipush (v := (9 : Int32)) hx hb dL_build_400 (by decide) ?_
                    refine lv_iload hx hb dL_build_402 (lv_at hl 0 rfl) ?_
                    refine lv_iconst (v := (0 : Int32)) hx hb dL_build_404 (by decide) ?_
                    obtain ⟨⟨r286, w287⟩, hk285, hF⟩ := am_bind hF
                    have hF := am_u2 hF
                    refine am_callW X hh (vx_runSX (As := [.ref (gAd G 0), .int (9 : Int32), .int c282, .int (0 : Int32)]) (rest := []) X.1 (c_L_act l G hst hk285) (vx_cwSW 4 hts gL_build_L_act rfl rfl rfl (by decide +kernel) ⟨Nat.le_of_ble_eq_true rfl, Nat.le_of_ble_eq_true rfl⟩) (am_preS X hh) rfl rfl hl.1 rfl (lv_room (Nat.le_of_ble_eq_true rfl)) dL_build_405 ⟨by show (((((((((204 + 39 * j) + 3) + 6) + 3) + 3) + 3) + 3) + 3) + 3) + 3 ≤ 750; omega, by show (((((((((3296 + 234 * j) + 18) + 36) + 18) + 18) + 18) + 18) + 18) + 18) + 18 ≤ 6572; omega⟩) (fun ab H locs hh => ?_)
                    refine lv_pop hx hb dL_build_408 rfl ?_
                    cases hF
                    exact W.widen (by omega) (by omega) (kE ab H locs ls hh (lv_sub hl [0, 1, 2, 3, 4, 5, 6, 7] rfl))
                obtain ⟨w289, hz290, hF⟩ := am_bind hF
                refine hsg387 (((r199 >>> ((3 : Int32) &&& 31)) &&& (7 : Int32)) - ((r199 >>> ((3 : Int32) &&& 31)) &&& (7 : Int32)) / c195 * c195) ((r199 &&& (7 : Int32)) - (r199 &&& (7 : Int32)) / c195 * c195) w279 ab H locs ls w289 hz290 hh hl (fun ab H locs ls hh hl => ?_)
                have hsg409 : ∀ (c292 : Int32) (c293 : Int32) (w291 : Wd) (ab : Nat) (H : Heap) (locs : List Loc) (ls : Array Slot) (z : Wd), s_L_build_409 r199 c292 w291 = some z → AH G s.heap w291 ab H locs → lv_has ls 8 [(7, .int c292), (6, .int c293), (5, .int r199), (4, .int y194), (3, .int c195), (2, .int r1), (1, .ref (gAd G 0)), (0, .ref b)] → (∀ (ab : Nat) (H : Heap) (locs : List Loc) (ls : Array Slot), AH G s.heap z ab H locs → lv_has ls 8 [(7, .int c292), (6, .int c293), (5, .int r199), (4, .int y194), (3, .int c195), (2, .int r1), (1, .ref (gAd G 0)), (0, .ref b)] → W p l e ({ frames := 11, cells := 750, slots := 6572, locals := 216 } : Room) s m args below meth c H locs (((((((((((204 + 39 * j) + 3) + 6) + 3) + 3) + 3) + 3) + 3) + 3) + 3) + 3) (((((((((((3296 + 234 * j) + 18) + 36) + 18) + 18) + 18) + 18) + 18) + 18) + 18) + 18) (MQ below (bdQ G w1) args s 750 6572 (gA G)) (F0 m 431 ls [])) → W p l e ({ frames := 11, cells := 750, slots := 6572, locals := 216 } : Room) s m args below meth c H locs ((((((((((204 + 39 * j) + 3) + 6) + 3) + 3) + 3) + 3) + 3) + 3) + 3) ((((((((((3296 + 234 * j) + 18) + 36) + 18) + 18) + 18) + 18) + 18) + 18) + 18) (MQ below (bdQ G w1) args s 750 6572 (gA G)) (F0 m 409 ls []) := by
                  intro c292 c293 w291 ab H locs ls z hF hh hl kE
                  unfold s_L_build_409 at hF
                  refine lv_iload hx hb dL_build_409 (lv_at hl 2 rfl) ?_
                  refine lv_bipush (v := (18 : Int32)) hx hb dL_build_411 (by decide) ?_
                  refine lv_ishr hx hb dL_build_413 ?_
                  refine lv_bipush (v := (7 : Int32)) hx hb dL_build_414 (by decide) ?_
                  refine lv_iand hx hb dL_build_416 ?_
                  refine lv_iconst (v := (1 : Int32)) hx hb dL_build_417 (by decide) ?_
                  refine lv_icmp_ne (tgt := 431) hx hb dL_build_418 (by decide) (fun hc294 => ?_) (fun hc294 => ?_)
                  · have hF := am_neg hc294 hF
                    cases hF
                    exact W.widen (by omega) (by omega) (kE ab H locs ls hh (lv_sub hl [0, 1, 2, 3, 4, 5, 6, 7] rfl))
                  · have hF := am_pos hc294 hF
                    refine lv_aload_n hx hb dL_build_421 rfl (lv_at hl 6 rfl) ?_
                    refine lv_bipush (v := (10 : Int32)) hx hb dL_build_422 (by decide) ?_
                    refine lv_iload hx hb dL_build_424 (lv_at hl 0 rfl) ?_
                    refine lv_iconst (v := (0 : Int32)) hx hb dL_build_426 (by decide) ?_
                    obtain ⟨⟨r296, w297⟩, hk295, hF⟩ := am_bind hF
                    have hF := am_u2 hF
                    refine am_callW X hh (vx_runSX (As := [.ref (gAd G 0), .int (10 : Int32), .int c292, .int (0 : Int32)]) (rest := []) X.1 (c_L_act l G hst hk295) (vx_cwSW 4 hts gL_build_L_act rfl rfl rfl (by decide +kernel) ⟨Nat.le_of_ble_eq_true rfl, Nat.le_of_ble_eq_true rfl⟩) (am_preS X hh) rfl rfl hl.1 rfl (lv_room (Nat.le_of_ble_eq_true rfl)) dL_build_427 ⟨by show ((((((((((204 + 39 * j) + 3) + 6) + 3) + 3) + 3) + 3) + 3) + 3) + 3) + 3 ≤ 750; omega, by show ((((((((((3296 + 234 * j) + 18) + 36) + 18) + 18) + 18) + 18) + 18) + 18) + 18) + 18 ≤ 6572; omega⟩) (fun ab H locs hh => ?_)
                    refine lv_pop hx hb dL_build_430 rfl ?_
                    cases hF
                    exact W.widen (by omega) (by omega) (kE ab H locs ls hh (lv_sub hl [0, 1, 2, 3, 4, 5, 6, 7] rfl))
                obtain ⟨w299, hz300, hF⟩ := am_bind hF
                refine hsg409 (((r199 >>> ((3 : Int32) &&& 31)) &&& (7 : Int32)) - ((r199 >>> ((3 : Int32) &&& 31)) &&& (7 : Int32)) / c195 * c195) ((r199 &&& (7 : Int32)) - (r199 &&& (7 : Int32)) / c195 * c195) w289 ab H locs ls w299 hz300 hh hl (fun ab H locs ls hh hl => ?_)
                have hsg431 : ∀ (c302 : Int32) (c303 : Int32) (w301 : Wd) (ab : Nat) (H : Heap) (locs : List Loc) (ls : Array Slot) (z : Wd), s_L_build_431 r199 w301 = some z → AH G s.heap w301 ab H locs → lv_has ls 8 [(7, .int c302), (6, .int c303), (5, .int r199), (4, .int y194), (3, .int c195), (2, .int r1), (1, .ref (gAd G 0)), (0, .ref b)] → (∀ (ab : Nat) (H : Heap) (locs : List Loc) (ls : Array Slot), AH G s.heap z ab H locs → lv_has ls 8 [(7, .int c302), (6, .int c303), (5, .int r199), (4, .int y194), (3, .int c195), (2, .int r1), (1, .ref (gAd G 0)), (0, .ref b)] → W p l e ({ frames := 11, cells := 750, slots := 6572, locals := 216 } : Room) s m args below meth c H locs ((((((((((((204 + 39 * j) + 3) + 6) + 3) + 3) + 3) + 3) + 3) + 3) + 3) + 3) + 3) ((((((((((((3296 + 234 * j) + 18) + 36) + 18) + 18) + 18) + 18) + 18) + 18) + 18) + 18) + 18) (MQ below (bdQ G w1) args s 750 6572 (gA G)) (F0 m 461 ls [])) → W p l e ({ frames := 11, cells := 750, slots := 6572, locals := 216 } : Room) s m args below meth c H locs (((((((((((204 + 39 * j) + 3) + 6) + 3) + 3) + 3) + 3) + 3) + 3) + 3) + 3) (((((((((((3296 + 234 * j) + 18) + 36) + 18) + 18) + 18) + 18) + 18) + 18) + 18) + 18) (MQ below (bdQ G w1) args s 750 6572 (gA G)) (F0 m 431 ls []) := by
                  intro c302 c303 w301 ab H locs ls z hF hh hl kE
                  unfold s_L_build_431 at hF
                  refine lv_iload hx hb dL_build_431 (lv_at hl 2 rfl) ?_
                  refine lv_bipush (v := (18 : Int32)) hx hb dL_build_433 (by decide) ?_
                  refine lv_ishr hx hb dL_build_435 ?_
                  refine lv_bipush (v := (7 : Int32)) hx hb dL_build_436 (by decide) ?_
                  refine lv_iand hx hb dL_build_438 ?_
                  refine lv_iconst (v := (2 : Int32)) hx hb dL_build_439 (by decide) ?_
                  refine lv_icmp_ne (tgt := 461) hx hb dL_build_440 (by decide) (fun hc304 => ?_) (fun hc304 => ?_)
                  · have hF := am_neg hc304 hF
                    cases hF
                    exact W.widen (by omega) (by omega) (kE ab H locs ls hh (lv_sub hl [0, 1, 2, 3, 4, 5, 6, 7] rfl))
                  · have hF := am_pos hc304 hF
                    refine lv_aload_n hx hb dL_build_443 rfl (lv_at hl 6 rfl) ?_
                    refine lv_bipush (v := (11 : Int32)) hx hb dL_build_444 (by decide) ?_
                    refine lv_iconst (v := (1 : Int32)) hx hb dL_build_446 (by decide) ?_
                    refine lv_iload hx hb dL_build_447 (lv_at hl 2 rfl) ?_
                    refine lv_bipush (v := (21 : Int32)) hx hb dL_build_449 (by decide) ?_
                    refine lv_ishr hx hb dL_build_451 ?_
                    refine lv_bipush (v := (15 : Int32)) hx hb dL_build_452 (by decide) ?_
                    refine lv_iand hx hb dL_build_454 ?_
                    refine lv_iadd hx hb dL_build_455 ?_
                    refine lv_iconst (v := (0 : Int32)) hx hb dL_build_456 (by decide) ?_
                    obtain ⟨⟨r306, w307⟩, hk305, hF⟩ := am_bind hF
                    have hF := am_u2 hF
                    refine am_callW X hh (vx_runSX (As := [.ref (gAd G 0), .int (11 : Int32), .int ((1 : Int32) + ((r199 >>> ((21 : Int32) &&& 31)) &&& (15 : Int32))), .int (0 : Int32)]) (rest := []) X.1 (c_L_act l G hst hk305) (vx_cwSW 4 hts gL_build_L_act rfl rfl rfl (by decide +kernel) ⟨Nat.le_of_ble_eq_true rfl, Nat.le_of_ble_eq_true rfl⟩) (am_preS X hh) rfl rfl hl.1 rfl (lv_room (Nat.le_of_ble_eq_true rfl)) dL_build_457 ⟨by show (((((((((((204 + 39 * j) + 3) + 6) + 3) + 3) + 3) + 3) + 3) + 3) + 3) + 3) + 3 ≤ 750; omega, by show (((((((((((3296 + 234 * j) + 18) + 36) + 18) + 18) + 18) + 18) + 18) + 18) + 18) + 18) + 18 ≤ 6572; omega⟩) (fun ab H locs hh => ?_)
                    refine lv_pop hx hb dL_build_460 rfl ?_
                    cases hF
                    exact W.widen (by omega) (by omega) (kE ab H locs ls hh (lv_sub hl [0, 1, 2, 3, 4, 5, 6, 7] rfl))
                obtain ⟨w309, hz310, hF⟩ := am_bind hF
                refine hsg431 (((r199 >>> ((3 : Int32) &&& 31)) &&& (7 : Int32)) - ((r199 >>> ((3 : Int32) &&& 31)) &&& (7 : Int32)) / c195 * c195) ((r199 &&& (7 : Int32)) - (r199 &&& (7 : Int32)) / c195 * c195) w299 ab H locs ls w309 hz310 hh hl (fun ab H locs ls hh hl => ?_)
                have hsg461 : ∀ (c312 : Int32) (c313 : Int32) (w311 : Wd) (ab : Nat) (H : Heap) (locs : List Loc) (ls : Array Slot) (z : Wd), s_L_build_461 r199 w311 = some z → AH G s.heap w311 ab H locs → lv_has ls 8 [(7, .int c312), (6, .int c313), (5, .int r199), (4, .int y194), (3, .int c195), (2, .int r1), (1, .ref (gAd G 0)), (0, .ref b)] → (∀ (ab : Nat) (H : Heap) (locs : List Loc) (ls : Array Slot), AH G s.heap z ab H locs → lv_has ls 8 [(7, .int c312), (6, .int c313), (5, .int r199), (4, .int y194), (3, .int c195), (2, .int r1), (1, .ref (gAd G 0)), (0, .ref b)] → W p l e ({ frames := 11, cells := 750, slots := 6572, locals := 216 } : Room) s m args below meth c H locs (((((((((((((204 + 39 * j) + 3) + 6) + 3) + 3) + 3) + 3) + 3) + 3) + 3) + 3) + 3) + 3) (((((((((((((3296 + 234 * j) + 18) + 36) + 18) + 18) + 18) + 18) + 18) + 18) + 18) + 18) + 18) + 18) (MQ below (bdQ G w1) args s 750 6572 (gA G)) (F0 m 495 ls [])) → W p l e ({ frames := 11, cells := 750, slots := 6572, locals := 216 } : Room) s m args below meth c H locs ((((((((((((204 + 39 * j) + 3) + 6) + 3) + 3) + 3) + 3) + 3) + 3) + 3) + 3) + 3) ((((((((((((3296 + 234 * j) + 18) + 36) + 18) + 18) + 18) + 18) + 18) + 18) + 18) + 18) + 18) (MQ below (bdQ G w1) args s 750 6572 (gA G)) (F0 m 461 ls []) := by
                  intro c312 c313 w311 ab H locs ls z hF hh hl kE
                  unfold s_L_build_461 at hF
                  refine lv_iload hx hb dL_build_461 (lv_at hl 2 rfl) ?_
                  refine lv_bipush (v := (18 : Int32)) hx hb dL_build_463 (by decide) ?_
                  refine lv_ishr hx hb dL_build_465 ?_
                  refine lv_bipush (v := (7 : Int32)) hx hb dL_build_466 (by decide) ?_
                  refine lv_iand hx hb dL_build_468 ?_
                  refine lv_iconst (v := (3 : Int32)) hx hb dL_build_469 (by decide) ?_
                  refine lv_icmp_ne (tgt := 495) hx hb dL_build_470 (by decide) (fun hc314 => ?_) (fun hc314 => ?_)
                  · have hF := am_neg hc314 hF
                    cases hF
                    exact W.widen (by omega) (by omega) (kE ab H locs ls hh (lv_sub hl [0, 1, 2, 3, 4, 5, 6, 7] rfl))
                  · have hF := am_pos hc314 hF
                    refine lv_aload_n hx hb dL_build_473 rfl (lv_at hl 6 rfl) ?_
                    refine lv_iconst (v := (0 : Int32)) hx hb dL_build_474 (by decide) ?_
                    refine va_gets hx hb X.2.2.1.1.2.2.2.2.2.2.2.2.2.2.1 hh.2.2 hown (hts _ (show Cond.fieldLink RL 30 "PlanetWorkshopLaw" "TEETH" "[I"  ∈ wsL_buildQ by decide +kernel)) (fun _ h9 => h9) dL_build_475 ?_
                    refine lv_iload hx hb dL_build_478 (lv_at hl 2 rfl) ?_
                    refine lv_bipush (v := (21 : Int32)) hx hb dL_build_480 (by decide) ?_
                    refine lv_ishr hx hb dL_build_482 ?_
                    refine lv_bipush (v := (15 : Int32)) hx hb dL_build_483 (by decide) ?_
                    refine lv_iand hx hb dL_build_485 ?_
                    refine lv_bipush (v := (10 : Int32)) hx hb dL_build_486 (by decide) ?_
                    obtain ⟨hq315, hF⟩ := am_if hF
                    refine lv_irem hx hb dL_build_488 hq315 ?_
                    obtain ⟨hq316, hF⟩ := am_ifR hF
                    refine va_ti hx hb X.2.2.1.1.2.2.2.2.2.2.2.2.2.2.2 hh.2.2 hq316 rfl dL_build_489 ?_
                    refine lv_iconst (v := (0 : Int32)) hx hb dL_build_490 (by decide) ?_
                    obtain ⟨⟨r318, w319⟩, hk317, hF⟩ := am_bind hF
                    have hF := am_u2 hF
                    refine am_callW X hh (vx_runSX (As := [.ref (gAd G 0), .int (0 : Int32), .int (cTeeth.getD ((((r199 >>> ((21 : Int32) &&& 31)) &&& (15 : Int32)) - ((r199 >>> ((21 : Int32) &&& 31)) &&& (15 : Int32)) / (10 : Int32) * (10 : Int32))).toNatClampNeg 0), .int (0 : Int32)]) (rest := []) X.1 (c_L_act l G hst hk317) (vx_cwSW 4 hts gL_build_L_act rfl rfl rfl (by decide +kernel) ⟨Nat.le_of_ble_eq_true rfl, Nat.le_of_ble_eq_true rfl⟩) (am_preS X hh) rfl rfl hl.1 rfl (lv_room (Nat.le_of_ble_eq_true rfl)) dL_build_491 ⟨by show ((((((((((((204 + 39 * j) + 3) + 6) + 3) + 3) + 3) + 3) + 3) + 3) + 3) + 3) + 3) + 3 ≤ 750; omega, by show ((((((((((((3296 + 234 * j) + 18) + 36) + 18) + 18) + 18) + 18) + 18) + 18) + 18) + 18) + 18) + 18 ≤ 6572; omega⟩) (fun ab H locs hh => ?_)
                    refine lv_pop hx hb dL_build_494 rfl ?_
                    cases hF
                    exact W.widen (by omega) (by omega) (kE ab H locs ls hh (lv_sub hl [0, 1, 2, 3, 4, 5, 6, 7] rfl))
                obtain ⟨w321, hz322, hF⟩ := am_bind hF
                refine hsg461 (((r199 >>> ((3 : Int32) &&& 31)) &&& (7 : Int32)) - ((r199 >>> ((3 : Int32) &&& 31)) &&& (7 : Int32)) / c195 * c195) ((r199 &&& (7 : Int32)) - (r199 &&& (7 : Int32)) / c195 * c195) w309 ab H locs ls w321 hz322 hh hl (fun ab H locs ls hh hl => ?_)
                refine lv_iinc (v := (y194 + (1 : Int32))) (lv' := [(4, .int (y194 + (1 : Int32))), (7, .int (((r199 >>> ((3 : Int32) &&& 31)) &&& (7 : Int32)) - ((r199 >>> ((3 : Int32) &&& 31)) &&& (7 : Int32)) / c195 * c195)), (6, .int ((r199 &&& (7 : Int32)) - (r199 &&& (7 : Int32)) / c195 * c195)), (5, .int r199), (3, .int c195), (2, .int r1), (1, .ref (gAd G 0)), (0, .ref b)]) hx hb dL_build_495 hl (k := 3) rfl rfl (by decide) rfl (fun ls hl => ?_)
                refine lv_goto (tgt := 160) hx hb dL_build_498 (by decide) ?_
                exact W.widen (by omega) (by omega) (ih (j + 1) (y194 + (1 : Int32)) w321 ab H locs ls _ (by omega) hF hh (lv_sub hl [0, 4, 5, 6, 7] rfl) kE)
          obtain ⟨z323, hz324, hF⟩ := am_bind hF
          refine W.widen (show 204 ≤ 204 + 39 * 0 by omega) (show 3296 ≤ 3296 + 234 * 0 by omega) (hlp160 ((4 : Int32) + (r1 &&& (3 : Int32))) 14 0 (1 : Int32) w184 ab H locs ls z323 (Nat.le_refl _) hz324 hh (lv_sub hl [0, 1, 2, 3, 4] rfl) (fun y194 w196 ab H locs ls hz hh hl => ?_))
          · subst hz
            have hF := am_zl hF
            have hF := am_u2 hF
            refine lv_aload_n hx hb dL_build_501 rfl (lv_at hl 3 rfl) ?_
            exact am_aret X hr (Or.inl ⟨_, rfl⟩) (Or.inr ⟨_, rfl⟩) hh (fun t ht => am_bq hF ht) (Nat.le_of_ble_eq_true rfl) (Nat.le_of_ble_eq_true rfl) dL_build_502
