set_option maxHeartbeats 4000000 in
set_option maxRecDepth 100000 in
theorem law_turn (l : Launch) (hst : l.stackTraces = false) {G : GG} {p : Program} {e : Env} {s : State} {m : MethodId} {args : Array Value} {below : List Frame} {meth : Method} {c : Code} {b L : Nat} {xs : Nat → Int32} {Q : State → Prop} {cells slots ab : Nat} {H : Heap} {locs : List Loc} {ls : Array Slot} {w w1 : Wd} {i y x1 x2 x3 : Int32} (X : CX G p s m args meth c cL_law 9 RL wsL_law) (hX : va_X b L xs s s.heap) (hbl : b < s.heap.size) (hbA : ¬ gA G b) (hh : AH G s.heap w ab H locs) (h1 : vp_in (i + 1) L ∧ xs (i + 1).toNatClampNeg = x1) (h2 : vp_in (i + 2) L ∧ xs (i + 2).toNatClampNeg = x2) (h3 : vp_in (i + 3) L ∧ xs (i + 3).toNatClampNeg = x3) (hc : cells + 35 ≤ 603072) (hs : slots + 2182 ≤ 7194730) (hl : lv_has ls 9 [(0, .ref b), (1, .ref (gAd G 0)), (2, .ref (gAd G 141)), (3, .ref (gAd G 151)), (4, .ref (gAd G 152)), (5, .int i)]) (hF : f_turn w y x1 x2 x3 = some w1) (kk : ∀ (ab : Nat) (H : Heap) (locs : List Loc) (ls : Array Slot), AH G s.heap w1 ab H locs → lv_has ls 9 [(0, .ref b), (1, .ref (gAd G 0)), (2, .ref (gAd G 141)), (3, .ref (gAd G 151)), (4, .ref (gAd G 152)), (5, .int i)] → W p l e room_1 s m args below meth c H locs (cells + 35) (slots + 2182) Q (F0 m 3310 ls [])) : W p l e room_1 s m args below meth c H locs cells slots Q (F0 m 44 ls [.int y]) := by
  have hx := X.1.1; have hb := X.1.2.1
  unfold f_turn at hF
  by_cases hs0 : y = (0 : Int32)
  · have hF := am_pos hs0 hF
    refine am_tableIn (k := 0) (tgt := 288) hx hb dL_law_44 hs0 (by decide) rfl (by decide) ?_
    exact c_law_288 l hst X hX hbl hbA hh h1 h2 h3 hc hs hl hF kk
  have hF := am_neg hs0 hF
  by_cases hs1 : y = (1 : Int32)
  · have hF := am_pos hs1 hF
    refine am_tableIn (k := 1) (tgt := 344) hx hb dL_law_44 hs1 (by decide) rfl (by decide) ?_
    exact c_law_344 l hst X hX hbl hbA hh h1 h2 h3 hc hs hl hF kk
  have hF := am_neg hs1 hF
  by_cases hs2 : y = (2 : Int32)
  · have hF := am_pos hs2 hF
    refine am_tableIn (k := 2) (tgt := 412) hx hb dL_law_44 hs2 (by decide) rfl (by decide) ?_
    exact c_law_412 l hst X hX hbl hbA hh h1 h2 h3 hc hs hl hF kk
  have hF := am_neg hs2 hF
  by_cases hs3 : y = (3 : Int32)
  · have hF := am_pos hs3 hF
    refine am_tableIn (k := 3) (tgt := 480) hx hb dL_law_44 hs3 (by decide) rfl (by decide) ?_
    exact c_law_480 l hst X hX hbl hbA hh h1 h2 h3 hc hs hl hF kk
  have hF := am_neg hs3 hF
  by_cases hs4 : y = (4 : Int32)
  · have hF := am_pos hs4 hF
    refine am_tableIn (k := 4) (tgt := 548) hx hb dL_law_44 hs4 (by decide) rfl (by decide) ?_
    exact c_law_548 l hst X hX hbl hbA hh h1 h2 h3 hc hs hl hF kk
  have hF := am_neg hs4 hF
  by_cases hs5 : y = (5 : Int32)
  · have hF := am_pos hs5 hF
    refine am_tableIn (k := 5) (tgt := 616) hx hb dL_law_44 hs5 (by decide) rfl (by decide) ?_
    exact c_law_616 l hst X hX hbl hbA hh h1 h2 h3 hc hs hl hF kk
  have hF := am_neg hs5 hF
  by_cases hs6 : y = (6 : Int32)
  · have hF := am_pos hs6 hF
    refine am_tableIn (k := 6) (tgt := 684) hx hb dL_law_44 hs6 (by decide) rfl (by decide) ?_
    exact c_law_684 l hst X hX hbl hbA hh h1 h2 h3 hc hs hl hF kk
  have hF := am_neg hs6 hF
  by_cases hs7 : y = (7 : Int32)
  · have hF := am_pos hs7 hF
    refine am_tableIn (k := 7) (tgt := 747) hx hb dL_law_44 hs7 (by decide) rfl (by decide) ?_
    exact c_law_747 l hst X hX hbl hbA hh h1 h2 h3 hc hs hl hF kk
  have hF := am_neg hs7 hF
  by_cases hs8 : y = (8 : Int32)
  · have hF := am_pos hs8 hF
    refine am_tableIn (k := 8) (tgt := 815) hx hb dL_law_44 hs8 (by decide) rfl (by decide) ?_
    exact c_law_815 l hst X hX hbl hbA hh h1 h2 h3 hc hs hl hF kk
  have hF := am_neg hs8 hF
  by_cases hs9 : y = (9 : Int32)
  · have hF := am_pos hs9 hF
    refine am_tableIn (k := 9) (tgt := 906) hx hb dL_law_44 hs9 (by decide) rfl (by decide) ?_
    exact c_law_906 l hst X hX hbl hbA hh h1 h2 h3 hc hs hl hF kk
  have hF := am_neg hs9 hF
  by_cases hs10 : y = (10 : Int32)
  · have hF := am_pos hs10 hF
    refine am_tableIn (k := 10) (tgt := 962) hx hb dL_law_44 hs10 (by decide) rfl (by decide) ?_
    exact c_law_962 l hst X hX hbl hbA hh h1 h2 h3 hc hs hl hF kk
  have hF := am_neg hs10 hF
  by_cases hs11 : y = (11 : Int32)
  · have hF := am_pos hs11 hF
    refine am_tableIn (k := 11) (tgt := 1018) hx hb dL_law_44 hs11 (by decide) rfl (by decide) ?_
    exact c_law_1018 l hst X hX hbl hbA hh h1 h2 h3 hc hs hl hF kk
  have hF := am_neg hs11 hF
  by_cases hs12 : y = (12 : Int32)
  · have hF := am_pos hs12 hF
    refine am_tableIn (k := 12) (tgt := 1074) hx hb dL_law_44 hs12 (by decide) rfl (by decide) ?_
    exact c_law_1074 l hst X hX hbl hbA hh h1 h2 h3 hc hs hl hF kk
  have hF := am_neg hs12 hF
  by_cases hs13 : y = (13 : Int32)
  · have hF := am_pos hs13 hF
    refine am_tableIn (k := 13) (tgt := 1087) hx hb dL_law_44 hs13 (by decide) rfl (by decide) ?_
    exact c_law_1087 l hst X hX hbl hbA hh h1 h2 h3 hc hs hl hF kk
  have hF := am_neg hs13 hF
  by_cases hs14 : y = (14 : Int32)
  · have hF := am_pos hs14 hF
    refine am_tableIn (k := 14) (tgt := 1143) hx hb dL_law_44 hs14 (by decide) rfl (by decide) ?_
    exact c_law_1143 l hst X hX hbl hbA hh h1 h2 h3 hc hs hl hF kk
  have hF := am_neg hs14 hF
  by_cases hs15 : y = (15 : Int32)
  · have hF := am_pos hs15 hF
    refine am_tableIn (k := 15) (tgt := 1211) hx hb dL_law_44 hs15 (by decide) rfl (by decide) ?_
    exact c_law_1211 l hst X hX hbl hbA hh h1 h2 h3 hc hs hl hF kk
  have hF := am_neg hs15 hF
  by_cases hs16 : y = (16 : Int32)
  · have hF := am_pos hs16 hF
    refine am_tableIn (k := 16) (tgt := 1224) hx hb dL_law_44 hs16 (by decide) rfl (by decide) ?_
    exact c_law_1224 l hst X hX hbl hbA hh h1 h2 h3 hc hs hl hF kk
  have hF := am_neg hs16 hF
  by_cases hs17 : y = (17 : Int32)
  · have hF := am_pos hs17 hF
    refine am_tableIn (k := 17) (tgt := 1280) hx hb dL_law_44 hs17 (by decide) rfl (by decide) ?_
    exact c_law_1280 l hst X hX hbl hbA hh h1 h2 h3 hc hs hl hF kk
  have hF := am_neg hs17 hF
  by_cases hs18 : y = (18 : Int32)
  · have hF := am_pos hs18 hF
    refine am_tableIn (k := 18) (tgt := 1355) hx hb dL_law_44 hs18 (by decide) rfl (by decide) ?_
    exact c_law_1355 l hst X hX hbl hbA hh h1 h2 h3 hc hs hl hF kk
  have hF := am_neg hs18 hF
  by_cases hs19 : y = (19 : Int32)
  · have hF := am_pos hs19 hF
    refine am_tableIn (k := 19) (tgt := 1422) hx hb dL_law_44 hs19 (by decide) rfl (by decide) ?_
    exact c_law_1422 l hst X hX hbl hbA hh h1 h2 h3 hc hs hl hF kk
  have hF := am_neg hs19 hF
  by_cases hs20 : y = (20 : Int32)
  · have hF := am_pos hs20 hF
    refine am_tableIn (k := 20) (tgt := 1489) hx hb dL_law_44 hs20 (by decide) rfl (by decide) ?_
    exact c_law_1489 l hst X hX hbl hbA hh h1 h2 h3 hc hs hl hF kk
  have hF := am_neg hs20 hF
  by_cases hs21 : y = (21 : Int32)
  · have hF := am_pos hs21 hF
    refine am_tableIn (k := 21) (tgt := 1544) hx hb dL_law_44 hs21 (by decide) rfl (by decide) ?_
    exact c_law_1544 l hst X hX hbl hbA hh h1 h2 h3 hc hs hl hF kk
  have hF := am_neg hs21 hF
  by_cases hs22 : y = (22 : Int32)
  · have hF := am_pos hs22 hF
    refine am_tableIn (k := 22) (tgt := 1621) hx hb dL_law_44 hs22 (by decide) rfl (by decide) ?_
    exact c_law_1621 l hst X hX hbl hbA hh h1 h2 h3 hc hs hl hF kk
  have hF := am_neg hs22 hF
  by_cases hs23 : y = (23 : Int32)
  · have hF := am_pos hs23 hF
    refine am_tableIn (k := 23) (tgt := 1677) hx hb dL_law_44 hs23 (by decide) rfl (by decide) ?_
    exact c_law_1677 l hst X hX hbl hbA hh h1 h2 h3 hc hs hl hF kk
  have hF := am_neg hs23 hF
  by_cases hs24 : y = (24 : Int32)
  · have hF := am_pos hs24 hF
    refine am_tableIn (k := 24) (tgt := 1733) hx hb dL_law_44 hs24 (by decide) rfl (by decide) ?_
    exact c_law_1733 l hst X hX hbl hbA hh h1 h2 h3 hc hs hl hF kk
  have hF := am_neg hs24 hF
  by_cases hs25 : y = (25 : Int32)
  · have hF := am_pos hs25 hF
    refine am_tableIn (k := 25) (tgt := 1789) hx hb dL_law_44 hs25 (by decide) rfl (by decide) ?_
    exact c_law_1789 l hst X hX hbl hbA hh h1 h2 h3 hc hs hl hF kk
  have hF := am_neg hs25 hF
  by_cases hs26 : y = (26 : Int32)
  · have hF := am_pos hs26 hF
    refine am_tableIn (k := 26) (tgt := 1845) hx hb dL_law_44 hs26 (by decide) rfl (by decide) ?_
    exact c_law_1845 l hst X hX hbl hbA hh h1 h2 h3 hc hs hl hF kk
  have hF := am_neg hs26 hF
  by_cases hs27 : y = (27 : Int32)
  · have hF := am_pos hs27 hF
    refine am_tableIn (k := 27) (tgt := 1901) hx hb dL_law_44 hs27 (by decide) rfl (by decide) ?_
    exact c_law_1901 l hst X hX hbl hbA hh h1 h2 h3 hc hs hl hF kk
  have hF := am_neg hs27 hF
  by_cases hs28 : y = (28 : Int32)
  · have hF := am_pos hs28 hF
    refine am_tableIn (k := 28) (tgt := 1964) hx hb dL_law_44 hs28 (by decide) rfl (by decide) ?_
    exact c_law_1964 l hst X hX hbl hbA hh h1 h2 h3 hc hs hl hF kk
  have hF := am_neg hs28 hF
  by_cases hs29 : y = (29 : Int32)
  · have hF := am_pos hs29 hF
    refine am_tableIn (k := 29) (tgt := 2027) hx hb dL_law_44 hs29 (by decide) rfl (by decide) ?_
    exact c_law_2027 l hst X hX hbl hbA hh h1 h2 h3 hc hs hl hF kk
  have hF := am_neg hs29 hF
  by_cases hs30 : y = (30 : Int32)
  · have hF := am_pos hs30 hF
    refine am_tableIn (k := 30) (tgt := 2090) hx hb dL_law_44 hs30 (by decide) rfl (by decide) ?_
    exact c_law_2090 l hst X hX hbl hbA hh h1 h2 h3 hc hs hl hF kk
  have hF := am_neg hs30 hF
  by_cases hs31 : y = (31 : Int32)
  · have hF := am_pos hs31 hF
    refine am_tableIn (k := 31) (tgt := 2146) hx hb dL_law_44 hs31 (by decide) rfl (by decide) ?_
    exact c_law_2146 l hst X hX hbl hbA hh h1 h2 h3 hc hs hl hF kk
  have hF := am_neg hs31 hF
  by_cases hs32 : y = (32 : Int32)
  · have hF := am_pos hs32 hF
    refine am_tableIn (k := 32) (tgt := 2159) hx hb dL_law_44 hs32 (by decide) rfl (by decide) ?_
    exact c_law_2159 l hst X hX hbl hbA hh h1 h2 h3 hc hs hl hF kk
  have hF := am_neg hs32 hF
  by_cases hs33 : y = (33 : Int32)
  · have hF := am_pos hs33 hF
    refine am_tableIn (k := 33) (tgt := 2172) hx hb dL_law_44 hs33 (by decide) rfl (by decide) ?_
    exact c_law_2172 l hst X hX hbl hbA hh h1 h2 h3 hc hs hl hF kk
  have hF := am_neg hs33 hF
  by_cases hs34 : y = (34 : Int32)
  · have hF := am_pos hs34 hF
    refine am_tableIn (k := 34) (tgt := 2228) hx hb dL_law_44 hs34 (by decide) rfl (by decide) ?_
    exact c_law_2228 l hst X hX hbl hbA hh h1 h2 h3 hc hs hl hF kk
  have hF := am_neg hs34 hF
  by_cases hs35 : y = (35 : Int32)
  · have hF := am_pos hs35 hF
    refine am_tableIn (k := 35) (tgt := 2303) hx hb dL_law_44 hs35 (by decide) rfl (by decide) ?_
    exact c_law_2303 l hst X hX hbl hbA hh h1 h2 h3 hc hs hl hF kk
  have hF := am_neg hs35 hF
  by_cases hs36 : y = (36 : Int32)
  · have hF := am_pos hs36 hF
    refine am_tableIn (k := 36) (tgt := 2383) hx hb dL_law_44 hs36 (by decide) rfl (by decide) ?_
    exact c_law_2383 l hst X hX hbl hbA hh h1 h2 h3 hc hs hl hF kk
  have hF := am_neg hs36 hF
  by_cases hs37 : y = (37 : Int32)
  · have hF := am_pos hs37 hF
    refine am_tableIn (k := 37) (tgt := 2463) hx hb dL_law_44 hs37 (by decide) rfl (by decide) ?_
    exact c_law_2463 l hst X hX hbl hbA hh h1 h2 h3 hc hs hl hF kk
  have hF := am_neg hs37 hF
  by_cases hs38 : y = (38 : Int32)
  · have hF := am_pos hs38 hF
    refine am_tableIn (k := 38) (tgt := 2519) hx hb dL_law_44 hs38 (by decide) rfl (by decide) ?_
    exact c_law_2519 l hst X hX hbl hbA hh h1 h2 h3 hc hs hl hF kk
  have hF := am_neg hs38 hF
  by_cases hs39 : y = (39 : Int32)
  · have hF := am_pos hs39 hF
    refine am_tableIn (k := 39) (tgt := 2587) hx hb dL_law_44 hs39 (by decide) rfl (by decide) ?_
    exact c_law_2587 l hst X hX hbl hbA hh h1 h2 h3 hc hs hl hF kk
  have hF := am_neg hs39 hF
  by_cases hs40 : y = (40 : Int32)
  · have hF := am_pos hs40 hF
    refine am_tableIn (k := 40) (tgt := 2655) hx hb dL_law_44 hs40 (by decide) rfl (by decide) ?_
    exact c_law_2655 l hst X hX hbl hbA hh h1 h2 h3 hc hs hl hF kk
  have hF := am_neg hs40 hF
  by_cases hs41 : y = (41 : Int32)
  · have hF := am_pos hs41 hF
    refine am_tableIn (k := 41) (tgt := 2668) hx hb dL_law_44 hs41 (by decide) rfl (by decide) ?_
    exact c_law_2668 l hst X hX hbl hbA hh h1 h2 h3 hc hs hl hF kk
  have hF := am_neg hs41 hF
  by_cases hs42 : y = (42 : Int32)
  · have hF := am_pos hs42 hF
    refine am_tableIn (k := 42) (tgt := 2681) hx hb dL_law_44 hs42 (by decide) rfl (by decide) ?_
    exact c_law_2681 l hst X hX hbl hbA hh h1 h2 h3 hc hs hl hF kk
  have hF := am_neg hs42 hF
  by_cases hs43 : y = (43 : Int32)
  · have hF := am_pos hs43 hF
    refine am_tableIn (k := 43) (tgt := 2694) hx hb dL_law_44 hs43 (by decide) rfl (by decide) ?_
    exact c_law_2694 l hst X hX hbl hbA hh h1 h2 h3 hc hs hl hF kk
  have hF := am_neg hs43 hF
  by_cases hs44 : y = (44 : Int32)
  · have hF := am_pos hs44 hF
    refine am_tableIn (k := 44) (tgt := 2707) hx hb dL_law_44 hs44 (by decide) rfl (by decide) ?_
    exact c_law_2707 l hst X hX hbl hbA hh h1 h2 h3 hc hs hl hF kk
  have hF := am_neg hs44 hF
  by_cases hs45 : y = (45 : Int32)
  · have hF := am_pos hs45 hF
    refine am_tableIn (k := 45) (tgt := 2772) hx hb dL_law_44 hs45 (by decide) rfl (by decide) ?_
    exact c_law_2772 l hst X hX hbl hbA hh h1 h2 h3 hc hs hl hF kk
  have hF := am_neg hs45 hF
  by_cases hs46 : y = (46 : Int32)
  · have hF := am_pos hs46 hF
    refine am_tableIn (k := 46) (tgt := 2838) hx hb dL_law_44 hs46 (by decide) rfl (by decide) ?_
    exact c_law_2838 l hst X hX hbl hbA hh h1 h2 h3 hc hs hl hF kk
  have hF := am_neg hs46 hF
  by_cases hs47 : y = (47 : Int32)
  · have hF := am_pos hs47 hF
    refine am_tableIn (k := 47) (tgt := 2851) hx hb dL_law_44 hs47 (by decide) rfl (by decide) ?_
    exact c_law_2851 l hst X hX hbl hbA hh h1 h2 h3 hc hs hl hF kk
  have hF := am_neg hs47 hF
  by_cases hs48 : y = (48 : Int32)
  · have hF := am_pos hs48 hF
    refine am_tableIn (k := 48) (tgt := 2907) hx hb dL_law_44 hs48 (by decide) rfl (by decide) ?_
    exact c_law_2907 l hst X hX hbl hbA hh h1 h2 h3 hc hs hl hF kk
  have hF := am_neg hs48 hF
  by_cases hs49 : y = (49 : Int32)
  · have hF := am_pos hs49 hF
    refine am_tableIn (k := 49) (tgt := 2963) hx hb dL_law_44 hs49 (by decide) rfl (by decide) ?_
    exact c_law_2963 l hst X hX hbl hbA hh h1 h2 h3 hc hs hl hF kk
  have hF := am_neg hs49 hF
  by_cases hs50 : y = (50 : Int32)
  · have hF := am_pos hs50 hF
    refine am_tableIn (k := 50) (tgt := 3019) hx hb dL_law_44 hs50 (by decide) rfl (by decide) ?_
    exact c_law_3019 l hst X hX hbl hbA hh h1 h2 h3 hc hs hl hF kk
  have hF := am_neg hs50 hF
  by_cases hs51 : y = (51 : Int32)
  · have hF := am_pos hs51 hF
    refine am_tableIn (k := 51) (tgt := 3077) hx hb dL_law_44 hs51 (by decide) rfl (by decide) ?_
    exact c_law_3077 l hst X hX hbl hbA hh h1 h2 h3 hc hs hl hF kk
  have hF := am_neg hs51 hF
  by_cases hs52 : y = (52 : Int32)
  · have hF := am_pos hs52 hF
    refine am_tableIn (k := 52) (tgt := 3121) hx hb dL_law_44 hs52 (by decide) rfl (by decide) ?_
    exact c_law_3121 l hst X hX hbl hbA hh h1 h2 h3 hc hs hl hF kk
  have hF := am_neg hs52 hF
  by_cases hs53 : y = (53 : Int32)
  · have hF := am_pos hs53 hF
    refine am_tableIn (k := 53) (tgt := 3165) hx hb dL_law_44 hs53 (by decide) rfl (by decide) ?_
    exact c_law_3165 l hst X hX hbl hbA hh h1 h2 h3 hc hs hl hF kk
  have hF := am_neg hs53 hF
  by_cases hs54 : y = (54 : Int32)
  · have hF := am_pos hs54 hF
    refine am_tableIn (k := 54) (tgt := 3209) hx hb dL_law_44 hs54 (by decide) rfl (by decide) ?_
    exact c_law_3209 l hst X hX hbl hbA hh h1 h2 h3 hc hs hl hF kk
  have hF := am_neg hs54 hF
  by_cases hs55 : y = (55 : Int32)
  · have hF := am_pos hs55 hF
    refine am_tableIn (k := 55) (tgt := 3253) hx hb dL_law_44 hs55 (by decide) rfl (by decide) ?_
    exact c_law_3253 l hst X hX hbl hbA hh h1 h2 h3 hc hs hl hF kk
  have hF := am_neg hs55 hF
  by_cases hs56 : y = (56 : Int32)
  · have hF := am_pos hs56 hF
    refine am_tableIn (k := 56) (tgt := 3266) hx hb dL_law_44 hs56 (by decide) rfl (by decide) ?_
    exact c_law_3266 l hst X hX hbl hbA hh h1 h2 h3 hc hs hl hF kk
  have hF := am_neg hs56 hF
  refine am_tableD (keys := [(0 : Int32), (1 : Int32), (2 : Int32), (3 : Int32), (4 : Int32), (5 : Int32), (6 : Int32), (7 : Int32), (8 : Int32), (9 : Int32), (10 : Int32), (11 : Int32), (12 : Int32), (13 : Int32), (14 : Int32), (15 : Int32), (16 : Int32), (17 : Int32), (18 : Int32), (19 : Int32), (20 : Int32), (21 : Int32), (22 : Int32), (23 : Int32), (24 : Int32), (25 : Int32), (26 : Int32), (27 : Int32), (28 : Int32), (29 : Int32), (30 : Int32), (31 : Int32), (32 : Int32), (33 : Int32), (34 : Int32), (35 : Int32), (36 : Int32), (37 : Int32), (38 : Int32), (39 : Int32), (40 : Int32), (41 : Int32), (42 : Int32), (43 : Int32), (44 : Int32), (45 : Int32), (46 : Int32), (47 : Int32), (48 : Int32), (49 : Int32), (50 : Int32), (51 : Int32), (52 : Int32), (53 : Int32), (54 : Int32), (55 : Int32), (56 : Int32)]) (tgt := 3310) hx hb dL_law_44 (List.forall_mem_cons.mpr ⟨hs0, List.forall_mem_cons.mpr ⟨hs1, List.forall_mem_cons.mpr ⟨hs2, List.forall_mem_cons.mpr ⟨hs3, List.forall_mem_cons.mpr ⟨hs4, List.forall_mem_cons.mpr ⟨hs5, List.forall_mem_cons.mpr ⟨hs6, List.forall_mem_cons.mpr ⟨hs7, List.forall_mem_cons.mpr ⟨hs8, List.forall_mem_cons.mpr ⟨hs9, List.forall_mem_cons.mpr ⟨hs10, List.forall_mem_cons.mpr ⟨hs11, List.forall_mem_cons.mpr ⟨hs12, List.forall_mem_cons.mpr ⟨hs13, List.forall_mem_cons.mpr ⟨hs14, List.forall_mem_cons.mpr ⟨hs15, List.forall_mem_cons.mpr ⟨hs16, List.forall_mem_cons.mpr ⟨hs17, List.forall_mem_cons.mpr ⟨hs18, List.forall_mem_cons.mpr ⟨hs19, List.forall_mem_cons.mpr ⟨hs20, List.forall_mem_cons.mpr ⟨hs21, List.forall_mem_cons.mpr ⟨hs22, List.forall_mem_cons.mpr ⟨hs23, List.forall_mem_cons.mpr ⟨hs24, List.forall_mem_cons.mpr ⟨hs25, List.forall_mem_cons.mpr ⟨hs26, List.forall_mem_cons.mpr ⟨hs27, List.forall_mem_cons.mpr ⟨hs28, List.forall_mem_cons.mpr ⟨hs29, List.forall_mem_cons.mpr ⟨hs30, List.forall_mem_cons.mpr ⟨hs31, List.forall_mem_cons.mpr ⟨hs32, List.forall_mem_cons.mpr ⟨hs33, List.forall_mem_cons.mpr ⟨hs34, List.forall_mem_cons.mpr ⟨hs35, List.forall_mem_cons.mpr ⟨hs36, List.forall_mem_cons.mpr ⟨hs37, List.forall_mem_cons.mpr ⟨hs38, List.forall_mem_cons.mpr ⟨hs39, List.forall_mem_cons.mpr ⟨hs40, List.forall_mem_cons.mpr ⟨hs41, List.forall_mem_cons.mpr ⟨hs42, List.forall_mem_cons.mpr ⟨hs43, List.forall_mem_cons.mpr ⟨hs44, List.forall_mem_cons.mpr ⟨hs45, List.forall_mem_cons.mpr ⟨hs46, List.forall_mem_cons.mpr ⟨hs47, List.forall_mem_cons.mpr ⟨hs48, List.forall_mem_cons.mpr ⟨hs49, List.forall_mem_cons.mpr ⟨hs50, List.forall_mem_cons.mpr ⟨hs51, List.forall_mem_cons.mpr ⟨hs52, List.forall_mem_cons.mpr ⟨hs53, List.forall_mem_cons.mpr ⟨hs54, List.forall_mem_cons.mpr ⟨hs55, List.forall_mem_cons.mpr ⟨hs56, List.forall_mem_nil _⟩⟩⟩⟩⟩⟩⟩⟩⟩⟩⟩⟩⟩⟩⟩⟩⟩⟩⟩⟩⟩⟩⟩⟩⟩⟩⟩⟩⟩⟩⟩⟩⟩⟩⟩⟩⟩⟩⟩⟩⟩⟩⟩⟩⟩⟩⟩⟩⟩⟩⟩⟩⟩⟩⟩⟩⟩) (by decide +kernel) (by decide) (by decide) ?_
  cases hF
  exact W.widen (Nat.le_add_right _ _) (Nat.le_add_right _ _) (kk ab H locs ls hh hl)
theorem law_sub4 {L : Nat} (hL : L ≤ 2048) : (Int32.ofNat L - 4).toInt = (L : Int) - 4 := by
  rw [Int32.toInt_sub, show (Int32.ofNat L).toInt = (L : Int) from nI_toInt (by omega), show (4 : Int32).toInt = 4 from rfl]
  exact Int.bmod_eq_of_le (by omega) (by omega)
theorem law_in {L k j : Nat} (hL : L ≤ 2048) (h : 4 * k + 4 ≤ L) (hj : j < 4) {q : Int32} (hq : q = nI j) (xs : Nat → Int32) : vp_in (nI (4 * k) + q) L ∧ xs (nI (4 * k) + q).toNatClampNeg = xs (4 * k + j) := by
  subst hq
  rw [nI_add]
  exact ⟨vp_in_nI (by omega) (by omega), by rw [nI_clamp (by omega)]⟩
set_option maxHeartbeats 4000000 in
set_option maxRecDepth 100000 in
theorem law_loop (l : Launch) (hst : l.stackTraces = false) (Inv : Wd → Prop) (hstep : ∀ (w : Wd) (y x1 x2 x3 : Int32), Inv w → ∃ w1, f_turn w y x1 x2 x3 = some w1 ∧ Inv w1) {G : GG} {p : Program} {e : Env} {s : State} {m : MethodId} {args : Array Value} {below : List Frame} {meth : Method} {c : Code} {b L : Nat} {xs : Nat → Int32} {Q : State → Prop} (X : CX G p s m args meth c cL_law 9 RL wsL_law) (hX : va_X b L xs s s.heap) (hbl : b < s.heap.size) (hbA : ¬ gA G b) (hL : L ≤ 2048)
    (kE : ∀ (w : Wd) (ab cells slots : Nat) (H : Heap) (locs : List Loc) (ls : Array Slot), AH G s.heap w ab H locs → cells ≤ 603072 → slots ≤ 7194730 → W p l e room_1 s m args below meth c H locs cells slots Q (F0 m 3316 ls [])) :
    ∀ (n k : Nat), n + k = 513 → ∀ (w : Wd) (ab cells slots : Nat) (H : Heap) (locs : List Loc) (ls : Array Slot), Inv w → AH G s.heap w ab H locs → lv_has ls 9 [(0, .ref b), (1, .ref (gAd G 0)), (2, .ref (gAd G 141)), (3, .ref (gAd G 151)), (4, .ref (gAd G 152)), (5, .int (nI (4 * k)))] → cells + 35 * n ≤ 603072 → slots + 2182 * n ≤ 7194730 → W p l e room_1 s m args below meth c H locs cells slots Q (F0 m 28 ls []) := by
  have hx := X.1.1; have hb := X.1.2.1
  intro n
  induction n with
  | zero =>
    intro k hk w ab cells slots H locs ls hI hh hl hc hs
    refine lv_iload hx hb dL_law_28 (lv_at hl 5 rfl) ?_
    refine lv_aload_n hx hb dL_law_30 rfl (lv_at hl 0 rfl) ?_
    refine va_slen hx hb hX hbl hbA hh.2.2 dL_law_31 ?_
    refine lv_iconst (v := (4 : Int32)) hx hb dL_law_32 (by decide) ?_
    refine lv_isub hx hb dL_law_33 ?_
    refine lv_icmp_gt (tgt := 3316) hx hb dL_law_34 (by decide) (fun _ => kE w ab cells slots H locs ls hh (by omega) (by omega)) (fun h => ?_)
    exfalso
    apply h
    rw [Int32.lt_iff_toInt_lt, law_sub4 hL, nI_toInt (by omega)]
    omega
  | succ n ih =>
    intro k hk w ab cells slots H locs ls hI hh hl hc hs
    refine lv_iload hx hb dL_law_28 (lv_at hl 5 rfl) ?_
    refine lv_aload_n hx hb dL_law_30 rfl (lv_at hl 0 rfl) ?_
    refine va_slen hx hb hX hbl hbA hh.2.2 dL_law_31 ?_
    refine lv_iconst (v := (4 : Int32)) hx hb dL_law_32 (by decide) ?_
    refine lv_isub hx hb dL_law_33 ?_
    refine lv_icmp_gt (tgt := 3316) hx hb dL_law_34 (by decide) (fun _ => kE w ab cells slots H locs ls hh (by omega) (by omega)) (fun h => ?_)
    have hk4 : 4 * k + 4 ≤ L := by
      rw [Int32.lt_iff_toInt_lt, law_sub4 hL, nI_toInt (by omega)] at h
      omega
    refine lv_aload_n hx hb dL_law_37 rfl (lv_at hl 0 rfl) ?_
    refine lv_iload hx hb dL_law_38 (lv_at hl 5 rfl) ?_
    refine am_sld hx hb hX hbl hbA hh.2.2 (v := xs (4 * k)) ⟨vp_in_nI (by omega) (by omega), by rw [nI_clamp (by omega)]⟩ dL_law_40 ?_
    refine lv_bipush (v := (63 : Int32)) hx hb dL_law_41 (by decide) ?_
    refine lv_iand hx hb dL_law_43 ?_
    obtain ⟨w1, hF, hI1⟩ := hstep w (xs (4 * k) &&& 63) (xs (4 * k + 1)) (xs (4 * k + 2)) (xs (4 * k + 3)) hI
    refine law_turn l hst X hX hbl hbA hh (law_in hL hk4 (by decide) (by decide) xs) (law_in hL hk4 (by decide) (by decide) xs) (law_in hL hk4 (by decide) (by decide) xs) (by omega) (by omega) hl hF (fun ab H locs ls hh hl => ?_)
    refine lv_iinc (v := nI (4 * (k + 1))) (lv' := [(5, .int (nI (4 * (k + 1)))), (0, .ref b), (1, .ref (gAd G 0)), (2, .ref (gAd G 141)), (3, .ref (gAd G 151)), (4, .ref (gAd G 152))]) hx hb dL_law_3310 hl (k := 5) rfl (nI_add (4 * k) 4) (by decide) rfl (fun ls hl => ?_)
    refine lv_goto (tgt := 28) hx hb dL_law_3313 (by decide) ?_
    exact ih (k + 1) (by omega) w1 ab _ _ H locs ls hI1 hh (lv_sub hl [1, 2, 3, 4, 5, 0] rfl) (by omega) (by omega)
