set_option maxHeartbeats 4000000 in
set_option maxRecDepth 100000 in
theorem c_law_1964 (l : Launch) (hst : l.stackTraces = false) {G : GG} {p : Program} {e : Env} {s : State} {m : MethodId} {args : Array Value} {below : List Frame} {meth : Method} {c : Code} {b L cells slots ab : Nat} {xs : Nat → Int32} {H : Heap} {locs : List Loc} {ls : Array Slot} {w w1 : Wd} {i x1 x2 x3 : Int32} {Q : State → Prop} (X : CX G p s m args meth c cL_law 9 RL wsL_law) (hX : va_X b L xs s s.heap) (hbl : b < s.heap.size) (hbA : ¬ gA G b) (hh : AH G s.heap w ab H locs) (h1 : vp_in (i + 1) L ∧ xs (i + 1).toNatClampNeg = x1) (h2 : vp_in (i + 2) L ∧ xs (i + 2).toNatClampNeg = x2) (h3 : vp_in (i + 3) L ∧ xs (i + 3).toNatClampNeg = x3) (hc : cells + 35 ≤ 603072) (hs : slots + 2182 ≤ 7194730) (hl : lv_has ls 9 [(0, .ref b), (1, .ref (gAd G 0)), (2, .ref (gAd G 141)), (3, .ref (gAd G 151)), (4, .ref (gAd G 152)), (5, .int i)]) (hF : f_law_1964 w x1 x2 x3 = some w1) (kk : ∀ (ab : Nat) (H : Heap) (locs : List Loc) (ls : Array Slot), AH G s.heap w1 ab H locs → lv_has ls 9 [(0, .ref b), (1, .ref (gAd G 0)), (2, .ref (gAd G 141)), (3, .ref (gAd G 151)), (4, .ref (gAd G 152)), (5, .int i)] → W p l e room_1 s m args below meth c H locs (cells + 35) (slots + 2182) Q (F0 m 3310 ls [])) : W p l e room_1 s m args below meth c H locs cells slots Q (F0 m 1964 ls []) := by
  have hx := X.1.1; have hb := X.1.2.1; have hml := X.1.2.2.1; have hown := X.1.2.2.2.1; have hts := X.1.2.2.2.2
  unfold f_law_1964 at hF
  refine lv_aload_n hx hb dL_law_1964 rfl (lv_at hl 1 rfl) ?_
  refine lv_aload_n hx hb dL_law_1965 rfl (lv_at hl 0 rfl) ?_
  refine lv_iload hx hb dL_law_1966 (lv_at hl 5 rfl) ?_
  refine lv_iconst (v := (1 : Int32)) hx hb dL_law_1968 (by decide) ?_
  refine lv_iadd hx hb dL_law_1969 ?_
  refine am_sld hx hb hX hbl hbA hh.2.2 h1 dL_law_1970 ?_
  refine lv_aload_n hx hb dL_law_1971 rfl (lv_at hl 3 rfl) ?_
  obtain ⟨⟨r2, w3⟩, hk1, hF⟩ := am_bind hF
  have hF := am_u2 hF
  refine am_callW X hh (vx_runSX (As := [.ref (gAd G 0), .int x1, .ref (gAd G 151)]) (rest := []) X.1 (c_L_hasRatchet l G hst hk1) (vx_cwSW 3 hts gL_law_L_hasRatchet rfl rfl rfl (by decide +kernel) ⟨Nat.le_of_ble_eq_true rfl, Nat.le_of_ble_eq_true rfl⟩) (am_preS X hh) rfl rfl hl.1 rfl (lv_room (Nat.le_of_ble_eq_true rfl)) dL_law_1972 ⟨by show cells + 1 ≤ 603072; omega, by show slots + 6 ≤ 7194730; omega⟩) (fun ab H locs hh => ?_)
  refine lv_istore (lv' := [(6, .int r2), (0, .ref b), (1, .ref (gAd G 0)), (2, .ref (gAd G 141)), (3, .ref (gAd G 151)), (4, .ref (gAd G 152)), (5, .int i)]) hx hb dL_law_1975 hl (by decide) rfl (fun ls hl => ?_)
  refine lv_aload_n hx hb dL_law_1977 rfl (lv_at hl 3 rfl) ?_
  refine lv_aload_n hx hb dL_law_1978 rfl (lv_at hl 1 rfl) ?_
  refine lv_iload hx hb dL_law_1979 (lv_at hl 6 rfl) ?_
  refine lv_iconst (v := (1 : Int32)) hx hb dL_law_1981 (by decide) ?_
  refine lv_iadd hx hb dL_law_1982 ?_
  refine am_sld hx hb hX hbl hbA hh.2.2 h1 dL_law_1983 ?_
  obtain ⟨⟨r5, w6⟩, hk4, hF⟩ := am_bind hF
  have hF := am_u2 hF
  refine am_call X hh (va_runV (As := [.int x1]) (rest := []) X.1 (c_X11_hasRatchet l G hk4) (cwV 1 hts gL_law_X11_hasRatchet rfl rfl rfl (by decide +kernel) ⟨Nat.le_of_ble_eq_true rfl, Nat.le_of_ble_eq_true rfl⟩) (am_preV X hh 141 12 (by decide) rfl rfl) rfl rfl hl.1 rfl (lv_room (Nat.le_of_ble_eq_true rfl)) dL_law_1984 ⟨by show (cells + 1) + 0 ≤ 603072; omega, by show (slots + 6) + 0 ≤ 7194730; omega⟩) (fun ab H locs hh => ?_)
  refine lv_istore (lv' := [(7, .int r5), (6, .int r2), (0, .ref b), (1, .ref (gAd G 0)), (2, .ref (gAd G 141)), (3, .ref (gAd G 151)), (4, .ref (gAd G 152)), (5, .int i)]) hx hb dL_law_1987 hl (by decide) rfl (fun ls hl => ?_)
  refine lv_aload_n hx hb dL_law_1989 rfl (lv_at hl 4 rfl) ?_
  obtain ⟨r8, hk7, hF⟩ := am_bind hF
  refine am_call X hh (va_runV (As := []) (rest := []) X.1 (c_X11_thrown l G hk7) (cwV 0 hts gL_law_X11_thrown rfl rfl rfl (by decide +kernel) ⟨Nat.le_of_ble_eq_true rfl, Nat.le_of_ble_eq_true rfl⟩) (am_preV X hh 141 12 (by decide) rfl rfl) rfl rfl hl.1 rfl (lv_room (Nat.le_of_ble_eq_true rfl)) dL_law_1990 ⟨by show (cells + 1) + 0 ≤ 603072; omega, by show (slots + 6) + 0 ≤ 7194730; omega⟩) (fun ab H locs hh => ?_)
  refine lv_iload hx hb dL_law_1993 (lv_at hl 1 rfl) ?_
  refine lv_icmp_eq (tgt := 2000) hx hb dL_law_1995 (by decide) (fun hc9 => ?_) (fun hc9 => ?_)
  · have hF := am_pos hc9 hF
    refine lv_iload hx hb dL_law_2000 (lv_at hl 1 rfl) ?_
    refine lv_if_ne (tgt := 2024) hx hb dL_law_2002 (by decide) (fun hc10 => ?_) (fun hc10 => ?_)
    · have hF := am_neg hc10 hF
      refine lv_goto (tgt := 3310) hx hb dL_law_2024 (by decide) ?_
      cases hF
      exact W.widen (by omega) (by omega) (kk ab H locs ls hh (lv_sub hl [2, 3, 4, 5, 6, 7] rfl))
    · have hF := am_pos hc10 hF
      refine lv_aload_n hx hb dL_law_2005 rfl (lv_at hl 5 rfl) ?_
      refine lv_iconst (v := (0 : Int32)) hx hb dL_law_2006 (by decide) ?_
      obtain ⟨hq11, hF⟩ := am_ifR hF
      refine am_lald X hh 151 (by decide) rfl hq11 dL_law_2007 ?_
      refine lv_iload hx hb dL_law_2008 (lv_at hl 0 rfl) ?_
      refine lv_if_eq (tgt := 2017) hx hb dL_law_2010 (by decide) (fun hc12 => ?_) (fun hc12 => ?_)
      · have hF := am_pos hc12 hF
        refine lv_lconst (v := (0 : Int64)) hx hb dL_law_2017 (by decide) ?_
        refine am_lcmp_eq (tgt := 2024) hx hb dL_law_2018 dL_law_2019 (by decide) (fun hc13 => ?_) (fun hc13 => ?_)
        · have hF := am_pos hc13 hF
          refine lv_goto (tgt := 3310) hx hb dL_law_2024 (by decide) ?_
          cases hF
          exact W.widen (by omega) (by omega) (kk ab H locs ls hh (lv_sub hl [2, 3, 4, 5, 6, 7] rfl))
        · have hF := am_neg hc13 hF
          refine lv_iconst (v := (0 : Int32)) hx hb dL_law_2022 (by decide) ?_
          cases hF
      · have hF := am_neg hc12 hF
        refine lv_lconst (v := (1 : Int64)) hx hb dL_law_2013 (by decide) ?_
        refine lv_goto (tgt := 2018) hx hb dL_law_2014 (by decide) ?_
        refine am_lcmp_eq (tgt := 2024) hx hb dL_law_2018 dL_law_2019 (by decide) (fun hc14 => ?_) (fun hc14 => ?_)
        · have hF := am_pos hc14 hF
          refine lv_goto (tgt := 3310) hx hb dL_law_2024 (by decide) ?_
          cases hF
          exact W.widen (by omega) (by omega) (kk ab H locs ls hh (lv_sub hl [2, 3, 4, 5, 6, 7] rfl))
        · have hF := am_neg hc14 hF
          refine lv_iconst (v := (0 : Int32)) hx hb dL_law_2022 (by decide) ?_
          cases hF
  · have hF := am_neg hc9 hF
    refine lv_iconst (v := (0 : Int32)) hx hb dL_law_1998 (by decide) ?_
    cases hF
set_option maxHeartbeats 4000000 in
set_option maxRecDepth 100000 in
theorem c_law_2027 (l : Launch) (hst : l.stackTraces = false) {G : GG} {p : Program} {e : Env} {s : State} {m : MethodId} {args : Array Value} {below : List Frame} {meth : Method} {c : Code} {b L cells slots ab : Nat} {xs : Nat → Int32} {H : Heap} {locs : List Loc} {ls : Array Slot} {w w1 : Wd} {i x1 x2 x3 : Int32} {Q : State → Prop} (X : CX G p s m args meth c cL_law 9 RL wsL_law) (hX : va_X b L xs s s.heap) (hbl : b < s.heap.size) (hbA : ¬ gA G b) (hh : AH G s.heap w ab H locs) (h1 : vp_in (i + 1) L ∧ xs (i + 1).toNatClampNeg = x1) (h2 : vp_in (i + 2) L ∧ xs (i + 2).toNatClampNeg = x2) (h3 : vp_in (i + 3) L ∧ xs (i + 3).toNatClampNeg = x3) (hc : cells + 35 ≤ 603072) (hs : slots + 2182 ≤ 7194730) (hl : lv_has ls 9 [(0, .ref b), (1, .ref (gAd G 0)), (2, .ref (gAd G 141)), (3, .ref (gAd G 151)), (4, .ref (gAd G 152)), (5, .int i)]) (hF : f_law_2027 w x1 x2 x3 = some w1) (kk : ∀ (ab : Nat) (H : Heap) (locs : List Loc) (ls : Array Slot), AH G s.heap w1 ab H locs → lv_has ls 9 [(0, .ref b), (1, .ref (gAd G 0)), (2, .ref (gAd G 141)), (3, .ref (gAd G 151)), (4, .ref (gAd G 152)), (5, .int i)] → W p l e room_1 s m args below meth c H locs (cells + 35) (slots + 2182) Q (F0 m 3310 ls [])) : W p l e room_1 s m args below meth c H locs cells slots Q (F0 m 2027 ls []) := by
  have hx := X.1.1; have hb := X.1.2.1; have hml := X.1.2.2.1; have hown := X.1.2.2.2.1; have hts := X.1.2.2.2.2
  unfold f_law_2027 at hF
  refine lv_aload_n hx hb dL_law_2027 rfl (lv_at hl 1 rfl) ?_
  refine lv_aload_n hx hb dL_law_2028 rfl (lv_at hl 0 rfl) ?_
  refine lv_iload hx hb dL_law_2029 (lv_at hl 5 rfl) ?_
  refine lv_iconst (v := (1 : Int32)) hx hb dL_law_2031 (by decide) ?_
  refine lv_iadd hx hb dL_law_2032 ?_
  refine am_sld hx hb hX hbl hbA hh.2.2 h1 dL_law_2033 ?_
  refine lv_aload_n hx hb dL_law_2034 rfl (lv_at hl 3 rfl) ?_
  obtain ⟨⟨r2, w3⟩, hk1, hF⟩ := am_bind hF
  have hF := am_u2 hF
  refine am_callW X hh (vx_runSX (As := [.ref (gAd G 0), .int x1, .ref (gAd G 151)]) (rest := []) X.1 (c_L_isDry l G hst hk1) (vx_cwSW 3 hts gL_law_L_isDry rfl rfl rfl (by decide +kernel) ⟨Nat.le_of_ble_eq_true rfl, Nat.le_of_ble_eq_true rfl⟩) (am_preS X hh) rfl rfl hl.1 rfl (lv_room (Nat.le_of_ble_eq_true rfl)) dL_law_2035 ⟨by show cells + 1 ≤ 603072; omega, by show slots + 6 ≤ 7194730; omega⟩) (fun ab H locs hh => ?_)
  refine lv_istore (lv' := [(6, .int r2), (0, .ref b), (1, .ref (gAd G 0)), (2, .ref (gAd G 141)), (3, .ref (gAd G 151)), (4, .ref (gAd G 152)), (5, .int i)]) hx hb dL_law_2038 hl (by decide) rfl (fun ls hl => ?_)
  refine lv_aload_n hx hb dL_law_2040 rfl (lv_at hl 3 rfl) ?_
  refine lv_aload_n hx hb dL_law_2041 rfl (lv_at hl 1 rfl) ?_
  refine lv_iload hx hb dL_law_2042 (lv_at hl 6 rfl) ?_
  refine lv_iconst (v := (1 : Int32)) hx hb dL_law_2044 (by decide) ?_
  refine lv_iadd hx hb dL_law_2045 ?_
  refine am_sld hx hb hX hbl hbA hh.2.2 h1 dL_law_2046 ?_
  obtain ⟨⟨r5, w6⟩, hk4, hF⟩ := am_bind hF
  have hF := am_u2 hF
  refine am_call X hh (va_runV (As := [.int x1]) (rest := []) X.1 (c_X11_isDry l G hk4) (cwV 1 hts gL_law_X11_isDry rfl rfl rfl (by decide +kernel) ⟨Nat.le_of_ble_eq_true rfl, Nat.le_of_ble_eq_true rfl⟩) (am_preV X hh 141 12 (by decide) rfl rfl) rfl rfl hl.1 rfl (lv_room (Nat.le_of_ble_eq_true rfl)) dL_law_2047 ⟨by show (cells + 1) + 0 ≤ 603072; omega, by show (slots + 6) + 0 ≤ 7194730; omega⟩) (fun ab H locs hh => ?_)
  refine lv_istore (lv' := [(7, .int r5), (6, .int r2), (0, .ref b), (1, .ref (gAd G 0)), (2, .ref (gAd G 141)), (3, .ref (gAd G 151)), (4, .ref (gAd G 152)), (5, .int i)]) hx hb dL_law_2050 hl (by decide) rfl (fun ls hl => ?_)
  refine lv_aload_n hx hb dL_law_2052 rfl (lv_at hl 4 rfl) ?_
  obtain ⟨r8, hk7, hF⟩ := am_bind hF
  refine am_call X hh (va_runV (As := []) (rest := []) X.1 (c_X11_thrown l G hk7) (cwV 0 hts gL_law_X11_thrown rfl rfl rfl (by decide +kernel) ⟨Nat.le_of_ble_eq_true rfl, Nat.le_of_ble_eq_true rfl⟩) (am_preV X hh 141 12 (by decide) rfl rfl) rfl rfl hl.1 rfl (lv_room (Nat.le_of_ble_eq_true rfl)) dL_law_2053 ⟨by show (cells + 1) + 0 ≤ 603072; omega, by show (slots + 6) + 0 ≤ 7194730; omega⟩) (fun ab H locs hh => ?_)
  refine lv_iload hx hb dL_law_2056 (lv_at hl 1 rfl) ?_
  refine lv_icmp_eq (tgt := 2063) hx hb dL_law_2058 (by decide) (fun hc9 => ?_) (fun hc9 => ?_)
  · have hF := am_pos hc9 hF
    refine lv_iload hx hb dL_law_2063 (lv_at hl 1 rfl) ?_
    refine lv_if_ne (tgt := 2087) hx hb dL_law_2065 (by decide) (fun hc10 => ?_) (fun hc10 => ?_)
    · have hF := am_neg hc10 hF
      refine lv_goto (tgt := 3310) hx hb dL_law_2087 (by decide) ?_
      cases hF
      exact W.widen (by omega) (by omega) (kk ab H locs ls hh (lv_sub hl [2, 3, 4, 5, 6, 7] rfl))
    · have hF := am_pos hc10 hF
      refine lv_aload_n hx hb dL_law_2068 rfl (lv_at hl 5 rfl) ?_
      refine lv_iconst (v := (0 : Int32)) hx hb dL_law_2069 (by decide) ?_
      obtain ⟨hq11, hF⟩ := am_ifR hF
      refine am_lald X hh 151 (by decide) rfl hq11 dL_law_2070 ?_
      refine lv_iload hx hb dL_law_2071 (lv_at hl 0 rfl) ?_
      refine lv_if_eq (tgt := 2080) hx hb dL_law_2073 (by decide) (fun hc12 => ?_) (fun hc12 => ?_)
      · have hF := am_pos hc12 hF
        refine lv_lconst (v := (0 : Int64)) hx hb dL_law_2080 (by decide) ?_
        refine am_lcmp_eq (tgt := 2087) hx hb dL_law_2081 dL_law_2082 (by decide) (fun hc13 => ?_) (fun hc13 => ?_)
        · have hF := am_pos hc13 hF
          refine lv_goto (tgt := 3310) hx hb dL_law_2087 (by decide) ?_
          cases hF
          exact W.widen (by omega) (by omega) (kk ab H locs ls hh (lv_sub hl [2, 3, 4, 5, 6, 7] rfl))
        · have hF := am_neg hc13 hF
          refine lv_iconst (v := (0 : Int32)) hx hb dL_law_2085 (by decide) ?_
          cases hF
      · have hF := am_neg hc12 hF
        refine lv_lconst (v := (1 : Int64)) hx hb dL_law_2076 (by decide) ?_
        refine lv_goto (tgt := 2081) hx hb dL_law_2077 (by decide) ?_
        refine am_lcmp_eq (tgt := 2087) hx hb dL_law_2081 dL_law_2082 (by decide) (fun hc14 => ?_) (fun hc14 => ?_)
        · have hF := am_pos hc14 hF
          refine lv_goto (tgt := 3310) hx hb dL_law_2087 (by decide) ?_
          cases hF
          exact W.widen (by omega) (by omega) (kk ab H locs ls hh (lv_sub hl [2, 3, 4, 5, 6, 7] rfl))
        · have hF := am_neg hc14 hF
          refine lv_iconst (v := (0 : Int32)) hx hb dL_law_2085 (by decide) ?_
          cases hF
  · have hF := am_neg hc9 hF
    refine lv_iconst (v := (0 : Int32)) hx hb dL_law_2061 (by decide) ?_
    cases hF
set_option maxHeartbeats 4000000 in
set_option maxRecDepth 100000 in
theorem c_law_2090 (l : Launch) (hst : l.stackTraces = false) {G : GG} {p : Program} {e : Env} {s : State} {m : MethodId} {args : Array Value} {below : List Frame} {meth : Method} {c : Code} {b L cells slots ab : Nat} {xs : Nat → Int32} {H : Heap} {locs : List Loc} {ls : Array Slot} {w w1 : Wd} {i x1 x2 x3 : Int32} {Q : State → Prop} (X : CX G p s m args meth c cL_law 9 RL wsL_law) (hX : va_X b L xs s s.heap) (hbl : b < s.heap.size) (hbA : ¬ gA G b) (hh : AH G s.heap w ab H locs) (h1 : vp_in (i + 1) L ∧ xs (i + 1).toNatClampNeg = x1) (h2 : vp_in (i + 2) L ∧ xs (i + 2).toNatClampNeg = x2) (h3 : vp_in (i + 3) L ∧ xs (i + 3).toNatClampNeg = x3) (hc : cells + 35 ≤ 603072) (hs : slots + 2182 ≤ 7194730) (hl : lv_has ls 9 [(0, .ref b), (1, .ref (gAd G 0)), (2, .ref (gAd G 141)), (3, .ref (gAd G 151)), (4, .ref (gAd G 152)), (5, .int i)]) (hF : f_law_2090 w x1 x2 x3 = some w1) (kk : ∀ (ab : Nat) (H : Heap) (locs : List Loc) (ls : Array Slot), AH G s.heap w1 ab H locs → lv_has ls 9 [(0, .ref b), (1, .ref (gAd G 0)), (2, .ref (gAd G 141)), (3, .ref (gAd G 151)), (4, .ref (gAd G 152)), (5, .int i)] → W p l e room_1 s m args below meth c H locs (cells + 35) (slots + 2182) Q (F0 m 3310 ls [])) : W p l e room_1 s m args below meth c H locs cells slots Q (F0 m 2090 ls []) := by
  have hx := X.1.1; have hb := X.1.2.1; have hml := X.1.2.2.1; have hown := X.1.2.2.2.1; have hts := X.1.2.2.2.2
  unfold f_law_2090 at hF
  refine lv_aload_n hx hb dL_law_2090 rfl (lv_at hl 1 rfl) ?_
  refine lv_aload_n hx hb dL_law_2091 rfl (lv_at hl 0 rfl) ?_
  refine lv_iload hx hb dL_law_2092 (lv_at hl 5 rfl) ?_
  refine lv_iconst (v := (1 : Int32)) hx hb dL_law_2094 (by decide) ?_
  refine lv_iadd hx hb dL_law_2095 ?_
  refine am_sld hx hb hX hbl hbA hh.2.2 h1 dL_law_2096 ?_
  refine lv_aload_n hx hb dL_law_2097 rfl (lv_at hl 3 rfl) ?_
  obtain ⟨⟨r2, w3⟩, hk1, hF⟩ := am_bind hF
  have hF := am_u2 hF
  refine am_callW X hh (vx_runSX (As := [.ref (gAd G 0), .int x1, .ref (gAd G 151)]) (rest := []) X.1 (c_L_wear l G hst hk1) (vx_cwSW 3 hts gL_law_L_wear rfl rfl rfl (by decide +kernel) ⟨Nat.le_of_ble_eq_true rfl, Nat.le_of_ble_eq_true rfl⟩) (am_preS X hh) rfl rfl hl.1 rfl (lv_room (Nat.le_of_ble_eq_true rfl)) dL_law_2098 ⟨by show cells + 2 ≤ 603072; omega, by show slots + 12 ≤ 7194730; omega⟩) (fun ab H locs hh => ?_)
  refine lv_istore (lv' := [(6, .int r2), (0, .ref b), (1, .ref (gAd G 0)), (2, .ref (gAd G 141)), (3, .ref (gAd G 151)), (4, .ref (gAd G 152)), (5, .int i)]) hx hb dL_law_2101 hl (by decide) rfl (fun ls hl => ?_)
  refine lv_aload_n hx hb dL_law_2103 rfl (lv_at hl 3 rfl) ?_
  refine lv_aload_n hx hb dL_law_2104 rfl (lv_at hl 1 rfl) ?_
  refine lv_iload hx hb dL_law_2105 (lv_at hl 6 rfl) ?_
  refine lv_iconst (v := (1 : Int32)) hx hb dL_law_2107 (by decide) ?_
  refine lv_iadd hx hb dL_law_2108 ?_
  refine am_sld hx hb hX hbl hbA hh.2.2 h1 dL_law_2109 ?_
  obtain ⟨⟨r5, w6⟩, hk4, hF⟩ := am_bind hF
  have hF := am_u2 hF
  refine am_call X hh (va_runV (As := [.int x1]) (rest := []) X.1 (c_X11_wear l G hk4) (cwV 1 hts gL_law_X11_wear rfl rfl rfl (by decide +kernel) ⟨Nat.le_of_ble_eq_true rfl, Nat.le_of_ble_eq_true rfl⟩) (am_preV X hh 141 12 (by decide) rfl rfl) rfl rfl hl.1 rfl (lv_room (Nat.le_of_ble_eq_true rfl)) dL_law_2110 ⟨by show (cells + 2) + 0 ≤ 603072; omega, by show (slots + 12) + 0 ≤ 7194730; omega⟩) (fun ab H locs hh => ?_)
  refine lv_istore (lv' := [(7, .int r5), (6, .int r2), (0, .ref b), (1, .ref (gAd G 0)), (2, .ref (gAd G 141)), (3, .ref (gAd G 151)), (4, .ref (gAd G 152)), (5, .int i)]) hx hb dL_law_2113 hl (by decide) rfl (fun ls hl => ?_)
  refine lv_aload_n hx hb dL_law_2115 rfl (lv_at hl 4 rfl) ?_
  obtain ⟨r8, hk7, hF⟩ := am_bind hF
  refine am_call X hh (va_runV (As := []) (rest := []) X.1 (c_X11_thrown l G hk7) (cwV 0 hts gL_law_X11_thrown rfl rfl rfl (by decide +kernel) ⟨Nat.le_of_ble_eq_true rfl, Nat.le_of_ble_eq_true rfl⟩) (am_preV X hh 141 12 (by decide) rfl rfl) rfl rfl hl.1 rfl (lv_room (Nat.le_of_ble_eq_true rfl)) dL_law_2116 ⟨by show (cells + 2) + 0 ≤ 603072; omega, by show (slots + 12) + 0 ≤ 7194730; omega⟩) (fun ab H locs hh => ?_)
  refine lv_iload hx hb dL_law_2119 (lv_at hl 1 rfl) ?_
  refine lv_icmp_eq (tgt := 2126) hx hb dL_law_2121 (by decide) (fun hc9 => ?_) (fun hc9 => ?_)
  · have hF := am_pos hc9 hF
    refine lv_iload hx hb dL_law_2126 (lv_at hl 1 rfl) ?_
    refine lv_if_ne (tgt := 2143) hx hb dL_law_2128 (by decide) (fun hc10 => ?_) (fun hc10 => ?_)
    · have hF := am_neg hc10 hF
      refine lv_goto (tgt := 3310) hx hb dL_law_2143 (by decide) ?_
      cases hF
      exact W.widen (by omega) (by omega) (kk ab H locs ls hh (lv_sub hl [2, 3, 4, 5, 6, 7] rfl))
    · have hF := am_pos hc10 hF
      refine lv_aload_n hx hb dL_law_2131 rfl (lv_at hl 5 rfl) ?_
      refine lv_iconst (v := (0 : Int32)) hx hb dL_law_2132 (by decide) ?_
      obtain ⟨hq11, hF⟩ := am_ifR hF
      refine am_lald X hh 151 (by decide) rfl hq11 dL_law_2133 ?_
      refine lv_iload hx hb dL_law_2134 (lv_at hl 0 rfl) ?_
      refine lv_i2l hx hb dL_law_2136 rfl ?_
      refine am_lcmp_eq (tgt := 2143) hx hb dL_law_2137 dL_law_2138 (by decide) (fun hc12 => ?_) (fun hc12 => ?_)
      · have hF := am_pos hc12 hF
        refine lv_goto (tgt := 3310) hx hb dL_law_2143 (by decide) ?_
        cases hF
        exact W.widen (by omega) (by omega) (kk ab H locs ls hh (lv_sub hl [2, 3, 4, 5, 6, 7] rfl))
      · have hF := am_neg hc12 hF
        refine lv_iconst (v := (0 : Int32)) hx hb dL_law_2141 (by decide) ?_
        cases hF
  · have hF := am_neg hc9 hF
    refine lv_iconst (v := (0 : Int32)) hx hb dL_law_2124 (by decide) ?_
    cases hF
set_option maxHeartbeats 4000000 in
set_option maxRecDepth 100000 in
theorem c_law_2146 (l : Launch) (hst : l.stackTraces = false) {G : GG} {p : Program} {e : Env} {s : State} {m : MethodId} {args : Array Value} {below : List Frame} {meth : Method} {c : Code} {b L cells slots ab : Nat} {xs : Nat → Int32} {H : Heap} {locs : List Loc} {ls : Array Slot} {w w1 : Wd} {i x1 x2 x3 : Int32} {Q : State → Prop} (X : CX G p s m args meth c cL_law 9 RL wsL_law) (hX : va_X b L xs s s.heap) (hbl : b < s.heap.size) (hbA : ¬ gA G b) (hh : AH G s.heap w ab H locs) (h1 : vp_in (i + 1) L ∧ xs (i + 1).toNatClampNeg = x1) (h2 : vp_in (i + 2) L ∧ xs (i + 2).toNatClampNeg = x2) (h3 : vp_in (i + 3) L ∧ xs (i + 3).toNatClampNeg = x3) (hc : cells + 35 ≤ 603072) (hs : slots + 2182 ≤ 7194730) (hl : lv_has ls 9 [(0, .ref b), (1, .ref (gAd G 0)), (2, .ref (gAd G 141)), (3, .ref (gAd G 151)), (4, .ref (gAd G 152)), (5, .int i)]) (hF : f_law_2146 w x1 x2 x3 = some w1) (kk : ∀ (ab : Nat) (H : Heap) (locs : List Loc) (ls : Array Slot), AH G s.heap w1 ab H locs → lv_has ls 9 [(0, .ref b), (1, .ref (gAd G 0)), (2, .ref (gAd G 141)), (3, .ref (gAd G 151)), (4, .ref (gAd G 152)), (5, .int i)] → W p l e room_1 s m args below meth c H locs (cells + 35) (slots + 2182) Q (F0 m 3310 ls [])) : W p l e room_1 s m args below meth c H locs cells slots Q (F0 m 2146 ls []) := by
  have hx := X.1.1; have hb := X.1.2.1; have hml := X.1.2.2.1; have hown := X.1.2.2.2.1; have hts := X.1.2.2.2.2
  unfold f_law_2146 at hF
  refine lv_aload_n hx hb dL_law_2146 rfl (lv_at hl 1 rfl) ?_
  obtain ⟨r2, hk1, hF⟩ := am_bind hF
  refine am_call X hh (va_runV (As := []) (rest := []) X.1 (c_X10_drops l G hk1) (cwV 0 hts gL_law_X10_drops rfl rfl rfl (by decide +kernel) ⟨Nat.le_of_ble_eq_true rfl, Nat.le_of_ble_eq_true rfl⟩) (am_preV X hh 0 11 (by decide) rfl rfl) rfl rfl hl.1 rfl (lv_room (Nat.le_of_ble_eq_true rfl)) dL_law_2147 ⟨by show cells + 0 ≤ 603072; omega, by show slots + 0 ≤ 7194730; omega⟩) (fun ab H locs hh => ?_)
  refine lv_aload_n hx hb dL_law_2150 rfl (lv_at hl 2 rfl) ?_
  obtain ⟨⟨r4, w5⟩, hk3, hF⟩ := am_bind hF
  have hF := am_u2 hF
  refine am_call X hh (va_runV (As := []) (rest := [.int r2]) X.1 (c_X11_drops l G hk3) (cwV 0 hts gL_law_X11_drops rfl rfl rfl (by decide +kernel) ⟨Nat.le_of_ble_eq_true rfl, Nat.le_of_ble_eq_true rfl⟩) (am_preV X hh 141 12 (by decide) rfl rfl) rfl rfl hl.1 rfl (lv_room (Nat.le_of_ble_eq_true rfl)) dL_law_2151 ⟨by show cells + 0 ≤ 603072; omega, by show slots + 0 ≤ 7194730; omega⟩) (fun ab H locs hh => ?_)
  refine lv_icmp_eq (tgt := 3310) hx hb dL_law_2154 (by decide) (fun hc6 => ?_) (fun hc6 => ?_)
  · have hF := am_pos hc6 hF
    cases hF
    exact W.widen (by omega) (by omega) (kk ab H locs ls hh (lv_sub hl [0, 1, 2, 3, 4, 5] rfl))
  · have hF := am_neg hc6 hF
    refine lv_iconst (v := (0 : Int32)) hx hb dL_law_2157 (by decide) ?_
    cases hF
set_option maxHeartbeats 4000000 in
set_option maxRecDepth 100000 in
theorem c_law_2159 (l : Launch) (hst : l.stackTraces = false) {G : GG} {p : Program} {e : Env} {s : State} {m : MethodId} {args : Array Value} {below : List Frame} {meth : Method} {c : Code} {b L cells slots ab : Nat} {xs : Nat → Int32} {H : Heap} {locs : List Loc} {ls : Array Slot} {w w1 : Wd} {i x1 x2 x3 : Int32} {Q : State → Prop} (X : CX G p s m args meth c cL_law 9 RL wsL_law) (hX : va_X b L xs s s.heap) (hbl : b < s.heap.size) (hbA : ¬ gA G b) (hh : AH G s.heap w ab H locs) (h1 : vp_in (i + 1) L ∧ xs (i + 1).toNatClampNeg = x1) (h2 : vp_in (i + 2) L ∧ xs (i + 2).toNatClampNeg = x2) (h3 : vp_in (i + 3) L ∧ xs (i + 3).toNatClampNeg = x3) (hc : cells + 35 ≤ 603072) (hs : slots + 2182 ≤ 7194730) (hl : lv_has ls 9 [(0, .ref b), (1, .ref (gAd G 0)), (2, .ref (gAd G 141)), (3, .ref (gAd G 151)), (4, .ref (gAd G 152)), (5, .int i)]) (hF : f_law_2159 w x1 x2 x3 = some w1) (kk : ∀ (ab : Nat) (H : Heap) (locs : List Loc) (ls : Array Slot), AH G s.heap w1 ab H locs → lv_has ls 9 [(0, .ref b), (1, .ref (gAd G 0)), (2, .ref (gAd G 141)), (3, .ref (gAd G 151)), (4, .ref (gAd G 152)), (5, .int i)] → W p l e room_1 s m args below meth c H locs (cells + 35) (slots + 2182) Q (F0 m 3310 ls [])) : W p l e room_1 s m args below meth c H locs cells slots Q (F0 m 2159 ls []) := by
  have hx := X.1.1; have hb := X.1.2.1; have hml := X.1.2.2.1; have hown := X.1.2.2.2.1; have hts := X.1.2.2.2.2
  unfold f_law_2159 at hF
  refine lv_aload_n hx hb dL_law_2159 rfl (lv_at hl 1 rfl) ?_
  obtain ⟨r2, hk1, hF⟩ := am_bind hF
  refine am_call X hh (va_runV (As := []) (rest := []) X.1 (c_X10_planetCount l G hk1) (cwV 0 hts gL_law_X10_planetCount rfl rfl rfl (by decide +kernel) ⟨Nat.le_of_ble_eq_true rfl, Nat.le_of_ble_eq_true rfl⟩) (am_preV X hh 0 11 (by decide) rfl rfl) rfl rfl hl.1 rfl (lv_room (Nat.le_of_ble_eq_true rfl)) dL_law_2160 ⟨by show cells + 0 ≤ 603072; omega, by show slots + 0 ≤ 7194730; omega⟩) (fun ab H locs hh => ?_)
  refine lv_aload_n hx hb dL_law_2163 rfl (lv_at hl 2 rfl) ?_
  obtain ⟨⟨r4, w5⟩, hk3, hF⟩ := am_bind hF
  have hF := am_u2 hF
  refine am_call X hh (va_runV (As := []) (rest := [.int r2]) X.1 (c_X11_planetCount l G hk3) (cwV 0 hts gL_law_X11_planetCount rfl rfl rfl (by decide +kernel) ⟨Nat.le_of_ble_eq_true rfl, Nat.le_of_ble_eq_true rfl⟩) (am_preV X hh 141 12 (by decide) rfl rfl) rfl rfl hl.1 rfl (lv_room (Nat.le_of_ble_eq_true rfl)) dL_law_2164 ⟨by show cells + 0 ≤ 603072; omega, by show slots + 0 ≤ 7194730; omega⟩) (fun ab H locs hh => ?_)
  refine lv_icmp_eq (tgt := 3310) hx hb dL_law_2167 (by decide) (fun hc6 => ?_) (fun hc6 => ?_)
  · have hF := am_pos hc6 hF
    cases hF
    exact W.widen (by omega) (by omega) (kk ab H locs ls hh (lv_sub hl [0, 1, 2, 3, 4, 5] rfl))
  · have hF := am_neg hc6 hF
    refine lv_iconst (v := (0 : Int32)) hx hb dL_law_2170 (by decide) ?_
    cases hF
set_option maxHeartbeats 4000000 in
set_option maxRecDepth 100000 in
theorem c_law_2172 (l : Launch) (hst : l.stackTraces = false) {G : GG} {p : Program} {e : Env} {s : State} {m : MethodId} {args : Array Value} {below : List Frame} {meth : Method} {c : Code} {b L cells slots ab : Nat} {xs : Nat → Int32} {H : Heap} {locs : List Loc} {ls : Array Slot} {w w1 : Wd} {i x1 x2 x3 : Int32} {Q : State → Prop} (X : CX G p s m args meth c cL_law 9 RL wsL_law) (hX : va_X b L xs s s.heap) (hbl : b < s.heap.size) (hbA : ¬ gA G b) (hh : AH G s.heap w ab H locs) (h1 : vp_in (i + 1) L ∧ xs (i + 1).toNatClampNeg = x1) (h2 : vp_in (i + 2) L ∧ xs (i + 2).toNatClampNeg = x2) (h3 : vp_in (i + 3) L ∧ xs (i + 3).toNatClampNeg = x3) (hc : cells + 35 ≤ 603072) (hs : slots + 2182 ≤ 7194730) (hl : lv_has ls 9 [(0, .ref b), (1, .ref (gAd G 0)), (2, .ref (gAd G 141)), (3, .ref (gAd G 151)), (4, .ref (gAd G 152)), (5, .int i)]) (hF : f_law_2172 w x1 x2 x3 = some w1) (kk : ∀ (ab : Nat) (H : Heap) (locs : List Loc) (ls : Array Slot), AH G s.heap w1 ab H locs → lv_has ls 9 [(0, .ref b), (1, .ref (gAd G 0)), (2, .ref (gAd G 141)), (3, .ref (gAd G 151)), (4, .ref (gAd G 152)), (5, .int i)] → W p l e room_1 s m args below meth c H locs (cells + 35) (slots + 2182) Q (F0 m 3310 ls [])) : W p l e room_1 s m args below meth c H locs cells slots Q (F0 m 2172 ls []) := by
  have hx := X.1.1; have hb := X.1.2.1; have hml := X.1.2.2.1; have hown := X.1.2.2.2.1; have hts := X.1.2.2.2.2
  unfold f_law_2172 at hF
  refine lv_aload_n hx hb dL_law_2172 rfl (lv_at hl 1 rfl) ?_
  refine lv_aload_n hx hb dL_law_2173 rfl (lv_at hl 0 rfl) ?_
  refine lv_iload hx hb dL_law_2174 (lv_at hl 5 rfl) ?_
  refine lv_iconst (v := (1 : Int32)) hx hb dL_law_2176 (by decide) ?_
  refine lv_iadd hx hb dL_law_2177 ?_
  refine am_sld hx hb hX hbl hbA hh.2.2 h1 dL_law_2178 ?_
  refine lv_aload_n hx hb dL_law_2179 rfl (lv_at hl 3 rfl) ?_
  obtain ⟨⟨r2, w3⟩, hk1, hF⟩ := am_bind hF
  have hF := am_u2 hF
  refine am_callW X hh (vx_runSX (As := [.ref (gAd G 0), .int x1, .ref (gAd G 151)]) (rest := []) X.1 (c_L_gearOf l G hst hk1) (vx_cwSW 3 hts gL_law_L_gearOf rfl rfl rfl (by decide +kernel) ⟨Nat.le_of_ble_eq_true rfl, Nat.le_of_ble_eq_true rfl⟩) (am_preS X hh) rfl rfl hl.1 rfl (lv_room (Nat.le_of_ble_eq_true rfl)) dL_law_2180 ⟨by show cells + 1 ≤ 603072; omega, by show slots + 6 ≤ 7194730; omega⟩) (fun ab H locs hh => ?_)
  refine lv_istore (lv' := [(6, .int r2), (0, .ref b), (1, .ref (gAd G 0)), (2, .ref (gAd G 141)), (3, .ref (gAd G 151)), (4, .ref (gAd G 152)), (5, .int i)]) hx hb dL_law_2183 hl (by decide) rfl (fun ls hl => ?_)
  refine lv_aload_n hx hb dL_law_2185 rfl (lv_at hl 3 rfl) ?_
  refine lv_aload_n hx hb dL_law_2186 rfl (lv_at hl 1 rfl) ?_
  refine lv_iload hx hb dL_law_2187 (lv_at hl 6 rfl) ?_
  refine lv_iconst (v := (1 : Int32)) hx hb dL_law_2189 (by decide) ?_
  refine lv_iadd hx hb dL_law_2190 ?_
  refine am_sld hx hb hX hbl hbA hh.2.2 h1 dL_law_2191 ?_
  obtain ⟨⟨r5, w6⟩, hk4, hF⟩ := am_bind hF
  have hF := am_u2 hF
  refine am_call X hh (va_runV (As := [.int x1]) (rest := []) X.1 (c_X11_gearOf l G hk4) (cwV 1 hts gL_law_X11_gearOf rfl rfl rfl (by decide +kernel) ⟨Nat.le_of_ble_eq_true rfl, Nat.le_of_ble_eq_true rfl⟩) (am_preV X hh 141 12 (by decide) rfl rfl) rfl rfl hl.1 rfl (lv_room (Nat.le_of_ble_eq_true rfl)) dL_law_2192 ⟨by show (cells + 1) + 0 ≤ 603072; omega, by show (slots + 6) + 0 ≤ 7194730; omega⟩) (fun ab H locs hh => ?_)
  refine lv_istore (lv' := [(7, .int r5), (6, .int r2), (0, .ref b), (1, .ref (gAd G 0)), (2, .ref (gAd G 141)), (3, .ref (gAd G 151)), (4, .ref (gAd G 152)), (5, .int i)]) hx hb dL_law_2195 hl (by decide) rfl (fun ls hl => ?_)
  refine lv_aload_n hx hb dL_law_2197 rfl (lv_at hl 4 rfl) ?_
  obtain ⟨r8, hk7, hF⟩ := am_bind hF
  refine am_call X hh (va_runV (As := []) (rest := []) X.1 (c_X11_thrown l G hk7) (cwV 0 hts gL_law_X11_thrown rfl rfl rfl (by decide +kernel) ⟨Nat.le_of_ble_eq_true rfl, Nat.le_of_ble_eq_true rfl⟩) (am_preV X hh 141 12 (by decide) rfl rfl) rfl rfl hl.1 rfl (lv_room (Nat.le_of_ble_eq_true rfl)) dL_law_2198 ⟨by show (cells + 1) + 0 ≤ 603072; omega, by show (slots + 6) + 0 ≤ 7194730; omega⟩) (fun ab H locs hh => ?_)
  refine lv_iload hx hb dL_law_2201 (lv_at hl 1 rfl) ?_
  refine lv_icmp_eq (tgt := 2208) hx hb dL_law_2203 (by decide) (fun hc9 => ?_) (fun hc9 => ?_)
  · have hF := am_pos hc9 hF
    refine lv_iload hx hb dL_law_2208 (lv_at hl 1 rfl) ?_
    refine lv_if_ne (tgt := 2225) hx hb dL_law_2210 (by decide) (fun hc10 => ?_) (fun hc10 => ?_)
    · have hF := am_neg hc10 hF
      refine lv_goto (tgt := 3310) hx hb dL_law_2225 (by decide) ?_
      cases hF
      exact W.widen (by omega) (by omega) (kk ab H locs ls hh (lv_sub hl [2, 3, 4, 5, 6, 7] rfl))
    · have hF := am_pos hc10 hF
      refine lv_aload_n hx hb dL_law_2213 rfl (lv_at hl 5 rfl) ?_
      refine lv_iconst (v := (0 : Int32)) hx hb dL_law_2214 (by decide) ?_
      obtain ⟨hq11, hF⟩ := am_ifR hF
      refine am_lald X hh 151 (by decide) rfl hq11 dL_law_2215 ?_
      refine lv_iload hx hb dL_law_2216 (lv_at hl 0 rfl) ?_
      refine lv_i2l hx hb dL_law_2218 rfl ?_
      refine am_lcmp_eq (tgt := 2225) hx hb dL_law_2219 dL_law_2220 (by decide) (fun hc12 => ?_) (fun hc12 => ?_)
      · have hF := am_pos hc12 hF
        refine lv_goto (tgt := 3310) hx hb dL_law_2225 (by decide) ?_
        cases hF
        exact W.widen (by omega) (by omega) (kk ab H locs ls hh (lv_sub hl [2, 3, 4, 5, 6, 7] rfl))
      · have hF := am_neg hc12 hF
        refine lv_iconst (v := (0 : Int32)) hx hb dL_law_2223 (by decide) ?_
        cases hF
  · have hF := am_neg hc9 hF
    refine lv_iconst (v := (0 : Int32)) hx hb dL_law_2206 (by decide) ?_
    cases hF
set_option maxHeartbeats 4000000 in
set_option maxRecDepth 100000 in
theorem c_law_2228 (l : Launch) (hst : l.stackTraces = false) {G : GG} {p : Program} {e : Env} {s : State} {m : MethodId} {args : Array Value} {below : List Frame} {meth : Method} {c : Code} {b L cells slots ab : Nat} {xs : Nat → Int32} {H : Heap} {locs : List Loc} {ls : Array Slot} {w w1 : Wd} {i x1 x2 x3 : Int32} {Q : State → Prop} (X : CX G p s m args meth c cL_law 9 RL wsL_law) (hX : va_X b L xs s s.heap) (hbl : b < s.heap.size) (hbA : ¬ gA G b) (hh : AH G s.heap w ab H locs) (h1 : vp_in (i + 1) L ∧ xs (i + 1).toNatClampNeg = x1) (h2 : vp_in (i + 2) L ∧ xs (i + 2).toNatClampNeg = x2) (h3 : vp_in (i + 3) L ∧ xs (i + 3).toNatClampNeg = x3) (hc : cells + 35 ≤ 603072) (hs : slots + 2182 ≤ 7194730) (hl : lv_has ls 9 [(0, .ref b), (1, .ref (gAd G 0)), (2, .ref (gAd G 141)), (3, .ref (gAd G 151)), (4, .ref (gAd G 152)), (5, .int i)]) (hF : f_law_2228 w x1 x2 x3 = some w1) (kk : ∀ (ab : Nat) (H : Heap) (locs : List Loc) (ls : Array Slot), AH G s.heap w1 ab H locs → lv_has ls 9 [(0, .ref b), (1, .ref (gAd G 0)), (2, .ref (gAd G 141)), (3, .ref (gAd G 151)), (4, .ref (gAd G 152)), (5, .int i)] → W p l e room_1 s m args below meth c H locs (cells + 35) (slots + 2182) Q (F0 m 3310 ls [])) : W p l e room_1 s m args below meth c H locs cells slots Q (F0 m 2228 ls []) := by
  have hx := X.1.1; have hb := X.1.2.1; have hml := X.1.2.2.1; have hown := X.1.2.2.2.1; have hts := X.1.2.2.2.2
  unfold f_law_2228 at hF
  refine lv_aload_n hx hb dL_law_2228 rfl (lv_at hl 1 rfl) ?_
  refine lv_aload_n hx hb dL_law_2229 rfl (lv_at hl 0 rfl) ?_
  refine lv_iload hx hb dL_law_2230 (lv_at hl 5 rfl) ?_
  refine lv_iconst (v := (1 : Int32)) hx hb dL_law_2232 (by decide) ?_
  refine lv_iadd hx hb dL_law_2233 ?_
  refine am_sld hx hb hX hbl hbA hh.2.2 h1 dL_law_2234 ?_
  refine lv_aload_n hx hb dL_law_2235 rfl (lv_at hl 0 rfl) ?_
  refine lv_iload hx hb dL_law_2236 (lv_at hl 5 rfl) ?_
  refine lv_iconst (v := (2 : Int32)) hx hb dL_law_2238 (by decide) ?_
  refine lv_iadd hx hb dL_law_2239 ?_
  refine am_sld hx hb hX hbl hbA hh.2.2 h2 dL_law_2240 ?_
  refine lv_aload_n hx hb dL_law_2241 rfl (lv_at hl 3 rfl) ?_
  obtain ⟨⟨r2, w3⟩, hk1, hF⟩ := am_bind hF
  have hF := am_u2 hF
  refine am_callW X hh (vx_runSX (As := [.ref (gAd G 0), .int x1, .int x2, .ref (gAd G 151)]) (rest := []) X.1 (c_L_areInLine l G hst hk1) (vx_cwSW 4 hts gL_law_L_areInLine rfl rfl rfl (by decide +kernel) ⟨Nat.le_of_ble_eq_true rfl, Nat.le_of_ble_eq_true rfl⟩) (am_preS X hh) rfl rfl hl.1 rfl (lv_room (Nat.le_of_ble_eq_true rfl)) dL_law_2242 ⟨by show cells + 3 ≤ 603072; omega, by show slots + 18 ≤ 7194730; omega⟩) (fun ab H locs hh => ?_)
  refine lv_istore (lv' := [(6, .int r2), (0, .ref b), (1, .ref (gAd G 0)), (2, .ref (gAd G 141)), (3, .ref (gAd G 151)), (4, .ref (gAd G 152)), (5, .int i)]) hx hb dL_law_2245 hl (by decide) rfl (fun ls hl => ?_)
  refine lv_aload_n hx hb dL_law_2247 rfl (lv_at hl 3 rfl) ?_
  refine lv_aload_n hx hb dL_law_2248 rfl (lv_at hl 1 rfl) ?_
  refine lv_iload hx hb dL_law_2249 (lv_at hl 6 rfl) ?_
  refine lv_iconst (v := (1 : Int32)) hx hb dL_law_2251 (by decide) ?_
  refine lv_iadd hx hb dL_law_2252 ?_
  refine am_sld hx hb hX hbl hbA hh.2.2 h1 dL_law_2253 ?_
  refine lv_aload_n hx hb dL_law_2254 rfl (lv_at hl 1 rfl) ?_
  refine lv_iload hx hb dL_law_2255 (lv_at hl 6 rfl) ?_
  refine lv_iconst (v := (2 : Int32)) hx hb dL_law_2257 (by decide) ?_
  refine lv_iadd hx hb dL_law_2258 ?_
  refine am_sld hx hb hX hbl hbA hh.2.2 h2 dL_law_2259 ?_
  obtain ⟨⟨r5, w6⟩, hk4, hF⟩ := am_bind hF
  have hF := am_u2 hF
  refine am_call X hh (va_runV (As := [.int x1, .int x2]) (rest := []) X.1 (c_X11_areInLine l G hk4) (cwV 2 hts gL_law_X11_areInLine rfl rfl rfl (by decide +kernel) ⟨Nat.le_of_ble_eq_true rfl, Nat.le_of_ble_eq_true rfl⟩) (am_preV X hh 141 12 (by decide) rfl rfl) rfl rfl hl.1 rfl (lv_room (Nat.le_of_ble_eq_true rfl)) dL_law_2260 ⟨by show (cells + 3) + 0 ≤ 603072; omega, by show (slots + 18) + 0 ≤ 7194730; omega⟩) (fun ab H locs hh => ?_)
  refine lv_istore (lv' := [(7, .int r5), (6, .int r2), (0, .ref b), (1, .ref (gAd G 0)), (2, .ref (gAd G 141)), (3, .ref (gAd G 151)), (4, .ref (gAd G 152)), (5, .int i)]) hx hb dL_law_2263 hl (by decide) rfl (fun ls hl => ?_)
  refine lv_aload_n hx hb dL_law_2265 rfl (lv_at hl 4 rfl) ?_
  obtain ⟨r8, hk7, hF⟩ := am_bind hF
  refine am_call X hh (va_runV (As := []) (rest := []) X.1 (c_X11_thrown l G hk7) (cwV 0 hts gL_law_X11_thrown rfl rfl rfl (by decide +kernel) ⟨Nat.le_of_ble_eq_true rfl, Nat.le_of_ble_eq_true rfl⟩) (am_preV X hh 141 12 (by decide) rfl rfl) rfl rfl hl.1 rfl (lv_room (Nat.le_of_ble_eq_true rfl)) dL_law_2266 ⟨by show (cells + 3) + 0 ≤ 603072; omega, by show (slots + 18) + 0 ≤ 7194730; omega⟩) (fun ab H locs hh => ?_)
  refine lv_iload hx hb dL_law_2269 (lv_at hl 1 rfl) ?_
  refine lv_icmp_eq (tgt := 2276) hx hb dL_law_2271 (by decide) (fun hc9 => ?_) (fun hc9 => ?_)
  · have hF := am_pos hc9 hF
    refine lv_iload hx hb dL_law_2276 (lv_at hl 1 rfl) ?_
    refine lv_if_ne (tgt := 2300) hx hb dL_law_2278 (by decide) (fun hc10 => ?_) (fun hc10 => ?_)
    · have hF := am_neg hc10 hF
      refine lv_goto (tgt := 3310) hx hb dL_law_2300 (by decide) ?_
      cases hF
      exact W.widen (by omega) (by omega) (kk ab H locs ls hh (lv_sub hl [2, 3, 4, 5, 6, 7] rfl))
    · have hF := am_pos hc10 hF
      refine lv_aload_n hx hb dL_law_2281 rfl (lv_at hl 5 rfl) ?_
      refine lv_iconst (v := (0 : Int32)) hx hb dL_law_2282 (by decide) ?_
      obtain ⟨hq11, hF⟩ := am_ifR hF
      refine am_lald X hh 151 (by decide) rfl hq11 dL_law_2283 ?_
      refine lv_iload hx hb dL_law_2284 (lv_at hl 0 rfl) ?_
      refine lv_if_eq (tgt := 2293) hx hb dL_law_2286 (by decide) (fun hc12 => ?_) (fun hc12 => ?_)
      · have hF := am_pos hc12 hF
        refine lv_lconst (v := (0 : Int64)) hx hb dL_law_2293 (by decide) ?_
        refine am_lcmp_eq (tgt := 2300) hx hb dL_law_2294 dL_law_2295 (by decide) (fun hc13 => ?_) (fun hc13 => ?_)
        · have hF := am_pos hc13 hF
          refine lv_goto (tgt := 3310) hx hb dL_law_2300 (by decide) ?_
          cases hF
          exact W.widen (by omega) (by omega) (kk ab H locs ls hh (lv_sub hl [2, 3, 4, 5, 6, 7] rfl))
        · have hF := am_neg hc13 hF
          refine lv_iconst (v := (0 : Int32)) hx hb dL_law_2298 (by decide) ?_
          cases hF
      · have hF := am_neg hc12 hF
        refine lv_lconst (v := (1 : Int64)) hx hb dL_law_2289 (by decide) ?_
        refine lv_goto (tgt := 2294) hx hb dL_law_2290 (by decide) ?_
        refine am_lcmp_eq (tgt := 2300) hx hb dL_law_2294 dL_law_2295 (by decide) (fun hc14 => ?_) (fun hc14 => ?_)
        · have hF := am_pos hc14 hF
          refine lv_goto (tgt := 3310) hx hb dL_law_2300 (by decide) ?_
          cases hF
          exact W.widen (by omega) (by omega) (kk ab H locs ls hh (lv_sub hl [2, 3, 4, 5, 6, 7] rfl))
        · have hF := am_neg hc14 hF
          refine lv_iconst (v := (0 : Int32)) hx hb dL_law_2298 (by decide) ?_
          cases hF
  · have hF := am_neg hc9 hF
    refine lv_iconst (v := (0 : Int32)) hx hb dL_law_2274 (by decide) ?_
    cases hF
set_option maxHeartbeats 4000000 in
set_option maxRecDepth 100000 in
theorem c_law_2303 (l : Launch) (hst : l.stackTraces = false) {G : GG} {p : Program} {e : Env} {s : State} {m : MethodId} {args : Array Value} {below : List Frame} {meth : Method} {c : Code} {b L cells slots ab : Nat} {xs : Nat → Int32} {H : Heap} {locs : List Loc} {ls : Array Slot} {w w1 : Wd} {i x1 x2 x3 : Int32} {Q : State → Prop} (X : CX G p s m args meth c cL_law 9 RL wsL_law) (hX : va_X b L xs s s.heap) (hbl : b < s.heap.size) (hbA : ¬ gA G b) (hh : AH G s.heap w ab H locs) (h1 : vp_in (i + 1) L ∧ xs (i + 1).toNatClampNeg = x1) (h2 : vp_in (i + 2) L ∧ xs (i + 2).toNatClampNeg = x2) (h3 : vp_in (i + 3) L ∧ xs (i + 3).toNatClampNeg = x3) (hc : cells + 35 ≤ 603072) (hs : slots + 2182 ≤ 7194730) (hl : lv_has ls 9 [(0, .ref b), (1, .ref (gAd G 0)), (2, .ref (gAd G 141)), (3, .ref (gAd G 151)), (4, .ref (gAd G 152)), (5, .int i)]) (hF : f_law_2303 w x1 x2 x3 = some w1) (kk : ∀ (ab : Nat) (H : Heap) (locs : List Loc) (ls : Array Slot), AH G s.heap w1 ab H locs → lv_has ls 9 [(0, .ref b), (1, .ref (gAd G 0)), (2, .ref (gAd G 141)), (3, .ref (gAd G 151)), (4, .ref (gAd G 152)), (5, .int i)] → W p l e room_1 s m args below meth c H locs (cells + 35) (slots + 2182) Q (F0 m 3310 ls [])) : W p l e room_1 s m args below meth c H locs cells slots Q (F0 m 2303 ls []) := by
  have hx := X.1.1; have hb := X.1.2.1; have hml := X.1.2.2.1; have hown := X.1.2.2.2.1; have hts := X.1.2.2.2.2
  unfold f_law_2303 at hF
  refine lv_aload_n hx hb dL_law_2303 rfl (lv_at hl 1 rfl) ?_
  refine lv_aload_n hx hb dL_law_2304 rfl (lv_at hl 0 rfl) ?_
  refine lv_iload hx hb dL_law_2305 (lv_at hl 5 rfl) ?_
  refine lv_iconst (v := (1 : Int32)) hx hb dL_law_2307 (by decide) ?_
  refine lv_iadd hx hb dL_law_2308 ?_
  refine am_sld hx hb hX hbl hbA hh.2.2 h1 dL_law_2309 ?_
  refine lv_aload_n hx hb dL_law_2310 rfl (lv_at hl 0 rfl) ?_
  refine lv_iload hx hb dL_law_2311 (lv_at hl 5 rfl) ?_
  refine lv_iconst (v := (2 : Int32)) hx hb dL_law_2313 (by decide) ?_
  refine lv_iadd hx hb dL_law_2314 ?_
  refine am_sld hx hb hX hbl hbA hh.2.2 h2 dL_law_2315 ?_
  refine lv_aload_n hx hb dL_law_2316 rfl (lv_at hl 0 rfl) ?_
  refine lv_iload hx hb dL_law_2317 (lv_at hl 5 rfl) ?_
  refine lv_iconst (v := (3 : Int32)) hx hb dL_law_2319 (by decide) ?_
  refine lv_iadd hx hb dL_law_2320 ?_
  refine am_sld hx hb hX hbl hbA hh.2.2 h3 dL_law_2321 ?_
  refine lv_aload_n hx hb dL_law_2322 rfl (lv_at hl 3 rfl) ?_
  obtain ⟨⟨r2, w3⟩, hk1, hF⟩ := am_bind hF
  have hF := am_u2 hF
  refine am_callW X hh (vx_runSX (As := [.ref (gAd G 0), .int x1, .int x2, .int x3, .ref (gAd G 151)]) (rest := []) X.1 (c_L_nextEclipse l G hst hk1) (vx_cwSW 5 hts gL_law_L_nextEclipse rfl rfl rfl (by decide +kernel) ⟨Nat.le_of_ble_eq_true rfl, Nat.le_of_ble_eq_true rfl⟩) (am_preS X hh) rfl rfl hl.1 rfl (lv_room (Nat.le_of_ble_eq_true rfl)) dL_law_2323 ⟨by show cells + 2 ≤ 603072; omega, by show slots + 12 ≤ 7194730; omega⟩) (fun ab H locs hh => ?_)
  refine lv_istore (lv' := [(6, .int r2), (0, .ref b), (1, .ref (gAd G 0)), (2, .ref (gAd G 141)), (3, .ref (gAd G 151)), (4, .ref (gAd G 152)), (5, .int i)]) hx hb dL_law_2326 hl (by decide) rfl (fun ls hl => ?_)
  refine lv_aload_n hx hb dL_law_2328 rfl (lv_at hl 3 rfl) ?_
  refine lv_aload_n hx hb dL_law_2329 rfl (lv_at hl 1 rfl) ?_
  refine lv_iload hx hb dL_law_2330 (lv_at hl 6 rfl) ?_
  refine lv_iconst (v := (1 : Int32)) hx hb dL_law_2332 (by decide) ?_
  refine lv_iadd hx hb dL_law_2333 ?_
  refine am_sld hx hb hX hbl hbA hh.2.2 h1 dL_law_2334 ?_
  refine lv_aload_n hx hb dL_law_2335 rfl (lv_at hl 1 rfl) ?_
  refine lv_iload hx hb dL_law_2336 (lv_at hl 6 rfl) ?_
  refine lv_iconst (v := (2 : Int32)) hx hb dL_law_2338 (by decide) ?_
  refine lv_iadd hx hb dL_law_2339 ?_
  refine am_sld hx hb hX hbl hbA hh.2.2 h2 dL_law_2340 ?_
  refine lv_aload_n hx hb dL_law_2341 rfl (lv_at hl 1 rfl) ?_
  refine lv_iload hx hb dL_law_2342 (lv_at hl 6 rfl) ?_
  refine lv_iconst (v := (3 : Int32)) hx hb dL_law_2344 (by decide) ?_
  refine lv_iadd hx hb dL_law_2345 ?_
  refine am_sld hx hb hX hbl hbA hh.2.2 h3 dL_law_2346 ?_
  obtain ⟨⟨r5, w6⟩, hk4, hF⟩ := am_bind hF
  have hF := am_u2 hF
  refine am_call X hh (va_runV (As := [.int x1, .int x2, .int x3]) (rest := []) X.1 (c_X11_nextEclipse l G hk4) (cwV 3 hts gL_law_X11_nextEclipse rfl rfl rfl (by decide +kernel) ⟨Nat.le_of_ble_eq_true rfl, Nat.le_of_ble_eq_true rfl⟩) (am_preV X hh 141 12 (by decide) rfl rfl) rfl rfl hl.1 rfl (lv_room (Nat.le_of_ble_eq_true rfl)) dL_law_2347 ⟨by show (cells + 2) + 0 ≤ 603072; omega, by show (slots + 12) + 0 ≤ 7194730; omega⟩) (fun ab H locs hh => ?_)
  refine lv_istore (lv' := [(7, .int r5), (6, .int r2), (0, .ref b), (1, .ref (gAd G 0)), (2, .ref (gAd G 141)), (3, .ref (gAd G 151)), (4, .ref (gAd G 152)), (5, .int i)]) hx hb dL_law_2350 hl (by decide) rfl (fun ls hl => ?_)
  refine lv_aload_n hx hb dL_law_2352 rfl (lv_at hl 4 rfl) ?_
  obtain ⟨r8, hk7, hF⟩ := am_bind hF
  refine am_call X hh (va_runV (As := []) (rest := []) X.1 (c_X11_thrown l G hk7) (cwV 0 hts gL_law_X11_thrown rfl rfl rfl (by decide +kernel) ⟨Nat.le_of_ble_eq_true rfl, Nat.le_of_ble_eq_true rfl⟩) (am_preV X hh 141 12 (by decide) rfl rfl) rfl rfl hl.1 rfl (lv_room (Nat.le_of_ble_eq_true rfl)) dL_law_2353 ⟨by show (cells + 2) + 0 ≤ 603072; omega, by show (slots + 12) + 0 ≤ 7194730; omega⟩) (fun ab H locs hh => ?_)
  refine lv_iload hx hb dL_law_2356 (lv_at hl 1 rfl) ?_
  refine lv_icmp_eq (tgt := 2363) hx hb dL_law_2358 (by decide) (fun hc9 => ?_) (fun hc9 => ?_)
  · have hF := am_pos hc9 hF
    refine lv_iload hx hb dL_law_2363 (lv_at hl 1 rfl) ?_
    refine lv_if_ne (tgt := 2380) hx hb dL_law_2365 (by decide) (fun hc10 => ?_) (fun hc10 => ?_)
    · have hF := am_neg hc10 hF
      refine lv_goto (tgt := 3310) hx hb dL_law_2380 (by decide) ?_
      cases hF
      exact W.widen (by omega) (by omega) (kk ab H locs ls hh (lv_sub hl [2, 3, 4, 5, 6, 7] rfl))
    · have hF := am_pos hc10 hF
      refine lv_aload_n hx hb dL_law_2368 rfl (lv_at hl 5 rfl) ?_
      refine lv_iconst (v := (0 : Int32)) hx hb dL_law_2369 (by decide) ?_
      obtain ⟨hq11, hF⟩ := am_ifR hF
      refine am_lald X hh 151 (by decide) rfl hq11 dL_law_2370 ?_
      refine lv_iload hx hb dL_law_2371 (lv_at hl 0 rfl) ?_
      refine lv_i2l hx hb dL_law_2373 rfl ?_
      refine am_lcmp_eq (tgt := 2380) hx hb dL_law_2374 dL_law_2375 (by decide) (fun hc12 => ?_) (fun hc12 => ?_)
      · have hF := am_pos hc12 hF
        refine lv_goto (tgt := 3310) hx hb dL_law_2380 (by decide) ?_
        cases hF
        exact W.widen (by omega) (by omega) (kk ab H locs ls hh (lv_sub hl [2, 3, 4, 5, 6, 7] rfl))
      · have hF := am_neg hc12 hF
        refine lv_iconst (v := (0 : Int32)) hx hb dL_law_2378 (by decide) ?_
        cases hF
  · have hF := am_neg hc9 hF
    refine lv_iconst (v := (0 : Int32)) hx hb dL_law_2361 (by decide) ?_
    cases hF
set_option maxHeartbeats 4000000 in
set_option maxRecDepth 100000 in
theorem c_law_2383 (l : Launch) (hst : l.stackTraces = false) {G : GG} {p : Program} {e : Env} {s : State} {m : MethodId} {args : Array Value} {below : List Frame} {meth : Method} {c : Code} {b L cells slots ab : Nat} {xs : Nat → Int32} {H : Heap} {locs : List Loc} {ls : Array Slot} {w w1 : Wd} {i x1 x2 x3 : Int32} {Q : State → Prop} (X : CX G p s m args meth c cL_law 9 RL wsL_law) (hX : va_X b L xs s s.heap) (hbl : b < s.heap.size) (hbA : ¬ gA G b) (hh : AH G s.heap w ab H locs) (h1 : vp_in (i + 1) L ∧ xs (i + 1).toNatClampNeg = x1) (h2 : vp_in (i + 2) L ∧ xs (i + 2).toNatClampNeg = x2) (h3 : vp_in (i + 3) L ∧ xs (i + 3).toNatClampNeg = x3) (hc : cells + 35 ≤ 603072) (hs : slots + 2182 ≤ 7194730) (hl : lv_has ls 9 [(0, .ref b), (1, .ref (gAd G 0)), (2, .ref (gAd G 141)), (3, .ref (gAd G 151)), (4, .ref (gAd G 152)), (5, .int i)]) (hF : f_law_2383 w x1 x2 x3 = some w1) (kk : ∀ (ab : Nat) (H : Heap) (locs : List Loc) (ls : Array Slot), AH G s.heap w1 ab H locs → lv_has ls 9 [(0, .ref b), (1, .ref (gAd G 0)), (2, .ref (gAd G 141)), (3, .ref (gAd G 151)), (4, .ref (gAd G 152)), (5, .int i)] → W p l e room_1 s m args below meth c H locs (cells + 35) (slots + 2182) Q (F0 m 3310 ls [])) : W p l e room_1 s m args below meth c H locs cells slots Q (F0 m 2383 ls []) := by
  have hx := X.1.1; have hb := X.1.2.1; have hml := X.1.2.2.1; have hown := X.1.2.2.2.1; have hts := X.1.2.2.2.2
  unfold f_law_2383 at hF
  refine lv_aload_n hx hb dL_law_2383 rfl (lv_at hl 1 rfl) ?_
  refine lv_aload_n hx hb dL_law_2384 rfl (lv_at hl 0 rfl) ?_
  refine lv_iload hx hb dL_law_2385 (lv_at hl 5 rfl) ?_
  refine lv_iconst (v := (1 : Int32)) hx hb dL_law_2387 (by decide) ?_
  refine lv_iadd hx hb dL_law_2388 ?_
  refine am_sld hx hb hX hbl hbA hh.2.2 h1 dL_law_2389 ?_
  refine lv_aload_n hx hb dL_law_2390 rfl (lv_at hl 0 rfl) ?_
  refine lv_iload hx hb dL_law_2391 (lv_at hl 5 rfl) ?_
  refine lv_iconst (v := (2 : Int32)) hx hb dL_law_2393 (by decide) ?_
  refine lv_iadd hx hb dL_law_2394 ?_
  refine am_sld hx hb hX hbl hbA hh.2.2 h2 dL_law_2395 ?_
  refine lv_aload_n hx hb dL_law_2396 rfl (lv_at hl 0 rfl) ?_
  refine lv_iload hx hb dL_law_2397 (lv_at hl 5 rfl) ?_
  refine lv_iconst (v := (3 : Int32)) hx hb dL_law_2399 (by decide) ?_
  refine lv_iadd hx hb dL_law_2400 ?_
  refine am_sld hx hb hX hbl hbA hh.2.2 h3 dL_law_2401 ?_
  refine lv_aload_n hx hb dL_law_2402 rfl (lv_at hl 3 rfl) ?_
  obtain ⟨⟨r2, w3⟩, hk1, hF⟩ := am_bind hF
  have hF := am_u2 hF
  refine am_callW X hh (vx_runSX (As := [.ref (gAd G 0), .int x1, .int x2, .int x3, .ref (gAd G 151)]) (rest := []) X.1 (c_L_nextEclipseByTurns l G hst hk1) (vx_cwSW 5 hts gL_law_L_nextEclipseByTurns rfl rfl rfl (by decide +kernel) ⟨Nat.le_of_ble_eq_true rfl, Nat.le_of_ble_eq_true rfl⟩) (am_preS X hh) rfl rfl hl.1 rfl (lv_room (Nat.le_of_ble_eq_true rfl)) dL_law_2403 ⟨by show cells + 2 ≤ 603072; omega, by show slots + 12 ≤ 7194730; omega⟩) (fun ab H locs hh => ?_)
  refine lv_istore (lv' := [(6, .int r2), (0, .ref b), (1, .ref (gAd G 0)), (2, .ref (gAd G 141)), (3, .ref (gAd G 151)), (4, .ref (gAd G 152)), (5, .int i)]) hx hb dL_law_2406 hl (by decide) rfl (fun ls hl => ?_)
  refine lv_aload_n hx hb dL_law_2408 rfl (lv_at hl 3 rfl) ?_
  refine lv_aload_n hx hb dL_law_2409 rfl (lv_at hl 1 rfl) ?_
  refine lv_iload hx hb dL_law_2410 (lv_at hl 6 rfl) ?_
  refine lv_iconst (v := (1 : Int32)) hx hb dL_law_2412 (by decide) ?_
  refine lv_iadd hx hb dL_law_2413 ?_
  refine am_sld hx hb hX hbl hbA hh.2.2 h1 dL_law_2414 ?_
  refine lv_aload_n hx hb dL_law_2415 rfl (lv_at hl 1 rfl) ?_
  refine lv_iload hx hb dL_law_2416 (lv_at hl 6 rfl) ?_
  refine lv_iconst (v := (2 : Int32)) hx hb dL_law_2418 (by decide) ?_
  refine lv_iadd hx hb dL_law_2419 ?_
  refine am_sld hx hb hX hbl hbA hh.2.2 h2 dL_law_2420 ?_
  refine lv_aload_n hx hb dL_law_2421 rfl (lv_at hl 1 rfl) ?_
  refine lv_iload hx hb dL_law_2422 (lv_at hl 6 rfl) ?_
  refine lv_iconst (v := (3 : Int32)) hx hb dL_law_2424 (by decide) ?_
  refine lv_iadd hx hb dL_law_2425 ?_
  refine am_sld hx hb hX hbl hbA hh.2.2 h3 dL_law_2426 ?_
  obtain ⟨⟨r5, w6⟩, hk4, hF⟩ := am_bind hF
  have hF := am_u2 hF
  refine am_call X hh (va_runV (As := [.int x1, .int x2, .int x3]) (rest := []) X.1 (c_X11_nextEclipseByTurns l G hk4) (cwV 3 hts gL_law_X11_nextEclipseByTurns rfl rfl rfl (by decide +kernel) ⟨Nat.le_of_ble_eq_true rfl, Nat.le_of_ble_eq_true rfl⟩) (am_preV X hh 141 12 (by decide) rfl rfl) rfl rfl hl.1 rfl (lv_room (Nat.le_of_ble_eq_true rfl)) dL_law_2427 ⟨by show (cells + 2) + 0 ≤ 603072; omega, by show (slots + 12) + 0 ≤ 7194730; omega⟩) (fun ab H locs hh => ?_)
  refine lv_istore (lv' := [(7, .int r5), (6, .int r2), (0, .ref b), (1, .ref (gAd G 0)), (2, .ref (gAd G 141)), (3, .ref (gAd G 151)), (4, .ref (gAd G 152)), (5, .int i)]) hx hb dL_law_2430 hl (by decide) rfl (fun ls hl => ?_)
  refine lv_aload_n hx hb dL_law_2432 rfl (lv_at hl 4 rfl) ?_
  obtain ⟨r8, hk7, hF⟩ := am_bind hF
  refine am_call X hh (va_runV (As := []) (rest := []) X.1 (c_X11_thrown l G hk7) (cwV 0 hts gL_law_X11_thrown rfl rfl rfl (by decide +kernel) ⟨Nat.le_of_ble_eq_true rfl, Nat.le_of_ble_eq_true rfl⟩) (am_preV X hh 141 12 (by decide) rfl rfl) rfl rfl hl.1 rfl (lv_room (Nat.le_of_ble_eq_true rfl)) dL_law_2433 ⟨by show (cells + 2) + 0 ≤ 603072; omega, by show (slots + 12) + 0 ≤ 7194730; omega⟩) (fun ab H locs hh => ?_)
  refine lv_iload hx hb dL_law_2436 (lv_at hl 1 rfl) ?_
  refine lv_icmp_eq (tgt := 2443) hx hb dL_law_2438 (by decide) (fun hc9 => ?_) (fun hc9 => ?_)
  · have hF := am_pos hc9 hF
    refine lv_iload hx hb dL_law_2443 (lv_at hl 1 rfl) ?_
    refine lv_if_ne (tgt := 2460) hx hb dL_law_2445 (by decide) (fun hc10 => ?_) (fun hc10 => ?_)
    · have hF := am_neg hc10 hF
      refine lv_goto (tgt := 3310) hx hb dL_law_2460 (by decide) ?_
      cases hF
      exact W.widen (by omega) (by omega) (kk ab H locs ls hh (lv_sub hl [2, 3, 4, 5, 6, 7] rfl))
    · have hF := am_pos hc10 hF
      refine lv_aload_n hx hb dL_law_2448 rfl (lv_at hl 5 rfl) ?_
      refine lv_iconst (v := (0 : Int32)) hx hb dL_law_2449 (by decide) ?_
      obtain ⟨hq11, hF⟩ := am_ifR hF
      refine am_lald X hh 151 (by decide) rfl hq11 dL_law_2450 ?_
      refine lv_iload hx hb dL_law_2451 (lv_at hl 0 rfl) ?_
      refine lv_i2l hx hb dL_law_2453 rfl ?_
      refine am_lcmp_eq (tgt := 2460) hx hb dL_law_2454 dL_law_2455 (by decide) (fun hc12 => ?_) (fun hc12 => ?_)
      · have hF := am_pos hc12 hF
        refine lv_goto (tgt := 3310) hx hb dL_law_2460 (by decide) ?_
        cases hF
        exact W.widen (by omega) (by omega) (kk ab H locs ls hh (lv_sub hl [2, 3, 4, 5, 6, 7] rfl))
      · have hF := am_neg hc12 hF
        refine lv_iconst (v := (0 : Int32)) hx hb dL_law_2458 (by decide) ?_
        cases hF
  · have hF := am_neg hc9 hF
    refine lv_iconst (v := (0 : Int32)) hx hb dL_law_2441 (by decide) ?_
    cases hF
set_option maxHeartbeats 4000000 in
set_option maxRecDepth 100000 in
theorem c_law_2463 (l : Launch) (hst : l.stackTraces = false) {G : GG} {p : Program} {e : Env} {s : State} {m : MethodId} {args : Array Value} {below : List Frame} {meth : Method} {c : Code} {b L cells slots ab : Nat} {xs : Nat → Int32} {H : Heap} {locs : List Loc} {ls : Array Slot} {w w1 : Wd} {i x1 x2 x3 : Int32} {Q : State → Prop} (X : CX G p s m args meth c cL_law 9 RL wsL_law) (hX : va_X b L xs s s.heap) (hbl : b < s.heap.size) (hbA : ¬ gA G b) (hh : AH G s.heap w ab H locs) (h1 : vp_in (i + 1) L ∧ xs (i + 1).toNatClampNeg = x1) (h2 : vp_in (i + 2) L ∧ xs (i + 2).toNatClampNeg = x2) (h3 : vp_in (i + 3) L ∧ xs (i + 3).toNatClampNeg = x3) (hc : cells + 35 ≤ 603072) (hs : slots + 2182 ≤ 7194730) (hl : lv_has ls 9 [(0, .ref b), (1, .ref (gAd G 0)), (2, .ref (gAd G 141)), (3, .ref (gAd G 151)), (4, .ref (gAd G 152)), (5, .int i)]) (hF : f_law_2463 w x1 x2 x3 = some w1) (kk : ∀ (ab : Nat) (H : Heap) (locs : List Loc) (ls : Array Slot), AH G s.heap w1 ab H locs → lv_has ls 9 [(0, .ref b), (1, .ref (gAd G 0)), (2, .ref (gAd G 141)), (3, .ref (gAd G 151)), (4, .ref (gAd G 152)), (5, .int i)] → W p l e room_1 s m args below meth c H locs (cells + 35) (slots + 2182) Q (F0 m 3310 ls [])) : W p l e room_1 s m args below meth c H locs cells slots Q (F0 m 2463 ls []) := by
  have hx := X.1.1; have hb := X.1.2.1; have hml := X.1.2.2.1; have hown := X.1.2.2.2.1; have hts := X.1.2.2.2.2
  unfold f_law_2463 at hF
  refine lv_aload_n hx hb dL_law_2463 rfl (lv_at hl 1 rfl) ?_
  refine lv_aload_n hx hb dL_law_2464 rfl (lv_at hl 0 rfl) ?_
  refine lv_iload hx hb dL_law_2465 (lv_at hl 5 rfl) ?_
  refine lv_iconst (v := (1 : Int32)) hx hb dL_law_2467 (by decide) ?_
  refine lv_iadd hx hb dL_law_2468 ?_
  refine am_sld hx hb hX hbl hbA hh.2.2 h1 dL_law_2469 ?_
  refine lv_aload_n hx hb dL_law_2470 rfl (lv_at hl 3 rfl) ?_
  obtain ⟨⟨r2, w3⟩, hk1, hF⟩ := am_bind hF
  have hF := am_u2 hF
  refine am_callW X hh (vx_runSX (As := [.ref (gAd G 0), .int x1, .ref (gAd G 151)]) (rest := []) X.1 (c_L_planetByAngle l G hst hk1) (vx_cwSW 3 hts gL_law_L_planetByAngle rfl rfl rfl (by decide +kernel) ⟨Nat.le_of_ble_eq_true rfl, Nat.le_of_ble_eq_true rfl⟩) (am_preS X hh) rfl rfl hl.1 rfl (lv_room (Nat.le_of_ble_eq_true rfl)) dL_law_2471 ⟨by show cells + 1 ≤ 603072; omega, by show slots + 6 ≤ 7194730; omega⟩) (fun ab H locs hh => ?_)
  refine lv_istore (lv' := [(6, .int r2), (0, .ref b), (1, .ref (gAd G 0)), (2, .ref (gAd G 141)), (3, .ref (gAd G 151)), (4, .ref (gAd G 152)), (5, .int i)]) hx hb dL_law_2474 hl (by decide) rfl (fun ls hl => ?_)
  refine lv_aload_n hx hb dL_law_2476 rfl (lv_at hl 3 rfl) ?_
  refine lv_aload_n hx hb dL_law_2477 rfl (lv_at hl 1 rfl) ?_
  refine lv_iload hx hb dL_law_2478 (lv_at hl 6 rfl) ?_
  refine lv_iconst (v := (1 : Int32)) hx hb dL_law_2480 (by decide) ?_
  refine lv_iadd hx hb dL_law_2481 ?_
  refine am_sld hx hb hX hbl hbA hh.2.2 h1 dL_law_2482 ?_
  obtain ⟨⟨r5, w6⟩, hk4, hF⟩ := am_bind hF
  have hF := am_u2 hF
  refine am_call X hh (va_runV (As := [.int x1]) (rest := []) X.1 (c_X11_planetByAngle l G hk4) (cwV 1 hts gL_law_X11_planetByAngle rfl rfl rfl (by decide +kernel) ⟨Nat.le_of_ble_eq_true rfl, Nat.le_of_ble_eq_true rfl⟩) (am_preV X hh 141 12 (by decide) rfl rfl) rfl rfl hl.1 rfl (lv_room (Nat.le_of_ble_eq_true rfl)) dL_law_2483 ⟨by show (cells + 1) + 0 ≤ 603072; omega, by show (slots + 6) + 0 ≤ 7194730; omega⟩) (fun ab H locs hh => ?_)
  refine lv_istore (lv' := [(7, .int r5), (6, .int r2), (0, .ref b), (1, .ref (gAd G 0)), (2, .ref (gAd G 141)), (3, .ref (gAd G 151)), (4, .ref (gAd G 152)), (5, .int i)]) hx hb dL_law_2486 hl (by decide) rfl (fun ls hl => ?_)
  refine lv_aload_n hx hb dL_law_2488 rfl (lv_at hl 4 rfl) ?_
  obtain ⟨r8, hk7, hF⟩ := am_bind hF
  refine am_call X hh (va_runV (As := []) (rest := []) X.1 (c_X11_thrown l G hk7) (cwV 0 hts gL_law_X11_thrown rfl rfl rfl (by decide +kernel) ⟨Nat.le_of_ble_eq_true rfl, Nat.le_of_ble_eq_true rfl⟩) (am_preV X hh 141 12 (by decide) rfl rfl) rfl rfl hl.1 rfl (lv_room (Nat.le_of_ble_eq_true rfl)) dL_law_2489 ⟨by show (cells + 1) + 0 ≤ 603072; omega, by show (slots + 6) + 0 ≤ 7194730; omega⟩) (fun ab H locs hh => ?_)
  refine lv_iload hx hb dL_law_2492 (lv_at hl 1 rfl) ?_
  refine lv_icmp_eq (tgt := 2499) hx hb dL_law_2494 (by decide) (fun hc9 => ?_) (fun hc9 => ?_)
  · have hF := am_pos hc9 hF
    refine lv_iload hx hb dL_law_2499 (lv_at hl 1 rfl) ?_
    refine lv_if_ne (tgt := 2516) hx hb dL_law_2501 (by decide) (fun hc10 => ?_) (fun hc10 => ?_)
    · have hF := am_neg hc10 hF
      refine lv_goto (tgt := 3310) hx hb dL_law_2516 (by decide) ?_
      cases hF
      exact W.widen (by omega) (by omega) (kk ab H locs ls hh (lv_sub hl [2, 3, 4, 5, 6, 7] rfl))
    · have hF := am_pos hc10 hF
      refine lv_aload_n hx hb dL_law_2504 rfl (lv_at hl 5 rfl) ?_
      refine lv_iconst (v := (0 : Int32)) hx hb dL_law_2505 (by decide) ?_
      obtain ⟨hq11, hF⟩ := am_ifR hF
      refine am_lald X hh 151 (by decide) rfl hq11 dL_law_2506 ?_
      refine lv_iload hx hb dL_law_2507 (lv_at hl 0 rfl) ?_
      refine lv_i2l hx hb dL_law_2509 rfl ?_
      refine am_lcmp_eq (tgt := 2516) hx hb dL_law_2510 dL_law_2511 (by decide) (fun hc12 => ?_) (fun hc12 => ?_)
      · have hF := am_pos hc12 hF
        refine lv_goto (tgt := 3310) hx hb dL_law_2516 (by decide) ?_
        cases hF
        exact W.widen (by omega) (by omega) (kk ab H locs ls hh (lv_sub hl [2, 3, 4, 5, 6, 7] rfl))
      · have hF := am_neg hc12 hF
        refine lv_iconst (v := (0 : Int32)) hx hb dL_law_2514 (by decide) ?_
        cases hF
  · have hF := am_neg hc9 hF
    refine lv_iconst (v := (0 : Int32)) hx hb dL_law_2497 (by decide) ?_
    cases hF
set_option maxHeartbeats 4000000 in
set_option maxRecDepth 100000 in
theorem c_law_2519 (l : Launch) (hst : l.stackTraces = false) {G : GG} {p : Program} {e : Env} {s : State} {m : MethodId} {args : Array Value} {below : List Frame} {meth : Method} {c : Code} {b L cells slots ab : Nat} {xs : Nat → Int32} {H : Heap} {locs : List Loc} {ls : Array Slot} {w w1 : Wd} {i x1 x2 x3 : Int32} {Q : State → Prop} (X : CX G p s m args meth c cL_law 9 RL wsL_law) (hX : va_X b L xs s s.heap) (hbl : b < s.heap.size) (hbA : ¬ gA G b) (hh : AH G s.heap w ab H locs) (h1 : vp_in (i + 1) L ∧ xs (i + 1).toNatClampNeg = x1) (h2 : vp_in (i + 2) L ∧ xs (i + 2).toNatClampNeg = x2) (h3 : vp_in (i + 3) L ∧ xs (i + 3).toNatClampNeg = x3) (hc : cells + 35 ≤ 603072) (hs : slots + 2182 ≤ 7194730) (hl : lv_has ls 9 [(0, .ref b), (1, .ref (gAd G 0)), (2, .ref (gAd G 141)), (3, .ref (gAd G 151)), (4, .ref (gAd G 152)), (5, .int i)]) (hF : f_law_2519 w x1 x2 x3 = some w1) (kk : ∀ (ab : Nat) (H : Heap) (locs : List Loc) (ls : Array Slot), AH G s.heap w1 ab H locs → lv_has ls 9 [(0, .ref b), (1, .ref (gAd G 0)), (2, .ref (gAd G 141)), (3, .ref (gAd G 151)), (4, .ref (gAd G 152)), (5, .int i)] → W p l e room_1 s m args below meth c H locs (cells + 35) (slots + 2182) Q (F0 m 3310 ls [])) : W p l e room_1 s m args below meth c H locs cells slots Q (F0 m 2519 ls []) := by
  have hx := X.1.1; have hb := X.1.2.1; have hml := X.1.2.2.1; have hown := X.1.2.2.2.1; have hts := X.1.2.2.2.2
  unfold f_law_2519 at hF
  refine lv_aload_n hx hb dL_law_2519 rfl (lv_at hl 1 rfl) ?_
  refine lv_aload_n hx hb dL_law_2520 rfl (lv_at hl 0 rfl) ?_
  refine lv_iload hx hb dL_law_2521 (lv_at hl 5 rfl) ?_
  refine lv_iconst (v := (1 : Int32)) hx hb dL_law_2523 (by decide) ?_
  refine lv_iadd hx hb dL_law_2524 ?_
  refine am_sld hx hb hX hbl hbA hh.2.2 h1 dL_law_2525 ?_
  refine lv_aload_n hx hb dL_law_2526 rfl (lv_at hl 0 rfl) ?_
  refine lv_iload hx hb dL_law_2527 (lv_at hl 5 rfl) ?_
  refine lv_iconst (v := (2 : Int32)) hx hb dL_law_2529 (by decide) ?_
  refine lv_iadd hx hb dL_law_2530 ?_
  refine am_sld hx hb hX hbl hbA hh.2.2 h2 dL_law_2531 ?_
  refine lv_aload_n hx hb dL_law_2532 rfl (lv_at hl 3 rfl) ?_
  obtain ⟨⟨r2, w3⟩, hk1, hF⟩ := am_bind hF
  have hF := am_u2 hF
  refine am_callW X hh (vx_runSX (As := [.ref (gAd G 0), .int x1, .int x2, .ref (gAd G 151)]) (rest := []) X.1 (c_L_fewestPairs l G hst hk1) (vx_cwSW 4 hts gL_law_L_fewestPairs rfl rfl rfl (by decide +kernel) ⟨Nat.le_of_ble_eq_true rfl, Nat.le_of_ble_eq_true rfl⟩) (am_preS X hh) rfl rfl hl.1 rfl (lv_room (Nat.le_of_ble_eq_true rfl)) dL_law_2533 ⟨by show cells + 2 ≤ 603072; omega, by show slots + 12 ≤ 7194730; omega⟩) (fun ab H locs hh => ?_)
  refine lv_istore (lv' := [(6, .int r2), (0, .ref b), (1, .ref (gAd G 0)), (2, .ref (gAd G 141)), (3, .ref (gAd G 151)), (4, .ref (gAd G 152)), (5, .int i)]) hx hb dL_law_2536 hl (by decide) rfl (fun ls hl => ?_)
  refine lv_aload_n hx hb dL_law_2538 rfl (lv_at hl 3 rfl) ?_
  refine lv_aload_n hx hb dL_law_2539 rfl (lv_at hl 1 rfl) ?_
  refine lv_iload hx hb dL_law_2540 (lv_at hl 6 rfl) ?_
  refine lv_iconst (v := (1 : Int32)) hx hb dL_law_2542 (by decide) ?_
  refine lv_iadd hx hb dL_law_2543 ?_
  refine am_sld hx hb hX hbl hbA hh.2.2 h1 dL_law_2544 ?_
  refine lv_aload_n hx hb dL_law_2545 rfl (lv_at hl 1 rfl) ?_
  refine lv_iload hx hb dL_law_2546 (lv_at hl 6 rfl) ?_
  refine lv_iconst (v := (2 : Int32)) hx hb dL_law_2548 (by decide) ?_
  refine lv_iadd hx hb dL_law_2549 ?_
  refine am_sld hx hb hX hbl hbA hh.2.2 h2 dL_law_2550 ?_
  obtain ⟨⟨r5, w6⟩, hk4, hF⟩ := am_bind hF
  have hF := am_u2 hF
  refine am_call X hh (va_runV (As := [.int x1, .int x2]) (rest := []) X.1 (c_X11_fewestPairs l G hk4) (cwV 2 hts gL_law_X11_fewestPairs rfl rfl rfl (by decide +kernel) ⟨Nat.le_of_ble_eq_true rfl, Nat.le_of_ble_eq_true rfl⟩) (am_preV X hh 141 12 (by decide) rfl rfl) rfl rfl hl.1 rfl (lv_room (Nat.le_of_ble_eq_true rfl)) dL_law_2551 ⟨by show (cells + 2) + 0 ≤ 603072; omega, by show (slots + 12) + 0 ≤ 7194730; omega⟩) (fun ab H locs hh => ?_)
  refine lv_istore (lv' := [(7, .int r5), (6, .int r2), (0, .ref b), (1, .ref (gAd G 0)), (2, .ref (gAd G 141)), (3, .ref (gAd G 151)), (4, .ref (gAd G 152)), (5, .int i)]) hx hb dL_law_2554 hl (by decide) rfl (fun ls hl => ?_)
  refine lv_aload_n hx hb dL_law_2556 rfl (lv_at hl 4 rfl) ?_
  obtain ⟨r8, hk7, hF⟩ := am_bind hF
  refine am_call X hh (va_runV (As := []) (rest := []) X.1 (c_X11_thrown l G hk7) (cwV 0 hts gL_law_X11_thrown rfl rfl rfl (by decide +kernel) ⟨Nat.le_of_ble_eq_true rfl, Nat.le_of_ble_eq_true rfl⟩) (am_preV X hh 141 12 (by decide) rfl rfl) rfl rfl hl.1 rfl (lv_room (Nat.le_of_ble_eq_true rfl)) dL_law_2557 ⟨by show (cells + 2) + 0 ≤ 603072; omega, by show (slots + 12) + 0 ≤ 7194730; omega⟩) (fun ab H locs hh => ?_)
  refine lv_iload hx hb dL_law_2560 (lv_at hl 1 rfl) ?_
  refine lv_icmp_eq (tgt := 2567) hx hb dL_law_2562 (by decide) (fun hc9 => ?_) (fun hc9 => ?_)
  · have hF := am_pos hc9 hF
    refine lv_iload hx hb dL_law_2567 (lv_at hl 1 rfl) ?_
    refine lv_if_ne (tgt := 2584) hx hb dL_law_2569 (by decide) (fun hc10 => ?_) (fun hc10 => ?_)
    · have hF := am_neg hc10 hF
      refine lv_goto (tgt := 3310) hx hb dL_law_2584 (by decide) ?_
      cases hF
      exact W.widen (by omega) (by omega) (kk ab H locs ls hh (lv_sub hl [2, 3, 4, 5, 6, 7] rfl))
    · have hF := am_pos hc10 hF
      refine lv_aload_n hx hb dL_law_2572 rfl (lv_at hl 5 rfl) ?_
      refine lv_iconst (v := (0 : Int32)) hx hb dL_law_2573 (by decide) ?_
      obtain ⟨hq11, hF⟩ := am_ifR hF
      refine am_lald X hh 151 (by decide) rfl hq11 dL_law_2574 ?_
      refine lv_iload hx hb dL_law_2575 (lv_at hl 0 rfl) ?_
      refine lv_i2l hx hb dL_law_2577 rfl ?_
      refine am_lcmp_eq (tgt := 2584) hx hb dL_law_2578 dL_law_2579 (by decide) (fun hc12 => ?_) (fun hc12 => ?_)
      · have hF := am_pos hc12 hF
        refine lv_goto (tgt := 3310) hx hb dL_law_2584 (by decide) ?_
        cases hF
        exact W.widen (by omega) (by omega) (kk ab H locs ls hh (lv_sub hl [2, 3, 4, 5, 6, 7] rfl))
      · have hF := am_neg hc12 hF
        refine lv_iconst (v := (0 : Int32)) hx hb dL_law_2582 (by decide) ?_
        cases hF
  · have hF := am_neg hc9 hF
    refine lv_iconst (v := (0 : Int32)) hx hb dL_law_2565 (by decide) ?_
    cases hF
set_option maxHeartbeats 4000000 in
set_option maxRecDepth 100000 in
theorem c_law_2587 (l : Launch) (hst : l.stackTraces = false) {G : GG} {p : Program} {e : Env} {s : State} {m : MethodId} {args : Array Value} {below : List Frame} {meth : Method} {c : Code} {b L cells slots ab : Nat} {xs : Nat → Int32} {H : Heap} {locs : List Loc} {ls : Array Slot} {w w1 : Wd} {i x1 x2 x3 : Int32} {Q : State → Prop} (X : CX G p s m args meth c cL_law 9 RL wsL_law) (hX : va_X b L xs s s.heap) (hbl : b < s.heap.size) (hbA : ¬ gA G b) (hh : AH G s.heap w ab H locs) (h1 : vp_in (i + 1) L ∧ xs (i + 1).toNatClampNeg = x1) (h2 : vp_in (i + 2) L ∧ xs (i + 2).toNatClampNeg = x2) (h3 : vp_in (i + 3) L ∧ xs (i + 3).toNatClampNeg = x3) (hc : cells + 35 ≤ 603072) (hs : slots + 2182 ≤ 7194730) (hl : lv_has ls 9 [(0, .ref b), (1, .ref (gAd G 0)), (2, .ref (gAd G 141)), (3, .ref (gAd G 151)), (4, .ref (gAd G 152)), (5, .int i)]) (hF : f_law_2587 w x1 x2 x3 = some w1) (kk : ∀ (ab : Nat) (H : Heap) (locs : List Loc) (ls : Array Slot), AH G s.heap w1 ab H locs → lv_has ls 9 [(0, .ref b), (1, .ref (gAd G 0)), (2, .ref (gAd G 141)), (3, .ref (gAd G 151)), (4, .ref (gAd G 152)), (5, .int i)] → W p l e room_1 s m args below meth c H locs (cells + 35) (slots + 2182) Q (F0 m 3310 ls [])) : W p l e room_1 s m args below meth c H locs cells slots Q (F0 m 2587 ls []) := by
  have hx := X.1.1; have hb := X.1.2.1; have hml := X.1.2.2.1; have hown := X.1.2.2.2.1; have hts := X.1.2.2.2.2
  unfold f_law_2587 at hF
  refine lv_aload_n hx hb dL_law_2587 rfl (lv_at hl 1 rfl) ?_
  refine lv_aload_n hx hb dL_law_2588 rfl (lv_at hl 0 rfl) ?_
  refine lv_iload hx hb dL_law_2589 (lv_at hl 5 rfl) ?_
  refine lv_iconst (v := (1 : Int32)) hx hb dL_law_2591 (by decide) ?_
  refine lv_iadd hx hb dL_law_2592 ?_
  refine am_sld hx hb hX hbl hbA hh.2.2 h1 dL_law_2593 ?_
  refine lv_aload_n hx hb dL_law_2594 rfl (lv_at hl 0 rfl) ?_
  refine lv_iload hx hb dL_law_2595 (lv_at hl 5 rfl) ?_
  refine lv_iconst (v := (2 : Int32)) hx hb dL_law_2597 (by decide) ?_
  refine lv_iadd hx hb dL_law_2598 ?_
  refine am_sld hx hb hX hbl hbA hh.2.2 h2 dL_law_2599 ?_
  refine lv_aload_n hx hb dL_law_2600 rfl (lv_at hl 3 rfl) ?_
  obtain ⟨⟨r2, w3⟩, hk1, hF⟩ := am_bind hF
  have hF := am_u2 hF
  refine am_callW X hh (vx_runSX (As := [.ref (gAd G 0), .int x1, .int x2, .ref (gAd G 151)]) (rest := []) X.1 (c_L_fewestPairsByTable l G hst hk1) (vx_cwSW 4 hts gL_law_L_fewestPairsByTable rfl rfl rfl (by decide +kernel) ⟨Nat.le_of_ble_eq_true rfl, Nat.le_of_ble_eq_true rfl⟩) (am_preS X hh) rfl rfl hl.1 rfl (lv_room (Nat.le_of_ble_eq_true rfl)) dL_law_2601 ⟨by show cells + 2 ≤ 603072; omega, by show slots + 12 ≤ 7194730; omega⟩) (fun ab H locs hh => ?_)
  refine lv_istore (lv' := [(6, .int r2), (0, .ref b), (1, .ref (gAd G 0)), (2, .ref (gAd G 141)), (3, .ref (gAd G 151)), (4, .ref (gAd G 152)), (5, .int i)]) hx hb dL_law_2604 hl (by decide) rfl (fun ls hl => ?_)
  refine lv_aload_n hx hb dL_law_2606 rfl (lv_at hl 3 rfl) ?_
  refine lv_aload_n hx hb dL_law_2607 rfl (lv_at hl 1 rfl) ?_
  refine lv_iload hx hb dL_law_2608 (lv_at hl 6 rfl) ?_
  refine lv_iconst (v := (1 : Int32)) hx hb dL_law_2610 (by decide) ?_
  refine lv_iadd hx hb dL_law_2611 ?_
  refine am_sld hx hb hX hbl hbA hh.2.2 h1 dL_law_2612 ?_
  refine lv_aload_n hx hb dL_law_2613 rfl (lv_at hl 1 rfl) ?_
  refine lv_iload hx hb dL_law_2614 (lv_at hl 6 rfl) ?_
  refine lv_iconst (v := (2 : Int32)) hx hb dL_law_2616 (by decide) ?_
  refine lv_iadd hx hb dL_law_2617 ?_
  refine am_sld hx hb hX hbl hbA hh.2.2 h2 dL_law_2618 ?_
  obtain ⟨⟨r5, w6⟩, hk4, hF⟩ := am_bind hF
  have hF := am_u2 hF
  refine am_call X hh (va_runV (As := [.int x1, .int x2]) (rest := []) X.1 (c_X11_fewestPairsByTable l G hk4) (cwV 2 hts gL_law_X11_fewestPairsByTable rfl rfl rfl (by decide +kernel) ⟨Nat.le_of_ble_eq_true rfl, Nat.le_of_ble_eq_true rfl⟩) (am_preV X hh 141 12 (by decide) rfl rfl) rfl rfl hl.1 rfl (lv_room (Nat.le_of_ble_eq_true rfl)) dL_law_2619 ⟨by show (cells + 2) + 0 ≤ 603072; omega, by show (slots + 12) + 0 ≤ 7194730; omega⟩) (fun ab H locs hh => ?_)
  refine lv_istore (lv' := [(7, .int r5), (6, .int r2), (0, .ref b), (1, .ref (gAd G 0)), (2, .ref (gAd G 141)), (3, .ref (gAd G 151)), (4, .ref (gAd G 152)), (5, .int i)]) hx hb dL_law_2622 hl (by decide) rfl (fun ls hl => ?_)
  refine lv_aload_n hx hb dL_law_2624 rfl (lv_at hl 4 rfl) ?_
  obtain ⟨r8, hk7, hF⟩ := am_bind hF
  refine am_call X hh (va_runV (As := []) (rest := []) X.1 (c_X11_thrown l G hk7) (cwV 0 hts gL_law_X11_thrown rfl rfl rfl (by decide +kernel) ⟨Nat.le_of_ble_eq_true rfl, Nat.le_of_ble_eq_true rfl⟩) (am_preV X hh 141 12 (by decide) rfl rfl) rfl rfl hl.1 rfl (lv_room (Nat.le_of_ble_eq_true rfl)) dL_law_2625 ⟨by show (cells + 2) + 0 ≤ 603072; omega, by show (slots + 12) + 0 ≤ 7194730; omega⟩) (fun ab H locs hh => ?_)
  refine lv_iload hx hb dL_law_2628 (lv_at hl 1 rfl) ?_
  refine lv_icmp_eq (tgt := 2635) hx hb dL_law_2630 (by decide) (fun hc9 => ?_) (fun hc9 => ?_)
  · have hF := am_pos hc9 hF
    refine lv_iload hx hb dL_law_2635 (lv_at hl 1 rfl) ?_
    refine lv_if_ne (tgt := 2652) hx hb dL_law_2637 (by decide) (fun hc10 => ?_) (fun hc10 => ?_)
    · have hF := am_neg hc10 hF
      refine lv_goto (tgt := 3310) hx hb dL_law_2652 (by decide) ?_
      cases hF
      exact W.widen (by omega) (by omega) (kk ab H locs ls hh (lv_sub hl [2, 3, 4, 5, 6, 7] rfl))
    · have hF := am_pos hc10 hF
      refine lv_aload_n hx hb dL_law_2640 rfl (lv_at hl 5 rfl) ?_
      refine lv_iconst (v := (0 : Int32)) hx hb dL_law_2641 (by decide) ?_
      obtain ⟨hq11, hF⟩ := am_ifR hF
      refine am_lald X hh 151 (by decide) rfl hq11 dL_law_2642 ?_
      refine lv_iload hx hb dL_law_2643 (lv_at hl 0 rfl) ?_
      refine lv_i2l hx hb dL_law_2645 rfl ?_
      refine am_lcmp_eq (tgt := 2652) hx hb dL_law_2646 dL_law_2647 (by decide) (fun hc12 => ?_) (fun hc12 => ?_)
      · have hF := am_pos hc12 hF
        refine lv_goto (tgt := 3310) hx hb dL_law_2652 (by decide) ?_
        cases hF
        exact W.widen (by omega) (by omega) (kk ab H locs ls hh (lv_sub hl [2, 3, 4, 5, 6, 7] rfl))
      · have hF := am_neg hc12 hF
        refine lv_iconst (v := (0 : Int32)) hx hb dL_law_2650 (by decide) ?_
        cases hF
  · have hF := am_neg hc9 hF
    refine lv_iconst (v := (0 : Int32)) hx hb dL_law_2633 (by decide) ?_
    cases hF
set_option maxHeartbeats 4000000 in
set_option maxRecDepth 100000 in
theorem c_law_2655 (l : Launch) (hst : l.stackTraces = false) {G : GG} {p : Program} {e : Env} {s : State} {m : MethodId} {args : Array Value} {below : List Frame} {meth : Method} {c : Code} {b L cells slots ab : Nat} {xs : Nat → Int32} {H : Heap} {locs : List Loc} {ls : Array Slot} {w w1 : Wd} {i x1 x2 x3 : Int32} {Q : State → Prop} (X : CX G p s m args meth c cL_law 9 RL wsL_law) (hX : va_X b L xs s s.heap) (hbl : b < s.heap.size) (hbA : ¬ gA G b) (hh : AH G s.heap w ab H locs) (h1 : vp_in (i + 1) L ∧ xs (i + 1).toNatClampNeg = x1) (h2 : vp_in (i + 2) L ∧ xs (i + 2).toNatClampNeg = x2) (h3 : vp_in (i + 3) L ∧ xs (i + 3).toNatClampNeg = x3) (hc : cells + 35 ≤ 603072) (hs : slots + 2182 ≤ 7194730) (hl : lv_has ls 9 [(0, .ref b), (1, .ref (gAd G 0)), (2, .ref (gAd G 141)), (3, .ref (gAd G 151)), (4, .ref (gAd G 152)), (5, .int i)]) (hF : f_law_2655 w x1 x2 x3 = some w1) (kk : ∀ (ab : Nat) (H : Heap) (locs : List Loc) (ls : Array Slot), AH G s.heap w1 ab H locs → lv_has ls 9 [(0, .ref b), (1, .ref (gAd G 0)), (2, .ref (gAd G 141)), (3, .ref (gAd G 151)), (4, .ref (gAd G 152)), (5, .int i)] → W p l e room_1 s m args below meth c H locs (cells + 35) (slots + 2182) Q (F0 m 3310 ls [])) : W p l e room_1 s m args below meth c H locs cells slots Q (F0 m 2655 ls []) := by
  have hx := X.1.1; have hb := X.1.2.1; have hml := X.1.2.2.1; have hown := X.1.2.2.2.1; have hts := X.1.2.2.2.2
  unfold f_law_2655 at hF
  refine lv_aload_n hx hb dL_law_2655 rfl (lv_at hl 1 rfl) ?_
  obtain ⟨r2, hk1, hF⟩ := am_bind hF
  refine am_call X hh (va_runV (As := []) (rest := []) X.1 (c_X10_woundTotal l G hk1) (cwV 0 hts gL_law_X10_woundTotal rfl rfl rfl (by decide +kernel) ⟨Nat.le_of_ble_eq_true rfl, Nat.le_of_ble_eq_true rfl⟩) (am_preV X hh 0 11 (by decide) rfl rfl) rfl rfl hl.1 rfl (lv_room (Nat.le_of_ble_eq_true rfl)) dL_law_2656 ⟨by show cells + 0 ≤ 603072; omega, by show slots + 0 ≤ 7194730; omega⟩) (fun ab H locs hh => ?_)
  refine lv_aload_n hx hb dL_law_2659 rfl (lv_at hl 2 rfl) ?_
  obtain ⟨⟨r4, w5⟩, hk3, hF⟩ := am_bind hF
  have hF := am_u2 hF
  refine am_call X hh (va_runV (As := []) (rest := [.int r2]) X.1 (c_X11_woundTotal l G hk3) (cwV 0 hts gL_law_X11_woundTotal rfl rfl rfl (by decide +kernel) ⟨Nat.le_of_ble_eq_true rfl, Nat.le_of_ble_eq_true rfl⟩) (am_preV X hh 141 12 (by decide) rfl rfl) rfl rfl hl.1 rfl (lv_room (Nat.le_of_ble_eq_true rfl)) dL_law_2660 ⟨by show cells + 0 ≤ 603072; omega, by show slots + 0 ≤ 7194730; omega⟩) (fun ab H locs hh => ?_)
  refine lv_icmp_eq (tgt := 3310) hx hb dL_law_2663 (by decide) (fun hc6 => ?_) (fun hc6 => ?_)
  · have hF := am_pos hc6 hF
    cases hF
    exact W.widen (by omega) (by omega) (kk ab H locs ls hh (lv_sub hl [0, 1, 2, 3, 4, 5] rfl))
  · have hF := am_neg hc6 hF
    refine lv_iconst (v := (0 : Int32)) hx hb dL_law_2666 (by decide) ?_
    cases hF
set_option maxHeartbeats 4000000 in
set_option maxRecDepth 100000 in
theorem c_law_2668 (l : Launch) (hst : l.stackTraces = false) {G : GG} {p : Program} {e : Env} {s : State} {m : MethodId} {args : Array Value} {below : List Frame} {meth : Method} {c : Code} {b L cells slots ab : Nat} {xs : Nat → Int32} {H : Heap} {locs : List Loc} {ls : Array Slot} {w w1 : Wd} {i x1 x2 x3 : Int32} {Q : State → Prop} (X : CX G p s m args meth c cL_law 9 RL wsL_law) (hX : va_X b L xs s s.heap) (hbl : b < s.heap.size) (hbA : ¬ gA G b) (hh : AH G s.heap w ab H locs) (h1 : vp_in (i + 1) L ∧ xs (i + 1).toNatClampNeg = x1) (h2 : vp_in (i + 2) L ∧ xs (i + 2).toNatClampNeg = x2) (h3 : vp_in (i + 3) L ∧ xs (i + 3).toNatClampNeg = x3) (hc : cells + 35 ≤ 603072) (hs : slots + 2182 ≤ 7194730) (hl : lv_has ls 9 [(0, .ref b), (1, .ref (gAd G 0)), (2, .ref (gAd G 141)), (3, .ref (gAd G 151)), (4, .ref (gAd G 152)), (5, .int i)]) (hF : f_law_2668 w x1 x2 x3 = some w1) (kk : ∀ (ab : Nat) (H : Heap) (locs : List Loc) (ls : Array Slot), AH G s.heap w1 ab H locs → lv_has ls 9 [(0, .ref b), (1, .ref (gAd G 0)), (2, .ref (gAd G 141)), (3, .ref (gAd G 151)), (4, .ref (gAd G 152)), (5, .int i)] → W p l e room_1 s m args below meth c H locs (cells + 35) (slots + 2182) Q (F0 m 3310 ls [])) : W p l e room_1 s m args below meth c H locs cells slots Q (F0 m 2668 ls []) := by
  have hx := X.1.1; have hb := X.1.2.1; have hml := X.1.2.2.1; have hown := X.1.2.2.2.1; have hts := X.1.2.2.2.2
  unfold f_law_2668 at hF
  refine lv_aload_n hx hb dL_law_2668 rfl (lv_at hl 1 rfl) ?_
  obtain ⟨r2, hk1, hF⟩ := am_bind hF
  refine am_call X hh (va_runV (As := []) (rest := []) X.1 (c_X10_tensionTotal l G hk1) (cwV 0 hts gL_law_X10_tensionTotal rfl rfl rfl (by decide +kernel) ⟨Nat.le_of_ble_eq_true rfl, Nat.le_of_ble_eq_true rfl⟩) (am_preV X hh 0 11 (by decide) rfl rfl) rfl rfl hl.1 rfl (lv_room (Nat.le_of_ble_eq_true rfl)) dL_law_2669 ⟨by show cells + 0 ≤ 603072; omega, by show slots + 0 ≤ 7194730; omega⟩) (fun ab H locs hh => ?_)
  refine lv_aload_n hx hb dL_law_2672 rfl (lv_at hl 2 rfl) ?_
  obtain ⟨⟨r4, w5⟩, hk3, hF⟩ := am_bind hF
  have hF := am_u2 hF
  refine am_call X hh (va_runV (As := []) (rest := [.int r2]) X.1 (c_X11_tensionTotal l G hk3) (cwV 0 hts gL_law_X11_tensionTotal rfl rfl rfl (by decide +kernel) ⟨Nat.le_of_ble_eq_true rfl, Nat.le_of_ble_eq_true rfl⟩) (am_preV X hh 141 12 (by decide) rfl rfl) rfl rfl hl.1 rfl (lv_room (Nat.le_of_ble_eq_true rfl)) dL_law_2673 ⟨by show cells + 0 ≤ 603072; omega, by show slots + 0 ≤ 7194730; omega⟩) (fun ab H locs hh => ?_)
  refine lv_icmp_eq (tgt := 3310) hx hb dL_law_2676 (by decide) (fun hc6 => ?_) (fun hc6 => ?_)
  · have hF := am_pos hc6 hF
    cases hF
    exact W.widen (by omega) (by omega) (kk ab H locs ls hh (lv_sub hl [0, 1, 2, 3, 4, 5] rfl))
  · have hF := am_neg hc6 hF
    refine lv_iconst (v := (0 : Int32)) hx hb dL_law_2679 (by decide) ?_
    cases hF
set_option maxHeartbeats 4000000 in
set_option maxRecDepth 100000 in
theorem c_law_2681 (l : Launch) (hst : l.stackTraces = false) {G : GG} {p : Program} {e : Env} {s : State} {m : MethodId} {args : Array Value} {below : List Frame} {meth : Method} {c : Code} {b L cells slots ab : Nat} {xs : Nat → Int32} {H : Heap} {locs : List Loc} {ls : Array Slot} {w w1 : Wd} {i x1 x2 x3 : Int32} {Q : State → Prop} (X : CX G p s m args meth c cL_law 9 RL wsL_law) (hX : va_X b L xs s s.heap) (hbl : b < s.heap.size) (hbA : ¬ gA G b) (hh : AH G s.heap w ab H locs) (h1 : vp_in (i + 1) L ∧ xs (i + 1).toNatClampNeg = x1) (h2 : vp_in (i + 2) L ∧ xs (i + 2).toNatClampNeg = x2) (h3 : vp_in (i + 3) L ∧ xs (i + 3).toNatClampNeg = x3) (hc : cells + 35 ≤ 603072) (hs : slots + 2182 ≤ 7194730) (hl : lv_has ls 9 [(0, .ref b), (1, .ref (gAd G 0)), (2, .ref (gAd G 141)), (3, .ref (gAd G 151)), (4, .ref (gAd G 152)), (5, .int i)]) (hF : f_law_2681 w x1 x2 x3 = some w1) (kk : ∀ (ab : Nat) (H : Heap) (locs : List Loc) (ls : Array Slot), AH G s.heap w1 ab H locs → lv_has ls 9 [(0, .ref b), (1, .ref (gAd G 0)), (2, .ref (gAd G 141)), (3, .ref (gAd G 151)), (4, .ref (gAd G 152)), (5, .int i)] → W p l e room_1 s m args below meth c H locs (cells + 35) (slots + 2182) Q (F0 m 3310 ls [])) : W p l e room_1 s m args below meth c H locs cells slots Q (F0 m 2681 ls []) := by
  have hx := X.1.1; have hb := X.1.2.1; have hml := X.1.2.2.1; have hown := X.1.2.2.2.1; have hts := X.1.2.2.2.2
  unfold f_law_2681 at hF
  refine lv_aload_n hx hb dL_law_2681 rfl (lv_at hl 1 rfl) ?_
  obtain ⟨r2, hk1, hF⟩ := am_bind hF
  refine am_call X hh (va_runV (As := []) (rest := []) X.1 (c_X10_tensionByAccounts l G hk1) (cwV 0 hts gL_law_X10_tensionByAccounts rfl rfl rfl (by decide +kernel) ⟨Nat.le_of_ble_eq_true rfl, Nat.le_of_ble_eq_true rfl⟩) (am_preV X hh 0 11 (by decide) rfl rfl) rfl rfl hl.1 rfl (lv_room (Nat.le_of_ble_eq_true rfl)) dL_law_2682 ⟨by show cells + 0 ≤ 603072; omega, by show slots + 0 ≤ 7194730; omega⟩) (fun ab H locs hh => ?_)
  refine lv_aload_n hx hb dL_law_2685 rfl (lv_at hl 2 rfl) ?_
  obtain ⟨⟨r4, w5⟩, hk3, hF⟩ := am_bind hF
  have hF := am_u2 hF
  refine am_call X hh (va_runV (As := []) (rest := [.int r2]) X.1 (c_X11_tensionByAccounts l G hk3) (cwV 0 hts gL_law_X11_tensionByAccounts rfl rfl rfl (by decide +kernel) ⟨Nat.le_of_ble_eq_true rfl, Nat.le_of_ble_eq_true rfl⟩) (am_preV X hh 141 12 (by decide) rfl rfl) rfl rfl hl.1 rfl (lv_room (Nat.le_of_ble_eq_true rfl)) dL_law_2686 ⟨by show cells + 0 ≤ 603072; omega, by show slots + 0 ≤ 7194730; omega⟩) (fun ab H locs hh => ?_)
  refine lv_icmp_eq (tgt := 3310) hx hb dL_law_2689 (by decide) (fun hc6 => ?_) (fun hc6 => ?_)
  · have hF := am_pos hc6 hF
    cases hF
    exact W.widen (by omega) (by omega) (kk ab H locs ls hh (lv_sub hl [0, 1, 2, 3, 4, 5] rfl))
  · have hF := am_neg hc6 hF
    refine lv_iconst (v := (0 : Int32)) hx hb dL_law_2692 (by decide) ?_
    cases hF
set_option maxHeartbeats 4000000 in
set_option maxRecDepth 100000 in
theorem c_law_2694 (l : Launch) (hst : l.stackTraces = false) {G : GG} {p : Program} {e : Env} {s : State} {m : MethodId} {args : Array Value} {below : List Frame} {meth : Method} {c : Code} {b L cells slots ab : Nat} {xs : Nat → Int32} {H : Heap} {locs : List Loc} {ls : Array Slot} {w w1 : Wd} {i x1 x2 x3 : Int32} {Q : State → Prop} (X : CX G p s m args meth c cL_law 9 RL wsL_law) (hX : va_X b L xs s s.heap) (hbl : b < s.heap.size) (hbA : ¬ gA G b) (hh : AH G s.heap w ab H locs) (h1 : vp_in (i + 1) L ∧ xs (i + 1).toNatClampNeg = x1) (h2 : vp_in (i + 2) L ∧ xs (i + 2).toNatClampNeg = x2) (h3 : vp_in (i + 3) L ∧ xs (i + 3).toNatClampNeg = x3) (hc : cells + 35 ≤ 603072) (hs : slots + 2182 ≤ 7194730) (hl : lv_has ls 9 [(0, .ref b), (1, .ref (gAd G 0)), (2, .ref (gAd G 141)), (3, .ref (gAd G 151)), (4, .ref (gAd G 152)), (5, .int i)]) (hF : f_law_2694 w x1 x2 x3 = some w1) (kk : ∀ (ab : Nat) (H : Heap) (locs : List Loc) (ls : Array Slot), AH G s.heap w1 ab H locs → lv_has ls 9 [(0, .ref b), (1, .ref (gAd G 0)), (2, .ref (gAd G 141)), (3, .ref (gAd G 151)), (4, .ref (gAd G 152)), (5, .int i)] → W p l e room_1 s m args below meth c H locs (cells + 35) (slots + 2182) Q (F0 m 3310 ls [])) : W p l e room_1 s m args below meth c H locs cells slots Q (F0 m 2694 ls []) := by
  have hx := X.1.1; have hb := X.1.2.1; have hml := X.1.2.2.1; have hown := X.1.2.2.2.1; have hts := X.1.2.2.2.2
  unfold f_law_2694 at hF
  refine lv_aload_n hx hb dL_law_2694 rfl (lv_at hl 1 rfl) ?_
  obtain ⟨r2, hk1, hF⟩ := am_bind hF
  refine am_call X hh (va_runV (As := []) (rest := []) X.1 (c_X10_releaseTotal l G hk1) (cwV 0 hts gL_law_X10_releaseTotal rfl rfl rfl (by decide +kernel) ⟨Nat.le_of_ble_eq_true rfl, Nat.le_of_ble_eq_true rfl⟩) (am_preV X hh 0 11 (by decide) rfl rfl) rfl rfl hl.1 rfl (lv_room (Nat.le_of_ble_eq_true rfl)) dL_law_2695 ⟨by show cells + 0 ≤ 603072; omega, by show slots + 0 ≤ 7194730; omega⟩) (fun ab H locs hh => ?_)
  refine lv_aload_n hx hb dL_law_2698 rfl (lv_at hl 2 rfl) ?_
  obtain ⟨⟨r4, w5⟩, hk3, hF⟩ := am_bind hF
  have hF := am_u2 hF
  refine am_call X hh (va_runV (As := []) (rest := [.int r2]) X.1 (c_X11_releaseTotal l G hk3) (cwV 0 hts gL_law_X11_releaseTotal rfl rfl rfl (by decide +kernel) ⟨Nat.le_of_ble_eq_true rfl, Nat.le_of_ble_eq_true rfl⟩) (am_preV X hh 141 12 (by decide) rfl rfl) rfl rfl hl.1 rfl (lv_room (Nat.le_of_ble_eq_true rfl)) dL_law_2699 ⟨by show cells + 0 ≤ 603072; omega, by show slots + 0 ≤ 7194730; omega⟩) (fun ab H locs hh => ?_)
  refine lv_icmp_eq (tgt := 3310) hx hb dL_law_2702 (by decide) (fun hc6 => ?_) (fun hc6 => ?_)
  · have hF := am_pos hc6 hF
    cases hF
    exact W.widen (by omega) (by omega) (kk ab H locs ls hh (lv_sub hl [0, 1, 2, 3, 4, 5] rfl))
  · have hF := am_neg hc6 hF
    refine lv_iconst (v := (0 : Int32)) hx hb dL_law_2705 (by decide) ?_
    cases hF
set_option maxHeartbeats 4000000 in
set_option maxRecDepth 100000 in
theorem c_law_2707 (l : Launch) (hst : l.stackTraces = false) {G : GG} {p : Program} {e : Env} {s : State} {m : MethodId} {args : Array Value} {below : List Frame} {meth : Method} {c : Code} {b L cells slots ab : Nat} {xs : Nat → Int32} {H : Heap} {locs : List Loc} {ls : Array Slot} {w w1 : Wd} {i x1 x2 x3 : Int32} {Q : State → Prop} (X : CX G p s m args meth c cL_law 9 RL wsL_law) (hX : va_X b L xs s s.heap) (hbl : b < s.heap.size) (hbA : ¬ gA G b) (hh : AH G s.heap w ab H locs) (h1 : vp_in (i + 1) L ∧ xs (i + 1).toNatClampNeg = x1) (h2 : vp_in (i + 2) L ∧ xs (i + 2).toNatClampNeg = x2) (h3 : vp_in (i + 3) L ∧ xs (i + 3).toNatClampNeg = x3) (hc : cells + 35 ≤ 603072) (hs : slots + 2182 ≤ 7194730) (hl : lv_has ls 9 [(0, .ref b), (1, .ref (gAd G 0)), (2, .ref (gAd G 141)), (3, .ref (gAd G 151)), (4, .ref (gAd G 152)), (5, .int i)]) (hF : f_law_2707 w x1 x2 x3 = some w1) (kk : ∀ (ab : Nat) (H : Heap) (locs : List Loc) (ls : Array Slot), AH G s.heap w1 ab H locs → lv_has ls 9 [(0, .ref b), (1, .ref (gAd G 0)), (2, .ref (gAd G 141)), (3, .ref (gAd G 151)), (4, .ref (gAd G 152)), (5, .int i)] → W p l e room_1 s m args below meth c H locs (cells + 35) (slots + 2182) Q (F0 m 3310 ls [])) : W p l e room_1 s m args below meth c H locs cells slots Q (F0 m 2707 ls []) := by
  have hx := X.1.1; have hb := X.1.2.1; have hml := X.1.2.2.1; have hown := X.1.2.2.2.1; have hts := X.1.2.2.2.2
  unfold f_law_2707 at hF
  refine lv_aload_n hx hb dL_law_2707 rfl (lv_at hl 1 rfl) ?_
  refine lv_aload hx hb dL_law_2708 (lv_at hl 4 rfl) ?_
  obtain ⟨⟨r2, w3⟩, hk1, hF⟩ := am_bind hF
  have hF := am_u2 hF
  refine am_callW X hh (vx_runSX (As := [.ref (gAd G 0), .ref (gAd G 152)]) (rest := []) X.1 (c_L_meanTeeth l G hst hk1) (vx_cwSW 2 hts gL_law_L_meanTeeth rfl rfl rfl (by decide +kernel) ⟨Nat.le_of_ble_eq_true rfl, Nat.le_of_ble_eq_true rfl⟩) (am_preS X hh) rfl rfl hl.1 rfl (lv_room (Nat.le_of_ble_eq_true rfl)) dL_law_2710 ⟨by show cells + 1 ≤ 603072; omega, by show slots + 6 ≤ 7194730; omega⟩) (fun ab H locs hh => ?_)
  refine lv_istore (lv' := [(6, .int r2), (0, .ref b), (1, .ref (gAd G 0)), (2, .ref (gAd G 141)), (3, .ref (gAd G 151)), (4, .ref (gAd G 152)), (5, .int i)]) hx hb dL_law_2713 hl (by decide) rfl (fun ls hl => ?_)
  refine lv_aload_n hx hb dL_law_2715 rfl (lv_at hl 3 rfl) ?_
  obtain ⟨⟨r5, w6⟩, hk4, hF⟩ := am_bind hF
  have hF := am_u2 hF
  refine am_call X hh (va_runV (As := []) (rest := []) X.1 (c_X11_meanTeeth l G hk4) (cwV 0 hts gL_law_X11_meanTeeth rfl rfl rfl (by decide +kernel) ⟨Nat.le_of_ble_eq_true rfl, Nat.le_of_ble_eq_true rfl⟩) (am_preV X hh 141 12 (by decide) rfl rfl) rfl rfl hl.1 rfl (lv_room (Nat.le_of_ble_eq_true rfl)) dL_law_2716 ⟨by show (cells + 1) + 0 ≤ 603072; omega, by show (slots + 6) + 0 ≤ 7194730; omega⟩) (fun ab H locs hh => ?_)
  refine lv_dstore (lv' := [(7, .double r5), (6, .int r2), (0, .ref b), (1, .ref (gAd G 0)), (2, .ref (gAd G 141)), (3, .ref (gAd G 151)), (4, .ref (gAd G 152)), (5, .int i)]) hx hb dL_law_2719 hl (by decide) rfl (fun ls hl => ?_)
  refine lv_aload_n hx hb dL_law_2721 rfl (lv_at hl 4 rfl) ?_
  obtain ⟨r8, hk7, hF⟩ := am_bind hF
  refine am_call X hh (va_runV (As := []) (rest := []) X.1 (c_X11_thrown l G hk7) (cwV 0 hts gL_law_X11_thrown rfl rfl rfl (by decide +kernel) ⟨Nat.le_of_ble_eq_true rfl, Nat.le_of_ble_eq_true rfl⟩) (am_preV X hh 141 12 (by decide) rfl rfl) rfl rfl hl.1 rfl (lv_room (Nat.le_of_ble_eq_true rfl)) dL_law_2722 ⟨by show (cells + 1) + 0 ≤ 603072; omega, by show (slots + 6) + 0 ≤ 7194730; omega⟩) (fun ab H locs hh => ?_)
  refine lv_iload hx hb dL_law_2725 (lv_at hl 1 rfl) ?_
  refine lv_icmp_eq (tgt := 2732) hx hb dL_law_2727 (by decide) (fun hc9 => ?_) (fun hc9 => ?_)
  · have hF := am_pos hc9 hF
    refine lv_iload hx hb dL_law_2732 (lv_at hl 1 rfl) ?_
    refine lv_if_ne (tgt := 2769) hx hb dL_law_2734 (by decide) (fun hc10 => ?_) (fun hc10 => ?_)
    · have hF := am_neg hc10 hF
      refine lv_goto (tgt := 3310) hx hb dL_law_2769 (by decide) ?_
      cases hF
      exact W.widen (by omega) (by omega) (kk ab H locs ls hh (lv_sub hl [2, 3, 4, 5, 6, 7] rfl))
    · have hF := am_pos hc10 hF
      refine lv_aload hx hb dL_law_2737 (lv_at hl 6 rfl) ?_
      refine lv_iconst (v := (0 : Int32)) hx hb dL_law_2739 (by decide) ?_
      obtain ⟨hq11, hF⟩ := am_ifR hF
      refine am_dald X hh 152 (by decide) rfl hq11 dL_law_2740 ?_
      refine lv_dload hx hb dL_law_2741 (lv_at hl 0 rfl) ?_
      refine lv_dcmp hx hb dL_law_2743 ?_
      refine lv_if_eq (tgt := 2769) hx hb dL_law_2744 (by decide) (fun hc12 => ?_) (fun hc12 => ?_)
      · have hF := am_pos hc12 hF
        refine lv_goto (tgt := 3310) hx hb dL_law_2769 (by decide) ?_
        cases hF
        exact W.widen (by omega) (by omega) (kk ab H locs ls hh (lv_sub hl [2, 3, 4, 5, 6, 7] rfl))
      · have hF := am_neg hc12 hF
        refine lv_aload hx hb dL_law_2747 (lv_at hl 6 rfl) ?_
        refine lv_iconst (v := (0 : Int32)) hx hb dL_law_2749 (by decide) ?_
        obtain ⟨hq13, hF⟩ := am_ifR hF
        refine am_dald X hh 152 (by decide) rfl hq13 dL_law_2750 ?_
        refine lv_aload hx hb dL_law_2751 (lv_at hl 6 rfl) ?_
        refine lv_iconst (v := (0 : Int32)) hx hb dL_law_2753 (by decide) ?_
        obtain ⟨hq14, hF⟩ := am_ifR hF
        refine am_dald X hh 152 (by decide) rfl hq14 dL_law_2754 ?_
        refine lv_dcmp hx hb dL_law_2755 ?_
        refine lv_if_eq (tgt := 2767) hx hb dL_law_2756 (by decide) (fun hc15 => ?_) (fun hc15 => ?_)
        · have hF := am_pos hc15 hF
          refine lv_iconst (v := (0 : Int32)) hx hb dL_law_2767 (by decide) ?_
          cases hF
        · have hF := am_neg hc15 hF
          refine lv_dload hx hb dL_law_2759 (lv_at hl 0 rfl) ?_
          refine lv_dload hx hb dL_law_2761 (lv_at hl 0 rfl) ?_
          refine lv_dcmp hx hb dL_law_2763 ?_
          refine lv_if_ne (tgt := 2769) hx hb dL_law_2764 (by decide) (fun hc16 => ?_) (fun hc16 => ?_)
          · have hF := am_neg hc16 hF
            refine lv_goto (tgt := 3310) hx hb dL_law_2769 (by decide) ?_
            cases hF
            exact W.widen (by omega) (by omega) (kk ab H locs ls hh (lv_sub hl [2, 3, 4, 5, 6, 7] rfl))
          · have hF := am_pos hc16 hF
            refine lv_iconst (v := (0 : Int32)) hx hb dL_law_2767 (by decide) ?_
            cases hF
  · have hF := am_neg hc9 hF
    refine lv_iconst (v := (0 : Int32)) hx hb dL_law_2730 (by decide) ?_
    cases hF
