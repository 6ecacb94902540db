set_option maxHeartbeats 4000000 in
set_option maxRecDepth 100000 in
theorem c_law_2772 (l : Launch) (hst : l.stackTraces = false) {G : GG} {p : Program} {e : Env} {s : State} {m : MethodId} {args : Array Value} {below : List Frame} {meth : Method} {c : Code} {b L cells slots ab : Nat} {xs : Nat → Int32} {H : Heap} {locs : List Loc} {ls : Array Slot} {w w1 : Wd} {i x1 x2 x3 : Int32} {Q : State → Prop} (X : CX G p s m args meth c cL_law 9 RL wsL_law) (hX : va_X b L xs s s.heap) (hbl : b < s.heap.size) (hbA : ¬ gA G b) (hh : AH G s.heap w ab H locs) (h1 : vp_in (i + 1) L ∧ xs (i + 1).toNatClampNeg = x1) (h2 : vp_in (i + 2) L ∧ xs (i + 2).toNatClampNeg = x2) (h3 : vp_in (i + 3) L ∧ xs (i + 3).toNatClampNeg = x3) (hc : cells + 35 ≤ 603072) (hs : slots + 2182 ≤ 7194730) (hl : lv_has ls 9 [(0, .ref b), (1, .ref (gAd G 0)), (2, .ref (gAd G 141)), (3, .ref (gAd G 151)), (4, .ref (gAd G 152)), (5, .int i)]) (hF : f_law_2772 w x1 x2 x3 = some w1) (kk : ∀ (ab : Nat) (H : Heap) (locs : List Loc) (ls : Array Slot), AH G s.heap w1 ab H locs → lv_has ls 9 [(0, .ref b), (1, .ref (gAd G 0)), (2, .ref (gAd G 141)), (3, .ref (gAd G 151)), (4, .ref (gAd G 152)), (5, .int i)] → W p l e room_1 s m args below meth c H locs (cells + 35) (slots + 2182) Q (F0 m 3310 ls [])) : W p l e room_1 s m args below meth c H locs cells slots Q (F0 m 2772 ls []) := by
  have hx := X.1.1; have hb := X.1.2.1; have hml := X.1.2.2.1; have hown := X.1.2.2.2.1; have hts := X.1.2.2.2.2
  unfold f_law_2772 at hF
  refine lv_aload_n hx hb dL_law_2772 rfl (lv_at hl 1 rfl) ?_
  refine lv_aload hx hb dL_law_2773 (lv_at hl 4 rfl) ?_
  obtain ⟨⟨r2, w3⟩, hk1, hF⟩ := am_bind hF
  have hF := am_u2 hF
  refine am_callW X hh (vx_runSX (As := [.ref (gAd G 0), .ref (gAd G 152)]) (rest := []) X.1 (c_L_dryShare l G hst hk1) (vx_cwSW 2 hts gL_law_L_dryShare rfl rfl rfl (by decide +kernel) ⟨Nat.le_of_ble_eq_true rfl, Nat.le_of_ble_eq_true rfl⟩) (am_preS X hh) rfl rfl hl.1 rfl (lv_room (Nat.le_of_ble_eq_true rfl)) dL_law_2775 ⟨by show cells + 1 ≤ 603072; omega, by show slots + 6 ≤ 7194730; omega⟩) (fun ab H locs hh => ?_)
  refine lv_istore (lv' := [(6, .int r2), (0, .ref b), (1, .ref (gAd G 0)), (2, .ref (gAd G 141)), (3, .ref (gAd G 151)), (4, .ref (gAd G 152)), (5, .int i)]) hx hb dL_law_2778 hl (by decide) rfl (fun ls hl => ?_)
  refine lv_aload_n hx hb dL_law_2780 rfl (lv_at hl 3 rfl) ?_
  obtain ⟨⟨r5, w6⟩, hk4, hF⟩ := am_bind hF
  have hF := am_u2 hF
  refine am_call X hh (va_runV (As := []) (rest := []) X.1 (c_X11_dryShare l G hk4) (cwV 0 hts gL_law_X11_dryShare rfl rfl rfl (by decide +kernel) ⟨Nat.le_of_ble_eq_true rfl, Nat.le_of_ble_eq_true rfl⟩) (am_preV X hh 141 12 (by decide) rfl rfl) rfl rfl hl.1 rfl (lv_room (Nat.le_of_ble_eq_true rfl)) dL_law_2781 ⟨by show (cells + 1) + 0 ≤ 603072; omega, by show (slots + 6) + 0 ≤ 7194730; omega⟩) (fun ab H locs hh => ?_)
  refine lv_fstore (lv' := [(7, .float r5), (6, .int r2), (0, .ref b), (1, .ref (gAd G 0)), (2, .ref (gAd G 141)), (3, .ref (gAd G 151)), (4, .ref (gAd G 152)), (5, .int i)]) hx hb dL_law_2784 hl (by decide) rfl (fun ls hl => ?_)
  refine lv_aload_n hx hb dL_law_2786 rfl (lv_at hl 4 rfl) ?_
  obtain ⟨r8, hk7, hF⟩ := am_bind hF
  refine am_call X hh (va_runV (As := []) (rest := []) X.1 (c_X11_thrown l G hk7) (cwV 0 hts gL_law_X11_thrown rfl rfl rfl (by decide +kernel) ⟨Nat.le_of_ble_eq_true rfl, Nat.le_of_ble_eq_true rfl⟩) (am_preV X hh 141 12 (by decide) rfl rfl) rfl rfl hl.1 rfl (lv_room (Nat.le_of_ble_eq_true rfl)) dL_law_2787 ⟨by show (cells + 1) + 0 ≤ 603072; omega, by show (slots + 6) + 0 ≤ 7194730; omega⟩) (fun ab H locs hh => ?_)
  refine lv_iload hx hb dL_law_2790 (lv_at hl 1 rfl) ?_
  refine lv_icmp_eq (tgt := 2797) hx hb dL_law_2792 (by decide) (fun hc9 => ?_) (fun hc9 => ?_)
  · have hF := am_pos hc9 hF
    refine lv_iload hx hb dL_law_2797 (lv_at hl 1 rfl) ?_
    refine lv_if_ne (tgt := 2835) hx hb dL_law_2799 (by decide) (fun hc10 => ?_) (fun hc10 => ?_)
    · have hF := am_neg hc10 hF
      refine lv_goto (tgt := 3310) hx hb dL_law_2835 (by decide) ?_
      cases hF
      exact W.widen (by omega) (by omega) (kk ab H locs ls hh (lv_sub hl [2, 3, 4, 5, 6, 7] rfl))
    · have hF := am_pos hc10 hF
      refine lv_aload hx hb dL_law_2802 (lv_at hl 6 rfl) ?_
      refine lv_iconst (v := (0 : Int32)) hx hb dL_law_2804 (by decide) ?_
      obtain ⟨hq11, hF⟩ := am_ifR hF
      refine am_dald X hh 152 (by decide) rfl hq11 dL_law_2805 ?_
      refine lv_fload hx hb dL_law_2806 (lv_at hl 0 rfl) ?_
      obtain ⟨hq12, hF⟩ := am_ifN64 hF
      refine lv_f2d hx hb dL_law_2808 hq12 ?_
      refine lv_dcmp hx hb dL_law_2809 ?_
      refine lv_if_eq (tgt := 2835) hx hb dL_law_2810 (by decide) (fun hc13 => ?_) (fun hc13 => ?_)
      · have hF := am_pos hc13 hF
        refine lv_goto (tgt := 3310) hx hb dL_law_2835 (by decide) ?_
        cases hF
        exact W.widen (by omega) (by omega) (kk ab H locs ls hh (lv_sub hl [2, 3, 4, 5, 6, 7] rfl))
      · have hF := am_neg hc13 hF
        refine lv_aload hx hb dL_law_2813 (lv_at hl 6 rfl) ?_
        refine lv_iconst (v := (0 : Int32)) hx hb dL_law_2815 (by decide) ?_
        obtain ⟨hq14, hF⟩ := am_ifR hF
        refine am_dald X hh 152 (by decide) rfl hq14 dL_law_2816 ?_
        refine lv_aload hx hb dL_law_2817 (lv_at hl 6 rfl) ?_
        refine lv_iconst (v := (0 : Int32)) hx hb dL_law_2819 (by decide) ?_
        obtain ⟨hq15, hF⟩ := am_ifR hF
        refine am_dald X hh 152 (by decide) rfl hq15 dL_law_2820 ?_
        refine lv_dcmp hx hb dL_law_2821 ?_
        refine lv_if_eq (tgt := 2833) hx hb dL_law_2822 (by decide) (fun hc16 => ?_) (fun hc16 => ?_)
        · have hF := am_pos hc16 hF
          refine lv_iconst (v := (0 : Int32)) hx hb dL_law_2833 (by decide) ?_
          cases hF
        · have hF := am_neg hc16 hF
          refine lv_fload hx hb dL_law_2825 (lv_at hl 0 rfl) ?_
          refine lv_fload hx hb dL_law_2827 (lv_at hl 0 rfl) ?_
          refine lv_fcmp hx hb dL_law_2829 ?_
          refine lv_if_ne (tgt := 2835) hx hb dL_law_2830 (by decide) (fun hc17 => ?_) (fun hc17 => ?_)
          · have hF := am_neg hc17 hF
            refine lv_goto (tgt := 3310) hx hb dL_law_2835 (by decide) ?_
            cases hF
            exact W.widen (by omega) (by omega) (kk ab H locs ls hh (lv_sub hl [2, 3, 4, 5, 6, 7] rfl))
          · have hF := am_pos hc17 hF
            refine lv_iconst (v := (0 : Int32)) hx hb dL_law_2833 (by decide) ?_
            cases hF
  · have hF := am_neg hc9 hF
    refine lv_iconst (v := (0 : Int32)) hx hb dL_law_2795 (by decide) ?_
    cases hF
set_option maxHeartbeats 4000000 in
set_option maxRecDepth 100000 in
theorem c_law_2838 (l : Launch) (hst : l.stackTraces = false) {G : GG} {p : Program} {e : Env} {s : State} {m : MethodId} {args : Array Value} {below : List Frame} {meth : Method} {c : Code} {b L cells slots ab : Nat} {xs : Nat → Int32} {H : Heap} {locs : List Loc} {ls : Array Slot} {w w1 : Wd} {i x1 x2 x3 : Int32} {Q : State → Prop} (X : CX G p s m args meth c cL_law 9 RL wsL_law) (hX : va_X b L xs s s.heap) (hbl : b < s.heap.size) (hbA : ¬ gA G b) (hh : AH G s.heap w ab H locs) (h1 : vp_in (i + 1) L ∧ xs (i + 1).toNatClampNeg = x1) (h2 : vp_in (i + 2) L ∧ xs (i + 2).toNatClampNeg = x2) (h3 : vp_in (i + 3) L ∧ xs (i + 3).toNatClampNeg = x3) (hc : cells + 35 ≤ 603072) (hs : slots + 2182 ≤ 7194730) (hl : lv_has ls 9 [(0, .ref b), (1, .ref (gAd G 0)), (2, .ref (gAd G 141)), (3, .ref (gAd G 151)), (4, .ref (gAd G 152)), (5, .int i)]) (hF : f_law_2838 w x1 x2 x3 = some w1) (kk : ∀ (ab : Nat) (H : Heap) (locs : List Loc) (ls : Array Slot), AH G s.heap w1 ab H locs → lv_has ls 9 [(0, .ref b), (1, .ref (gAd G 0)), (2, .ref (gAd G 141)), (3, .ref (gAd G 151)), (4, .ref (gAd G 152)), (5, .int i)] → W p l e room_1 s m args below meth c H locs (cells + 35) (slots + 2182) Q (F0 m 3310 ls [])) : W p l e room_1 s m args below meth c H locs cells slots Q (F0 m 2838 ls []) := by
  have hx := X.1.1; have hb := X.1.2.1; have hml := X.1.2.2.1; have hown := X.1.2.2.2.1; have hts := X.1.2.2.2.2
  unfold f_law_2838 at hF
  refine lv_aload_n hx hb dL_law_2838 rfl (lv_at hl 1 rfl) ?_
  obtain ⟨⟨r2, w3⟩, hk1, hF⟩ := am_bind hF
  have hF := am_u2 hF
  refine am_call X hh (va_runV (As := []) (rest := []) X.1 (c_X10_isConsistent l G hk1) (cwV 0 hts gL_law_X10_isConsistent rfl rfl rfl (by decide +kernel) ⟨Nat.le_of_ble_eq_true rfl, Nat.le_of_ble_eq_true rfl⟩) (am_preV X hh 0 11 (by decide) rfl rfl) rfl rfl hl.1 rfl (lv_room (Nat.le_of_ble_eq_true rfl)) dL_law_2839 ⟨by show cells + 0 ≤ 603072; omega, by show slots + 0 ≤ 7194730; omega⟩) (fun ab H locs hh => ?_)
  refine lv_aload_n hx hb dL_law_2842 rfl (lv_at hl 2 rfl) ?_
  obtain ⟨⟨r5, w6⟩, hk4, hF⟩ := am_bind hF
  have hF := am_u2 hF
  refine am_call X hh (va_runV (As := []) (rest := [.int r2]) X.1 (c_X11_isConsistent l G hk4) (cwV 0 hts gL_law_X11_isConsistent rfl rfl rfl (by decide +kernel) ⟨Nat.le_of_ble_eq_true rfl, Nat.le_of_ble_eq_true rfl⟩) (am_preV X hh 141 12 (by decide) rfl rfl) rfl rfl hl.1 rfl (lv_room (Nat.le_of_ble_eq_true rfl)) dL_law_2843 ⟨by show cells + 0 ≤ 603072; omega, by show slots + 0 ≤ 7194730; omega⟩) (fun ab H locs hh => ?_)
  refine lv_icmp_eq (tgt := 3310) hx hb dL_law_2846 (by decide) (fun hc7 => ?_) (fun hc7 => ?_)
  · have hF := am_pos hc7 hF
    cases hF
    exact W.widen (by omega) (by omega) (kk ab H locs ls hh (lv_sub hl [0, 1, 2, 3, 4, 5] rfl))
  · have hF := am_neg hc7 hF
    refine lv_iconst (v := (0 : Int32)) hx hb dL_law_2849 (by decide) ?_
    cases hF
set_option maxHeartbeats 4000000 in
set_option maxRecDepth 100000 in
theorem c_law_2851 (l : Launch) (hst : l.stackTraces = false) {G : GG} {p : Program} {e : Env} {s : State} {m : MethodId} {args : Array Value} {below : List Frame} {meth : Method} {c : Code} {b L cells slots ab : Nat} {xs : Nat → Int32} {H : Heap} {locs : List Loc} {ls : Array Slot} {w w1 : Wd} {i x1 x2 x3 : Int32} {Q : State → Prop} (X : CX G p s m args meth c cL_law 9 RL wsL_law) (hX : va_X b L xs s s.heap) (hbl : b < s.heap.size) (hbA : ¬ gA G b) (hh : AH G s.heap w ab H locs) (h1 : vp_in (i + 1) L ∧ xs (i + 1).toNatClampNeg = x1) (h2 : vp_in (i + 2) L ∧ xs (i + 2).toNatClampNeg = x2) (h3 : vp_in (i + 3) L ∧ xs (i + 3).toNatClampNeg = x3) (hc : cells + 35 ≤ 603072) (hs : slots + 2182 ≤ 7194730) (hl : lv_has ls 9 [(0, .ref b), (1, .ref (gAd G 0)), (2, .ref (gAd G 141)), (3, .ref (gAd G 151)), (4, .ref (gAd G 152)), (5, .int i)]) (hF : f_law_2851 w x1 x2 x3 = some w1) (kk : ∀ (ab : Nat) (H : Heap) (locs : List Loc) (ls : Array Slot), AH G s.heap w1 ab H locs → lv_has ls 9 [(0, .ref b), (1, .ref (gAd G 0)), (2, .ref (gAd G 141)), (3, .ref (gAd G 151)), (4, .ref (gAd G 152)), (5, .int i)] → W p l e room_1 s m args below meth c H locs (cells + 35) (slots + 2182) Q (F0 m 3310 ls [])) : W p l e room_1 s m args below meth c H locs cells slots Q (F0 m 2851 ls []) := by
  have hx := X.1.1; have hb := X.1.2.1; have hml := X.1.2.2.1; have hown := X.1.2.2.2.1; have hts := X.1.2.2.2.2
  unfold f_law_2851 at hF
  refine lv_aload_n hx hb dL_law_2851 rfl (lv_at hl 1 rfl) ?_
  refine lv_aload_n hx hb dL_law_2852 rfl (lv_at hl 0 rfl) ?_
  refine lv_iload hx hb dL_law_2853 (lv_at hl 5 rfl) ?_
  refine lv_iconst (v := (1 : Int32)) hx hb dL_law_2855 (by decide) ?_
  refine lv_iadd hx hb dL_law_2856 ?_
  refine am_sld hx hb hX hbl hbA hh.2.2 h1 dL_law_2857 ?_
  refine lv_aload_n hx hb dL_law_2858 rfl (lv_at hl 3 rfl) ?_
  obtain ⟨⟨r2, w3⟩, hk1, hF⟩ := am_bind hF
  have hF := am_u2 hF
  refine am_callW X hh (vx_runSX (As := [.ref (gAd G 0), .int x1, .ref (gAd G 151)]) (rest := []) X.1 (c_L_renderGear l G hst hk1) (vx_cwSW 3 hts gL_law_L_renderGear rfl rfl rfl (by decide +kernel) ⟨Nat.le_of_ble_eq_true rfl, Nat.le_of_ble_eq_true rfl⟩) (am_preS X hh) rfl rfl hl.1 rfl (lv_room (Nat.le_of_ble_eq_true rfl)) dL_law_2859 ⟨by show cells + 12 ≤ 603072; omega, by show slots + 710 ≤ 7194730; omega⟩) (fun ab H locs hh => ?_)
  refine lv_istore (lv' := [(6, .int r2), (0, .ref b), (1, .ref (gAd G 0)), (2, .ref (gAd G 141)), (3, .ref (gAd G 151)), (4, .ref (gAd G 152)), (5, .int i)]) hx hb dL_law_2862 hl (by decide) rfl (fun ls hl => ?_)
  refine lv_aload_n hx hb dL_law_2864 rfl (lv_at hl 3 rfl) ?_
  refine lv_aload_n hx hb dL_law_2865 rfl (lv_at hl 1 rfl) ?_
  refine lv_iload hx hb dL_law_2866 (lv_at hl 6 rfl) ?_
  refine lv_iconst (v := (1 : Int32)) hx hb dL_law_2868 (by decide) ?_
  refine lv_iadd hx hb dL_law_2869 ?_
  refine am_sld hx hb hX hbl hbA hh.2.2 h1 dL_law_2870 ?_
  obtain ⟨⟨r5, w6⟩, hk4, hF⟩ := am_bind hF
  have hF := am_u2 hF
  refine am_call X hh (va_runV (As := [.int x1]) (rest := []) X.1 (c_X11_renderGear l G hk4) (cwV 1 hts gL_law_X11_renderGear rfl rfl rfl (by decide +kernel) ⟨Nat.le_of_ble_eq_true rfl, Nat.le_of_ble_eq_true rfl⟩) (am_preV X hh 141 12 (by decide) rfl rfl) rfl rfl hl.1 rfl (lv_room (Nat.le_of_ble_eq_true rfl)) dL_law_2871 ⟨by show (cells + 12) + 0 ≤ 603072; omega, by show (slots + 710) + 0 ≤ 7194730; omega⟩) (fun ab H locs hh => ?_)
  refine lv_istore (lv' := [(7, .int r5), (6, .int r2), (0, .ref b), (1, .ref (gAd G 0)), (2, .ref (gAd G 141)), (3, .ref (gAd G 151)), (4, .ref (gAd G 152)), (5, .int i)]) hx hb dL_law_2874 hl (by decide) rfl (fun ls hl => ?_)
  refine lv_aload_n hx hb dL_law_2876 rfl (lv_at hl 4 rfl) ?_
  obtain ⟨r8, hk7, hF⟩ := am_bind hF
  refine am_call X hh (va_runV (As := []) (rest := []) X.1 (c_X11_thrown l G hk7) (cwV 0 hts gL_law_X11_thrown rfl rfl rfl (by decide +kernel) ⟨Nat.le_of_ble_eq_true rfl, Nat.le_of_ble_eq_true rfl⟩) (am_preV X hh 141 12 (by decide) rfl rfl) rfl rfl hl.1 rfl (lv_room (Nat.le_of_ble_eq_true rfl)) dL_law_2877 ⟨by show (cells + 12) + 0 ≤ 603072; omega, by show (slots + 710) + 0 ≤ 7194730; omega⟩) (fun ab H locs hh => ?_)
  refine lv_iload hx hb dL_law_2880 (lv_at hl 1 rfl) ?_
  refine lv_icmp_eq (tgt := 2887) hx hb dL_law_2882 (by decide) (fun hc9 => ?_) (fun hc9 => ?_)
  · have hF := am_pos hc9 hF
    refine lv_iload hx hb dL_law_2887 (lv_at hl 1 rfl) ?_
    refine lv_if_ne (tgt := 2904) hx hb dL_law_2889 (by decide) (fun hc10 => ?_) (fun hc10 => ?_)
    · have hF := am_neg hc10 hF
      refine lv_goto (tgt := 3310) hx hb dL_law_2904 (by decide) ?_
      cases hF
      exact W.widen (by omega) (by omega) (kk ab H locs ls hh (lv_sub hl [2, 3, 4, 5, 6, 7] rfl))
    · have hF := am_pos hc10 hF
      refine lv_aload_n hx hb dL_law_2892 rfl (lv_at hl 5 rfl) ?_
      refine lv_iconst (v := (0 : Int32)) hx hb dL_law_2893 (by decide) ?_
      obtain ⟨hq11, hF⟩ := am_ifR hF
      refine am_lald X hh 151 (by decide) rfl hq11 dL_law_2894 ?_
      refine lv_iload hx hb dL_law_2895 (lv_at hl 0 rfl) ?_
      refine lv_i2l hx hb dL_law_2897 rfl ?_
      refine am_lcmp_eq (tgt := 2904) hx hb dL_law_2898 dL_law_2899 (by decide) (fun hc12 => ?_) (fun hc12 => ?_)
      · have hF := am_pos hc12 hF
        refine lv_goto (tgt := 3310) hx hb dL_law_2904 (by decide) ?_
        cases hF
        exact W.widen (by omega) (by omega) (kk ab H locs ls hh (lv_sub hl [2, 3, 4, 5, 6, 7] rfl))
      · have hF := am_neg hc12 hF
        refine lv_iconst (v := (0 : Int32)) hx hb dL_law_2902 (by decide) ?_
        cases hF
  · have hF := am_neg hc9 hF
    refine lv_iconst (v := (0 : Int32)) hx hb dL_law_2885 (by decide) ?_
    cases hF
set_option maxHeartbeats 4000000 in
set_option maxRecDepth 100000 in
theorem c_law_2907 (l : Launch) (hst : l.stackTraces = false) {G : GG} {p : Program} {e : Env} {s : State} {m : MethodId} {args : Array Value} {below : List Frame} {meth : Method} {c : Code} {b L cells slots ab : Nat} {xs : Nat → Int32} {H : Heap} {locs : List Loc} {ls : Array Slot} {w w1 : Wd} {i x1 x2 x3 : Int32} {Q : State → Prop} (X : CX G p s m args meth c cL_law 9 RL wsL_law) (hX : va_X b L xs s s.heap) (hbl : b < s.heap.size) (hbA : ¬ gA G b) (hh : AH G s.heap w ab H locs) (h1 : vp_in (i + 1) L ∧ xs (i + 1).toNatClampNeg = x1) (h2 : vp_in (i + 2) L ∧ xs (i + 2).toNatClampNeg = x2) (h3 : vp_in (i + 3) L ∧ xs (i + 3).toNatClampNeg = x3) (hc : cells + 35 ≤ 603072) (hs : slots + 2182 ≤ 7194730) (hl : lv_has ls 9 [(0, .ref b), (1, .ref (gAd G 0)), (2, .ref (gAd G 141)), (3, .ref (gAd G 151)), (4, .ref (gAd G 152)), (5, .int i)]) (hF : f_law_2907 w x1 x2 x3 = some w1) (kk : ∀ (ab : Nat) (H : Heap) (locs : List Loc) (ls : Array Slot), AH G s.heap w1 ab H locs → lv_has ls 9 [(0, .ref b), (1, .ref (gAd G 0)), (2, .ref (gAd G 141)), (3, .ref (gAd G 151)), (4, .ref (gAd G 152)), (5, .int i)] → W p l e room_1 s m args below meth c H locs (cells + 35) (slots + 2182) Q (F0 m 3310 ls [])) : W p l e room_1 s m args below meth c H locs cells slots Q (F0 m 2907 ls []) := by
  have hx := X.1.1; have hb := X.1.2.1; have hml := X.1.2.2.1; have hown := X.1.2.2.2.1; have hts := X.1.2.2.2.2
  unfold f_law_2907 at hF
  refine lv_aload_n hx hb dL_law_2907 rfl (lv_at hl 1 rfl) ?_
  refine lv_aload_n hx hb dL_law_2908 rfl (lv_at hl 0 rfl) ?_
  refine lv_iload hx hb dL_law_2909 (lv_at hl 5 rfl) ?_
  refine lv_iconst (v := (1 : Int32)) hx hb dL_law_2911 (by decide) ?_
  refine lv_iadd hx hb dL_law_2912 ?_
  refine am_sld hx hb hX hbl hbA hh.2.2 h1 dL_law_2913 ?_
  refine lv_aload_n hx hb dL_law_2914 rfl (lv_at hl 3 rfl) ?_
  obtain ⟨⟨r2, w3⟩, hk1, hF⟩ := am_bind hF
  have hF := am_u2 hF
  refine am_callW X hh (vx_runSX (As := [.ref (gAd G 0), .int x1, .ref (gAd G 151)]) (rest := []) X.1 (c_L_renderTrain l G hst hk1) (vx_cwSW 3 hts gL_law_L_renderTrain rfl rfl rfl (by decide +kernel) ⟨Nat.le_of_ble_eq_true rfl, Nat.le_of_ble_eq_true rfl⟩) (am_preS X hh) rfl rfl hl.1 rfl (lv_room (Nat.le_of_ble_eq_true rfl)) dL_law_2915 ⟨by show cells + 35 ≤ 603072; omega, by show slots + 2182 ≤ 7194730; omega⟩) (fun ab H locs hh => ?_)
  refine lv_istore (lv' := [(6, .int r2), (0, .ref b), (1, .ref (gAd G 0)), (2, .ref (gAd G 141)), (3, .ref (gAd G 151)), (4, .ref (gAd G 152)), (5, .int i)]) hx hb dL_law_2918 hl (by decide) rfl (fun ls hl => ?_)
  refine lv_aload_n hx hb dL_law_2920 rfl (lv_at hl 3 rfl) ?_
  refine lv_aload_n hx hb dL_law_2921 rfl (lv_at hl 1 rfl) ?_
  refine lv_iload hx hb dL_law_2922 (lv_at hl 6 rfl) ?_
  refine lv_iconst (v := (1 : Int32)) hx hb dL_law_2924 (by decide) ?_
  refine lv_iadd hx hb dL_law_2925 ?_
  refine am_sld hx hb hX hbl hbA hh.2.2 h1 dL_law_2926 ?_
  obtain ⟨⟨r5, w6⟩, hk4, hF⟩ := am_bind hF
  have hF := am_u2 hF
  refine am_call X hh (va_runV (As := [.int x1]) (rest := []) X.1 (c_X11_renderTrain l G hk4) (cwV 1 hts gL_law_X11_renderTrain rfl rfl rfl (by decide +kernel) ⟨Nat.le_of_ble_eq_true rfl, Nat.le_of_ble_eq_true rfl⟩) (am_preV X hh 141 12 (by decide) rfl rfl) rfl rfl hl.1 rfl (lv_room (Nat.le_of_ble_eq_true rfl)) dL_law_2927 ⟨by show (cells + 35) + 0 ≤ 603072; omega, by show (slots + 2182) + 0 ≤ 7194730; omega⟩) (fun ab H locs hh => ?_)
  refine lv_istore (lv' := [(7, .int r5), (6, .int r2), (0, .ref b), (1, .ref (gAd G 0)), (2, .ref (gAd G 141)), (3, .ref (gAd G 151)), (4, .ref (gAd G 152)), (5, .int i)]) hx hb dL_law_2930 hl (by decide) rfl (fun ls hl => ?_)
  refine lv_aload_n hx hb dL_law_2932 rfl (lv_at hl 4 rfl) ?_
  obtain ⟨r8, hk7, hF⟩ := am_bind hF
  refine am_call X hh (va_runV (As := []) (rest := []) X.1 (c_X11_thrown l G hk7) (cwV 0 hts gL_law_X11_thrown rfl rfl rfl (by decide +kernel) ⟨Nat.le_of_ble_eq_true rfl, Nat.le_of_ble_eq_true rfl⟩) (am_preV X hh 141 12 (by decide) rfl rfl) rfl rfl hl.1 rfl (lv_room (Nat.le_of_ble_eq_true rfl)) dL_law_2933 ⟨by show (cells + 35) + 0 ≤ 603072; omega, by show (slots + 2182) + 0 ≤ 7194730; omega⟩) (fun ab H locs hh => ?_)
  refine lv_iload hx hb dL_law_2936 (lv_at hl 1 rfl) ?_
  refine lv_icmp_eq (tgt := 2943) hx hb dL_law_2938 (by decide) (fun hc9 => ?_) (fun hc9 => ?_)
  · have hF := am_pos hc9 hF
    refine lv_iload hx hb dL_law_2943 (lv_at hl 1 rfl) ?_
    refine lv_if_ne (tgt := 2960) hx hb dL_law_2945 (by decide) (fun hc10 => ?_) (fun hc10 => ?_)
    · have hF := am_neg hc10 hF
      refine lv_goto (tgt := 3310) hx hb dL_law_2960 (by decide) ?_
      cases hF
      exact W.widen (by omega) (by omega) (kk ab H locs ls hh (lv_sub hl [2, 3, 4, 5, 6, 7] rfl))
    · have hF := am_pos hc10 hF
      refine lv_aload_n hx hb dL_law_2948 rfl (lv_at hl 5 rfl) ?_
      refine lv_iconst (v := (0 : Int32)) hx hb dL_law_2949 (by decide) ?_
      obtain ⟨hq11, hF⟩ := am_ifR hF
      refine am_lald X hh 151 (by decide) rfl hq11 dL_law_2950 ?_
      refine lv_iload hx hb dL_law_2951 (lv_at hl 0 rfl) ?_
      refine lv_i2l hx hb dL_law_2953 rfl ?_
      refine am_lcmp_eq (tgt := 2960) hx hb dL_law_2954 dL_law_2955 (by decide) (fun hc12 => ?_) (fun hc12 => ?_)
      · have hF := am_pos hc12 hF
        refine lv_goto (tgt := 3310) hx hb dL_law_2960 (by decide) ?_
        cases hF
        exact W.widen (by omega) (by omega) (kk ab H locs ls hh (lv_sub hl [2, 3, 4, 5, 6, 7] rfl))
      · have hF := am_neg hc12 hF
        refine lv_iconst (v := (0 : Int32)) hx hb dL_law_2958 (by decide) ?_
        cases hF
  · have hF := am_neg hc9 hF
    refine lv_iconst (v := (0 : Int32)) hx hb dL_law_2941 (by decide) ?_
    cases hF
set_option maxHeartbeats 4000000 in
set_option maxRecDepth 100000 in
theorem c_law_2963 (l : Launch) (hst : l.stackTraces = false) {G : GG} {p : Program} {e : Env} {s : State} {m : MethodId} {args : Array Value} {below : List Frame} {meth : Method} {c : Code} {b L cells slots ab : Nat} {xs : Nat → Int32} {H : Heap} {locs : List Loc} {ls : Array Slot} {w w1 : Wd} {i x1 x2 x3 : Int32} {Q : State → Prop} (X : CX G p s m args meth c cL_law 9 RL wsL_law) (hX : va_X b L xs s s.heap) (hbl : b < s.heap.size) (hbA : ¬ gA G b) (hh : AH G s.heap w ab H locs) (h1 : vp_in (i + 1) L ∧ xs (i + 1).toNatClampNeg = x1) (h2 : vp_in (i + 2) L ∧ xs (i + 2).toNatClampNeg = x2) (h3 : vp_in (i + 3) L ∧ xs (i + 3).toNatClampNeg = x3) (hc : cells + 35 ≤ 603072) (hs : slots + 2182 ≤ 7194730) (hl : lv_has ls 9 [(0, .ref b), (1, .ref (gAd G 0)), (2, .ref (gAd G 141)), (3, .ref (gAd G 151)), (4, .ref (gAd G 152)), (5, .int i)]) (hF : f_law_2963 w x1 x2 x3 = some w1) (kk : ∀ (ab : Nat) (H : Heap) (locs : List Loc) (ls : Array Slot), AH G s.heap w1 ab H locs → lv_has ls 9 [(0, .ref b), (1, .ref (gAd G 0)), (2, .ref (gAd G 141)), (3, .ref (gAd G 151)), (4, .ref (gAd G 152)), (5, .int i)] → W p l e room_1 s m args below meth c H locs (cells + 35) (slots + 2182) Q (F0 m 3310 ls [])) : W p l e room_1 s m args below meth c H locs cells slots Q (F0 m 2963 ls []) := by
  have hx := X.1.1; have hb := X.1.2.1; have hml := X.1.2.2.1; have hown := X.1.2.2.2.1; have hts := X.1.2.2.2.2
  unfold f_law_2963 at hF
  refine lv_aload_n hx hb dL_law_2963 rfl (lv_at hl 1 rfl) ?_
  refine lv_aload_n hx hb dL_law_2964 rfl (lv_at hl 0 rfl) ?_
  refine lv_iload hx hb dL_law_2965 (lv_at hl 5 rfl) ?_
  refine lv_iconst (v := (1 : Int32)) hx hb dL_law_2967 (by decide) ?_
  refine lv_iadd hx hb dL_law_2968 ?_
  refine am_sld hx hb hX hbl hbA hh.2.2 h1 dL_law_2969 ?_
  refine lv_aload_n hx hb dL_law_2970 rfl (lv_at hl 3 rfl) ?_
  obtain ⟨⟨r2, w3⟩, hk1, hF⟩ := am_bind hF
  have hF := am_u2 hF
  refine am_callW X hh (vx_runSX (As := [.ref (gAd G 0), .int x1, .ref (gAd G 151)]) (rest := []) X.1 (c_L_outputAt l G hst hk1) (vx_cwSW 3 hts gL_law_L_outputAt rfl rfl rfl (by decide +kernel) ⟨Nat.le_of_ble_eq_true rfl, Nat.le_of_ble_eq_true rfl⟩) (am_preS X hh) rfl rfl hl.1 rfl (lv_room (Nat.le_of_ble_eq_true rfl)) dL_law_2971 ⟨by show cells + 1 ≤ 603072; omega, by show slots + 6 ≤ 7194730; omega⟩) (fun ab H locs hh => ?_)
  refine lv_istore (lv' := [(6, .int r2), (0, .ref b), (1, .ref (gAd G 0)), (2, .ref (gAd G 141)), (3, .ref (gAd G 151)), (4, .ref (gAd G 152)), (5, .int i)]) hx hb dL_law_2974 hl (by decide) rfl (fun ls hl => ?_)
  refine lv_aload_n hx hb dL_law_2976 rfl (lv_at hl 3 rfl) ?_
  refine lv_aload_n hx hb dL_law_2977 rfl (lv_at hl 1 rfl) ?_
  refine lv_iload hx hb dL_law_2978 (lv_at hl 6 rfl) ?_
  refine lv_iconst (v := (1 : Int32)) hx hb dL_law_2980 (by decide) ?_
  refine lv_iadd hx hb dL_law_2981 ?_
  refine am_sld hx hb hX hbl hbA hh.2.2 h1 dL_law_2982 ?_
  obtain ⟨⟨r5, w6⟩, hk4, hF⟩ := am_bind hF
  have hF := am_u2 hF
  refine am_call X hh (va_runV (As := [.int x1]) (rest := []) X.1 (c_X11_outputAt l G hk4) (cwV 1 hts gL_law_X11_outputAt rfl rfl rfl (by decide +kernel) ⟨Nat.le_of_ble_eq_true rfl, Nat.le_of_ble_eq_true rfl⟩) (am_preV X hh 141 12 (by decide) rfl rfl) rfl rfl hl.1 rfl (lv_room (Nat.le_of_ble_eq_true rfl)) dL_law_2983 ⟨by show (cells + 1) + 0 ≤ 603072; omega, by show (slots + 6) + 0 ≤ 7194730; omega⟩) (fun ab H locs hh => ?_)
  refine lv_istore (lv' := [(7, .int r5), (6, .int r2), (0, .ref b), (1, .ref (gAd G 0)), (2, .ref (gAd G 141)), (3, .ref (gAd G 151)), (4, .ref (gAd G 152)), (5, .int i)]) hx hb dL_law_2986 hl (by decide) rfl (fun ls hl => ?_)
  refine lv_aload_n hx hb dL_law_2988 rfl (lv_at hl 4 rfl) ?_
  obtain ⟨r8, hk7, hF⟩ := am_bind hF
  refine am_call X hh (va_runV (As := []) (rest := []) X.1 (c_X11_thrown l G hk7) (cwV 0 hts gL_law_X11_thrown rfl rfl rfl (by decide +kernel) ⟨Nat.le_of_ble_eq_true rfl, Nat.le_of_ble_eq_true rfl⟩) (am_preV X hh 141 12 (by decide) rfl rfl) rfl rfl hl.1 rfl (lv_room (Nat.le_of_ble_eq_true rfl)) dL_law_2989 ⟨by show (cells + 1) + 0 ≤ 603072; omega, by show (slots + 6) + 0 ≤ 7194730; omega⟩) (fun ab H locs hh => ?_)
  refine lv_iload hx hb dL_law_2992 (lv_at hl 1 rfl) ?_
  refine lv_icmp_eq (tgt := 2999) hx hb dL_law_2994 (by decide) (fun hc9 => ?_) (fun hc9 => ?_)
  · have hF := am_pos hc9 hF
    refine lv_iload hx hb dL_law_2999 (lv_at hl 1 rfl) ?_
    refine lv_if_ne (tgt := 3016) hx hb dL_law_3001 (by decide) (fun hc10 => ?_) (fun hc10 => ?_)
    · have hF := am_neg hc10 hF
      refine lv_goto (tgt := 3310) hx hb dL_law_3016 (by decide) ?_
      cases hF
      exact W.widen (by omega) (by omega) (kk ab H locs ls hh (lv_sub hl [2, 3, 4, 5, 6, 7] rfl))
    · have hF := am_pos hc10 hF
      refine lv_aload_n hx hb dL_law_3004 rfl (lv_at hl 5 rfl) ?_
      refine lv_iconst (v := (0 : Int32)) hx hb dL_law_3005 (by decide) ?_
      obtain ⟨hq11, hF⟩ := am_ifR hF
      refine am_lald X hh 151 (by decide) rfl hq11 dL_law_3006 ?_
      refine lv_iload hx hb dL_law_3007 (lv_at hl 0 rfl) ?_
      refine lv_i2l hx hb dL_law_3009 rfl ?_
      refine am_lcmp_eq (tgt := 3016) hx hb dL_law_3010 dL_law_3011 (by decide) (fun hc12 => ?_) (fun hc12 => ?_)
      · have hF := am_pos hc12 hF
        refine lv_goto (tgt := 3310) hx hb dL_law_3016 (by decide) ?_
        cases hF
        exact W.widen (by omega) (by omega) (kk ab H locs ls hh (lv_sub hl [2, 3, 4, 5, 6, 7] rfl))
      · have hF := am_neg hc12 hF
        refine lv_iconst (v := (0 : Int32)) hx hb dL_law_3014 (by decide) ?_
        cases hF
  · have hF := am_neg hc9 hF
    refine lv_iconst (v := (0 : Int32)) hx hb dL_law_2997 (by decide) ?_
    cases hF
set_option maxHeartbeats 4000000 in
set_option maxRecDepth 100000 in
theorem c_law_3019 (l : Launch) (hst : l.stackTraces = false) {G : GG} {p : Program} {e : Env} {s : State} {m : MethodId} {args : Array Value} {below : List Frame} {meth : Method} {c : Code} {b L cells slots ab : Nat} {xs : Nat → Int32} {H : Heap} {locs : List Loc} {ls : Array Slot} {w w1 : Wd} {i x1 x2 x3 : Int32} {Q : State → Prop} (X : CX G p s m args meth c cL_law 9 RL wsL_law) (hX : va_X b L xs s s.heap) (hbl : b < s.heap.size) (hbA : ¬ gA G b) (hh : AH G s.heap w ab H locs) (h1 : vp_in (i + 1) L ∧ xs (i + 1).toNatClampNeg = x1) (h2 : vp_in (i + 2) L ∧ xs (i + 2).toNatClampNeg = x2) (h3 : vp_in (i + 3) L ∧ xs (i + 3).toNatClampNeg = x3) (hc : cells + 35 ≤ 603072) (hs : slots + 2182 ≤ 7194730) (hl : lv_has ls 9 [(0, .ref b), (1, .ref (gAd G 0)), (2, .ref (gAd G 141)), (3, .ref (gAd G 151)), (4, .ref (gAd G 152)), (5, .int i)]) (hF : f_law_3019 w x1 x2 x3 = some w1) (kk : ∀ (ab : Nat) (H : Heap) (locs : List Loc) (ls : Array Slot), AH G s.heap w1 ab H locs → lv_has ls 9 [(0, .ref b), (1, .ref (gAd G 0)), (2, .ref (gAd G 141)), (3, .ref (gAd G 151)), (4, .ref (gAd G 152)), (5, .int i)] → W p l e room_1 s m args below meth c H locs (cells + 35) (slots + 2182) Q (F0 m 3310 ls [])) : W p l e room_1 s m args below meth c H locs cells slots Q (F0 m 3019 ls []) := by
  have hx := X.1.1; have hb := X.1.2.1; have hml := X.1.2.2.1; have hown := X.1.2.2.2.1; have hts := X.1.2.2.2.2
  unfold f_law_3019 at hF
  refine lv_aload_n hx hb dL_law_3019 rfl (lv_at hl 1 rfl) ?_
  refine lv_aload_n hx hb dL_law_3020 rfl (lv_at hl 0 rfl) ?_
  refine lv_iload hx hb dL_law_3021 (lv_at hl 5 rfl) ?_
  refine lv_iconst (v := (1 : Int32)) hx hb dL_law_3023 (by decide) ?_
  refine lv_iadd hx hb dL_law_3024 ?_
  refine am_sld hx hb hX hbl hbA hh.2.2 h1 dL_law_3025 ?_
  refine lv_i2c hx hb dL_law_3026 rfl ?_
  refine lv_aload_n hx hb dL_law_3027 rfl (lv_at hl 3 rfl) ?_
  obtain ⟨⟨r2, w3⟩, hk1, hF⟩ := am_bind hF
  have hF := am_u2 hF
  refine am_callW X hh (vx_runSX (As := [.ref (gAd G 0), .int (((x1).toUInt32 % 65536).toInt32), .ref (gAd G 151)]) (rest := []) X.1 (c_L_type l G hst hk1) (vx_cwSW 3 hts gL_law_L_type rfl rfl rfl (by decide +kernel) ⟨Nat.le_of_ble_eq_true rfl, Nat.le_of_ble_eq_true rfl⟩) (am_preS X hh) rfl rfl hl.1 rfl (lv_room (Nat.le_of_ble_eq_true rfl)) dL_law_3028 ⟨by show cells + 1 ≤ 603072; omega, by show slots + 6 ≤ 7194730; omega⟩) (fun ab H locs hh => ?_)
  refine lv_istore (lv' := [(6, .int r2), (0, .ref b), (1, .ref (gAd G 0)), (2, .ref (gAd G 141)), (3, .ref (gAd G 151)), (4, .ref (gAd G 152)), (5, .int i)]) hx hb dL_law_3031 hl (by decide) rfl (fun ls hl => ?_)
  refine lv_aload_n hx hb dL_law_3033 rfl (lv_at hl 3 rfl) ?_
  refine lv_aload_n hx hb dL_law_3034 rfl (lv_at hl 1 rfl) ?_
  refine lv_iload hx hb dL_law_3035 (lv_at hl 6 rfl) ?_
  refine lv_iconst (v := (1 : Int32)) hx hb dL_law_3037 (by decide) ?_
  refine lv_iadd hx hb dL_law_3038 ?_
  refine am_sld hx hb hX hbl hbA hh.2.2 h1 dL_law_3039 ?_
  refine lv_i2c hx hb dL_law_3040 rfl ?_
  obtain ⟨⟨r5, w6⟩, hk4, hF⟩ := am_bind hF
  have hF := am_u2 hF
  refine am_call X hh (va_runV (As := [.int (((x1).toUInt32 % 65536).toInt32)]) (rest := []) X.1 (c_X11_type l G hk4) (cwV 1 hts gL_law_X11_type rfl rfl rfl (by decide +kernel) ⟨Nat.le_of_ble_eq_true rfl, Nat.le_of_ble_eq_true rfl⟩) (am_preV X hh 141 12 (by decide) rfl rfl) rfl rfl hl.1 rfl (lv_room (Nat.le_of_ble_eq_true rfl)) dL_law_3041 ⟨by show (cells + 1) + 0 ≤ 603072; omega, by show (slots + 6) + 0 ≤ 7194730; omega⟩) (fun ab H locs hh => ?_)
  refine lv_istore (lv' := [(7, .int r5), (6, .int r2), (0, .ref b), (1, .ref (gAd G 0)), (2, .ref (gAd G 141)), (3, .ref (gAd G 151)), (4, .ref (gAd G 152)), (5, .int i)]) hx hb dL_law_3044 hl (by decide) rfl (fun ls hl => ?_)
  refine lv_aload_n hx hb dL_law_3046 rfl (lv_at hl 4 rfl) ?_
  obtain ⟨r8, hk7, hF⟩ := am_bind hF
  refine am_call X hh (va_runV (As := []) (rest := []) X.1 (c_X11_thrown l G hk7) (cwV 0 hts gL_law_X11_thrown rfl rfl rfl (by decide +kernel) ⟨Nat.le_of_ble_eq_true rfl, Nat.le_of_ble_eq_true rfl⟩) (am_preV X hh 141 12 (by decide) rfl rfl) rfl rfl hl.1 rfl (lv_room (Nat.le_of_ble_eq_true rfl)) dL_law_3047 ⟨by show (cells + 1) + 0 ≤ 603072; omega, by show (slots + 6) + 0 ≤ 7194730; omega⟩) (fun ab H locs hh => ?_)
  refine lv_iload hx hb dL_law_3050 (lv_at hl 1 rfl) ?_
  refine lv_icmp_eq (tgt := 3057) hx hb dL_law_3052 (by decide) (fun hc9 => ?_) (fun hc9 => ?_)
  · have hF := am_pos hc9 hF
    refine lv_iload hx hb dL_law_3057 (lv_at hl 1 rfl) ?_
    refine lv_if_ne (tgt := 3074) hx hb dL_law_3059 (by decide) (fun hc10 => ?_) (fun hc10 => ?_)
    · have hF := am_neg hc10 hF
      refine lv_goto (tgt := 3310) hx hb dL_law_3074 (by decide) ?_
      cases hF
      exact W.widen (by omega) (by omega) (kk ab H locs ls hh (lv_sub hl [2, 3, 4, 5, 6, 7] rfl))
    · have hF := am_pos hc10 hF
      refine lv_aload_n hx hb dL_law_3062 rfl (lv_at hl 5 rfl) ?_
      refine lv_iconst (v := (0 : Int32)) hx hb dL_law_3063 (by decide) ?_
      obtain ⟨hq11, hF⟩ := am_ifR hF
      refine am_lald X hh 151 (by decide) rfl hq11 dL_law_3064 ?_
      refine lv_iload hx hb dL_law_3065 (lv_at hl 0 rfl) ?_
      refine lv_i2l hx hb dL_law_3067 rfl ?_
      refine am_lcmp_eq (tgt := 3074) hx hb dL_law_3068 dL_law_3069 (by decide) (fun hc12 => ?_) (fun hc12 => ?_)
      · have hF := am_pos hc12 hF
        refine lv_goto (tgt := 3310) hx hb dL_law_3074 (by decide) ?_
        cases hF
        exact W.widen (by omega) (by omega) (kk ab H locs ls hh (lv_sub hl [2, 3, 4, 5, 6, 7] rfl))
      · have hF := am_neg hc12 hF
        refine lv_iconst (v := (0 : Int32)) hx hb dL_law_3072 (by decide) ?_
        cases hF
  · have hF := am_neg hc9 hF
    refine lv_iconst (v := (0 : Int32)) hx hb dL_law_3055 (by decide) ?_
    cases hF
set_option maxHeartbeats 4000000 in
set_option maxRecDepth 100000 in
theorem c_law_3077 (l : Launch) (hst : l.stackTraces = false) {G : GG} {p : Program} {e : Env} {s : State} {m : MethodId} {args : Array Value} {below : List Frame} {meth : Method} {c : Code} {b L cells slots ab : Nat} {xs : Nat → Int32} {H : Heap} {locs : List Loc} {ls : Array Slot} {w w1 : Wd} {i x1 x2 x3 : Int32} {Q : State → Prop} (X : CX G p s m args meth c cL_law 9 RL wsL_law) (hX : va_X b L xs s s.heap) (hbl : b < s.heap.size) (hbA : ¬ gA G b) (hh : AH G s.heap w ab H locs) (h1 : vp_in (i + 1) L ∧ xs (i + 1).toNatClampNeg = x1) (h2 : vp_in (i + 2) L ∧ xs (i + 2).toNatClampNeg = x2) (h3 : vp_in (i + 3) L ∧ xs (i + 3).toNatClampNeg = x3) (hc : cells + 35 ≤ 603072) (hs : slots + 2182 ≤ 7194730) (hl : lv_has ls 9 [(0, .ref b), (1, .ref (gAd G 0)), (2, .ref (gAd G 141)), (3, .ref (gAd G 151)), (4, .ref (gAd G 152)), (5, .int i)]) (hF : f_law_3077 w x1 x2 x3 = some w1) (kk : ∀ (ab : Nat) (H : Heap) (locs : List Loc) (ls : Array Slot), AH G s.heap w1 ab H locs → lv_has ls 9 [(0, .ref b), (1, .ref (gAd G 0)), (2, .ref (gAd G 141)), (3, .ref (gAd G 151)), (4, .ref (gAd G 152)), (5, .int i)] → W p l e room_1 s m args below meth c H locs (cells + 35) (slots + 2182) Q (F0 m 3310 ls [])) : W p l e room_1 s m args below meth c H locs cells slots Q (F0 m 3077 ls []) := by
  have hx := X.1.1; have hb := X.1.2.1; have hml := X.1.2.2.1; have hown := X.1.2.2.2.1; have hts := X.1.2.2.2.2
  unfold f_law_3077 at hF
  refine lv_aload_n hx hb dL_law_3077 rfl (lv_at hl 1 rfl) ?_
  refine lv_aload_n hx hb dL_law_3078 rfl (lv_at hl 3 rfl) ?_
  obtain ⟨⟨r2, w3⟩, hk1, hF⟩ := am_bind hF
  have hF := am_u2 hF
  refine am_callW X hh (vx_runSX (As := [.ref (gAd G 0), .ref (gAd G 151)]) (rest := []) X.1 (c_L_runScript l G hst hk1) (vx_cwSW 2 hts gL_law_L_runScript rfl rfl rfl (by decide +kernel) ⟨Nat.le_of_ble_eq_true rfl, Nat.le_of_ble_eq_true rfl⟩) (am_preS X hh) rfl rfl hl.1 rfl (lv_room (Nat.le_of_ble_eq_true rfl)) dL_law_3079 ⟨by show cells + 1 ≤ 603072; omega, by show slots + 6 ≤ 7194730; omega⟩) (fun ab H locs hh => ?_)
  refine lv_istore (lv' := [(6, .int r2), (0, .ref b), (1, .ref (gAd G 0)), (2, .ref (gAd G 141)), (3, .ref (gAd G 151)), (4, .ref (gAd G 152)), (5, .int i)]) hx hb dL_law_3082 hl (by decide) rfl (fun ls hl => ?_)
  refine lv_aload_n hx hb dL_law_3084 rfl (lv_at hl 3 rfl) ?_
  obtain ⟨⟨r5, w6⟩, hk4, hF⟩ := am_bind hF
  have hF := am_u2 hF
  refine am_call X hh (va_runV (As := []) (rest := []) X.1 (c_X11_runScript l G hk4) (cwV 0 hts gL_law_X11_runScript rfl rfl rfl (by decide +kernel) ⟨Nat.le_of_ble_eq_true rfl, Nat.le_of_ble_eq_true rfl⟩) (am_preV X hh 141 12 (by decide) rfl rfl) rfl rfl hl.1 rfl (lv_room (Nat.le_of_ble_eq_true rfl)) dL_law_3085 ⟨by show (cells + 1) + 0 ≤ 603072; omega, by show (slots + 6) + 0 ≤ 7194730; omega⟩) (fun ab H locs hh => ?_)
  refine lv_istore (lv' := [(7, .int r5), (6, .int r2), (0, .ref b), (1, .ref (gAd G 0)), (2, .ref (gAd G 141)), (3, .ref (gAd G 151)), (4, .ref (gAd G 152)), (5, .int i)]) hx hb dL_law_3088 hl (by decide) rfl (fun ls hl => ?_)
  refine lv_aload_n hx hb dL_law_3090 rfl (lv_at hl 4 rfl) ?_
  obtain ⟨r8, hk7, hF⟩ := am_bind hF
  refine am_call X hh (va_runV (As := []) (rest := []) X.1 (c_X11_thrown l G hk7) (cwV 0 hts gL_law_X11_thrown rfl rfl rfl (by decide +kernel) ⟨Nat.le_of_ble_eq_true rfl, Nat.le_of_ble_eq_true rfl⟩) (am_preV X hh 141 12 (by decide) rfl rfl) rfl rfl hl.1 rfl (lv_room (Nat.le_of_ble_eq_true rfl)) dL_law_3091 ⟨by show (cells + 1) + 0 ≤ 603072; omega, by show (slots + 6) + 0 ≤ 7194730; omega⟩) (fun ab H locs hh => ?_)
  refine lv_iload hx hb dL_law_3094 (lv_at hl 1 rfl) ?_
  refine lv_icmp_eq (tgt := 3101) hx hb dL_law_3096 (by decide) (fun hc9 => ?_) (fun hc9 => ?_)
  · have hF := am_pos hc9 hF
    refine lv_iload hx hb dL_law_3101 (lv_at hl 1 rfl) ?_
    refine lv_if_ne (tgt := 3118) hx hb dL_law_3103 (by decide) (fun hc10 => ?_) (fun hc10 => ?_)
    · have hF := am_neg hc10 hF
      refine lv_goto (tgt := 3310) hx hb dL_law_3118 (by decide) ?_
      cases hF
      exact W.widen (by omega) (by omega) (kk ab H locs ls hh (lv_sub hl [2, 3, 4, 5, 6, 7] rfl))
    · have hF := am_pos hc10 hF
      refine lv_aload_n hx hb dL_law_3106 rfl (lv_at hl 5 rfl) ?_
      refine lv_iconst (v := (0 : Int32)) hx hb dL_law_3107 (by decide) ?_
      obtain ⟨hq11, hF⟩ := am_ifR hF
      refine am_lald X hh 151 (by decide) rfl hq11 dL_law_3108 ?_
      refine lv_iload hx hb dL_law_3109 (lv_at hl 0 rfl) ?_
      refine lv_i2l hx hb dL_law_3111 rfl ?_
      refine am_lcmp_eq (tgt := 3118) hx hb dL_law_3112 dL_law_3113 (by decide) (fun hc12 => ?_) (fun hc12 => ?_)
      · have hF := am_pos hc12 hF
        refine lv_goto (tgt := 3310) hx hb dL_law_3118 (by decide) ?_
        cases hF
        exact W.widen (by omega) (by omega) (kk ab H locs ls hh (lv_sub hl [2, 3, 4, 5, 6, 7] rfl))
      · have hF := am_neg hc12 hF
        refine lv_iconst (v := (0 : Int32)) hx hb dL_law_3116 (by decide) ?_
        cases hF
  · have hF := am_neg hc9 hF
    refine lv_iconst (v := (0 : Int32)) hx hb dL_law_3099 (by decide) ?_
    cases hF
set_option maxHeartbeats 4000000 in
set_option maxRecDepth 100000 in
theorem c_law_3121 (l : Launch) (hst : l.stackTraces = false) {G : GG} {p : Program} {e : Env} {s : State} {m : MethodId} {args : Array Value} {below : List Frame} {meth : Method} {c : Code} {b L cells slots ab : Nat} {xs : Nat → Int32} {H : Heap} {locs : List Loc} {ls : Array Slot} {w w1 : Wd} {i x1 x2 x3 : Int32} {Q : State → Prop} (X : CX G p s m args meth c cL_law 9 RL wsL_law) (hX : va_X b L xs s s.heap) (hbl : b < s.heap.size) (hbA : ¬ gA G b) (hh : AH G s.heap w ab H locs) (h1 : vp_in (i + 1) L ∧ xs (i + 1).toNatClampNeg = x1) (h2 : vp_in (i + 2) L ∧ xs (i + 2).toNatClampNeg = x2) (h3 : vp_in (i + 3) L ∧ xs (i + 3).toNatClampNeg = x3) (hc : cells + 35 ≤ 603072) (hs : slots + 2182 ≤ 7194730) (hl : lv_has ls 9 [(0, .ref b), (1, .ref (gAd G 0)), (2, .ref (gAd G 141)), (3, .ref (gAd G 151)), (4, .ref (gAd G 152)), (5, .int i)]) (hF : f_law_3121 w x1 x2 x3 = some w1) (kk : ∀ (ab : Nat) (H : Heap) (locs : List Loc) (ls : Array Slot), AH G s.heap w1 ab H locs → lv_has ls 9 [(0, .ref b), (1, .ref (gAd G 0)), (2, .ref (gAd G 141)), (3, .ref (gAd G 151)), (4, .ref (gAd G 152)), (5, .int i)] → W p l e room_1 s m args below meth c H locs (cells + 35) (slots + 2182) Q (F0 m 3310 ls [])) : W p l e room_1 s m args below meth c H locs cells slots Q (F0 m 3121 ls []) := by
  have hx := X.1.1; have hb := X.1.2.1; have hml := X.1.2.2.1; have hown := X.1.2.2.2.1; have hts := X.1.2.2.2.2
  unfold f_law_3121 at hF
  refine lv_aload_n hx hb dL_law_3121 rfl (lv_at hl 1 rfl) ?_
  refine lv_aload_n hx hb dL_law_3122 rfl (lv_at hl 3 rfl) ?_
  obtain ⟨⟨r2, w3⟩, hk1, hF⟩ := am_bind hF
  have hF := am_u2 hF
  refine am_callW X hh (vx_runSX (As := [.ref (gAd G 0), .ref (gAd G 151)]) (rest := []) X.1 (c_L_errorPosition l G hst hk1) (vx_cwSW 2 hts gL_law_L_errorPosition rfl rfl rfl (by decide +kernel) ⟨Nat.le_of_ble_eq_true rfl, Nat.le_of_ble_eq_true rfl⟩) (am_preS X hh) rfl rfl hl.1 rfl (lv_room (Nat.le_of_ble_eq_true rfl)) dL_law_3123 ⟨by show cells + 1 ≤ 603072; omega, by show slots + 6 ≤ 7194730; omega⟩) (fun ab H locs hh => ?_)
  refine lv_istore (lv' := [(6, .int r2), (0, .ref b), (1, .ref (gAd G 0)), (2, .ref (gAd G 141)), (3, .ref (gAd G 151)), (4, .ref (gAd G 152)), (5, .int i)]) hx hb dL_law_3126 hl (by decide) rfl (fun ls hl => ?_)
  refine lv_aload_n hx hb dL_law_3128 rfl (lv_at hl 3 rfl) ?_
  obtain ⟨⟨r5, w6⟩, hk4, hF⟩ := am_bind hF
  have hF := am_u2 hF
  refine am_call X hh (va_runV (As := []) (rest := []) X.1 (c_X11_errorPosition l G hk4) (cwV 0 hts gL_law_X11_errorPosition rfl rfl rfl (by decide +kernel) ⟨Nat.le_of_ble_eq_true rfl, Nat.le_of_ble_eq_true rfl⟩) (am_preV X hh 141 12 (by decide) rfl rfl) rfl rfl hl.1 rfl (lv_room (Nat.le_of_ble_eq_true rfl)) dL_law_3129 ⟨by show (cells + 1) + 0 ≤ 603072; omega, by show (slots + 6) + 0 ≤ 7194730; omega⟩) (fun ab H locs hh => ?_)
  refine lv_istore (lv' := [(7, .int r5), (6, .int r2), (0, .ref b), (1, .ref (gAd G 0)), (2, .ref (gAd G 141)), (3, .ref (gAd G 151)), (4, .ref (gAd G 152)), (5, .int i)]) hx hb dL_law_3132 hl (by decide) rfl (fun ls hl => ?_)
  refine lv_aload_n hx hb dL_law_3134 rfl (lv_at hl 4 rfl) ?_
  obtain ⟨r8, hk7, hF⟩ := am_bind hF
  refine am_call X hh (va_runV (As := []) (rest := []) X.1 (c_X11_thrown l G hk7) (cwV 0 hts gL_law_X11_thrown rfl rfl rfl (by decide +kernel) ⟨Nat.le_of_ble_eq_true rfl, Nat.le_of_ble_eq_true rfl⟩) (am_preV X hh 141 12 (by decide) rfl rfl) rfl rfl hl.1 rfl (lv_room (Nat.le_of_ble_eq_true rfl)) dL_law_3135 ⟨by show (cells + 1) + 0 ≤ 603072; omega, by show (slots + 6) + 0 ≤ 7194730; omega⟩) (fun ab H locs hh => ?_)
  refine lv_iload hx hb dL_law_3138 (lv_at hl 1 rfl) ?_
  refine lv_icmp_eq (tgt := 3145) hx hb dL_law_3140 (by decide) (fun hc9 => ?_) (fun hc9 => ?_)
  · have hF := am_pos hc9 hF
    refine lv_iload hx hb dL_law_3145 (lv_at hl 1 rfl) ?_
    refine lv_if_ne (tgt := 3162) hx hb dL_law_3147 (by decide) (fun hc10 => ?_) (fun hc10 => ?_)
    · have hF := am_neg hc10 hF
      refine lv_goto (tgt := 3310) hx hb dL_law_3162 (by decide) ?_
      cases hF
      exact W.widen (by omega) (by omega) (kk ab H locs ls hh (lv_sub hl [2, 3, 4, 5, 6, 7] rfl))
    · have hF := am_pos hc10 hF
      refine lv_aload_n hx hb dL_law_3150 rfl (lv_at hl 5 rfl) ?_
      refine lv_iconst (v := (0 : Int32)) hx hb dL_law_3151 (by decide) ?_
      obtain ⟨hq11, hF⟩ := am_ifR hF
      refine am_lald X hh 151 (by decide) rfl hq11 dL_law_3152 ?_
      refine lv_iload hx hb dL_law_3153 (lv_at hl 0 rfl) ?_
      refine lv_i2l hx hb dL_law_3155 rfl ?_
      refine am_lcmp_eq (tgt := 3162) hx hb dL_law_3156 dL_law_3157 (by decide) (fun hc12 => ?_) (fun hc12 => ?_)
      · have hF := am_pos hc12 hF
        refine lv_goto (tgt := 3310) hx hb dL_law_3162 (by decide) ?_
        cases hF
        exact W.widen (by omega) (by omega) (kk ab H locs ls hh (lv_sub hl [2, 3, 4, 5, 6, 7] rfl))
      · have hF := am_neg hc12 hF
        refine lv_iconst (v := (0 : Int32)) hx hb dL_law_3160 (by decide) ?_
        cases hF
  · have hF := am_neg hc9 hF
    refine lv_iconst (v := (0 : Int32)) hx hb dL_law_3143 (by decide) ?_
    cases hF
set_option maxHeartbeats 4000000 in
set_option maxRecDepth 100000 in
theorem c_law_3165 (l : Launch) (hst : l.stackTraces = false) {G : GG} {p : Program} {e : Env} {s : State} {m : MethodId} {args : Array Value} {below : List Frame} {meth : Method} {c : Code} {b L cells slots ab : Nat} {xs : Nat → Int32} {H : Heap} {locs : List Loc} {ls : Array Slot} {w w1 : Wd} {i x1 x2 x3 : Int32} {Q : State → Prop} (X : CX G p s m args meth c cL_law 9 RL wsL_law) (hX : va_X b L xs s s.heap) (hbl : b < s.heap.size) (hbA : ¬ gA G b) (hh : AH G s.heap w ab H locs) (h1 : vp_in (i + 1) L ∧ xs (i + 1).toNatClampNeg = x1) (h2 : vp_in (i + 2) L ∧ xs (i + 2).toNatClampNeg = x2) (h3 : vp_in (i + 3) L ∧ xs (i + 3).toNatClampNeg = x3) (hc : cells + 35 ≤ 603072) (hs : slots + 2182 ≤ 7194730) (hl : lv_has ls 9 [(0, .ref b), (1, .ref (gAd G 0)), (2, .ref (gAd G 141)), (3, .ref (gAd G 151)), (4, .ref (gAd G 152)), (5, .int i)]) (hF : f_law_3165 w x1 x2 x3 = some w1) (kk : ∀ (ab : Nat) (H : Heap) (locs : List Loc) (ls : Array Slot), AH G s.heap w1 ab H locs → lv_has ls 9 [(0, .ref b), (1, .ref (gAd G 0)), (2, .ref (gAd G 141)), (3, .ref (gAd G 151)), (4, .ref (gAd G 152)), (5, .int i)] → W p l e room_1 s m args below meth c H locs (cells + 35) (slots + 2182) Q (F0 m 3310 ls [])) : W p l e room_1 s m args below meth c H locs cells slots Q (F0 m 3165 ls []) := by
  have hx := X.1.1; have hb := X.1.2.1; have hml := X.1.2.2.1; have hown := X.1.2.2.2.1; have hts := X.1.2.2.2.2
  unfold f_law_3165 at hF
  refine lv_aload_n hx hb dL_law_3165 rfl (lv_at hl 1 rfl) ?_
  refine lv_aload_n hx hb dL_law_3166 rfl (lv_at hl 3 rfl) ?_
  obtain ⟨⟨r2, w3⟩, hk1, hF⟩ := am_bind hF
  have hF := am_u2 hF
  refine am_callW X hh (vx_runSX (As := [.ref (gAd G 0), .ref (gAd G 151)]) (rest := []) X.1 (c_L_failedCommand l G hst hk1) (vx_cwSW 2 hts gL_law_L_failedCommand rfl rfl rfl (by decide +kernel) ⟨Nat.le_of_ble_eq_true rfl, Nat.le_of_ble_eq_true rfl⟩) (am_preS X hh) rfl rfl hl.1 rfl (lv_room (Nat.le_of_ble_eq_true rfl)) dL_law_3167 ⟨by show cells + 1 ≤ 603072; omega, by show slots + 6 ≤ 7194730; omega⟩) (fun ab H locs hh => ?_)
  refine lv_istore (lv' := [(6, .int r2), (0, .ref b), (1, .ref (gAd G 0)), (2, .ref (gAd G 141)), (3, .ref (gAd G 151)), (4, .ref (gAd G 152)), (5, .int i)]) hx hb dL_law_3170 hl (by decide) rfl (fun ls hl => ?_)
  refine lv_aload_n hx hb dL_law_3172 rfl (lv_at hl 3 rfl) ?_
  obtain ⟨⟨r5, w6⟩, hk4, hF⟩ := am_bind hF
  have hF := am_u2 hF
  refine am_call X hh (va_runV (As := []) (rest := []) X.1 (c_X11_failedCommand l G hk4) (cwV 0 hts gL_law_X11_failedCommand rfl rfl rfl (by decide +kernel) ⟨Nat.le_of_ble_eq_true rfl, Nat.le_of_ble_eq_true rfl⟩) (am_preV X hh 141 12 (by decide) rfl rfl) rfl rfl hl.1 rfl (lv_room (Nat.le_of_ble_eq_true rfl)) dL_law_3173 ⟨by show (cells + 1) + 0 ≤ 603072; omega, by show (slots + 6) + 0 ≤ 7194730; omega⟩) (fun ab H locs hh => ?_)
  refine lv_istore (lv' := [(7, .int r5), (6, .int r2), (0, .ref b), (1, .ref (gAd G 0)), (2, .ref (gAd G 141)), (3, .ref (gAd G 151)), (4, .ref (gAd G 152)), (5, .int i)]) hx hb dL_law_3176 hl (by decide) rfl (fun ls hl => ?_)
  refine lv_aload_n hx hb dL_law_3178 rfl (lv_at hl 4 rfl) ?_
  obtain ⟨r8, hk7, hF⟩ := am_bind hF
  refine am_call X hh (va_runV (As := []) (rest := []) X.1 (c_X11_thrown l G hk7) (cwV 0 hts gL_law_X11_thrown rfl rfl rfl (by decide +kernel) ⟨Nat.le_of_ble_eq_true rfl, Nat.le_of_ble_eq_true rfl⟩) (am_preV X hh 141 12 (by decide) rfl rfl) rfl rfl hl.1 rfl (lv_room (Nat.le_of_ble_eq_true rfl)) dL_law_3179 ⟨by show (cells + 1) + 0 ≤ 603072; omega, by show (slots + 6) + 0 ≤ 7194730; omega⟩) (fun ab H locs hh => ?_)
  refine lv_iload hx hb dL_law_3182 (lv_at hl 1 rfl) ?_
  refine lv_icmp_eq (tgt := 3189) hx hb dL_law_3184 (by decide) (fun hc9 => ?_) (fun hc9 => ?_)
  · have hF := am_pos hc9 hF
    refine lv_iload hx hb dL_law_3189 (lv_at hl 1 rfl) ?_
    refine lv_if_ne (tgt := 3206) hx hb dL_law_3191 (by decide) (fun hc10 => ?_) (fun hc10 => ?_)
    · have hF := am_neg hc10 hF
      refine lv_goto (tgt := 3310) hx hb dL_law_3206 (by decide) ?_
      cases hF
      exact W.widen (by omega) (by omega) (kk ab H locs ls hh (lv_sub hl [2, 3, 4, 5, 6, 7] rfl))
    · have hF := am_pos hc10 hF
      refine lv_aload_n hx hb dL_law_3194 rfl (lv_at hl 5 rfl) ?_
      refine lv_iconst (v := (0 : Int32)) hx hb dL_law_3195 (by decide) ?_
      obtain ⟨hq11, hF⟩ := am_ifR hF
      refine am_lald X hh 151 (by decide) rfl hq11 dL_law_3196 ?_
      refine lv_iload hx hb dL_law_3197 (lv_at hl 0 rfl) ?_
      refine lv_i2l hx hb dL_law_3199 rfl ?_
      refine am_lcmp_eq (tgt := 3206) hx hb dL_law_3200 dL_law_3201 (by decide) (fun hc12 => ?_) (fun hc12 => ?_)
      · have hF := am_pos hc12 hF
        refine lv_goto (tgt := 3310) hx hb dL_law_3206 (by decide) ?_
        cases hF
        exact W.widen (by omega) (by omega) (kk ab H locs ls hh (lv_sub hl [2, 3, 4, 5, 6, 7] rfl))
      · have hF := am_neg hc12 hF
        refine lv_iconst (v := (0 : Int32)) hx hb dL_law_3204 (by decide) ?_
        cases hF
  · have hF := am_neg hc9 hF
    refine lv_iconst (v := (0 : Int32)) hx hb dL_law_3187 (by decide) ?_
    cases hF
set_option maxHeartbeats 4000000 in
set_option maxRecDepth 100000 in
theorem c_law_3209 (l : Launch) (hst : l.stackTraces = false) {G : GG} {p : Program} {e : Env} {s : State} {m : MethodId} {args : Array Value} {below : List Frame} {meth : Method} {c : Code} {b L cells slots ab : Nat} {xs : Nat → Int32} {H : Heap} {locs : List Loc} {ls : Array Slot} {w w1 : Wd} {i x1 x2 x3 : Int32} {Q : State → Prop} (X : CX G p s m args meth c cL_law 9 RL wsL_law) (hX : va_X b L xs s s.heap) (hbl : b < s.heap.size) (hbA : ¬ gA G b) (hh : AH G s.heap w ab H locs) (h1 : vp_in (i + 1) L ∧ xs (i + 1).toNatClampNeg = x1) (h2 : vp_in (i + 2) L ∧ xs (i + 2).toNatClampNeg = x2) (h3 : vp_in (i + 3) L ∧ xs (i + 3).toNatClampNeg = x3) (hc : cells + 35 ≤ 603072) (hs : slots + 2182 ≤ 7194730) (hl : lv_has ls 9 [(0, .ref b), (1, .ref (gAd G 0)), (2, .ref (gAd G 141)), (3, .ref (gAd G 151)), (4, .ref (gAd G 152)), (5, .int i)]) (hF : f_law_3209 w x1 x2 x3 = some w1) (kk : ∀ (ab : Nat) (H : Heap) (locs : List Loc) (ls : Array Slot), AH G s.heap w1 ab H locs → lv_has ls 9 [(0, .ref b), (1, .ref (gAd G 0)), (2, .ref (gAd G 141)), (3, .ref (gAd G 151)), (4, .ref (gAd G 152)), (5, .int i)] → W p l e room_1 s m args below meth c H locs (cells + 35) (slots + 2182) Q (F0 m 3310 ls [])) : W p l e room_1 s m args below meth c H locs cells slots Q (F0 m 3209 ls []) := by
  have hx := X.1.1; have hb := X.1.2.1; have hml := X.1.2.2.1; have hown := X.1.2.2.2.1; have hts := X.1.2.2.2.2
  unfold f_law_3209 at hF
  refine lv_aload_n hx hb dL_law_3209 rfl (lv_at hl 1 rfl) ?_
  refine lv_aload_n hx hb dL_law_3210 rfl (lv_at hl 3 rfl) ?_
  obtain ⟨⟨r2, w3⟩, hk1, hF⟩ := am_bind hF
  have hF := am_u2 hF
  refine am_callW X hh (vx_runSX (As := [.ref (gAd G 0), .ref (gAd G 151)]) (rest := []) X.1 (c_L_undo l G hst hk1) (vx_cwSW 2 hts gL_law_L_undo rfl rfl rfl (by decide +kernel) ⟨Nat.le_of_ble_eq_true rfl, Nat.le_of_ble_eq_true rfl⟩) (am_preS X hh) rfl rfl hl.1 rfl (lv_room (Nat.le_of_ble_eq_true rfl)) dL_law_3211 ⟨by show cells + 1 ≤ 603072; omega, by show slots + 6 ≤ 7194730; omega⟩) (fun ab H locs hh => ?_)
  refine lv_istore (lv' := [(6, .int r2), (0, .ref b), (1, .ref (gAd G 0)), (2, .ref (gAd G 141)), (3, .ref (gAd G 151)), (4, .ref (gAd G 152)), (5, .int i)]) hx hb dL_law_3214 hl (by decide) rfl (fun ls hl => ?_)
  refine lv_aload_n hx hb dL_law_3216 rfl (lv_at hl 3 rfl) ?_
  obtain ⟨⟨r5, w6⟩, hk4, hF⟩ := am_bind hF
  have hF := am_u2 hF
  refine am_call X hh (va_runV (As := []) (rest := []) X.1 (c_X11_undo l G hk4) (cwV 0 hts gL_law_X11_undo rfl rfl rfl (by decide +kernel) ⟨Nat.le_of_ble_eq_true rfl, Nat.le_of_ble_eq_true rfl⟩) (am_preV X hh 141 12 (by decide) rfl rfl) rfl rfl hl.1 rfl (lv_room (Nat.le_of_ble_eq_true rfl)) dL_law_3217 ⟨by show (cells + 1) + 0 ≤ 603072; omega, by show (slots + 6) + 0 ≤ 7194730; omega⟩) (fun ab H locs hh => ?_)
  refine lv_istore (lv' := [(7, .int r5), (6, .int r2), (0, .ref b), (1, .ref (gAd G 0)), (2, .ref (gAd G 141)), (3, .ref (gAd G 151)), (4, .ref (gAd G 152)), (5, .int i)]) hx hb dL_law_3220 hl (by decide) rfl (fun ls hl => ?_)
  refine lv_aload_n hx hb dL_law_3222 rfl (lv_at hl 4 rfl) ?_
  obtain ⟨r8, hk7, hF⟩ := am_bind hF
  refine am_call X hh (va_runV (As := []) (rest := []) X.1 (c_X11_thrown l G hk7) (cwV 0 hts gL_law_X11_thrown rfl rfl rfl (by decide +kernel) ⟨Nat.le_of_ble_eq_true rfl, Nat.le_of_ble_eq_true rfl⟩) (am_preV X hh 141 12 (by decide) rfl rfl) rfl rfl hl.1 rfl (lv_room (Nat.le_of_ble_eq_true rfl)) dL_law_3223 ⟨by show (cells + 1) + 0 ≤ 603072; omega, by show (slots + 6) + 0 ≤ 7194730; omega⟩) (fun ab H locs hh => ?_)
  refine lv_iload hx hb dL_law_3226 (lv_at hl 1 rfl) ?_
  refine lv_icmp_eq (tgt := 3233) hx hb dL_law_3228 (by decide) (fun hc9 => ?_) (fun hc9 => ?_)
  · have hF := am_pos hc9 hF
    refine lv_iload hx hb dL_law_3233 (lv_at hl 1 rfl) ?_
    refine lv_if_ne (tgt := 3250) hx hb dL_law_3235 (by decide) (fun hc10 => ?_) (fun hc10 => ?_)
    · have hF := am_neg hc10 hF
      refine lv_goto (tgt := 3310) hx hb dL_law_3250 (by decide) ?_
      cases hF
      exact W.widen (by omega) (by omega) (kk ab H locs ls hh (lv_sub hl [2, 3, 4, 5, 6, 7] rfl))
    · have hF := am_pos hc10 hF
      refine lv_aload_n hx hb dL_law_3238 rfl (lv_at hl 5 rfl) ?_
      refine lv_iconst (v := (0 : Int32)) hx hb dL_law_3239 (by decide) ?_
      obtain ⟨hq11, hF⟩ := am_ifR hF
      refine am_lald X hh 151 (by decide) rfl hq11 dL_law_3240 ?_
      refine lv_iload hx hb dL_law_3241 (lv_at hl 0 rfl) ?_
      refine lv_i2l hx hb dL_law_3243 rfl ?_
      refine am_lcmp_eq (tgt := 3250) hx hb dL_law_3244 dL_law_3245 (by decide) (fun hc12 => ?_) (fun hc12 => ?_)
      · have hF := am_pos hc12 hF
        refine lv_goto (tgt := 3310) hx hb dL_law_3250 (by decide) ?_
        cases hF
        exact W.widen (by omega) (by omega) (kk ab H locs ls hh (lv_sub hl [2, 3, 4, 5, 6, 7] rfl))
      · have hF := am_neg hc12 hF
        refine lv_iconst (v := (0 : Int32)) hx hb dL_law_3248 (by decide) ?_
        cases hF
  · have hF := am_neg hc9 hF
    refine lv_iconst (v := (0 : Int32)) hx hb dL_law_3231 (by decide) ?_
    cases hF
set_option maxHeartbeats 4000000 in
set_option maxRecDepth 100000 in
theorem c_law_3253 (l : Launch) (hst : l.stackTraces = false) {G : GG} {p : Program} {e : Env} {s : State} {m : MethodId} {args : Array Value} {below : List Frame} {meth : Method} {c : Code} {b L cells slots ab : Nat} {xs : Nat → Int32} {H : Heap} {locs : List Loc} {ls : Array Slot} {w w1 : Wd} {i x1 x2 x3 : Int32} {Q : State → Prop} (X : CX G p s m args meth c cL_law 9 RL wsL_law) (hX : va_X b L xs s s.heap) (hbl : b < s.heap.size) (hbA : ¬ gA G b) (hh : AH G s.heap w ab H locs) (h1 : vp_in (i + 1) L ∧ xs (i + 1).toNatClampNeg = x1) (h2 : vp_in (i + 2) L ∧ xs (i + 2).toNatClampNeg = x2) (h3 : vp_in (i + 3) L ∧ xs (i + 3).toNatClampNeg = x3) (hc : cells + 35 ≤ 603072) (hs : slots + 2182 ≤ 7194730) (hl : lv_has ls 9 [(0, .ref b), (1, .ref (gAd G 0)), (2, .ref (gAd G 141)), (3, .ref (gAd G 151)), (4, .ref (gAd G 152)), (5, .int i)]) (hF : f_law_3253 w x1 x2 x3 = some w1) (kk : ∀ (ab : Nat) (H : Heap) (locs : List Loc) (ls : Array Slot), AH G s.heap w1 ab H locs → lv_has ls 9 [(0, .ref b), (1, .ref (gAd G 0)), (2, .ref (gAd G 141)), (3, .ref (gAd G 151)), (4, .ref (gAd G 152)), (5, .int i)] → W p l e room_1 s m args below meth c H locs (cells + 35) (slots + 2182) Q (F0 m 3310 ls [])) : W p l e room_1 s m args below meth c H locs cells slots Q (F0 m 3253 ls []) := by
  have hx := X.1.1; have hb := X.1.2.1; have hml := X.1.2.2.1; have hown := X.1.2.2.2.1; have hts := X.1.2.2.2.2
  unfold f_law_3253 at hF
  refine lv_aload_n hx hb dL_law_3253 rfl (lv_at hl 1 rfl) ?_
  obtain ⟨⟨r2, w3⟩, hk1, hF⟩ := am_bind hF
  have hF := am_u2 hF
  refine am_call X hh (va_runV (As := []) (rest := []) X.1 (c_X10_save l G hk1) (cwV 0 hts gL_law_X10_save rfl rfl rfl (by decide +kernel) ⟨Nat.le_of_ble_eq_true rfl, Nat.le_of_ble_eq_true rfl⟩) (am_preV X hh 0 11 (by decide) rfl rfl) rfl rfl hl.1 rfl (lv_room (Nat.le_of_ble_eq_true rfl)) dL_law_3254 ⟨by show cells + 0 ≤ 603072; omega, by show slots + 0 ≤ 7194730; omega⟩) (fun ab H locs hh => ?_)
  refine lv_aload_n hx hb dL_law_3257 rfl (lv_at hl 2 rfl) ?_
  obtain ⟨⟨r5, w6⟩, hk4, hF⟩ := am_bind hF
  have hF := am_u2 hF
  refine am_call X hh (va_runV (As := []) (rest := [.int r2]) X.1 (c_X11_save l G hk4) (cwV 0 hts gL_law_X11_save rfl rfl rfl (by decide +kernel) ⟨Nat.le_of_ble_eq_true rfl, Nat.le_of_ble_eq_true rfl⟩) (am_preV X hh 141 12 (by decide) rfl rfl) rfl rfl hl.1 rfl (lv_room (Nat.le_of_ble_eq_true rfl)) dL_law_3258 ⟨by show cells + 0 ≤ 603072; omega, by show slots + 0 ≤ 7194730; omega⟩) (fun ab H locs hh => ?_)
  refine lv_icmp_eq (tgt := 3310) hx hb dL_law_3261 (by decide) (fun hc7 => ?_) (fun hc7 => ?_)
  · have hF := am_pos hc7 hF
    cases hF
    exact W.widen (by omega) (by omega) (kk ab H locs ls hh (lv_sub hl [0, 1, 2, 3, 4, 5] rfl))
  · have hF := am_neg hc7 hF
    refine lv_iconst (v := (0 : Int32)) hx hb dL_law_3264 (by decide) ?_
    cases hF
set_option maxHeartbeats 4000000 in
set_option maxRecDepth 100000 in
theorem c_law_3266 (l : Launch) (hst : l.stackTraces = false) {G : GG} {p : Program} {e : Env} {s : State} {m : MethodId} {args : Array Value} {below : List Frame} {meth : Method} {c : Code} {b L cells slots ab : Nat} {xs : Nat → Int32} {H : Heap} {locs : List Loc} {ls : Array Slot} {w w1 : Wd} {i x1 x2 x3 : Int32} {Q : State → Prop} (X : CX G p s m args meth c cL_law 9 RL wsL_law) (hX : va_X b L xs s s.heap) (hbl : b < s.heap.size) (hbA : ¬ gA G b) (hh : AH G s.heap w ab H locs) (h1 : vp_in (i + 1) L ∧ xs (i + 1).toNatClampNeg = x1) (h2 : vp_in (i + 2) L ∧ xs (i + 2).toNatClampNeg = x2) (h3 : vp_in (i + 3) L ∧ xs (i + 3).toNatClampNeg = x3) (hc : cells + 35 ≤ 603072) (hs : slots + 2182 ≤ 7194730) (hl : lv_has ls 9 [(0, .ref b), (1, .ref (gAd G 0)), (2, .ref (gAd G 141)), (3, .ref (gAd G 151)), (4, .ref (gAd G 152)), (5, .int i)]) (hF : f_law_3266 w x1 x2 x3 = some w1) (kk : ∀ (ab : Nat) (H : Heap) (locs : List Loc) (ls : Array Slot), AH G s.heap w1 ab H locs → lv_has ls 9 [(0, .ref b), (1, .ref (gAd G 0)), (2, .ref (gAd G 141)), (3, .ref (gAd G 151)), (4, .ref (gAd G 152)), (5, .int i)] → W p l e room_1 s m args below meth c H locs (cells + 35) (slots + 2182) Q (F0 m 3310 ls [])) : W p l e room_1 s m args below meth c H locs cells slots Q (F0 m 3266 ls []) := by
  have hx := X.1.1; have hb := X.1.2.1; have hml := X.1.2.2.1; have hown := X.1.2.2.2.1; have hts := X.1.2.2.2.2
  unfold f_law_3266 at hF
  refine lv_aload_n hx hb dL_law_3266 rfl (lv_at hl 1 rfl) ?_
  refine lv_aload_n hx hb dL_law_3267 rfl (lv_at hl 3 rfl) ?_
  obtain ⟨⟨r2, w3⟩, hk1, hF⟩ := am_bind hF
  have hF := am_u2 hF
  refine am_callW X hh (vx_runSX (As := [.ref (gAd G 0), .ref (gAd G 151)]) (rest := []) X.1 (c_L_restore l G hst hk1) (vx_cwSW 2 hts gL_law_L_restore rfl rfl rfl (by decide +kernel) ⟨Nat.le_of_ble_eq_true rfl, Nat.le_of_ble_eq_true rfl⟩) (am_preS X hh) rfl rfl hl.1 rfl (lv_room (Nat.le_of_ble_eq_true rfl)) dL_law_3268 ⟨by show cells + 1 ≤ 603072; omega, by show slots + 6 ≤ 7194730; omega⟩) (fun ab H locs hh => ?_)
  refine lv_istore (lv' := [(6, .int r2), (0, .ref b), (1, .ref (gAd G 0)), (2, .ref (gAd G 141)), (3, .ref (gAd G 151)), (4, .ref (gAd G 152)), (5, .int i)]) hx hb dL_law_3271 hl (by decide) rfl (fun ls hl => ?_)
  refine lv_aload_n hx hb dL_law_3273 rfl (lv_at hl 3 rfl) ?_
  obtain ⟨⟨r5, w6⟩, hk4, hF⟩ := am_bind hF
  have hF := am_u2 hF
  refine am_call X hh (va_runV (As := []) (rest := []) X.1 (c_X11_restore l G hk4) (cwV 0 hts gL_law_X11_restore rfl rfl rfl (by decide +kernel) ⟨Nat.le_of_ble_eq_true rfl, Nat.le_of_ble_eq_true rfl⟩) (am_preV X hh 141 12 (by decide) rfl rfl) rfl rfl hl.1 rfl (lv_room (Nat.le_of_ble_eq_true rfl)) dL_law_3274 ⟨by show (cells + 1) + 0 ≤ 603072; omega, by show (slots + 6) + 0 ≤ 7194730; omega⟩) (fun ab H locs hh => ?_)
  refine lv_istore (lv' := [(7, .int r5), (6, .int r2), (0, .ref b), (1, .ref (gAd G 0)), (2, .ref (gAd G 141)), (3, .ref (gAd G 151)), (4, .ref (gAd G 152)), (5, .int i)]) hx hb dL_law_3277 hl (by decide) rfl (fun ls hl => ?_)
  refine lv_aload_n hx hb dL_law_3279 rfl (lv_at hl 4 rfl) ?_
  obtain ⟨r8, hk7, hF⟩ := am_bind hF
  refine am_call X hh (va_runV (As := []) (rest := []) X.1 (c_X11_thrown l G hk7) (cwV 0 hts gL_law_X11_thrown rfl rfl rfl (by decide +kernel) ⟨Nat.le_of_ble_eq_true rfl, Nat.le_of_ble_eq_true rfl⟩) (am_preV X hh 141 12 (by decide) rfl rfl) rfl rfl hl.1 rfl (lv_room (Nat.le_of_ble_eq_true rfl)) dL_law_3280 ⟨by show (cells + 1) + 0 ≤ 603072; omega, by show (slots + 6) + 0 ≤ 7194730; omega⟩) (fun ab H locs hh => ?_)
  refine lv_iload hx hb dL_law_3283 (lv_at hl 1 rfl) ?_
  refine lv_icmp_eq (tgt := 3290) hx hb dL_law_3285 (by decide) (fun hc9 => ?_) (fun hc9 => ?_)
  · have hF := am_pos hc9 hF
    refine lv_iload hx hb dL_law_3290 (lv_at hl 1 rfl) ?_
    refine lv_if_ne (tgt := 3307) hx hb dL_law_3292 (by decide) (fun hc10 => ?_) (fun hc10 => ?_)
    · have hF := am_neg hc10 hF
      refine lv_goto (tgt := 3310) hx hb dL_law_3307 (by decide) ?_
      cases hF
      exact W.widen (by omega) (by omega) (kk ab H locs ls hh (lv_sub hl [2, 3, 4, 5, 6, 7] rfl))
    · have hF := am_pos hc10 hF
      refine lv_aload_n hx hb dL_law_3295 rfl (lv_at hl 5 rfl) ?_
      refine lv_iconst (v := (0 : Int32)) hx hb dL_law_3296 (by decide) ?_
      obtain ⟨hq11, hF⟩ := am_ifR hF
      refine am_lald X hh 151 (by decide) rfl hq11 dL_law_3297 ?_
      refine lv_iload hx hb dL_law_3298 (lv_at hl 0 rfl) ?_
      refine lv_i2l hx hb dL_law_3300 rfl ?_
      refine am_lcmp_eq (tgt := 3307) hx hb dL_law_3301 dL_law_3302 (by decide) (fun hc12 => ?_) (fun hc12 => ?_)
      · have hF := am_pos hc12 hF
        refine lv_goto (tgt := 3310) hx hb dL_law_3307 (by decide) ?_
        cases hF
        exact W.widen (by omega) (by omega) (kk ab H locs ls hh (lv_sub hl [2, 3, 4, 5, 6, 7] rfl))
      · have hF := am_neg hc12 hF
        refine lv_iconst (v := (0 : Int32)) hx hb dL_law_3305 (by decide) ?_
        cases hF
  · have hF := am_neg hc9 hF
    refine lv_iconst (v := (0 : Int32)) hx hb dL_law_3288 (by decide) ?_
    cases hF
