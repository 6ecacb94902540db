set_option maxHeartbeats 4000000 in
set_option maxRecDepth 100000 in
theorem c_law_1087 (l : Launch) (hst : l.stackTraces = false) {G : GG} {p : Program} {e : Env} {s : State} {m : MethodId} {args : Array Value} {below : List Frame} {meth : Method} {c : Code} {b L cells slots ab : Nat} {xs : Nat → Int32} {H : Heap} {locs : List Loc} {ls : Array Slot} {w w1 : Wd} {i x1 x2 x3 : Int32} {Q : State → Prop} (X : CX G p s m args meth c cL_law 9 RL wsL_law) (hX : va_X b L xs s s.heap) (hbl : b < s.heap.size) (hbA : ¬ gA G b) (hh : AH G s.heap w ab H locs) (h1 : vp_in (i + 1) L ∧ xs (i + 1).toNatClampNeg = x1) (h2 : vp_in (i + 2) L ∧ xs (i + 2).toNatClampNeg = x2) (h3 : vp_in (i + 3) L ∧ xs (i + 3).toNatClampNeg = x3) (hc : cells + 35 ≤ 603072) (hs : slots + 2182 ≤ 7194730) (hl : lv_has ls 9 [(0, .ref b), (1, .ref (gAd G 0)), (2, .ref (gAd G 141)), (3, .ref (gAd G 151)), (4, .ref (gAd G 152)), (5, .int i)]) (hF : f_law_1087 w x1 x2 x3 = some w1) (kk : ∀ (ab : Nat) (H : Heap) (locs : List Loc) (ls : Array Slot), AH G s.heap w1 ab H locs → lv_has ls 9 [(0, .ref b), (1, .ref (gAd G 0)), (2, .ref (gAd G 141)), (3, .ref (gAd G 151)), (4, .ref (gAd G 152)), (5, .int i)] → W p l e room_1 s m args below meth c H locs (cells + 35) (slots + 2182) Q (F0 m 3310 ls [])) : W p l e room_1 s m args below meth c H locs cells slots Q (F0 m 1087 ls []) := by
  have hx := X.1.1; have hb := X.1.2.1; have hml := X.1.2.2.1; have hown := X.1.2.2.2.1; have hts := X.1.2.2.2.2
  unfold f_law_1087 at hF
  refine lv_aload_n hx hb dL_law_1087 rfl (lv_at hl 1 rfl) ?_
  refine lv_aload_n hx hb dL_law_1088 rfl (lv_at hl 0 rfl) ?_
  refine lv_iload hx hb dL_law_1089 (lv_at hl 5 rfl) ?_
  refine lv_iconst (v := (1 : Int32)) hx hb dL_law_1091 (by decide) ?_
  refine lv_iadd hx hb dL_law_1092 ?_
  refine am_sld hx hb hX hbl hbA hh.2.2 h1 dL_law_1093 ?_
  refine lv_aload_n hx hb dL_law_1094 rfl (lv_at hl 3 rfl) ?_
  obtain ⟨⟨r2, w3⟩, hk1, hF⟩ := am_bind hF
  have hF := am_u2 hF
  refine am_callW X hh (vx_runSX (As := [.ref (gAd G 0), .int x1, .ref (gAd G 151)]) (rest := []) X.1 (c_L_teeth l G hst hk1) (vx_cwSW 3 hts gL_law_L_teeth rfl rfl rfl (by decide +kernel) ⟨Nat.le_of_ble_eq_true rfl, Nat.le_of_ble_eq_true rfl⟩) (am_preS X hh) rfl rfl hl.1 rfl (lv_room (Nat.le_of_ble_eq_true rfl)) dL_law_1095 ⟨by show cells + 1 ≤ 603072; omega, by show slots + 6 ≤ 7194730; omega⟩) (fun ab H locs hh => ?_)
  refine lv_istore (lv' := [(6, .int r2), (0, .ref b), (1, .ref (gAd G 0)), (2, .ref (gAd G 141)), (3, .ref (gAd G 151)), (4, .ref (gAd G 152)), (5, .int i)]) hx hb dL_law_1098 hl (by decide) rfl (fun ls hl => ?_)
  refine lv_aload_n hx hb dL_law_1100 rfl (lv_at hl 3 rfl) ?_
  refine lv_aload_n hx hb dL_law_1101 rfl (lv_at hl 1 rfl) ?_
  refine lv_iload hx hb dL_law_1102 (lv_at hl 6 rfl) ?_
  refine lv_iconst (v := (1 : Int32)) hx hb dL_law_1104 (by decide) ?_
  refine lv_iadd hx hb dL_law_1105 ?_
  refine am_sld hx hb hX hbl hbA hh.2.2 h1 dL_law_1106 ?_
  obtain ⟨⟨r5, w6⟩, hk4, hF⟩ := am_bind hF
  have hF := am_u2 hF
  refine am_call X hh (va_runV (As := [.int x1]) (rest := []) X.1 (c_X11_teeth l G hk4) (cwV 1 hts gL_law_X11_teeth rfl rfl rfl (by decide +kernel) ⟨Nat.le_of_ble_eq_true rfl, Nat.le_of_ble_eq_true rfl⟩) (am_preV X hh 141 12 (by decide) rfl rfl) rfl rfl hl.1 rfl (lv_room (Nat.le_of_ble_eq_true rfl)) dL_law_1107 ⟨by show (cells + 1) + 0 ≤ 603072; omega, by show (slots + 6) + 0 ≤ 7194730; omega⟩) (fun ab H locs hh => ?_)
  refine lv_istore (lv' := [(7, .int r5), (6, .int r2), (0, .ref b), (1, .ref (gAd G 0)), (2, .ref (gAd G 141)), (3, .ref (gAd G 151)), (4, .ref (gAd G 152)), (5, .int i)]) hx hb dL_law_1110 hl (by decide) rfl (fun ls hl => ?_)
  refine lv_aload_n hx hb dL_law_1112 rfl (lv_at hl 4 rfl) ?_
  obtain ⟨r8, hk7, hF⟩ := am_bind hF
  refine am_call X hh (va_runV (As := []) (rest := []) X.1 (c_X11_thrown l G hk7) (cwV 0 hts gL_law_X11_thrown rfl rfl rfl (by decide +kernel) ⟨Nat.le_of_ble_eq_true rfl, Nat.le_of_ble_eq_true rfl⟩) (am_preV X hh 141 12 (by decide) rfl rfl) rfl rfl hl.1 rfl (lv_room (Nat.le_of_ble_eq_true rfl)) dL_law_1113 ⟨by show (cells + 1) + 0 ≤ 603072; omega, by show (slots + 6) + 0 ≤ 7194730; omega⟩) (fun ab H locs hh => ?_)
  refine lv_iload hx hb dL_law_1116 (lv_at hl 1 rfl) ?_
  refine lv_icmp_eq (tgt := 1123) hx hb dL_law_1118 (by decide) (fun hc9 => ?_) (fun hc9 => ?_)
  · have hF := am_pos hc9 hF
    refine lv_iload hx hb dL_law_1123 (lv_at hl 1 rfl) ?_
    refine lv_if_ne (tgt := 1140) hx hb dL_law_1125 (by decide) (fun hc10 => ?_) (fun hc10 => ?_)
    · have hF := am_neg hc10 hF
      refine lv_goto (tgt := 3310) hx hb dL_law_1140 (by decide) ?_
      cases hF
      exact W.widen (by omega) (by omega) (kk ab H locs ls hh (lv_sub hl [2, 3, 4, 5, 6, 7] rfl))
    · have hF := am_pos hc10 hF
      refine lv_aload_n hx hb dL_law_1128 rfl (lv_at hl 5 rfl) ?_
      refine lv_iconst (v := (0 : Int32)) hx hb dL_law_1129 (by decide) ?_
      obtain ⟨hq11, hF⟩ := am_ifR hF
      refine am_lald X hh 151 (by decide) rfl hq11 dL_law_1130 ?_
      refine lv_iload hx hb dL_law_1131 (lv_at hl 0 rfl) ?_
      refine lv_i2l hx hb dL_law_1133 rfl ?_
      refine am_lcmp_eq (tgt := 1140) hx hb dL_law_1134 dL_law_1135 (by decide) (fun hc12 => ?_) (fun hc12 => ?_)
      · have hF := am_pos hc12 hF
        refine lv_goto (tgt := 3310) hx hb dL_law_1140 (by decide) ?_
        cases hF
        exact W.widen (by omega) (by omega) (kk ab H locs ls hh (lv_sub hl [2, 3, 4, 5, 6, 7] rfl))
      · have hF := am_neg hc12 hF
        refine lv_iconst (v := (0 : Int32)) hx hb dL_law_1138 (by decide) ?_
        cases hF
  · have hF := am_neg hc9 hF
    refine lv_iconst (v := (0 : Int32)) hx hb dL_law_1121 (by decide) ?_
    cases hF
set_option maxHeartbeats 4000000 in
set_option maxRecDepth 100000 in
theorem c_law_1143 (l : Launch) (hst : l.stackTraces = false) {G : GG} {p : Program} {e : Env} {s : State} {m : MethodId} {args : Array Value} {below : List Frame} {meth : Method} {c : Code} {b L cells slots ab : Nat} {xs : Nat → Int32} {H : Heap} {locs : List Loc} {ls : Array Slot} {w w1 : Wd} {i x1 x2 x3 : Int32} {Q : State → Prop} (X : CX G p s m args meth c cL_law 9 RL wsL_law) (hX : va_X b L xs s s.heap) (hbl : b < s.heap.size) (hbA : ¬ gA G b) (hh : AH G s.heap w ab H locs) (h1 : vp_in (i + 1) L ∧ xs (i + 1).toNatClampNeg = x1) (h2 : vp_in (i + 2) L ∧ xs (i + 2).toNatClampNeg = x2) (h3 : vp_in (i + 3) L ∧ xs (i + 3).toNatClampNeg = x3) (hc : cells + 35 ≤ 603072) (hs : slots + 2182 ≤ 7194730) (hl : lv_has ls 9 [(0, .ref b), (1, .ref (gAd G 0)), (2, .ref (gAd G 141)), (3, .ref (gAd G 151)), (4, .ref (gAd G 152)), (5, .int i)]) (hF : f_law_1143 w x1 x2 x3 = some w1) (kk : ∀ (ab : Nat) (H : Heap) (locs : List Loc) (ls : Array Slot), AH G s.heap w1 ab H locs → lv_has ls 9 [(0, .ref b), (1, .ref (gAd G 0)), (2, .ref (gAd G 141)), (3, .ref (gAd G 151)), (4, .ref (gAd G 152)), (5, .int i)] → W p l e room_1 s m args below meth c H locs (cells + 35) (slots + 2182) Q (F0 m 3310 ls [])) : W p l e room_1 s m args below meth c H locs cells slots Q (F0 m 1143 ls []) := by
  have hx := X.1.1; have hb := X.1.2.1; have hml := X.1.2.2.1; have hown := X.1.2.2.2.1; have hts := X.1.2.2.2.2
  unfold f_law_1143 at hF
  refine lv_aload_n hx hb dL_law_1143 rfl (lv_at hl 1 rfl) ?_
  refine lv_aload_n hx hb dL_law_1144 rfl (lv_at hl 0 rfl) ?_
  refine lv_iload hx hb dL_law_1145 (lv_at hl 5 rfl) ?_
  refine lv_iconst (v := (1 : Int32)) hx hb dL_law_1147 (by decide) ?_
  refine lv_iadd hx hb dL_law_1148 ?_
  refine am_sld hx hb hX hbl hbA hh.2.2 h1 dL_law_1149 ?_
  refine lv_aload_n hx hb dL_law_1150 rfl (lv_at hl 0 rfl) ?_
  refine lv_iload hx hb dL_law_1151 (lv_at hl 5 rfl) ?_
  refine lv_iconst (v := (2 : Int32)) hx hb dL_law_1153 (by decide) ?_
  refine lv_iadd hx hb dL_law_1154 ?_
  refine am_sld hx hb hX hbl hbA hh.2.2 h2 dL_law_1155 ?_
  refine lv_aload_n hx hb dL_law_1156 rfl (lv_at hl 3 rfl) ?_
  obtain ⟨⟨r2, w3⟩, hk1, hF⟩ := am_bind hF
  have hF := am_u2 hF
  refine am_callW X hh (vx_runSX (As := [.ref (gAd G 0), .int x1, .int x2, .ref (gAd G 151)]) (rest := []) X.1 (c_L_joint l G hst hk1) (vx_cwSW 4 hts gL_law_L_joint rfl rfl rfl (by decide +kernel) ⟨Nat.le_of_ble_eq_true rfl, Nat.le_of_ble_eq_true rfl⟩) (am_preS X hh) rfl rfl hl.1 rfl (lv_room (Nat.le_of_ble_eq_true rfl)) dL_law_1157 ⟨by show cells + 3 ≤ 603072; omega, by show slots + 18 ≤ 7194730; omega⟩) (fun ab H locs hh => ?_)
  refine lv_istore (lv' := [(6, .int r2), (0, .ref b), (1, .ref (gAd G 0)), (2, .ref (gAd G 141)), (3, .ref (gAd G 151)), (4, .ref (gAd G 152)), (5, .int i)]) hx hb dL_law_1160 hl (by decide) rfl (fun ls hl => ?_)
  refine lv_aload_n hx hb dL_law_1162 rfl (lv_at hl 3 rfl) ?_
  refine lv_aload_n hx hb dL_law_1163 rfl (lv_at hl 1 rfl) ?_
  refine lv_iload hx hb dL_law_1164 (lv_at hl 6 rfl) ?_
  refine lv_iconst (v := (1 : Int32)) hx hb dL_law_1166 (by decide) ?_
  refine lv_iadd hx hb dL_law_1167 ?_
  refine am_sld hx hb hX hbl hbA hh.2.2 h1 dL_law_1168 ?_
  refine lv_aload_n hx hb dL_law_1169 rfl (lv_at hl 1 rfl) ?_
  refine lv_iload hx hb dL_law_1170 (lv_at hl 6 rfl) ?_
  refine lv_iconst (v := (2 : Int32)) hx hb dL_law_1172 (by decide) ?_
  refine lv_iadd hx hb dL_law_1173 ?_
  refine am_sld hx hb hX hbl hbA hh.2.2 h2 dL_law_1174 ?_
  obtain ⟨⟨r5, w6⟩, hk4, hF⟩ := am_bind hF
  have hF := am_u2 hF
  refine am_call X hh (va_runV (As := [.int x1, .int x2]) (rest := []) X.1 (c_X11_joint l G hk4) (cwV 2 hts gL_law_X11_joint rfl rfl rfl (by decide +kernel) ⟨Nat.le_of_ble_eq_true rfl, Nat.le_of_ble_eq_true rfl⟩) (am_preV X hh 141 12 (by decide) rfl rfl) rfl rfl hl.1 rfl (lv_room (Nat.le_of_ble_eq_true rfl)) dL_law_1175 ⟨by show (cells + 3) + 0 ≤ 603072; omega, by show (slots + 18) + 0 ≤ 7194730; omega⟩) (fun ab H locs hh => ?_)
  refine lv_istore (lv' := [(7, .int r5), (6, .int r2), (0, .ref b), (1, .ref (gAd G 0)), (2, .ref (gAd G 141)), (3, .ref (gAd G 151)), (4, .ref (gAd G 152)), (5, .int i)]) hx hb dL_law_1178 hl (by decide) rfl (fun ls hl => ?_)
  refine lv_aload_n hx hb dL_law_1180 rfl (lv_at hl 4 rfl) ?_
  obtain ⟨r8, hk7, hF⟩ := am_bind hF
  refine am_call X hh (va_runV (As := []) (rest := []) X.1 (c_X11_thrown l G hk7) (cwV 0 hts gL_law_X11_thrown rfl rfl rfl (by decide +kernel) ⟨Nat.le_of_ble_eq_true rfl, Nat.le_of_ble_eq_true rfl⟩) (am_preV X hh 141 12 (by decide) rfl rfl) rfl rfl hl.1 rfl (lv_room (Nat.le_of_ble_eq_true rfl)) dL_law_1181 ⟨by show (cells + 3) + 0 ≤ 603072; omega, by show (slots + 18) + 0 ≤ 7194730; omega⟩) (fun ab H locs hh => ?_)
  refine lv_iload hx hb dL_law_1184 (lv_at hl 1 rfl) ?_
  refine lv_icmp_eq (tgt := 1191) hx hb dL_law_1186 (by decide) (fun hc9 => ?_) (fun hc9 => ?_)
  · have hF := am_pos hc9 hF
    refine lv_iload hx hb dL_law_1191 (lv_at hl 1 rfl) ?_
    refine lv_if_ne (tgt := 1208) hx hb dL_law_1193 (by decide) (fun hc10 => ?_) (fun hc10 => ?_)
    · have hF := am_neg hc10 hF
      refine lv_goto (tgt := 3310) hx hb dL_law_1208 (by decide) ?_
      cases hF
      exact W.widen (by omega) (by omega) (kk ab H locs ls hh (lv_sub hl [2, 3, 4, 5, 6, 7] rfl))
    · have hF := am_pos hc10 hF
      refine lv_aload_n hx hb dL_law_1196 rfl (lv_at hl 5 rfl) ?_
      refine lv_iconst (v := (0 : Int32)) hx hb dL_law_1197 (by decide) ?_
      obtain ⟨hq11, hF⟩ := am_ifR hF
      refine am_lald X hh 151 (by decide) rfl hq11 dL_law_1198 ?_
      refine lv_iload hx hb dL_law_1199 (lv_at hl 0 rfl) ?_
      refine lv_i2l hx hb dL_law_1201 rfl ?_
      refine am_lcmp_eq (tgt := 1208) hx hb dL_law_1202 dL_law_1203 (by decide) (fun hc12 => ?_) (fun hc12 => ?_)
      · have hF := am_pos hc12 hF
        refine lv_goto (tgt := 3310) hx hb dL_law_1208 (by decide) ?_
        cases hF
        exact W.widen (by omega) (by omega) (kk ab H locs ls hh (lv_sub hl [2, 3, 4, 5, 6, 7] rfl))
      · have hF := am_neg hc12 hF
        refine lv_iconst (v := (0 : Int32)) hx hb dL_law_1206 (by decide) ?_
        cases hF
  · have hF := am_neg hc9 hF
    refine lv_iconst (v := (0 : Int32)) hx hb dL_law_1189 (by decide) ?_
    cases hF
set_option maxHeartbeats 4000000 in
set_option maxRecDepth 100000 in
theorem c_law_1211 (l : Launch) (hst : l.stackTraces = false) {G : GG} {p : Program} {e : Env} {s : State} {m : MethodId} {args : Array Value} {below : List Frame} {meth : Method} {c : Code} {b L cells slots ab : Nat} {xs : Nat → Int32} {H : Heap} {locs : List Loc} {ls : Array Slot} {w w1 : Wd} {i x1 x2 x3 : Int32} {Q : State → Prop} (X : CX G p s m args meth c cL_law 9 RL wsL_law) (hX : va_X b L xs s s.heap) (hbl : b < s.heap.size) (hbA : ¬ gA G b) (hh : AH G s.heap w ab H locs) (h1 : vp_in (i + 1) L ∧ xs (i + 1).toNatClampNeg = x1) (h2 : vp_in (i + 2) L ∧ xs (i + 2).toNatClampNeg = x2) (h3 : vp_in (i + 3) L ∧ xs (i + 3).toNatClampNeg = x3) (hc : cells + 35 ≤ 603072) (hs : slots + 2182 ≤ 7194730) (hl : lv_has ls 9 [(0, .ref b), (1, .ref (gAd G 0)), (2, .ref (gAd G 141)), (3, .ref (gAd G 151)), (4, .ref (gAd G 152)), (5, .int i)]) (hF : f_law_1211 w x1 x2 x3 = some w1) (kk : ∀ (ab : Nat) (H : Heap) (locs : List Loc) (ls : Array Slot), AH G s.heap w1 ab H locs → lv_has ls 9 [(0, .ref b), (1, .ref (gAd G 0)), (2, .ref (gAd G 141)), (3, .ref (gAd G 151)), (4, .ref (gAd G 152)), (5, .int i)] → W p l e room_1 s m args below meth c H locs (cells + 35) (slots + 2182) Q (F0 m 3310 ls [])) : W p l e room_1 s m args below meth c H locs cells slots Q (F0 m 1211 ls []) := by
  have hx := X.1.1; have hb := X.1.2.1; have hml := X.1.2.2.1; have hown := X.1.2.2.2.1; have hts := X.1.2.2.2.2
  unfold f_law_1211 at hF
  refine lv_aload_n hx hb dL_law_1211 rfl (lv_at hl 1 rfl) ?_
  obtain ⟨r2, hk1, hF⟩ := am_bind hF
  refine am_call X hh (va_runV (As := []) (rest := []) X.1 (c_X10_jointCount l G hk1) (cwV 0 hts gL_law_X10_jointCount rfl rfl rfl (by decide +kernel) ⟨Nat.le_of_ble_eq_true rfl, Nat.le_of_ble_eq_true rfl⟩) (am_preV X hh 0 11 (by decide) rfl rfl) rfl rfl hl.1 rfl (lv_room (Nat.le_of_ble_eq_true rfl)) dL_law_1212 ⟨by show cells + 0 ≤ 603072; omega, by show slots + 0 ≤ 7194730; omega⟩) (fun ab H locs hh => ?_)
  refine lv_aload_n hx hb dL_law_1215 rfl (lv_at hl 2 rfl) ?_
  obtain ⟨⟨r4, w5⟩, hk3, hF⟩ := am_bind hF
  have hF := am_u2 hF
  refine am_call X hh (va_runV (As := []) (rest := [.int r2]) X.1 (c_X11_jointCount l G hk3) (cwV 0 hts gL_law_X11_jointCount rfl rfl rfl (by decide +kernel) ⟨Nat.le_of_ble_eq_true rfl, Nat.le_of_ble_eq_true rfl⟩) (am_preV X hh 141 12 (by decide) rfl rfl) rfl rfl hl.1 rfl (lv_room (Nat.le_of_ble_eq_true rfl)) dL_law_1216 ⟨by show cells + 0 ≤ 603072; omega, by show slots + 0 ≤ 7194730; omega⟩) (fun ab H locs hh => ?_)
  refine lv_icmp_eq (tgt := 3310) hx hb dL_law_1219 (by decide) (fun hc6 => ?_) (fun hc6 => ?_)
  · have hF := am_pos hc6 hF
    cases hF
    exact W.widen (by omega) (by omega) (kk ab H locs ls hh (lv_sub hl [0, 1, 2, 3, 4, 5] rfl))
  · have hF := am_neg hc6 hF
    refine lv_iconst (v := (0 : Int32)) hx hb dL_law_1222 (by decide) ?_
    cases hF
set_option maxHeartbeats 4000000 in
set_option maxRecDepth 100000 in
theorem c_law_1224 (l : Launch) (hst : l.stackTraces = false) {G : GG} {p : Program} {e : Env} {s : State} {m : MethodId} {args : Array Value} {below : List Frame} {meth : Method} {c : Code} {b L cells slots ab : Nat} {xs : Nat → Int32} {H : Heap} {locs : List Loc} {ls : Array Slot} {w w1 : Wd} {i x1 x2 x3 : Int32} {Q : State → Prop} (X : CX G p s m args meth c cL_law 9 RL wsL_law) (hX : va_X b L xs s s.heap) (hbl : b < s.heap.size) (hbA : ¬ gA G b) (hh : AH G s.heap w ab H locs) (h1 : vp_in (i + 1) L ∧ xs (i + 1).toNatClampNeg = x1) (h2 : vp_in (i + 2) L ∧ xs (i + 2).toNatClampNeg = x2) (h3 : vp_in (i + 3) L ∧ xs (i + 3).toNatClampNeg = x3) (hc : cells + 35 ≤ 603072) (hs : slots + 2182 ≤ 7194730) (hl : lv_has ls 9 [(0, .ref b), (1, .ref (gAd G 0)), (2, .ref (gAd G 141)), (3, .ref (gAd G 151)), (4, .ref (gAd G 152)), (5, .int i)]) (hF : f_law_1224 w x1 x2 x3 = some w1) (kk : ∀ (ab : Nat) (H : Heap) (locs : List Loc) (ls : Array Slot), AH G s.heap w1 ab H locs → lv_has ls 9 [(0, .ref b), (1, .ref (gAd G 0)), (2, .ref (gAd G 141)), (3, .ref (gAd G 151)), (4, .ref (gAd G 152)), (5, .int i)] → W p l e room_1 s m args below meth c H locs (cells + 35) (slots + 2182) Q (F0 m 3310 ls [])) : W p l e room_1 s m args below meth c H locs cells slots Q (F0 m 1224 ls []) := by
  have hx := X.1.1; have hb := X.1.2.1; have hml := X.1.2.2.1; have hown := X.1.2.2.2.1; have hts := X.1.2.2.2.2
  unfold f_law_1224 at hF
  refine lv_aload_n hx hb dL_law_1224 rfl (lv_at hl 1 rfl) ?_
  refine lv_aload_n hx hb dL_law_1225 rfl (lv_at hl 0 rfl) ?_
  refine lv_iload hx hb dL_law_1226 (lv_at hl 5 rfl) ?_
  refine lv_iconst (v := (1 : Int32)) hx hb dL_law_1228 (by decide) ?_
  refine lv_iadd hx hb dL_law_1229 ?_
  refine am_sld hx hb hX hbl hbA hh.2.2 h1 dL_law_1230 ?_
  refine lv_aload_n hx hb dL_law_1231 rfl (lv_at hl 3 rfl) ?_
  obtain ⟨⟨r2, w3⟩, hk1, hF⟩ := am_bind hF
  have hF := am_u2 hF
  refine am_callW X hh (vx_runSX (As := [.ref (gAd G 0), .int x1, .ref (gAd G 151)]) (rest := []) X.1 (c_L_trainSize l G hst hk1) (vx_cwSW 3 hts gL_law_L_trainSize rfl rfl rfl (by decide +kernel) ⟨Nat.le_of_ble_eq_true rfl, Nat.le_of_ble_eq_true rfl⟩) (am_preS X hh) rfl rfl hl.1 rfl (lv_room (Nat.le_of_ble_eq_true rfl)) dL_law_1232 ⟨by show cells + 1 ≤ 603072; omega, by show slots + 6 ≤ 7194730; omega⟩) (fun ab H locs hh => ?_)
  refine lv_istore (lv' := [(6, .int r2), (0, .ref b), (1, .ref (gAd G 0)), (2, .ref (gAd G 141)), (3, .ref (gAd G 151)), (4, .ref (gAd G 152)), (5, .int i)]) hx hb dL_law_1235 hl (by decide) rfl (fun ls hl => ?_)
  refine lv_aload_n hx hb dL_law_1237 rfl (lv_at hl 3 rfl) ?_
  refine lv_aload_n hx hb dL_law_1238 rfl (lv_at hl 1 rfl) ?_
  refine lv_iload hx hb dL_law_1239 (lv_at hl 6 rfl) ?_
  refine lv_iconst (v := (1 : Int32)) hx hb dL_law_1241 (by decide) ?_
  refine lv_iadd hx hb dL_law_1242 ?_
  refine am_sld hx hb hX hbl hbA hh.2.2 h1 dL_law_1243 ?_
  obtain ⟨⟨r5, w6⟩, hk4, hF⟩ := am_bind hF
  have hF := am_u2 hF
  refine am_call X hh (va_runV (As := [.int x1]) (rest := []) X.1 (c_X11_trainSize l G hk4) (cwV 1 hts gL_law_X11_trainSize rfl rfl rfl (by decide +kernel) ⟨Nat.le_of_ble_eq_true rfl, Nat.le_of_ble_eq_true rfl⟩) (am_preV X hh 141 12 (by decide) rfl rfl) rfl rfl hl.1 rfl (lv_room (Nat.le_of_ble_eq_true rfl)) dL_law_1244 ⟨by show (cells + 1) + 0 ≤ 603072; omega, by show (slots + 6) + 0 ≤ 7194730; omega⟩) (fun ab H locs hh => ?_)
  refine lv_istore (lv' := [(7, .int r5), (6, .int r2), (0, .ref b), (1, .ref (gAd G 0)), (2, .ref (gAd G 141)), (3, .ref (gAd G 151)), (4, .ref (gAd G 152)), (5, .int i)]) hx hb dL_law_1247 hl (by decide) rfl (fun ls hl => ?_)
  refine lv_aload_n hx hb dL_law_1249 rfl (lv_at hl 4 rfl) ?_
  obtain ⟨r8, hk7, hF⟩ := am_bind hF
  refine am_call X hh (va_runV (As := []) (rest := []) X.1 (c_X11_thrown l G hk7) (cwV 0 hts gL_law_X11_thrown rfl rfl rfl (by decide +kernel) ⟨Nat.le_of_ble_eq_true rfl, Nat.le_of_ble_eq_true rfl⟩) (am_preV X hh 141 12 (by decide) rfl rfl) rfl rfl hl.1 rfl (lv_room (Nat.le_of_ble_eq_true rfl)) dL_law_1250 ⟨by show (cells + 1) + 0 ≤ 603072; omega, by show (slots + 6) + 0 ≤ 7194730; omega⟩) (fun ab H locs hh => ?_)
  refine lv_iload hx hb dL_law_1253 (lv_at hl 1 rfl) ?_
  refine lv_icmp_eq (tgt := 1260) hx hb dL_law_1255 (by decide) (fun hc9 => ?_) (fun hc9 => ?_)
  · have hF := am_pos hc9 hF
    refine lv_iload hx hb dL_law_1260 (lv_at hl 1 rfl) ?_
    refine lv_if_ne (tgt := 1277) hx hb dL_law_1262 (by decide) (fun hc10 => ?_) (fun hc10 => ?_)
    · have hF := am_neg hc10 hF
      refine lv_goto (tgt := 3310) hx hb dL_law_1277 (by decide) ?_
      cases hF
      exact W.widen (by omega) (by omega) (kk ab H locs ls hh (lv_sub hl [2, 3, 4, 5, 6, 7] rfl))
    · have hF := am_pos hc10 hF
      refine lv_aload_n hx hb dL_law_1265 rfl (lv_at hl 5 rfl) ?_
      refine lv_iconst (v := (0 : Int32)) hx hb dL_law_1266 (by decide) ?_
      obtain ⟨hq11, hF⟩ := am_ifR hF
      refine am_lald X hh 151 (by decide) rfl hq11 dL_law_1267 ?_
      refine lv_iload hx hb dL_law_1268 (lv_at hl 0 rfl) ?_
      refine lv_i2l hx hb dL_law_1270 rfl ?_
      refine am_lcmp_eq (tgt := 1277) hx hb dL_law_1271 dL_law_1272 (by decide) (fun hc12 => ?_) (fun hc12 => ?_)
      · have hF := am_pos hc12 hF
        refine lv_goto (tgt := 3310) hx hb dL_law_1277 (by decide) ?_
        cases hF
        exact W.widen (by omega) (by omega) (kk ab H locs ls hh (lv_sub hl [2, 3, 4, 5, 6, 7] rfl))
      · have hF := am_neg hc12 hF
        refine lv_iconst (v := (0 : Int32)) hx hb dL_law_1275 (by decide) ?_
        cases hF
  · have hF := am_neg hc9 hF
    refine lv_iconst (v := (0 : Int32)) hx hb dL_law_1258 (by decide) ?_
    cases hF
set_option maxHeartbeats 4000000 in
set_option maxRecDepth 100000 in
theorem c_law_1280 (l : Launch) (hst : l.stackTraces = false) {G : GG} {p : Program} {e : Env} {s : State} {m : MethodId} {args : Array Value} {below : List Frame} {meth : Method} {c : Code} {b L cells slots ab : Nat} {xs : Nat → Int32} {H : Heap} {locs : List Loc} {ls : Array Slot} {w w1 : Wd} {i x1 x2 x3 : Int32} {Q : State → Prop} (X : CX G p s m args meth c cL_law 9 RL wsL_law) (hX : va_X b L xs s s.heap) (hbl : b < s.heap.size) (hbA : ¬ gA G b) (hh : AH G s.heap w ab H locs) (h1 : vp_in (i + 1) L ∧ xs (i + 1).toNatClampNeg = x1) (h2 : vp_in (i + 2) L ∧ xs (i + 2).toNatClampNeg = x2) (h3 : vp_in (i + 3) L ∧ xs (i + 3).toNatClampNeg = x3) (hc : cells + 35 ≤ 603072) (hs : slots + 2182 ≤ 7194730) (hl : lv_has ls 9 [(0, .ref b), (1, .ref (gAd G 0)), (2, .ref (gAd G 141)), (3, .ref (gAd G 151)), (4, .ref (gAd G 152)), (5, .int i)]) (hF : f_law_1280 w x1 x2 x3 = some w1) (kk : ∀ (ab : Nat) (H : Heap) (locs : List Loc) (ls : Array Slot), AH G s.heap w1 ab H locs → lv_has ls 9 [(0, .ref b), (1, .ref (gAd G 0)), (2, .ref (gAd G 141)), (3, .ref (gAd G 151)), (4, .ref (gAd G 152)), (5, .int i)] → W p l e room_1 s m args below meth c H locs (cells + 35) (slots + 2182) Q (F0 m 3310 ls [])) : W p l e room_1 s m args below meth c H locs cells slots Q (F0 m 1280 ls []) := by
  have hx := X.1.1; have hb := X.1.2.1; have hml := X.1.2.2.1; have hown := X.1.2.2.2.1; have hts := X.1.2.2.2.2
  unfold f_law_1280 at hF
  refine lv_aload_n hx hb dL_law_1280 rfl (lv_at hl 1 rfl) ?_
  refine lv_aload_n hx hb dL_law_1281 rfl (lv_at hl 0 rfl) ?_
  refine lv_iload hx hb dL_law_1282 (lv_at hl 5 rfl) ?_
  refine lv_iconst (v := (1 : Int32)) hx hb dL_law_1284 (by decide) ?_
  refine lv_iadd hx hb dL_law_1285 ?_
  refine am_sld hx hb hX hbl hbA hh.2.2 h1 dL_law_1286 ?_
  refine lv_aload_n hx hb dL_law_1287 rfl (lv_at hl 0 rfl) ?_
  refine lv_iload hx hb dL_law_1288 (lv_at hl 5 rfl) ?_
  refine lv_iconst (v := (2 : Int32)) hx hb dL_law_1290 (by decide) ?_
  refine lv_iadd hx hb dL_law_1291 ?_
  refine am_sld hx hb hX hbl hbA hh.2.2 h2 dL_law_1292 ?_
  refine lv_aload_n hx hb dL_law_1293 rfl (lv_at hl 3 rfl) ?_
  obtain ⟨⟨r2, w3⟩, hk1, hF⟩ := am_bind hF
  have hF := am_u2 hF
  refine am_callW X hh (vx_runSX (As := [.ref (gAd G 0), .int x1, .int x2, .ref (gAd G 151)]) (rest := []) X.1 (c_L_areInTrain l G hst hk1) (vx_cwSW 4 hts gL_law_L_areInTrain rfl rfl rfl (by decide +kernel) ⟨Nat.le_of_ble_eq_true rfl, Nat.le_of_ble_eq_true rfl⟩) (am_preS X hh) rfl rfl hl.1 rfl (lv_room (Nat.le_of_ble_eq_true rfl)) dL_law_1294 ⟨by show cells + 2 ≤ 603072; omega, by show slots + 12 ≤ 7194730; omega⟩) (fun ab H locs hh => ?_)
  refine lv_istore (lv' := [(6, .int r2), (0, .ref b), (1, .ref (gAd G 0)), (2, .ref (gAd G 141)), (3, .ref (gAd G 151)), (4, .ref (gAd G 152)), (5, .int i)]) hx hb dL_law_1297 hl (by decide) rfl (fun ls hl => ?_)
  refine lv_aload_n hx hb dL_law_1299 rfl (lv_at hl 3 rfl) ?_
  refine lv_aload_n hx hb dL_law_1300 rfl (lv_at hl 1 rfl) ?_
  refine lv_iload hx hb dL_law_1301 (lv_at hl 6 rfl) ?_
  refine lv_iconst (v := (1 : Int32)) hx hb dL_law_1303 (by decide) ?_
  refine lv_iadd hx hb dL_law_1304 ?_
  refine am_sld hx hb hX hbl hbA hh.2.2 h1 dL_law_1305 ?_
  refine lv_aload_n hx hb dL_law_1306 rfl (lv_at hl 1 rfl) ?_
  refine lv_iload hx hb dL_law_1307 (lv_at hl 6 rfl) ?_
  refine lv_iconst (v := (2 : Int32)) hx hb dL_law_1309 (by decide) ?_
  refine lv_iadd hx hb dL_law_1310 ?_
  refine am_sld hx hb hX hbl hbA hh.2.2 h2 dL_law_1311 ?_
  obtain ⟨⟨r5, w6⟩, hk4, hF⟩ := am_bind hF
  have hF := am_u2 hF
  refine am_call X hh (va_runV (As := [.int x1, .int x2]) (rest := []) X.1 (c_X11_areInTrain l G hk4) (cwV 2 hts gL_law_X11_areInTrain rfl rfl rfl (by decide +kernel) ⟨Nat.le_of_ble_eq_true rfl, Nat.le_of_ble_eq_true rfl⟩) (am_preV X hh 141 12 (by decide) rfl rfl) rfl rfl hl.1 rfl (lv_room (Nat.le_of_ble_eq_true rfl)) dL_law_1312 ⟨by show (cells + 2) + 0 ≤ 603072; omega, by show (slots + 12) + 0 ≤ 7194730; omega⟩) (fun ab H locs hh => ?_)
  refine lv_istore (lv' := [(7, .int r5), (6, .int r2), (0, .ref b), (1, .ref (gAd G 0)), (2, .ref (gAd G 141)), (3, .ref (gAd G 151)), (4, .ref (gAd G 152)), (5, .int i)]) hx hb dL_law_1315 hl (by decide) rfl (fun ls hl => ?_)
  refine lv_aload_n hx hb dL_law_1317 rfl (lv_at hl 4 rfl) ?_
  obtain ⟨r8, hk7, hF⟩ := am_bind hF
  refine am_call X hh (va_runV (As := []) (rest := []) X.1 (c_X11_thrown l G hk7) (cwV 0 hts gL_law_X11_thrown rfl rfl rfl (by decide +kernel) ⟨Nat.le_of_ble_eq_true rfl, Nat.le_of_ble_eq_true rfl⟩) (am_preV X hh 141 12 (by decide) rfl rfl) rfl rfl hl.1 rfl (lv_room (Nat.le_of_ble_eq_true rfl)) dL_law_1318 ⟨by show (cells + 2) + 0 ≤ 603072; omega, by show (slots + 12) + 0 ≤ 7194730; omega⟩) (fun ab H locs hh => ?_)
  refine lv_iload hx hb dL_law_1321 (lv_at hl 1 rfl) ?_
  refine lv_icmp_eq (tgt := 1328) hx hb dL_law_1323 (by decide) (fun hc9 => ?_) (fun hc9 => ?_)
  · have hF := am_pos hc9 hF
    refine lv_iload hx hb dL_law_1328 (lv_at hl 1 rfl) ?_
    refine lv_if_ne (tgt := 1352) hx hb dL_law_1330 (by decide) (fun hc10 => ?_) (fun hc10 => ?_)
    · have hF := am_neg hc10 hF
      refine lv_goto (tgt := 3310) hx hb dL_law_1352 (by decide) ?_
      cases hF
      exact W.widen (by omega) (by omega) (kk ab H locs ls hh (lv_sub hl [2, 3, 4, 5, 6, 7] rfl))
    · have hF := am_pos hc10 hF
      refine lv_aload_n hx hb dL_law_1333 rfl (lv_at hl 5 rfl) ?_
      refine lv_iconst (v := (0 : Int32)) hx hb dL_law_1334 (by decide) ?_
      obtain ⟨hq11, hF⟩ := am_ifR hF
      refine am_lald X hh 151 (by decide) rfl hq11 dL_law_1335 ?_
      refine lv_iload hx hb dL_law_1336 (lv_at hl 0 rfl) ?_
      refine lv_if_eq (tgt := 1345) hx hb dL_law_1338 (by decide) (fun hc12 => ?_) (fun hc12 => ?_)
      · have hF := am_pos hc12 hF
        refine lv_lconst (v := (0 : Int64)) hx hb dL_law_1345 (by decide) ?_
        refine am_lcmp_eq (tgt := 1352) hx hb dL_law_1346 dL_law_1347 (by decide) (fun hc13 => ?_) (fun hc13 => ?_)
        · have hF := am_pos hc13 hF
          refine lv_goto (tgt := 3310) hx hb dL_law_1352 (by decide) ?_
          cases hF
          exact W.widen (by omega) (by omega) (kk ab H locs ls hh (lv_sub hl [2, 3, 4, 5, 6, 7] rfl))
        · have hF := am_neg hc13 hF
          refine lv_iconst (v := (0 : Int32)) hx hb dL_law_1350 (by decide) ?_
          cases hF
      · have hF := am_neg hc12 hF
        refine lv_lconst (v := (1 : Int64)) hx hb dL_law_1341 (by decide) ?_
        refine lv_goto (tgt := 1346) hx hb dL_law_1342 (by decide) ?_
        refine am_lcmp_eq (tgt := 1352) hx hb dL_law_1346 dL_law_1347 (by decide) (fun hc14 => ?_) (fun hc14 => ?_)
        · have hF := am_pos hc14 hF
          refine lv_goto (tgt := 3310) hx hb dL_law_1352 (by decide) ?_
          cases hF
          exact W.widen (by omega) (by omega) (kk ab H locs ls hh (lv_sub hl [2, 3, 4, 5, 6, 7] rfl))
        · have hF := am_neg hc14 hF
          refine lv_iconst (v := (0 : Int32)) hx hb dL_law_1350 (by decide) ?_
          cases hF
  · have hF := am_neg hc9 hF
    refine lv_iconst (v := (0 : Int32)) hx hb dL_law_1326 (by decide) ?_
    cases hF
set_option maxHeartbeats 4000000 in
set_option maxRecDepth 100000 in
theorem c_law_1355 (l : Launch) (hst : l.stackTraces = false) {G : GG} {p : Program} {e : Env} {s : State} {m : MethodId} {args : Array Value} {below : List Frame} {meth : Method} {c : Code} {b L cells slots ab : Nat} {xs : Nat → Int32} {H : Heap} {locs : List Loc} {ls : Array Slot} {w w1 : Wd} {i x1 x2 x3 : Int32} {Q : State → Prop} (X : CX G p s m args meth c cL_law 9 RL wsL_law) (hX : va_X b L xs s s.heap) (hbl : b < s.heap.size) (hbA : ¬ gA G b) (hh : AH G s.heap w ab H locs) (h1 : vp_in (i + 1) L ∧ xs (i + 1).toNatClampNeg = x1) (h2 : vp_in (i + 2) L ∧ xs (i + 2).toNatClampNeg = x2) (h3 : vp_in (i + 3) L ∧ xs (i + 3).toNatClampNeg = x3) (hc : cells + 35 ≤ 603072) (hs : slots + 2182 ≤ 7194730) (hl : lv_has ls 9 [(0, .ref b), (1, .ref (gAd G 0)), (2, .ref (gAd G 141)), (3, .ref (gAd G 151)), (4, .ref (gAd G 152)), (5, .int i)]) (hF : f_law_1355 w x1 x2 x3 = some w1) (kk : ∀ (ab : Nat) (H : Heap) (locs : List Loc) (ls : Array Slot), AH G s.heap w1 ab H locs → lv_has ls 9 [(0, .ref b), (1, .ref (gAd G 0)), (2, .ref (gAd G 141)), (3, .ref (gAd G 151)), (4, .ref (gAd G 152)), (5, .int i)] → W p l e room_1 s m args below meth c H locs (cells + 35) (slots + 2182) Q (F0 m 3310 ls [])) : W p l e room_1 s m args below meth c H locs cells slots Q (F0 m 1355 ls []) := by
  have hx := X.1.1; have hb := X.1.2.1; have hml := X.1.2.2.1; have hown := X.1.2.2.2.1; have hts := X.1.2.2.2.2
  unfold f_law_1355 at hF
  refine lv_aload_n hx hb dL_law_1355 rfl (lv_at hl 1 rfl) ?_
  refine lv_aload_n hx hb dL_law_1356 rfl (lv_at hl 0 rfl) ?_
  refine lv_iload hx hb dL_law_1357 (lv_at hl 5 rfl) ?_
  refine lv_iconst (v := (1 : Int32)) hx hb dL_law_1359 (by decide) ?_
  refine lv_iadd hx hb dL_law_1360 ?_
  refine am_sld hx hb hX hbl hbA hh.2.2 h1 dL_law_1361 ?_
  refine lv_aload_n hx hb dL_law_1362 rfl (lv_at hl 0 rfl) ?_
  refine lv_iload hx hb dL_law_1363 (lv_at hl 5 rfl) ?_
  refine lv_iconst (v := (2 : Int32)) hx hb dL_law_1365 (by decide) ?_
  refine lv_iadd hx hb dL_law_1366 ?_
  refine am_sld hx hb hX hbl hbA hh.2.2 h2 dL_law_1367 ?_
  refine lv_aload_n hx hb dL_law_1368 rfl (lv_at hl 3 rfl) ?_
  obtain ⟨⟨r2, w3⟩, hk1, hF⟩ := am_bind hF
  have hF := am_u2 hF
  refine am_callW X hh (vx_runSX (As := [.ref (gAd G 0), .int x1, .int x2, .ref (gAd G 151)]) (rest := []) X.1 (c_L_unitsPerTurn l G hst hk1) (vx_cwSW 4 hts gL_law_L_unitsPerTurn rfl rfl rfl (by decide +kernel) ⟨Nat.le_of_ble_eq_true rfl, Nat.le_of_ble_eq_true rfl⟩) (am_preS X hh) rfl rfl hl.1 rfl (lv_room (Nat.le_of_ble_eq_true rfl)) dL_law_1369 ⟨by show cells + 3 ≤ 603072; omega, by show slots + 18 ≤ 7194730; omega⟩) (fun ab H locs hh => ?_)
  refine lv_istore (lv' := [(6, .int r2), (0, .ref b), (1, .ref (gAd G 0)), (2, .ref (gAd G 141)), (3, .ref (gAd G 151)), (4, .ref (gAd G 152)), (5, .int i)]) hx hb dL_law_1372 hl (by decide) rfl (fun ls hl => ?_)
  refine lv_aload_n hx hb dL_law_1374 rfl (lv_at hl 3 rfl) ?_
  refine lv_aload_n hx hb dL_law_1375 rfl (lv_at hl 1 rfl) ?_
  refine lv_iload hx hb dL_law_1376 (lv_at hl 6 rfl) ?_
  refine lv_iconst (v := (1 : Int32)) hx hb dL_law_1378 (by decide) ?_
  refine lv_iadd hx hb dL_law_1379 ?_
  refine am_sld hx hb hX hbl hbA hh.2.2 h1 dL_law_1380 ?_
  refine lv_aload_n hx hb dL_law_1381 rfl (lv_at hl 1 rfl) ?_
  refine lv_iload hx hb dL_law_1382 (lv_at hl 6 rfl) ?_
  refine lv_iconst (v := (2 : Int32)) hx hb dL_law_1384 (by decide) ?_
  refine lv_iadd hx hb dL_law_1385 ?_
  refine am_sld hx hb hX hbl hbA hh.2.2 h2 dL_law_1386 ?_
  obtain ⟨⟨r5, w6⟩, hk4, hF⟩ := am_bind hF
  have hF := am_u2 hF
  refine am_call X hh (va_runV (As := [.int x1, .int x2]) (rest := []) X.1 (c_X11_unitsPerTurn l G hk4) (cwV 2 hts gL_law_X11_unitsPerTurn rfl rfl rfl (by decide +kernel) ⟨Nat.le_of_ble_eq_true rfl, Nat.le_of_ble_eq_true rfl⟩) (am_preV X hh 141 12 (by decide) rfl rfl) rfl rfl hl.1 rfl (lv_room (Nat.le_of_ble_eq_true rfl)) dL_law_1387 ⟨by show (cells + 3) + 0 ≤ 603072; omega, by show (slots + 18) + 0 ≤ 7194730; omega⟩) (fun ab H locs hh => ?_)
  refine lv_lstore (lv' := [(7, .long r5), (6, .int r2), (0, .ref b), (1, .ref (gAd G 0)), (2, .ref (gAd G 141)), (3, .ref (gAd G 151)), (4, .ref (gAd G 152)), (5, .int i)]) hx hb dL_law_1390 hl (by decide) rfl (fun ls hl => ?_)
  refine lv_aload_n hx hb dL_law_1392 rfl (lv_at hl 4 rfl) ?_
  obtain ⟨r8, hk7, hF⟩ := am_bind hF
  refine am_call X hh (va_runV (As := []) (rest := []) X.1 (c_X11_thrown l G hk7) (cwV 0 hts gL_law_X11_thrown rfl rfl rfl (by decide +kernel) ⟨Nat.le_of_ble_eq_true rfl, Nat.le_of_ble_eq_true rfl⟩) (am_preV X hh 141 12 (by decide) rfl rfl) rfl rfl hl.1 rfl (lv_room (Nat.le_of_ble_eq_true rfl)) dL_law_1393 ⟨by show (cells + 3) + 0 ≤ 603072; omega, by show (slots + 18) + 0 ≤ 7194730; omega⟩) (fun ab H locs hh => ?_)
  refine lv_iload hx hb dL_law_1396 (lv_at hl 1 rfl) ?_
  refine lv_icmp_eq (tgt := 1403) hx hb dL_law_1398 (by decide) (fun hc9 => ?_) (fun hc9 => ?_)
  · have hF := am_pos hc9 hF
    refine lv_iload hx hb dL_law_1403 (lv_at hl 1 rfl) ?_
    refine lv_if_ne (tgt := 1419) hx hb dL_law_1405 (by decide) (fun hc10 => ?_) (fun hc10 => ?_)
    · have hF := am_neg hc10 hF
      refine lv_goto (tgt := 3310) hx hb dL_law_1419 (by decide) ?_
      cases hF
      exact W.widen (by omega) (by omega) (kk ab H locs ls hh (lv_sub hl [2, 3, 4, 5, 6, 7] rfl))
    · have hF := am_pos hc10 hF
      refine lv_aload_n hx hb dL_law_1408 rfl (lv_at hl 5 rfl) ?_
      refine lv_iconst (v := (0 : Int32)) hx hb dL_law_1409 (by decide) ?_
      obtain ⟨hq11, hF⟩ := am_ifR hF
      refine am_lald X hh 151 (by decide) rfl hq11 dL_law_1410 ?_
      refine lv_lload hx hb dL_law_1411 (lv_at hl 0 rfl) ?_
      refine am_lcmp_eq (tgt := 1419) hx hb dL_law_1413 dL_law_1414 (by decide) (fun hc12 => ?_) (fun hc12 => ?_)
      · have hF := am_pos hc12 hF
        refine lv_goto (tgt := 3310) hx hb dL_law_1419 (by decide) ?_
        cases hF
        exact W.widen (by omega) (by omega) (kk ab H locs ls hh (lv_sub hl [2, 3, 4, 5, 6, 7] rfl))
      · have hF := am_neg hc12 hF
        refine lv_iconst (v := (0 : Int32)) hx hb dL_law_1417 (by decide) ?_
        cases hF
  · have hF := am_neg hc9 hF
    refine lv_iconst (v := (0 : Int32)) hx hb dL_law_1401 (by decide) ?_
    cases hF
set_option maxHeartbeats 4000000 in
set_option maxRecDepth 100000 in
theorem c_law_1422 (l : Launch) (hst : l.stackTraces = false) {G : GG} {p : Program} {e : Env} {s : State} {m : MethodId} {args : Array Value} {below : List Frame} {meth : Method} {c : Code} {b L cells slots ab : Nat} {xs : Nat → Int32} {H : Heap} {locs : List Loc} {ls : Array Slot} {w w1 : Wd} {i x1 x2 x3 : Int32} {Q : State → Prop} (X : CX G p s m args meth c cL_law 9 RL wsL_law) (hX : va_X b L xs s s.heap) (hbl : b < s.heap.size) (hbA : ¬ gA G b) (hh : AH G s.heap w ab H locs) (h1 : vp_in (i + 1) L ∧ xs (i + 1).toNatClampNeg = x1) (h2 : vp_in (i + 2) L ∧ xs (i + 2).toNatClampNeg = x2) (h3 : vp_in (i + 3) L ∧ xs (i + 3).toNatClampNeg = x3) (hc : cells + 35 ≤ 603072) (hs : slots + 2182 ≤ 7194730) (hl : lv_has ls 9 [(0, .ref b), (1, .ref (gAd G 0)), (2, .ref (gAd G 141)), (3, .ref (gAd G 151)), (4, .ref (gAd G 152)), (5, .int i)]) (hF : f_law_1422 w x1 x2 x3 = some w1) (kk : ∀ (ab : Nat) (H : Heap) (locs : List Loc) (ls : Array Slot), AH G s.heap w1 ab H locs → lv_has ls 9 [(0, .ref b), (1, .ref (gAd G 0)), (2, .ref (gAd G 141)), (3, .ref (gAd G 151)), (4, .ref (gAd G 152)), (5, .int i)] → W p l e room_1 s m args below meth c H locs (cells + 35) (slots + 2182) Q (F0 m 3310 ls [])) : W p l e room_1 s m args below meth c H locs cells slots Q (F0 m 1422 ls []) := by
  have hx := X.1.1; have hb := X.1.2.1; have hml := X.1.2.2.1; have hown := X.1.2.2.2.1; have hts := X.1.2.2.2.2
  unfold f_law_1422 at hF
  refine lv_aload_n hx hb dL_law_1422 rfl (lv_at hl 1 rfl) ?_
  refine lv_aload_n hx hb dL_law_1423 rfl (lv_at hl 0 rfl) ?_
  refine lv_iload hx hb dL_law_1424 (lv_at hl 5 rfl) ?_
  refine lv_iconst (v := (1 : Int32)) hx hb dL_law_1426 (by decide) ?_
  refine lv_iadd hx hb dL_law_1427 ?_
  refine am_sld hx hb hX hbl hbA hh.2.2 h1 dL_law_1428 ?_
  refine lv_aload_n hx hb dL_law_1429 rfl (lv_at hl 0 rfl) ?_
  refine lv_iload hx hb dL_law_1430 (lv_at hl 5 rfl) ?_
  refine lv_iconst (v := (2 : Int32)) hx hb dL_law_1432 (by decide) ?_
  refine lv_iadd hx hb dL_law_1433 ?_
  refine am_sld hx hb hX hbl hbA hh.2.2 h2 dL_law_1434 ?_
  refine lv_aload_n hx hb dL_law_1435 rfl (lv_at hl 3 rfl) ?_
  obtain ⟨⟨r2, w3⟩, hk1, hF⟩ := am_bind hF
  have hF := am_u2 hF
  refine am_callW X hh (vx_runSX (As := [.ref (gAd G 0), .int x1, .int x2, .ref (gAd G 151)]) (rest := []) X.1 (c_L_unitsPerTurnByLowest l G hst hk1) (vx_cwSW 4 hts gL_law_L_unitsPerTurnByLowest rfl rfl rfl (by decide +kernel) ⟨Nat.le_of_ble_eq_true rfl, Nat.le_of_ble_eq_true rfl⟩) (am_preS X hh) rfl rfl hl.1 rfl (lv_room (Nat.le_of_ble_eq_true rfl)) dL_law_1436 ⟨by show cells + 3 ≤ 603072; omega, by show slots + 18 ≤ 7194730; omega⟩) (fun ab H locs hh => ?_)
  refine lv_istore (lv' := [(6, .int r2), (0, .ref b), (1, .ref (gAd G 0)), (2, .ref (gAd G 141)), (3, .ref (gAd G 151)), (4, .ref (gAd G 152)), (5, .int i)]) hx hb dL_law_1439 hl (by decide) rfl (fun ls hl => ?_)
  refine lv_aload_n hx hb dL_law_1441 rfl (lv_at hl 3 rfl) ?_
  refine lv_aload_n hx hb dL_law_1442 rfl (lv_at hl 1 rfl) ?_
  refine lv_iload hx hb dL_law_1443 (lv_at hl 6 rfl) ?_
  refine lv_iconst (v := (1 : Int32)) hx hb dL_law_1445 (by decide) ?_
  refine lv_iadd hx hb dL_law_1446 ?_
  refine am_sld hx hb hX hbl hbA hh.2.2 h1 dL_law_1447 ?_
  refine lv_aload_n hx hb dL_law_1448 rfl (lv_at hl 1 rfl) ?_
  refine lv_iload hx hb dL_law_1449 (lv_at hl 6 rfl) ?_
  refine lv_iconst (v := (2 : Int32)) hx hb dL_law_1451 (by decide) ?_
  refine lv_iadd hx hb dL_law_1452 ?_
  refine am_sld hx hb hX hbl hbA hh.2.2 h2 dL_law_1453 ?_
  obtain ⟨⟨r5, w6⟩, hk4, hF⟩ := am_bind hF
  have hF := am_u2 hF
  refine am_call X hh (va_runV (As := [.int x1, .int x2]) (rest := []) X.1 (c_X11_unitsPerTurnByLowest l G hk4) (cwV 2 hts gL_law_X11_unitsPerTurnByLowest rfl rfl rfl (by decide +kernel) ⟨Nat.le_of_ble_eq_true rfl, Nat.le_of_ble_eq_true rfl⟩) (am_preV X hh 141 12 (by decide) rfl rfl) rfl rfl hl.1 rfl (lv_room (Nat.le_of_ble_eq_true rfl)) dL_law_1454 ⟨by show (cells + 3) + 0 ≤ 603072; omega, by show (slots + 18) + 0 ≤ 7194730; omega⟩) (fun ab H locs hh => ?_)
  refine lv_lstore (lv' := [(7, .long r5), (6, .int r2), (0, .ref b), (1, .ref (gAd G 0)), (2, .ref (gAd G 141)), (3, .ref (gAd G 151)), (4, .ref (gAd G 152)), (5, .int i)]) hx hb dL_law_1457 hl (by decide) rfl (fun ls hl => ?_)
  refine lv_aload_n hx hb dL_law_1459 rfl (lv_at hl 4 rfl) ?_
  obtain ⟨r8, hk7, hF⟩ := am_bind hF
  refine am_call X hh (va_runV (As := []) (rest := []) X.1 (c_X11_thrown l G hk7) (cwV 0 hts gL_law_X11_thrown rfl rfl rfl (by decide +kernel) ⟨Nat.le_of_ble_eq_true rfl, Nat.le_of_ble_eq_true rfl⟩) (am_preV X hh 141 12 (by decide) rfl rfl) rfl rfl hl.1 rfl (lv_room (Nat.le_of_ble_eq_true rfl)) dL_law_1460 ⟨by show (cells + 3) + 0 ≤ 603072; omega, by show (slots + 18) + 0 ≤ 7194730; omega⟩) (fun ab H locs hh => ?_)
  refine lv_iload hx hb dL_law_1463 (lv_at hl 1 rfl) ?_
  refine lv_icmp_eq (tgt := 1470) hx hb dL_law_1465 (by decide) (fun hc9 => ?_) (fun hc9 => ?_)
  · have hF := am_pos hc9 hF
    refine lv_iload hx hb dL_law_1470 (lv_at hl 1 rfl) ?_
    refine lv_if_ne (tgt := 1486) hx hb dL_law_1472 (by decide) (fun hc10 => ?_) (fun hc10 => ?_)
    · have hF := am_neg hc10 hF
      refine lv_goto (tgt := 3310) hx hb dL_law_1486 (by decide) ?_
      cases hF
      exact W.widen (by omega) (by omega) (kk ab H locs ls hh (lv_sub hl [2, 3, 4, 5, 6, 7] rfl))
    · have hF := am_pos hc10 hF
      refine lv_aload_n hx hb dL_law_1475 rfl (lv_at hl 5 rfl) ?_
      refine lv_iconst (v := (0 : Int32)) hx hb dL_law_1476 (by decide) ?_
      obtain ⟨hq11, hF⟩ := am_ifR hF
      refine am_lald X hh 151 (by decide) rfl hq11 dL_law_1477 ?_
      refine lv_lload hx hb dL_law_1478 (lv_at hl 0 rfl) ?_
      refine am_lcmp_eq (tgt := 1486) hx hb dL_law_1480 dL_law_1481 (by decide) (fun hc12 => ?_) (fun hc12 => ?_)
      · have hF := am_pos hc12 hF
        refine lv_goto (tgt := 3310) hx hb dL_law_1486 (by decide) ?_
        cases hF
        exact W.widen (by omega) (by omega) (kk ab H locs ls hh (lv_sub hl [2, 3, 4, 5, 6, 7] rfl))
      · have hF := am_neg hc12 hF
        refine lv_iconst (v := (0 : Int32)) hx hb dL_law_1484 (by decide) ?_
        cases hF
  · have hF := am_neg hc9 hF
    refine lv_iconst (v := (0 : Int32)) hx hb dL_law_1468 (by decide) ?_
    cases hF
set_option maxHeartbeats 4000000 in
set_option maxRecDepth 100000 in
theorem c_law_1489 (l : Launch) (hst : l.stackTraces = false) {G : GG} {p : Program} {e : Env} {s : State} {m : MethodId} {args : Array Value} {below : List Frame} {meth : Method} {c : Code} {b L cells slots ab : Nat} {xs : Nat → Int32} {H : Heap} {locs : List Loc} {ls : Array Slot} {w w1 : Wd} {i x1 x2 x3 : Int32} {Q : State → Prop} (X : CX G p s m args meth c cL_law 9 RL wsL_law) (hX : va_X b L xs s s.heap) (hbl : b < s.heap.size) (hbA : ¬ gA G b) (hh : AH G s.heap w ab H locs) (h1 : vp_in (i + 1) L ∧ xs (i + 1).toNatClampNeg = x1) (h2 : vp_in (i + 2) L ∧ xs (i + 2).toNatClampNeg = x2) (h3 : vp_in (i + 3) L ∧ xs (i + 3).toNatClampNeg = x3) (hc : cells + 35 ≤ 603072) (hs : slots + 2182 ≤ 7194730) (hl : lv_has ls 9 [(0, .ref b), (1, .ref (gAd G 0)), (2, .ref (gAd G 141)), (3, .ref (gAd G 151)), (4, .ref (gAd G 152)), (5, .int i)]) (hF : f_law_1489 w x1 x2 x3 = some w1) (kk : ∀ (ab : Nat) (H : Heap) (locs : List Loc) (ls : Array Slot), AH G s.heap w1 ab H locs → lv_has ls 9 [(0, .ref b), (1, .ref (gAd G 0)), (2, .ref (gAd G 141)), (3, .ref (gAd G 151)), (4, .ref (gAd G 152)), (5, .int i)] → W p l e room_1 s m args below meth c H locs (cells + 35) (slots + 2182) Q (F0 m 3310 ls [])) : W p l e room_1 s m args below meth c H locs cells slots Q (F0 m 1489 ls []) := by
  have hx := X.1.1; have hb := X.1.2.1; have hml := X.1.2.2.1; have hown := X.1.2.2.2.1; have hts := X.1.2.2.2.2
  unfold f_law_1489 at hF
  refine lv_aload_n hx hb dL_law_1489 rfl (lv_at hl 1 rfl) ?_
  refine lv_aload_n hx hb dL_law_1490 rfl (lv_at hl 0 rfl) ?_
  refine lv_iload hx hb dL_law_1491 (lv_at hl 5 rfl) ?_
  refine lv_iconst (v := (1 : Int32)) hx hb dL_law_1493 (by decide) ?_
  refine lv_iadd hx hb dL_law_1494 ?_
  refine am_sld hx hb hX hbl hbA hh.2.2 h1 dL_law_1495 ?_
  refine lv_aload_n hx hb dL_law_1496 rfl (lv_at hl 3 rfl) ?_
  obtain ⟨⟨r2, w3⟩, hk1, hF⟩ := am_bind hF
  have hF := am_u2 hF
  refine am_callW X hh (vx_runSX (As := [.ref (gAd G 0), .int x1, .ref (gAd G 151)]) (rest := []) X.1 (c_L_angle l G hst hk1) (vx_cwSW 3 hts gL_law_L_angle rfl rfl rfl (by decide +kernel) ⟨Nat.le_of_ble_eq_true rfl, Nat.le_of_ble_eq_true rfl⟩) (am_preS X hh) rfl rfl hl.1 rfl (lv_room (Nat.le_of_ble_eq_true rfl)) dL_law_1497 ⟨by show cells + 1 ≤ 603072; omega, by show slots + 6 ≤ 7194730; omega⟩) (fun ab H locs hh => ?_)
  refine lv_istore (lv' := [(6, .int r2), (0, .ref b), (1, .ref (gAd G 0)), (2, .ref (gAd G 141)), (3, .ref (gAd G 151)), (4, .ref (gAd G 152)), (5, .int i)]) hx hb dL_law_1500 hl (by decide) rfl (fun ls hl => ?_)
  refine lv_aload_n hx hb dL_law_1502 rfl (lv_at hl 3 rfl) ?_
  refine lv_aload_n hx hb dL_law_1503 rfl (lv_at hl 1 rfl) ?_
  refine lv_iload hx hb dL_law_1504 (lv_at hl 6 rfl) ?_
  refine lv_iconst (v := (1 : Int32)) hx hb dL_law_1506 (by decide) ?_
  refine lv_iadd hx hb dL_law_1507 ?_
  refine am_sld hx hb hX hbl hbA hh.2.2 h1 dL_law_1508 ?_
  obtain ⟨⟨r5, w6⟩, hk4, hF⟩ := am_bind hF
  have hF := am_u2 hF
  refine am_call X hh (va_runV (As := [.int x1]) (rest := []) X.1 (c_X11_angle l G hk4) (cwV 1 hts gL_law_X11_angle rfl rfl rfl (by decide +kernel) ⟨Nat.le_of_ble_eq_true rfl, Nat.le_of_ble_eq_true rfl⟩) (am_preV X hh 141 12 (by decide) rfl rfl) rfl rfl hl.1 rfl (lv_room (Nat.le_of_ble_eq_true rfl)) dL_law_1509 ⟨by show (cells + 1) + 0 ≤ 603072; omega, by show (slots + 6) + 0 ≤ 7194730; omega⟩) (fun ab H locs hh => ?_)
  refine lv_lstore (lv' := [(7, .long r5), (6, .int r2), (0, .ref b), (1, .ref (gAd G 0)), (2, .ref (gAd G 141)), (3, .ref (gAd G 151)), (4, .ref (gAd G 152)), (5, .int i)]) hx hb dL_law_1512 hl (by decide) rfl (fun ls hl => ?_)
  refine lv_aload_n hx hb dL_law_1514 rfl (lv_at hl 4 rfl) ?_
  obtain ⟨r8, hk7, hF⟩ := am_bind hF
  refine am_call X hh (va_runV (As := []) (rest := []) X.1 (c_X11_thrown l G hk7) (cwV 0 hts gL_law_X11_thrown rfl rfl rfl (by decide +kernel) ⟨Nat.le_of_ble_eq_true rfl, Nat.le_of_ble_eq_true rfl⟩) (am_preV X hh 141 12 (by decide) rfl rfl) rfl rfl hl.1 rfl (lv_room (Nat.le_of_ble_eq_true rfl)) dL_law_1515 ⟨by show (cells + 1) + 0 ≤ 603072; omega, by show (slots + 6) + 0 ≤ 7194730; omega⟩) (fun ab H locs hh => ?_)
  refine lv_iload hx hb dL_law_1518 (lv_at hl 1 rfl) ?_
  refine lv_icmp_eq (tgt := 1525) hx hb dL_law_1520 (by decide) (fun hc9 => ?_) (fun hc9 => ?_)
  · have hF := am_pos hc9 hF
    refine lv_iload hx hb dL_law_1525 (lv_at hl 1 rfl) ?_
    refine lv_if_ne (tgt := 1541) hx hb dL_law_1527 (by decide) (fun hc10 => ?_) (fun hc10 => ?_)
    · have hF := am_neg hc10 hF
      refine lv_goto (tgt := 3310) hx hb dL_law_1541 (by decide) ?_
      cases hF
      exact W.widen (by omega) (by omega) (kk ab H locs ls hh (lv_sub hl [2, 3, 4, 5, 6, 7] rfl))
    · have hF := am_pos hc10 hF
      refine lv_aload_n hx hb dL_law_1530 rfl (lv_at hl 5 rfl) ?_
      refine lv_iconst (v := (0 : Int32)) hx hb dL_law_1531 (by decide) ?_
      obtain ⟨hq11, hF⟩ := am_ifR hF
      refine am_lald X hh 151 (by decide) rfl hq11 dL_law_1532 ?_
      refine lv_lload hx hb dL_law_1533 (lv_at hl 0 rfl) ?_
      refine am_lcmp_eq (tgt := 1541) hx hb dL_law_1535 dL_law_1536 (by decide) (fun hc12 => ?_) (fun hc12 => ?_)
      · have hF := am_pos hc12 hF
        refine lv_goto (tgt := 3310) hx hb dL_law_1541 (by decide) ?_
        cases hF
        exact W.widen (by omega) (by omega) (kk ab H locs ls hh (lv_sub hl [2, 3, 4, 5, 6, 7] rfl))
      · have hF := am_neg hc12 hF
        refine lv_iconst (v := (0 : Int32)) hx hb dL_law_1539 (by decide) ?_
        cases hF
  · have hF := am_neg hc9 hF
    refine lv_iconst (v := (0 : Int32)) hx hb dL_law_1523 (by decide) ?_
    cases hF
set_option maxHeartbeats 4000000 in
set_option maxRecDepth 100000 in
theorem c_law_1544 (l : Launch) (hst : l.stackTraces = false) {G : GG} {p : Program} {e : Env} {s : State} {m : MethodId} {args : Array Value} {below : List Frame} {meth : Method} {c : Code} {b L cells slots ab : Nat} {xs : Nat → Int32} {H : Heap} {locs : List Loc} {ls : Array Slot} {w w1 : Wd} {i x1 x2 x3 : Int32} {Q : State → Prop} (X : CX G p s m args meth c cL_law 9 RL wsL_law) (hX : va_X b L xs s s.heap) (hbl : b < s.heap.size) (hbA : ¬ gA G b) (hh : AH G s.heap w ab H locs) (h1 : vp_in (i + 1) L ∧ xs (i + 1).toNatClampNeg = x1) (h2 : vp_in (i + 2) L ∧ xs (i + 2).toNatClampNeg = x2) (h3 : vp_in (i + 3) L ∧ xs (i + 3).toNatClampNeg = x3) (hc : cells + 35 ≤ 603072) (hs : slots + 2182 ≤ 7194730) (hl : lv_has ls 9 [(0, .ref b), (1, .ref (gAd G 0)), (2, .ref (gAd G 141)), (3, .ref (gAd G 151)), (4, .ref (gAd G 152)), (5, .int i)]) (hF : f_law_1544 w x1 x2 x3 = some w1) (kk : ∀ (ab : Nat) (H : Heap) (locs : List Loc) (ls : Array Slot), AH G s.heap w1 ab H locs → lv_has ls 9 [(0, .ref b), (1, .ref (gAd G 0)), (2, .ref (gAd G 141)), (3, .ref (gAd G 151)), (4, .ref (gAd G 152)), (5, .int i)] → W p l e room_1 s m args below meth c H locs (cells + 35) (slots + 2182) Q (F0 m 3310 ls [])) : W p l e room_1 s m args below meth c H locs cells slots Q (F0 m 1544 ls []) := by
  have hx := X.1.1; have hb := X.1.2.1; have hml := X.1.2.2.1; have hown := X.1.2.2.2.1; have hts := X.1.2.2.2.2
  unfold f_law_1544 at hF
  refine lv_aload_n hx hb dL_law_1544 rfl (lv_at hl 1 rfl) ?_
  refine lv_aload_n hx hb dL_law_1545 rfl (lv_at hl 0 rfl) ?_
  refine lv_iload hx hb dL_law_1546 (lv_at hl 5 rfl) ?_
  refine lv_iconst (v := (1 : Int32)) hx hb dL_law_1548 (by decide) ?_
  refine lv_iadd hx hb dL_law_1549 ?_
  refine am_sld hx hb hX hbl hbA hh.2.2 h1 dL_law_1550 ?_
  refine lv_aload hx hb dL_law_1551 (lv_at hl 4 rfl) ?_
  obtain ⟨⟨r2, w3⟩, hk1, hF⟩ := am_bind hF
  have hF := am_u2 hF
  refine am_callW X hh (vx_runSX (As := [.ref (gAd G 0), .int x1, .ref (gAd G 152)]) (rest := []) X.1 (c_L_anglePart l G hst hk1) (vx_cwSW 3 hts gL_law_L_anglePart rfl rfl rfl (by decide +kernel) ⟨Nat.le_of_ble_eq_true rfl, Nat.le_of_ble_eq_true rfl⟩) (am_preS X hh) rfl rfl hl.1 rfl (lv_room (Nat.le_of_ble_eq_true rfl)) dL_law_1553 ⟨by show cells + 1 ≤ 603072; omega, by show slots + 6 ≤ 7194730; omega⟩) (fun ab H locs hh => ?_)
  refine lv_istore (lv' := [(6, .int r2), (0, .ref b), (1, .ref (gAd G 0)), (2, .ref (gAd G 141)), (3, .ref (gAd G 151)), (4, .ref (gAd G 152)), (5, .int i)]) hx hb dL_law_1556 hl (by decide) rfl (fun ls hl => ?_)
  refine lv_aload_n hx hb dL_law_1558 rfl (lv_at hl 3 rfl) ?_
  refine lv_aload_n hx hb dL_law_1559 rfl (lv_at hl 1 rfl) ?_
  refine lv_iload hx hb dL_law_1560 (lv_at hl 6 rfl) ?_
  refine lv_iconst (v := (1 : Int32)) hx hb dL_law_1562 (by decide) ?_
  refine lv_iadd hx hb dL_law_1563 ?_
  refine am_sld hx hb hX hbl hbA hh.2.2 h1 dL_law_1564 ?_
  obtain ⟨⟨r5, w6⟩, hk4, hF⟩ := am_bind hF
  have hF := am_u2 hF
  refine am_call X hh (va_runV (As := [.int x1]) (rest := []) X.1 (c_X11_anglePart l G hk4) (cwV 1 hts gL_law_X11_anglePart rfl rfl rfl (by decide +kernel) ⟨Nat.le_of_ble_eq_true rfl, Nat.le_of_ble_eq_true rfl⟩) (am_preV X hh 141 12 (by decide) rfl rfl) rfl rfl hl.1 rfl (lv_room (Nat.le_of_ble_eq_true rfl)) dL_law_1565 ⟨by show (cells + 1) + 0 ≤ 603072; omega, by show (slots + 6) + 0 ≤ 7194730; omega⟩) (fun ab H locs hh => ?_)
  refine lv_dstore (lv' := [(7, .double r5), (6, .int r2), (0, .ref b), (1, .ref (gAd G 0)), (2, .ref (gAd G 141)), (3, .ref (gAd G 151)), (4, .ref (gAd G 152)), (5, .int i)]) hx hb dL_law_1568 hl (by decide) rfl (fun ls hl => ?_)
  refine lv_aload_n hx hb dL_law_1570 rfl (lv_at hl 4 rfl) ?_
  obtain ⟨r8, hk7, hF⟩ := am_bind hF
  refine am_call X hh (va_runV (As := []) (rest := []) X.1 (c_X11_thrown l G hk7) (cwV 0 hts gL_law_X11_thrown rfl rfl rfl (by decide +kernel) ⟨Nat.le_of_ble_eq_true rfl, Nat.le_of_ble_eq_true rfl⟩) (am_preV X hh 141 12 (by decide) rfl rfl) rfl rfl hl.1 rfl (lv_room (Nat.le_of_ble_eq_true rfl)) dL_law_1571 ⟨by show (cells + 1) + 0 ≤ 603072; omega, by show (slots + 6) + 0 ≤ 7194730; omega⟩) (fun ab H locs hh => ?_)
  refine lv_iload hx hb dL_law_1574 (lv_at hl 1 rfl) ?_
  refine lv_icmp_eq (tgt := 1581) hx hb dL_law_1576 (by decide) (fun hc9 => ?_) (fun hc9 => ?_)
  · have hF := am_pos hc9 hF
    refine lv_iload hx hb dL_law_1581 (lv_at hl 1 rfl) ?_
    refine lv_if_ne (tgt := 1618) hx hb dL_law_1583 (by decide) (fun hc10 => ?_) (fun hc10 => ?_)
    · have hF := am_neg hc10 hF
      refine lv_goto (tgt := 3310) hx hb dL_law_1618 (by decide) ?_
      cases hF
      exact W.widen (by omega) (by omega) (kk ab H locs ls hh (lv_sub hl [2, 3, 4, 5, 6, 7] rfl))
    · have hF := am_pos hc10 hF
      refine lv_aload hx hb dL_law_1586 (lv_at hl 6 rfl) ?_
      refine lv_iconst (v := (0 : Int32)) hx hb dL_law_1588 (by decide) ?_
      obtain ⟨hq11, hF⟩ := am_ifR hF
      refine am_dald X hh 152 (by decide) rfl hq11 dL_law_1589 ?_
      refine lv_dload hx hb dL_law_1590 (lv_at hl 0 rfl) ?_
      refine lv_dcmp hx hb dL_law_1592 ?_
      refine lv_if_eq (tgt := 1618) hx hb dL_law_1593 (by decide) (fun hc12 => ?_) (fun hc12 => ?_)
      · have hF := am_pos hc12 hF
        refine lv_goto (tgt := 3310) hx hb dL_law_1618 (by decide) ?_
        cases hF
        exact W.widen (by omega) (by omega) (kk ab H locs ls hh (lv_sub hl [2, 3, 4, 5, 6, 7] rfl))
      · have hF := am_neg hc12 hF
        refine lv_aload hx hb dL_law_1596 (lv_at hl 6 rfl) ?_
        refine lv_iconst (v := (0 : Int32)) hx hb dL_law_1598 (by decide) ?_
        obtain ⟨hq13, hF⟩ := am_ifR hF
        refine am_dald X hh 152 (by decide) rfl hq13 dL_law_1599 ?_
        refine lv_aload hx hb dL_law_1600 (lv_at hl 6 rfl) ?_
        refine lv_iconst (v := (0 : Int32)) hx hb dL_law_1602 (by decide) ?_
        obtain ⟨hq14, hF⟩ := am_ifR hF
        refine am_dald X hh 152 (by decide) rfl hq14 dL_law_1603 ?_
        refine lv_dcmp hx hb dL_law_1604 ?_
        refine lv_if_eq (tgt := 1616) hx hb dL_law_1605 (by decide) (fun hc15 => ?_) (fun hc15 => ?_)
        · have hF := am_pos hc15 hF
          refine lv_iconst (v := (0 : Int32)) hx hb dL_law_1616 (by decide) ?_
          cases hF
        · have hF := am_neg hc15 hF
          refine lv_dload hx hb dL_law_1608 (lv_at hl 0 rfl) ?_
          refine lv_dload hx hb dL_law_1610 (lv_at hl 0 rfl) ?_
          refine lv_dcmp hx hb dL_law_1612 ?_
          refine lv_if_ne (tgt := 1618) hx hb dL_law_1613 (by decide) (fun hc16 => ?_) (fun hc16 => ?_)
          · have hF := am_neg hc16 hF
            refine lv_goto (tgt := 3310) hx hb dL_law_1618 (by decide) ?_
            cases hF
            exact W.widen (by omega) (by omega) (kk ab H locs ls hh (lv_sub hl [2, 3, 4, 5, 6, 7] rfl))
          · have hF := am_pos hc16 hF
            refine lv_iconst (v := (0 : Int32)) hx hb dL_law_1616 (by decide) ?_
            cases hF
  · have hF := am_neg hc9 hF
    refine lv_iconst (v := (0 : Int32)) hx hb dL_law_1579 (by decide) ?_
    cases hF
set_option maxHeartbeats 4000000 in
set_option maxRecDepth 100000 in
theorem c_law_1621 (l : Launch) (hst : l.stackTraces = false) {G : GG} {p : Program} {e : Env} {s : State} {m : MethodId} {args : Array Value} {below : List Frame} {meth : Method} {c : Code} {b L cells slots ab : Nat} {xs : Nat → Int32} {H : Heap} {locs : List Loc} {ls : Array Slot} {w w1 : Wd} {i x1 x2 x3 : Int32} {Q : State → Prop} (X : CX G p s m args meth c cL_law 9 RL wsL_law) (hX : va_X b L xs s s.heap) (hbl : b < s.heap.size) (hbA : ¬ gA G b) (hh : AH G s.heap w ab H locs) (h1 : vp_in (i + 1) L ∧ xs (i + 1).toNatClampNeg = x1) (h2 : vp_in (i + 2) L ∧ xs (i + 2).toNatClampNeg = x2) (h3 : vp_in (i + 3) L ∧ xs (i + 3).toNatClampNeg = x3) (hc : cells + 35 ≤ 603072) (hs : slots + 2182 ≤ 7194730) (hl : lv_has ls 9 [(0, .ref b), (1, .ref (gAd G 0)), (2, .ref (gAd G 141)), (3, .ref (gAd G 151)), (4, .ref (gAd G 152)), (5, .int i)]) (hF : f_law_1621 w x1 x2 x3 = some w1) (kk : ∀ (ab : Nat) (H : Heap) (locs : List Loc) (ls : Array Slot), AH G s.heap w1 ab H locs → lv_has ls 9 [(0, .ref b), (1, .ref (gAd G 0)), (2, .ref (gAd G 141)), (3, .ref (gAd G 151)), (4, .ref (gAd G 152)), (5, .int i)] → W p l e room_1 s m args below meth c H locs (cells + 35) (slots + 2182) Q (F0 m 3310 ls [])) : W p l e room_1 s m args below meth c H locs cells slots Q (F0 m 1621 ls []) := by
  have hx := X.1.1; have hb := X.1.2.1; have hml := X.1.2.2.1; have hown := X.1.2.2.2.1; have hts := X.1.2.2.2.2
  unfold f_law_1621 at hF
  refine lv_aload_n hx hb dL_law_1621 rfl (lv_at hl 1 rfl) ?_
  refine lv_aload_n hx hb dL_law_1622 rfl (lv_at hl 0 rfl) ?_
  refine lv_iload hx hb dL_law_1623 (lv_at hl 5 rfl) ?_
  refine lv_iconst (v := (1 : Int32)) hx hb dL_law_1625 (by decide) ?_
  refine lv_iadd hx hb dL_law_1626 ?_
  refine am_sld hx hb hX hbl hbA hh.2.2 h1 dL_law_1627 ?_
  refine lv_aload_n hx hb dL_law_1628 rfl (lv_at hl 3 rfl) ?_
  obtain ⟨⟨r2, w3⟩, hk1, hF⟩ := am_bind hF
  have hF := am_u2 hF
  refine am_callW X hh (vx_runSX (As := [.ref (gAd G 0), .int x1, .ref (gAd G 151)]) (rest := []) X.1 (c_L_tension l G hst hk1) (vx_cwSW 3 hts gL_law_L_tension rfl rfl rfl (by decide +kernel) ⟨Nat.le_of_ble_eq_true rfl, Nat.le_of_ble_eq_true rfl⟩) (am_preS X hh) rfl rfl hl.1 rfl (lv_room (Nat.le_of_ble_eq_true rfl)) dL_law_1629 ⟨by show cells + 2 ≤ 603072; omega, by show slots + 12 ≤ 7194730; omega⟩) (fun ab H locs hh => ?_)
  refine lv_istore (lv' := [(6, .int r2), (0, .ref b), (1, .ref (gAd G 0)), (2, .ref (gAd G 141)), (3, .ref (gAd G 151)), (4, .ref (gAd G 152)), (5, .int i)]) hx hb dL_law_1632 hl (by decide) rfl (fun ls hl => ?_)
  refine lv_aload_n hx hb dL_law_1634 rfl (lv_at hl 3 rfl) ?_
  refine lv_aload_n hx hb dL_law_1635 rfl (lv_at hl 1 rfl) ?_
  refine lv_iload hx hb dL_law_1636 (lv_at hl 6 rfl) ?_
  refine lv_iconst (v := (1 : Int32)) hx hb dL_law_1638 (by decide) ?_
  refine lv_iadd hx hb dL_law_1639 ?_
  refine am_sld hx hb hX hbl hbA hh.2.2 h1 dL_law_1640 ?_
  obtain ⟨⟨r5, w6⟩, hk4, hF⟩ := am_bind hF
  have hF := am_u2 hF
  refine am_call X hh (va_runV (As := [.int x1]) (rest := []) X.1 (c_X11_tension l G hk4) (cwV 1 hts gL_law_X11_tension rfl rfl rfl (by decide +kernel) ⟨Nat.le_of_ble_eq_true rfl, Nat.le_of_ble_eq_true rfl⟩) (am_preV X hh 141 12 (by decide) rfl rfl) rfl rfl hl.1 rfl (lv_room (Nat.le_of_ble_eq_true rfl)) dL_law_1641 ⟨by show (cells + 2) + 0 ≤ 603072; omega, by show (slots + 12) + 0 ≤ 7194730; omega⟩) (fun ab H locs hh => ?_)
  refine lv_istore (lv' := [(7, .int r5), (6, .int r2), (0, .ref b), (1, .ref (gAd G 0)), (2, .ref (gAd G 141)), (3, .ref (gAd G 151)), (4, .ref (gAd G 152)), (5, .int i)]) hx hb dL_law_1644 hl (by decide) rfl (fun ls hl => ?_)
  refine lv_aload_n hx hb dL_law_1646 rfl (lv_at hl 4 rfl) ?_
  obtain ⟨r8, hk7, hF⟩ := am_bind hF
  refine am_call X hh (va_runV (As := []) (rest := []) X.1 (c_X11_thrown l G hk7) (cwV 0 hts gL_law_X11_thrown rfl rfl rfl (by decide +kernel) ⟨Nat.le_of_ble_eq_true rfl, Nat.le_of_ble_eq_true rfl⟩) (am_preV X hh 141 12 (by decide) rfl rfl) rfl rfl hl.1 rfl (lv_room (Nat.le_of_ble_eq_true rfl)) dL_law_1647 ⟨by show (cells + 2) + 0 ≤ 603072; omega, by show (slots + 12) + 0 ≤ 7194730; omega⟩) (fun ab H locs hh => ?_)
  refine lv_iload hx hb dL_law_1650 (lv_at hl 1 rfl) ?_
  refine lv_icmp_eq (tgt := 1657) hx hb dL_law_1652 (by decide) (fun hc9 => ?_) (fun hc9 => ?_)
  · have hF := am_pos hc9 hF
    refine lv_iload hx hb dL_law_1657 (lv_at hl 1 rfl) ?_
    refine lv_if_ne (tgt := 1674) hx hb dL_law_1659 (by decide) (fun hc10 => ?_) (fun hc10 => ?_)
    · have hF := am_neg hc10 hF
      refine lv_goto (tgt := 3310) hx hb dL_law_1674 (by decide) ?_
      cases hF
      exact W.widen (by omega) (by omega) (kk ab H locs ls hh (lv_sub hl [2, 3, 4, 5, 6, 7] rfl))
    · have hF := am_pos hc10 hF
      refine lv_aload_n hx hb dL_law_1662 rfl (lv_at hl 5 rfl) ?_
      refine lv_iconst (v := (0 : Int32)) hx hb dL_law_1663 (by decide) ?_
      obtain ⟨hq11, hF⟩ := am_ifR hF
      refine am_lald X hh 151 (by decide) rfl hq11 dL_law_1664 ?_
      refine lv_iload hx hb dL_law_1665 (lv_at hl 0 rfl) ?_
      refine lv_i2l hx hb dL_law_1667 rfl ?_
      refine am_lcmp_eq (tgt := 1674) hx hb dL_law_1668 dL_law_1669 (by decide) (fun hc12 => ?_) (fun hc12 => ?_)
      · have hF := am_pos hc12 hF
        refine lv_goto (tgt := 3310) hx hb dL_law_1674 (by decide) ?_
        cases hF
        exact W.widen (by omega) (by omega) (kk ab H locs ls hh (lv_sub hl [2, 3, 4, 5, 6, 7] rfl))
      · have hF := am_neg hc12 hF
        refine lv_iconst (v := (0 : Int32)) hx hb dL_law_1672 (by decide) ?_
        cases hF
  · have hF := am_neg hc9 hF
    refine lv_iconst (v := (0 : Int32)) hx hb dL_law_1655 (by decide) ?_
    cases hF
set_option maxHeartbeats 4000000 in
set_option maxRecDepth 100000 in
theorem c_law_1677 (l : Launch) (hst : l.stackTraces = false) {G : GG} {p : Program} {e : Env} {s : State} {m : MethodId} {args : Array Value} {below : List Frame} {meth : Method} {c : Code} {b L cells slots ab : Nat} {xs : Nat → Int32} {H : Heap} {locs : List Loc} {ls : Array Slot} {w w1 : Wd} {i x1 x2 x3 : Int32} {Q : State → Prop} (X : CX G p s m args meth c cL_law 9 RL wsL_law) (hX : va_X b L xs s s.heap) (hbl : b < s.heap.size) (hbA : ¬ gA G b) (hh : AH G s.heap w ab H locs) (h1 : vp_in (i + 1) L ∧ xs (i + 1).toNatClampNeg = x1) (h2 : vp_in (i + 2) L ∧ xs (i + 2).toNatClampNeg = x2) (h3 : vp_in (i + 3) L ∧ xs (i + 3).toNatClampNeg = x3) (hc : cells + 35 ≤ 603072) (hs : slots + 2182 ≤ 7194730) (hl : lv_has ls 9 [(0, .ref b), (1, .ref (gAd G 0)), (2, .ref (gAd G 141)), (3, .ref (gAd G 151)), (4, .ref (gAd G 152)), (5, .int i)]) (hF : f_law_1677 w x1 x2 x3 = some w1) (kk : ∀ (ab : Nat) (H : Heap) (locs : List Loc) (ls : Array Slot), AH G s.heap w1 ab H locs → lv_has ls 9 [(0, .ref b), (1, .ref (gAd G 0)), (2, .ref (gAd G 141)), (3, .ref (gAd G 151)), (4, .ref (gAd G 152)), (5, .int i)] → W p l e room_1 s m args below meth c H locs (cells + 35) (slots + 2182) Q (F0 m 3310 ls [])) : W p l e room_1 s m args below meth c H locs cells slots Q (F0 m 1677 ls []) := by
  have hx := X.1.1; have hb := X.1.2.1; have hml := X.1.2.2.1; have hown := X.1.2.2.2.1; have hts := X.1.2.2.2.2
  unfold f_law_1677 at hF
  refine lv_aload_n hx hb dL_law_1677 rfl (lv_at hl 1 rfl) ?_
  refine lv_aload_n hx hb dL_law_1678 rfl (lv_at hl 0 rfl) ?_
  refine lv_iload hx hb dL_law_1679 (lv_at hl 5 rfl) ?_
  refine lv_iconst (v := (1 : Int32)) hx hb dL_law_1681 (by decide) ?_
  refine lv_iadd hx hb dL_law_1682 ?_
  refine am_sld hx hb hX hbl hbA hh.2.2 h1 dL_law_1683 ?_
  refine lv_aload_n hx hb dL_law_1684 rfl (lv_at hl 3 rfl) ?_
  obtain ⟨⟨r2, w3⟩, hk1, hF⟩ := am_bind hF
  have hF := am_u2 hF
  refine am_callW X hh (vx_runSX (As := [.ref (gAd G 0), .int x1, .ref (gAd G 151)]) (rest := []) X.1 (c_L_springSize l G hst hk1) (vx_cwSW 3 hts gL_law_L_springSize rfl rfl rfl (by decide +kernel) ⟨Nat.le_of_ble_eq_true rfl, Nat.le_of_ble_eq_true rfl⟩) (am_preS X hh) rfl rfl hl.1 rfl (lv_room (Nat.le_of_ble_eq_true rfl)) dL_law_1685 ⟨by show cells + 2 ≤ 603072; omega, by show slots + 12 ≤ 7194730; omega⟩) (fun ab H locs hh => ?_)
  refine lv_istore (lv' := [(6, .int r2), (0, .ref b), (1, .ref (gAd G 0)), (2, .ref (gAd G 141)), (3, .ref (gAd G 151)), (4, .ref (gAd G 152)), (5, .int i)]) hx hb dL_law_1688 hl (by decide) rfl (fun ls hl => ?_)
  refine lv_aload_n hx hb dL_law_1690 rfl (lv_at hl 3 rfl) ?_
  refine lv_aload_n hx hb dL_law_1691 rfl (lv_at hl 1 rfl) ?_
  refine lv_iload hx hb dL_law_1692 (lv_at hl 6 rfl) ?_
  refine lv_iconst (v := (1 : Int32)) hx hb dL_law_1694 (by decide) ?_
  refine lv_iadd hx hb dL_law_1695 ?_
  refine am_sld hx hb hX hbl hbA hh.2.2 h1 dL_law_1696 ?_
  obtain ⟨⟨r5, w6⟩, hk4, hF⟩ := am_bind hF
  have hF := am_u2 hF
  refine am_call X hh (va_runV (As := [.int x1]) (rest := []) X.1 (c_X11_springSize l G hk4) (cwV 1 hts gL_law_X11_springSize rfl rfl rfl (by decide +kernel) ⟨Nat.le_of_ble_eq_true rfl, Nat.le_of_ble_eq_true rfl⟩) (am_preV X hh 141 12 (by decide) rfl rfl) rfl rfl hl.1 rfl (lv_room (Nat.le_of_ble_eq_true rfl)) dL_law_1697 ⟨by show (cells + 2) + 0 ≤ 603072; omega, by show (slots + 12) + 0 ≤ 7194730; omega⟩) (fun ab H locs hh => ?_)
  refine lv_istore (lv' := [(7, .int r5), (6, .int r2), (0, .ref b), (1, .ref (gAd G 0)), (2, .ref (gAd G 141)), (3, .ref (gAd G 151)), (4, .ref (gAd G 152)), (5, .int i)]) hx hb dL_law_1700 hl (by decide) rfl (fun ls hl => ?_)
  refine lv_aload_n hx hb dL_law_1702 rfl (lv_at hl 4 rfl) ?_
  obtain ⟨r8, hk7, hF⟩ := am_bind hF
  refine am_call X hh (va_runV (As := []) (rest := []) X.1 (c_X11_thrown l G hk7) (cwV 0 hts gL_law_X11_thrown rfl rfl rfl (by decide +kernel) ⟨Nat.le_of_ble_eq_true rfl, Nat.le_of_ble_eq_true rfl⟩) (am_preV X hh 141 12 (by decide) rfl rfl) rfl rfl hl.1 rfl (lv_room (Nat.le_of_ble_eq_true rfl)) dL_law_1703 ⟨by show (cells + 2) + 0 ≤ 603072; omega, by show (slots + 12) + 0 ≤ 7194730; omega⟩) (fun ab H locs hh => ?_)
  refine lv_iload hx hb dL_law_1706 (lv_at hl 1 rfl) ?_
  refine lv_icmp_eq (tgt := 1713) hx hb dL_law_1708 (by decide) (fun hc9 => ?_) (fun hc9 => ?_)
  · have hF := am_pos hc9 hF
    refine lv_iload hx hb dL_law_1713 (lv_at hl 1 rfl) ?_
    refine lv_if_ne (tgt := 1730) hx hb dL_law_1715 (by decide) (fun hc10 => ?_) (fun hc10 => ?_)
    · have hF := am_neg hc10 hF
      refine lv_goto (tgt := 3310) hx hb dL_law_1730 (by decide) ?_
      cases hF
      exact W.widen (by omega) (by omega) (kk ab H locs ls hh (lv_sub hl [2, 3, 4, 5, 6, 7] rfl))
    · have hF := am_pos hc10 hF
      refine lv_aload_n hx hb dL_law_1718 rfl (lv_at hl 5 rfl) ?_
      refine lv_iconst (v := (0 : Int32)) hx hb dL_law_1719 (by decide) ?_
      obtain ⟨hq11, hF⟩ := am_ifR hF
      refine am_lald X hh 151 (by decide) rfl hq11 dL_law_1720 ?_
      refine lv_iload hx hb dL_law_1721 (lv_at hl 0 rfl) ?_
      refine lv_i2l hx hb dL_law_1723 rfl ?_
      refine am_lcmp_eq (tgt := 1730) hx hb dL_law_1724 dL_law_1725 (by decide) (fun hc12 => ?_) (fun hc12 => ?_)
      · have hF := am_pos hc12 hF
        refine lv_goto (tgt := 3310) hx hb dL_law_1730 (by decide) ?_
        cases hF
        exact W.widen (by omega) (by omega) (kk ab H locs ls hh (lv_sub hl [2, 3, 4, 5, 6, 7] rfl))
      · have hF := am_neg hc12 hF
        refine lv_iconst (v := (0 : Int32)) hx hb dL_law_1728 (by decide) ?_
        cases hF
  · have hF := am_neg hc9 hF
    refine lv_iconst (v := (0 : Int32)) hx hb dL_law_1711 (by decide) ?_
    cases hF
set_option maxHeartbeats 4000000 in
set_option maxRecDepth 100000 in
theorem c_law_1733 (l : Launch) (hst : l.stackTraces = false) {G : GG} {p : Program} {e : Env} {s : State} {m : MethodId} {args : Array Value} {below : List Frame} {meth : Method} {c : Code} {b L cells slots ab : Nat} {xs : Nat → Int32} {H : Heap} {locs : List Loc} {ls : Array Slot} {w w1 : Wd} {i x1 x2 x3 : Int32} {Q : State → Prop} (X : CX G p s m args meth c cL_law 9 RL wsL_law) (hX : va_X b L xs s s.heap) (hbl : b < s.heap.size) (hbA : ¬ gA G b) (hh : AH G s.heap w ab H locs) (h1 : vp_in (i + 1) L ∧ xs (i + 1).toNatClampNeg = x1) (h2 : vp_in (i + 2) L ∧ xs (i + 2).toNatClampNeg = x2) (h3 : vp_in (i + 3) L ∧ xs (i + 3).toNatClampNeg = x3) (hc : cells + 35 ≤ 603072) (hs : slots + 2182 ≤ 7194730) (hl : lv_has ls 9 [(0, .ref b), (1, .ref (gAd G 0)), (2, .ref (gAd G 141)), (3, .ref (gAd G 151)), (4, .ref (gAd G 152)), (5, .int i)]) (hF : f_law_1733 w x1 x2 x3 = some w1) (kk : ∀ (ab : Nat) (H : Heap) (locs : List Loc) (ls : Array Slot), AH G s.heap w1 ab H locs → lv_has ls 9 [(0, .ref b), (1, .ref (gAd G 0)), (2, .ref (gAd G 141)), (3, .ref (gAd G 151)), (4, .ref (gAd G 152)), (5, .int i)] → W p l e room_1 s m args below meth c H locs (cells + 35) (slots + 2182) Q (F0 m 3310 ls [])) : W p l e room_1 s m args below meth c H locs cells slots Q (F0 m 1733 ls []) := by
  have hx := X.1.1; have hb := X.1.2.1; have hml := X.1.2.2.1; have hown := X.1.2.2.2.1; have hts := X.1.2.2.2.2
  unfold f_law_1733 at hF
  refine lv_aload_n hx hb dL_law_1733 rfl (lv_at hl 1 rfl) ?_
  refine lv_aload_n hx hb dL_law_1734 rfl (lv_at hl 0 rfl) ?_
  refine lv_iload hx hb dL_law_1735 (lv_at hl 5 rfl) ?_
  refine lv_iconst (v := (1 : Int32)) hx hb dL_law_1737 (by decide) ?_
  refine lv_iadd hx hb dL_law_1738 ?_
  refine am_sld hx hb hX hbl hbA hh.2.2 h1 dL_law_1739 ?_
  refine lv_aload_n hx hb dL_law_1740 rfl (lv_at hl 3 rfl) ?_
  obtain ⟨⟨r2, w3⟩, hk1, hF⟩ := am_bind hF
  have hF := am_u2 hF
  refine am_callW X hh (vx_runSX (As := [.ref (gAd G 0), .int x1, .ref (gAd G 151)]) (rest := []) X.1 (c_L_springOf l G hst hk1) (vx_cwSW 3 hts gL_law_L_springOf rfl rfl rfl (by decide +kernel) ⟨Nat.le_of_ble_eq_true rfl, Nat.le_of_ble_eq_true rfl⟩) (am_preS X hh) rfl rfl hl.1 rfl (lv_room (Nat.le_of_ble_eq_true rfl)) dL_law_1741 ⟨by show cells + 2 ≤ 603072; omega, by show slots + 12 ≤ 7194730; omega⟩) (fun ab H locs hh => ?_)
  refine lv_istore (lv' := [(6, .int r2), (0, .ref b), (1, .ref (gAd G 0)), (2, .ref (gAd G 141)), (3, .ref (gAd G 151)), (4, .ref (gAd G 152)), (5, .int i)]) hx hb dL_law_1744 hl (by decide) rfl (fun ls hl => ?_)
  refine lv_aload_n hx hb dL_law_1746 rfl (lv_at hl 3 rfl) ?_
  refine lv_aload_n hx hb dL_law_1747 rfl (lv_at hl 1 rfl) ?_
  refine lv_iload hx hb dL_law_1748 (lv_at hl 6 rfl) ?_
  refine lv_iconst (v := (1 : Int32)) hx hb dL_law_1750 (by decide) ?_
  refine lv_iadd hx hb dL_law_1751 ?_
  refine am_sld hx hb hX hbl hbA hh.2.2 h1 dL_law_1752 ?_
  obtain ⟨⟨r5, w6⟩, hk4, hF⟩ := am_bind hF
  have hF := am_u2 hF
  refine am_call X hh (va_runV (As := [.int x1]) (rest := []) X.1 (c_X11_springOf l G hk4) (cwV 1 hts gL_law_X11_springOf rfl rfl rfl (by decide +kernel) ⟨Nat.le_of_ble_eq_true rfl, Nat.le_of_ble_eq_true rfl⟩) (am_preV X hh 141 12 (by decide) rfl rfl) rfl rfl hl.1 rfl (lv_room (Nat.le_of_ble_eq_true rfl)) dL_law_1753 ⟨by show (cells + 2) + 0 ≤ 603072; omega, by show (slots + 12) + 0 ≤ 7194730; omega⟩) (fun ab H locs hh => ?_)
  refine lv_istore (lv' := [(7, .int r5), (6, .int r2), (0, .ref b), (1, .ref (gAd G 0)), (2, .ref (gAd G 141)), (3, .ref (gAd G 151)), (4, .ref (gAd G 152)), (5, .int i)]) hx hb dL_law_1756 hl (by decide) rfl (fun ls hl => ?_)
  refine lv_aload_n hx hb dL_law_1758 rfl (lv_at hl 4 rfl) ?_
  obtain ⟨r8, hk7, hF⟩ := am_bind hF
  refine am_call X hh (va_runV (As := []) (rest := []) X.1 (c_X11_thrown l G hk7) (cwV 0 hts gL_law_X11_thrown rfl rfl rfl (by decide +kernel) ⟨Nat.le_of_ble_eq_true rfl, Nat.le_of_ble_eq_true rfl⟩) (am_preV X hh 141 12 (by decide) rfl rfl) rfl rfl hl.1 rfl (lv_room (Nat.le_of_ble_eq_true rfl)) dL_law_1759 ⟨by show (cells + 2) + 0 ≤ 603072; omega, by show (slots + 12) + 0 ≤ 7194730; omega⟩) (fun ab H locs hh => ?_)
  refine lv_iload hx hb dL_law_1762 (lv_at hl 1 rfl) ?_
  refine lv_icmp_eq (tgt := 1769) hx hb dL_law_1764 (by decide) (fun hc9 => ?_) (fun hc9 => ?_)
  · have hF := am_pos hc9 hF
    refine lv_iload hx hb dL_law_1769 (lv_at hl 1 rfl) ?_
    refine lv_if_ne (tgt := 1786) hx hb dL_law_1771 (by decide) (fun hc10 => ?_) (fun hc10 => ?_)
    · have hF := am_neg hc10 hF
      refine lv_goto (tgt := 3310) hx hb dL_law_1786 (by decide) ?_
      cases hF
      exact W.widen (by omega) (by omega) (kk ab H locs ls hh (lv_sub hl [2, 3, 4, 5, 6, 7] rfl))
    · have hF := am_pos hc10 hF
      refine lv_aload_n hx hb dL_law_1774 rfl (lv_at hl 5 rfl) ?_
      refine lv_iconst (v := (0 : Int32)) hx hb dL_law_1775 (by decide) ?_
      obtain ⟨hq11, hF⟩ := am_ifR hF
      refine am_lald X hh 151 (by decide) rfl hq11 dL_law_1776 ?_
      refine lv_iload hx hb dL_law_1777 (lv_at hl 0 rfl) ?_
      refine lv_i2l hx hb dL_law_1779 rfl ?_
      refine am_lcmp_eq (tgt := 1786) hx hb dL_law_1780 dL_law_1781 (by decide) (fun hc12 => ?_) (fun hc12 => ?_)
      · have hF := am_pos hc12 hF
        refine lv_goto (tgt := 3310) hx hb dL_law_1786 (by decide) ?_
        cases hF
        exact W.widen (by omega) (by omega) (kk ab H locs ls hh (lv_sub hl [2, 3, 4, 5, 6, 7] rfl))
      · have hF := am_neg hc12 hF
        refine lv_iconst (v := (0 : Int32)) hx hb dL_law_1784 (by decide) ?_
        cases hF
  · have hF := am_neg hc9 hF
    refine lv_iconst (v := (0 : Int32)) hx hb dL_law_1767 (by decide) ?_
    cases hF
set_option maxHeartbeats 4000000 in
set_option maxRecDepth 100000 in
theorem c_law_1789 (l : Launch) (hst : l.stackTraces = false) {G : GG} {p : Program} {e : Env} {s : State} {m : MethodId} {args : Array Value} {below : List Frame} {meth : Method} {c : Code} {b L cells slots ab : Nat} {xs : Nat → Int32} {H : Heap} {locs : List Loc} {ls : Array Slot} {w w1 : Wd} {i x1 x2 x3 : Int32} {Q : State → Prop} (X : CX G p s m args meth c cL_law 9 RL wsL_law) (hX : va_X b L xs s s.heap) (hbl : b < s.heap.size) (hbA : ¬ gA G b) (hh : AH G s.heap w ab H locs) (h1 : vp_in (i + 1) L ∧ xs (i + 1).toNatClampNeg = x1) (h2 : vp_in (i + 2) L ∧ xs (i + 2).toNatClampNeg = x2) (h3 : vp_in (i + 3) L ∧ xs (i + 3).toNatClampNeg = x3) (hc : cells + 35 ≤ 603072) (hs : slots + 2182 ≤ 7194730) (hl : lv_has ls 9 [(0, .ref b), (1, .ref (gAd G 0)), (2, .ref (gAd G 141)), (3, .ref (gAd G 151)), (4, .ref (gAd G 152)), (5, .int i)]) (hF : f_law_1789 w x1 x2 x3 = some w1) (kk : ∀ (ab : Nat) (H : Heap) (locs : List Loc) (ls : Array Slot), AH G s.heap w1 ab H locs → lv_has ls 9 [(0, .ref b), (1, .ref (gAd G 0)), (2, .ref (gAd G 141)), (3, .ref (gAd G 151)), (4, .ref (gAd G 152)), (5, .int i)] → W p l e room_1 s m args below meth c H locs (cells + 35) (slots + 2182) Q (F0 m 3310 ls [])) : W p l e room_1 s m args below meth c H locs cells slots Q (F0 m 1789 ls []) := by
  have hx := X.1.1; have hb := X.1.2.1; have hml := X.1.2.2.1; have hown := X.1.2.2.2.1; have hts := X.1.2.2.2.2
  unfold f_law_1789 at hF
  refine lv_aload_n hx hb dL_law_1789 rfl (lv_at hl 1 rfl) ?_
  refine lv_aload_n hx hb dL_law_1790 rfl (lv_at hl 0 rfl) ?_
  refine lv_iload hx hb dL_law_1791 (lv_at hl 5 rfl) ?_
  refine lv_iconst (v := (1 : Int32)) hx hb dL_law_1793 (by decide) ?_
  refine lv_iadd hx hb dL_law_1794 ?_
  refine am_sld hx hb hX hbl hbA hh.2.2 h1 dL_law_1795 ?_
  refine lv_aload_n hx hb dL_law_1796 rfl (lv_at hl 3 rfl) ?_
  obtain ⟨⟨r2, w3⟩, hk1, hF⟩ := am_bind hF
  have hF := am_u2 hF
  refine am_callW X hh (vx_runSX (As := [.ref (gAd G 0), .int x1, .ref (gAd G 151)]) (rest := []) X.1 (c_L_friction l G hst hk1) (vx_cwSW 3 hts gL_law_L_friction rfl rfl rfl (by decide +kernel) ⟨Nat.le_of_ble_eq_true rfl, Nat.le_of_ble_eq_true rfl⟩) (am_preS X hh) rfl rfl hl.1 rfl (lv_room (Nat.le_of_ble_eq_true rfl)) dL_law_1797 ⟨by show cells + 1 ≤ 603072; omega, by show slots + 6 ≤ 7194730; omega⟩) (fun ab H locs hh => ?_)
  refine lv_istore (lv' := [(6, .int r2), (0, .ref b), (1, .ref (gAd G 0)), (2, .ref (gAd G 141)), (3, .ref (gAd G 151)), (4, .ref (gAd G 152)), (5, .int i)]) hx hb dL_law_1800 hl (by decide) rfl (fun ls hl => ?_)
  refine lv_aload_n hx hb dL_law_1802 rfl (lv_at hl 3 rfl) ?_
  refine lv_aload_n hx hb dL_law_1803 rfl (lv_at hl 1 rfl) ?_
  refine lv_iload hx hb dL_law_1804 (lv_at hl 6 rfl) ?_
  refine lv_iconst (v := (1 : Int32)) hx hb dL_law_1806 (by decide) ?_
  refine lv_iadd hx hb dL_law_1807 ?_
  refine am_sld hx hb hX hbl hbA hh.2.2 h1 dL_law_1808 ?_
  obtain ⟨⟨r5, w6⟩, hk4, hF⟩ := am_bind hF
  have hF := am_u2 hF
  refine am_call X hh (va_runV (As := [.int x1]) (rest := []) X.1 (c_X11_friction l G hk4) (cwV 1 hts gL_law_X11_friction rfl rfl rfl (by decide +kernel) ⟨Nat.le_of_ble_eq_true rfl, Nat.le_of_ble_eq_true rfl⟩) (am_preV X hh 141 12 (by decide) rfl rfl) rfl rfl hl.1 rfl (lv_room (Nat.le_of_ble_eq_true rfl)) dL_law_1809 ⟨by show (cells + 1) + 0 ≤ 603072; omega, by show (slots + 6) + 0 ≤ 7194730; omega⟩) (fun ab H locs hh => ?_)
  refine lv_istore (lv' := [(7, .int r5), (6, .int r2), (0, .ref b), (1, .ref (gAd G 0)), (2, .ref (gAd G 141)), (3, .ref (gAd G 151)), (4, .ref (gAd G 152)), (5, .int i)]) hx hb dL_law_1812 hl (by decide) rfl (fun ls hl => ?_)
  refine lv_aload_n hx hb dL_law_1814 rfl (lv_at hl 4 rfl) ?_
  obtain ⟨r8, hk7, hF⟩ := am_bind hF
  refine am_call X hh (va_runV (As := []) (rest := []) X.1 (c_X11_thrown l G hk7) (cwV 0 hts gL_law_X11_thrown rfl rfl rfl (by decide +kernel) ⟨Nat.le_of_ble_eq_true rfl, Nat.le_of_ble_eq_true rfl⟩) (am_preV X hh 141 12 (by decide) rfl rfl) rfl rfl hl.1 rfl (lv_room (Nat.le_of_ble_eq_true rfl)) dL_law_1815 ⟨by show (cells + 1) + 0 ≤ 603072; omega, by show (slots + 6) + 0 ≤ 7194730; omega⟩) (fun ab H locs hh => ?_)
  refine lv_iload hx hb dL_law_1818 (lv_at hl 1 rfl) ?_
  refine lv_icmp_eq (tgt := 1825) hx hb dL_law_1820 (by decide) (fun hc9 => ?_) (fun hc9 => ?_)
  · have hF := am_pos hc9 hF
    refine lv_iload hx hb dL_law_1825 (lv_at hl 1 rfl) ?_
    refine lv_if_ne (tgt := 1842) hx hb dL_law_1827 (by decide) (fun hc10 => ?_) (fun hc10 => ?_)
    · have hF := am_neg hc10 hF
      refine lv_goto (tgt := 3310) hx hb dL_law_1842 (by decide) ?_
      cases hF
      exact W.widen (by omega) (by omega) (kk ab H locs ls hh (lv_sub hl [2, 3, 4, 5, 6, 7] rfl))
    · have hF := am_pos hc10 hF
      refine lv_aload_n hx hb dL_law_1830 rfl (lv_at hl 5 rfl) ?_
      refine lv_iconst (v := (0 : Int32)) hx hb dL_law_1831 (by decide) ?_
      obtain ⟨hq11, hF⟩ := am_ifR hF
      refine am_lald X hh 151 (by decide) rfl hq11 dL_law_1832 ?_
      refine lv_iload hx hb dL_law_1833 (lv_at hl 0 rfl) ?_
      refine lv_i2l hx hb dL_law_1835 rfl ?_
      refine am_lcmp_eq (tgt := 1842) hx hb dL_law_1836 dL_law_1837 (by decide) (fun hc12 => ?_) (fun hc12 => ?_)
      · have hF := am_pos hc12 hF
        refine lv_goto (tgt := 3310) hx hb dL_law_1842 (by decide) ?_
        cases hF
        exact W.widen (by omega) (by omega) (kk ab H locs ls hh (lv_sub hl [2, 3, 4, 5, 6, 7] rfl))
      · have hF := am_neg hc12 hF
        refine lv_iconst (v := (0 : Int32)) hx hb dL_law_1840 (by decide) ?_
        cases hF
  · have hF := am_neg hc9 hF
    refine lv_iconst (v := (0 : Int32)) hx hb dL_law_1823 (by decide) ?_
    cases hF
set_option maxHeartbeats 4000000 in
set_option maxRecDepth 100000 in
theorem c_law_1845 (l : Launch) (hst : l.stackTraces = false) {G : GG} {p : Program} {e : Env} {s : State} {m : MethodId} {args : Array Value} {below : List Frame} {meth : Method} {c : Code} {b L cells slots ab : Nat} {xs : Nat → Int32} {H : Heap} {locs : List Loc} {ls : Array Slot} {w w1 : Wd} {i x1 x2 x3 : Int32} {Q : State → Prop} (X : CX G p s m args meth c cL_law 9 RL wsL_law) (hX : va_X b L xs s s.heap) (hbl : b < s.heap.size) (hbA : ¬ gA G b) (hh : AH G s.heap w ab H locs) (h1 : vp_in (i + 1) L ∧ xs (i + 1).toNatClampNeg = x1) (h2 : vp_in (i + 2) L ∧ xs (i + 2).toNatClampNeg = x2) (h3 : vp_in (i + 3) L ∧ xs (i + 3).toNatClampNeg = x3) (hc : cells + 35 ≤ 603072) (hs : slots + 2182 ≤ 7194730) (hl : lv_has ls 9 [(0, .ref b), (1, .ref (gAd G 0)), (2, .ref (gAd G 141)), (3, .ref (gAd G 151)), (4, .ref (gAd G 152)), (5, .int i)]) (hF : f_law_1845 w x1 x2 x3 = some w1) (kk : ∀ (ab : Nat) (H : Heap) (locs : List Loc) (ls : Array Slot), AH G s.heap w1 ab H locs → lv_has ls 9 [(0, .ref b), (1, .ref (gAd G 0)), (2, .ref (gAd G 141)), (3, .ref (gAd G 151)), (4, .ref (gAd G 152)), (5, .int i)] → W p l e room_1 s m args below meth c H locs (cells + 35) (slots + 2182) Q (F0 m 3310 ls [])) : W p l e room_1 s m args below meth c H locs cells slots Q (F0 m 1845 ls []) := by
  have hx := X.1.1; have hb := X.1.2.1; have hml := X.1.2.2.1; have hown := X.1.2.2.2.1; have hts := X.1.2.2.2.2
  unfold f_law_1845 at hF
  refine lv_aload_n hx hb dL_law_1845 rfl (lv_at hl 1 rfl) ?_
  refine lv_aload_n hx hb dL_law_1846 rfl (lv_at hl 0 rfl) ?_
  refine lv_iload hx hb dL_law_1847 (lv_at hl 5 rfl) ?_
  refine lv_iconst (v := (1 : Int32)) hx hb dL_law_1849 (by decide) ?_
  refine lv_iadd hx hb dL_law_1850 ?_
  refine am_sld hx hb hX hbl hbA hh.2.2 h1 dL_law_1851 ?_
  refine lv_aload_n hx hb dL_law_1852 rfl (lv_at hl 3 rfl) ?_
  obtain ⟨⟨r2, w3⟩, hk1, hF⟩ := am_bind hF
  have hF := am_u2 hF
  refine am_callW X hh (vx_runSX (As := [.ref (gAd G 0), .int x1, .ref (gAd G 151)]) (rest := []) X.1 (c_L_turnsLeft l G hst hk1) (vx_cwSW 3 hts gL_law_L_turnsLeft rfl rfl rfl (by decide +kernel) ⟨Nat.le_of_ble_eq_true rfl, Nat.le_of_ble_eq_true rfl⟩) (am_preS X hh) rfl rfl hl.1 rfl (lv_room (Nat.le_of_ble_eq_true rfl)) dL_law_1853 ⟨by show cells + 2 ≤ 603072; omega, by show slots + 12 ≤ 7194730; omega⟩) (fun ab H locs hh => ?_)
  refine lv_istore (lv' := [(6, .int r2), (0, .ref b), (1, .ref (gAd G 0)), (2, .ref (gAd G 141)), (3, .ref (gAd G 151)), (4, .ref (gAd G 152)), (5, .int i)]) hx hb dL_law_1856 hl (by decide) rfl (fun ls hl => ?_)
  refine lv_aload_n hx hb dL_law_1858 rfl (lv_at hl 3 rfl) ?_
  refine lv_aload_n hx hb dL_law_1859 rfl (lv_at hl 1 rfl) ?_
  refine lv_iload hx hb dL_law_1860 (lv_at hl 6 rfl) ?_
  refine lv_iconst (v := (1 : Int32)) hx hb dL_law_1862 (by decide) ?_
  refine lv_iadd hx hb dL_law_1863 ?_
  refine am_sld hx hb hX hbl hbA hh.2.2 h1 dL_law_1864 ?_
  obtain ⟨⟨r5, w6⟩, hk4, hF⟩ := am_bind hF
  have hF := am_u2 hF
  refine am_call X hh (va_runV (As := [.int x1]) (rest := []) X.1 (c_X11_turnsLeft l G hk4) (cwV 1 hts gL_law_X11_turnsLeft rfl rfl rfl (by decide +kernel) ⟨Nat.le_of_ble_eq_true rfl, Nat.le_of_ble_eq_true rfl⟩) (am_preV X hh 141 12 (by decide) rfl rfl) rfl rfl hl.1 rfl (lv_room (Nat.le_of_ble_eq_true rfl)) dL_law_1865 ⟨by show (cells + 2) + 0 ≤ 603072; omega, by show (slots + 12) + 0 ≤ 7194730; omega⟩) (fun ab H locs hh => ?_)
  refine lv_istore (lv' := [(7, .int r5), (6, .int r2), (0, .ref b), (1, .ref (gAd G 0)), (2, .ref (gAd G 141)), (3, .ref (gAd G 151)), (4, .ref (gAd G 152)), (5, .int i)]) hx hb dL_law_1868 hl (by decide) rfl (fun ls hl => ?_)
  refine lv_aload_n hx hb dL_law_1870 rfl (lv_at hl 4 rfl) ?_
  obtain ⟨r8, hk7, hF⟩ := am_bind hF
  refine am_call X hh (va_runV (As := []) (rest := []) X.1 (c_X11_thrown l G hk7) (cwV 0 hts gL_law_X11_thrown rfl rfl rfl (by decide +kernel) ⟨Nat.le_of_ble_eq_true rfl, Nat.le_of_ble_eq_true rfl⟩) (am_preV X hh 141 12 (by decide) rfl rfl) rfl rfl hl.1 rfl (lv_room (Nat.le_of_ble_eq_true rfl)) dL_law_1871 ⟨by show (cells + 2) + 0 ≤ 603072; omega, by show (slots + 12) + 0 ≤ 7194730; omega⟩) (fun ab H locs hh => ?_)
  refine lv_iload hx hb dL_law_1874 (lv_at hl 1 rfl) ?_
  refine lv_icmp_eq (tgt := 1881) hx hb dL_law_1876 (by decide) (fun hc9 => ?_) (fun hc9 => ?_)
  · have hF := am_pos hc9 hF
    refine lv_iload hx hb dL_law_1881 (lv_at hl 1 rfl) ?_
    refine lv_if_ne (tgt := 1898) hx hb dL_law_1883 (by decide) (fun hc10 => ?_) (fun hc10 => ?_)
    · have hF := am_neg hc10 hF
      refine lv_goto (tgt := 3310) hx hb dL_law_1898 (by decide) ?_
      cases hF
      exact W.widen (by omega) (by omega) (kk ab H locs ls hh (lv_sub hl [2, 3, 4, 5, 6, 7] rfl))
    · have hF := am_pos hc10 hF
      refine lv_aload_n hx hb dL_law_1886 rfl (lv_at hl 5 rfl) ?_
      refine lv_iconst (v := (0 : Int32)) hx hb dL_law_1887 (by decide) ?_
      obtain ⟨hq11, hF⟩ := am_ifR hF
      refine am_lald X hh 151 (by decide) rfl hq11 dL_law_1888 ?_
      refine lv_iload hx hb dL_law_1889 (lv_at hl 0 rfl) ?_
      refine lv_i2l hx hb dL_law_1891 rfl ?_
      refine am_lcmp_eq (tgt := 1898) hx hb dL_law_1892 dL_law_1893 (by decide) (fun hc12 => ?_) (fun hc12 => ?_)
      · have hF := am_pos hc12 hF
        refine lv_goto (tgt := 3310) hx hb dL_law_1898 (by decide) ?_
        cases hF
        exact W.widen (by omega) (by omega) (kk ab H locs ls hh (lv_sub hl [2, 3, 4, 5, 6, 7] rfl))
      · have hF := am_neg hc12 hF
        refine lv_iconst (v := (0 : Int32)) hx hb dL_law_1896 (by decide) ?_
        cases hF
  · have hF := am_neg hc9 hF
    refine lv_iconst (v := (0 : Int32)) hx hb dL_law_1879 (by decide) ?_
    cases hF
set_option maxHeartbeats 4000000 in
set_option maxRecDepth 100000 in
theorem c_law_1901 (l : Launch) (hst : l.stackTraces = false) {G : GG} {p : Program} {e : Env} {s : State} {m : MethodId} {args : Array Value} {below : List Frame} {meth : Method} {c : Code} {b L cells slots ab : Nat} {xs : Nat → Int32} {H : Heap} {locs : List Loc} {ls : Array Slot} {w w1 : Wd} {i x1 x2 x3 : Int32} {Q : State → Prop} (X : CX G p s m args meth c cL_law 9 RL wsL_law) (hX : va_X b L xs s s.heap) (hbl : b < s.heap.size) (hbA : ¬ gA G b) (hh : AH G s.heap w ab H locs) (h1 : vp_in (i + 1) L ∧ xs (i + 1).toNatClampNeg = x1) (h2 : vp_in (i + 2) L ∧ xs (i + 2).toNatClampNeg = x2) (h3 : vp_in (i + 3) L ∧ xs (i + 3).toNatClampNeg = x3) (hc : cells + 35 ≤ 603072) (hs : slots + 2182 ≤ 7194730) (hl : lv_has ls 9 [(0, .ref b), (1, .ref (gAd G 0)), (2, .ref (gAd G 141)), (3, .ref (gAd G 151)), (4, .ref (gAd G 152)), (5, .int i)]) (hF : f_law_1901 w x1 x2 x3 = some w1) (kk : ∀ (ab : Nat) (H : Heap) (locs : List Loc) (ls : Array Slot), AH G s.heap w1 ab H locs → lv_has ls 9 [(0, .ref b), (1, .ref (gAd G 0)), (2, .ref (gAd G 141)), (3, .ref (gAd G 151)), (4, .ref (gAd G 152)), (5, .int i)] → W p l e room_1 s m args below meth c H locs (cells + 35) (slots + 2182) Q (F0 m 3310 ls [])) : W p l e room_1 s m args below meth c H locs cells slots Q (F0 m 1901 ls []) := by
  have hx := X.1.1; have hb := X.1.2.1; have hml := X.1.2.2.1; have hown := X.1.2.2.2.1; have hts := X.1.2.2.2.2
  unfold f_law_1901 at hF
  refine lv_aload_n hx hb dL_law_1901 rfl (lv_at hl 1 rfl) ?_
  refine lv_aload_n hx hb dL_law_1902 rfl (lv_at hl 0 rfl) ?_
  refine lv_iload hx hb dL_law_1903 (lv_at hl 5 rfl) ?_
  refine lv_iconst (v := (1 : Int32)) hx hb dL_law_1905 (by decide) ?_
  refine lv_iadd hx hb dL_law_1906 ?_
  refine am_sld hx hb hX hbl hbA hh.2.2 h1 dL_law_1907 ?_
  refine lv_aload_n hx hb dL_law_1908 rfl (lv_at hl 3 rfl) ?_
  obtain ⟨⟨r2, w3⟩, hk1, hF⟩ := am_bind hF
  have hF := am_u2 hF
  refine am_callW X hh (vx_runSX (As := [.ref (gAd G 0), .int x1, .ref (gAd G 151)]) (rest := []) X.1 (c_L_canRelease l G hst hk1) (vx_cwSW 3 hts gL_law_L_canRelease rfl rfl rfl (by decide +kernel) ⟨Nat.le_of_ble_eq_true rfl, Nat.le_of_ble_eq_true rfl⟩) (am_preS X hh) rfl rfl hl.1 rfl (lv_room (Nat.le_of_ble_eq_true rfl)) dL_law_1909 ⟨by show cells + 1 ≤ 603072; omega, by show slots + 6 ≤ 7194730; omega⟩) (fun ab H locs hh => ?_)
  refine lv_istore (lv' := [(6, .int r2), (0, .ref b), (1, .ref (gAd G 0)), (2, .ref (gAd G 141)), (3, .ref (gAd G 151)), (4, .ref (gAd G 152)), (5, .int i)]) hx hb dL_law_1912 hl (by decide) rfl (fun ls hl => ?_)
  refine lv_aload_n hx hb dL_law_1914 rfl (lv_at hl 3 rfl) ?_
  refine lv_aload_n hx hb dL_law_1915 rfl (lv_at hl 1 rfl) ?_
  refine lv_iload hx hb dL_law_1916 (lv_at hl 6 rfl) ?_
  refine lv_iconst (v := (1 : Int32)) hx hb dL_law_1918 (by decide) ?_
  refine lv_iadd hx hb dL_law_1919 ?_
  refine am_sld hx hb hX hbl hbA hh.2.2 h1 dL_law_1920 ?_
  obtain ⟨⟨r5, w6⟩, hk4, hF⟩ := am_bind hF
  have hF := am_u2 hF
  refine am_call X hh (va_runV (As := [.int x1]) (rest := []) X.1 (c_X11_canRelease l G hk4) (cwV 1 hts gL_law_X11_canRelease rfl rfl rfl (by decide +kernel) ⟨Nat.le_of_ble_eq_true rfl, Nat.le_of_ble_eq_true rfl⟩) (am_preV X hh 141 12 (by decide) rfl rfl) rfl rfl hl.1 rfl (lv_room (Nat.le_of_ble_eq_true rfl)) dL_law_1921 ⟨by show (cells + 1) + 0 ≤ 603072; omega, by show (slots + 6) + 0 ≤ 7194730; omega⟩) (fun ab H locs hh => ?_)
  refine lv_istore (lv' := [(7, .int r5), (6, .int r2), (0, .ref b), (1, .ref (gAd G 0)), (2, .ref (gAd G 141)), (3, .ref (gAd G 151)), (4, .ref (gAd G 152)), (5, .int i)]) hx hb dL_law_1924 hl (by decide) rfl (fun ls hl => ?_)
  refine lv_aload_n hx hb dL_law_1926 rfl (lv_at hl 4 rfl) ?_
  obtain ⟨r8, hk7, hF⟩ := am_bind hF
  refine am_call X hh (va_runV (As := []) (rest := []) X.1 (c_X11_thrown l G hk7) (cwV 0 hts gL_law_X11_thrown rfl rfl rfl (by decide +kernel) ⟨Nat.le_of_ble_eq_true rfl, Nat.le_of_ble_eq_true rfl⟩) (am_preV X hh 141 12 (by decide) rfl rfl) rfl rfl hl.1 rfl (lv_room (Nat.le_of_ble_eq_true rfl)) dL_law_1927 ⟨by show (cells + 1) + 0 ≤ 603072; omega, by show (slots + 6) + 0 ≤ 7194730; omega⟩) (fun ab H locs hh => ?_)
  refine lv_iload hx hb dL_law_1930 (lv_at hl 1 rfl) ?_
  refine lv_icmp_eq (tgt := 1937) hx hb dL_law_1932 (by decide) (fun hc9 => ?_) (fun hc9 => ?_)
  · have hF := am_pos hc9 hF
    refine lv_iload hx hb dL_law_1937 (lv_at hl 1 rfl) ?_
    refine lv_if_ne (tgt := 1961) hx hb dL_law_1939 (by decide) (fun hc10 => ?_) (fun hc10 => ?_)
    · have hF := am_neg hc10 hF
      refine lv_goto (tgt := 3310) hx hb dL_law_1961 (by decide) ?_
      cases hF
      exact W.widen (by omega) (by omega) (kk ab H locs ls hh (lv_sub hl [2, 3, 4, 5, 6, 7] rfl))
    · have hF := am_pos hc10 hF
      refine lv_aload_n hx hb dL_law_1942 rfl (lv_at hl 5 rfl) ?_
      refine lv_iconst (v := (0 : Int32)) hx hb dL_law_1943 (by decide) ?_
      obtain ⟨hq11, hF⟩ := am_ifR hF
      refine am_lald X hh 151 (by decide) rfl hq11 dL_law_1944 ?_
      refine lv_iload hx hb dL_law_1945 (lv_at hl 0 rfl) ?_
      refine lv_if_eq (tgt := 1954) hx hb dL_law_1947 (by decide) (fun hc12 => ?_) (fun hc12 => ?_)
      · have hF := am_pos hc12 hF
        refine lv_lconst (v := (0 : Int64)) hx hb dL_law_1954 (by decide) ?_
        refine am_lcmp_eq (tgt := 1961) hx hb dL_law_1955 dL_law_1956 (by decide) (fun hc13 => ?_) (fun hc13 => ?_)
        · have hF := am_pos hc13 hF
          refine lv_goto (tgt := 3310) hx hb dL_law_1961 (by decide) ?_
          cases hF
          exact W.widen (by omega) (by omega) (kk ab H locs ls hh (lv_sub hl [2, 3, 4, 5, 6, 7] rfl))
        · have hF := am_neg hc13 hF
          refine lv_iconst (v := (0 : Int32)) hx hb dL_law_1959 (by decide) ?_
          cases hF
      · have hF := am_neg hc12 hF
        refine lv_lconst (v := (1 : Int64)) hx hb dL_law_1950 (by decide) ?_
        refine lv_goto (tgt := 1955) hx hb dL_law_1951 (by decide) ?_
        refine am_lcmp_eq (tgt := 1961) hx hb dL_law_1955 dL_law_1956 (by decide) (fun hc14 => ?_) (fun hc14 => ?_)
        · have hF := am_pos hc14 hF
          refine lv_goto (tgt := 3310) hx hb dL_law_1961 (by decide) ?_
          cases hF
          exact W.widen (by omega) (by omega) (kk ab H locs ls hh (lv_sub hl [2, 3, 4, 5, 6, 7] rfl))
        · have hF := am_neg hc14 hF
          refine lv_iconst (v := (0 : Int32)) hx hb dL_law_1959 (by decide) ?_
          cases hF
  · have hF := am_neg hc9 hF
    refine lv_iconst (v := (0 : Int32)) hx hb dL_law_1935 (by decide) ?_
    cases hF
