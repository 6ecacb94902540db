theorem am_sld {p : Program} {l : Launch} {e : Env} {R : Room} {s : State} {m : MethodId} {args : Array Value} {below : List Frame} {meth : Method} {c : Code} {H H0 : Heap} {locs : List Loc} {cells slots : Nat} {Q : State → Prop} {cc : ByteArray} {pc : Nat} {ls : Array Slot} {rest : List Value} {A : Nat → Prop} (hexec : p.tables.exec = Jvm.exec) (hb : c.code = cc) {b L : Nat} {xs : Nat → Int32} (hX : va_X b L xs s H0) (hbl : b < H0.size) (hbA : ¬ A b) (hS : va_S A H0 H locs) {i v : Int32} (hv : vp_in i L ∧ xs i.toNatClampNeg = v) (hdg : decode cc pc = .ok (.iaload, 1))
    (kk : W p l e R s m args below meth c H locs cells slots Q (F0 m (pc + 1) ls (.int v :: rest))) : W p l e R s m args below meth c H locs cells slots Q (F0 m pc ls (.int i :: .ref b :: rest)) := by
  obtain ⟨h1, h2⟩ := hv
  subst h2
  exact va_sld hexec hb hX hbl hbA hS h1 hdg kk
set_option maxHeartbeats 4000000 in
set_option maxRecDepth 100000 in
theorem c_law_288 (l : Launch) (hst : l.stackTraces = false) {G : GG} {p : Program} {e : Env} {s : State} {m : MethodId} {args : Array Value} {below : List Frame} {meth : Method} {c : Code} {b L cells slots ab : Nat} {xs : Nat → Int32} {H : Heap} {locs : List Loc} {ls : Array Slot} {w w1 : Wd} {i x1 x2 x3 : Int32} {Q : State → Prop} (X : CX G p s m args meth c cL_law 9 RL wsL_law) (hX : va_X b L xs s s.heap) (hbl : b < s.heap.size) (hbA : ¬ gA G b) (hh : AH G s.heap w ab H locs) (h1 : vp_in (i + 1) L ∧ xs (i + 1).toNatClampNeg = x1) (h2 : vp_in (i + 2) L ∧ xs (i + 2).toNatClampNeg = x2) (h3 : vp_in (i + 3) L ∧ xs (i + 3).toNatClampNeg = x3) (hc : cells + 35 ≤ 603072) (hs : slots + 2182 ≤ 7194730) (hl : lv_has ls 9 [(0, .ref b), (1, .ref (gAd G 0)), (2, .ref (gAd G 141)), (3, .ref (gAd G 151)), (4, .ref (gAd G 152)), (5, .int i)]) (hF : f_law_288 w x1 x2 x3 = some w1) (kk : ∀ (ab : Nat) (H : Heap) (locs : List Loc) (ls : Array Slot), AH G s.heap w1 ab H locs → lv_has ls 9 [(0, .ref b), (1, .ref (gAd G 0)), (2, .ref (gAd G 141)), (3, .ref (gAd G 151)), (4, .ref (gAd G 152)), (5, .int i)] → W p l e room_1 s m args below meth c H locs (cells + 35) (slots + 2182) Q (F0 m 3310 ls [])) : W p l e room_1 s m args below meth c H locs cells slots Q (F0 m 288 ls []) := by
  have hx := X.1.1; have hb := X.1.2.1; have hml := X.1.2.2.1; have hown := X.1.2.2.2.1; have hts := X.1.2.2.2.2
  unfold f_law_288 at hF
  refine lv_aload_n hx hb dL_law_288 rfl (lv_at hl 1 rfl) ?_
  refine lv_aload_n hx hb dL_law_289 rfl (lv_at hl 0 rfl) ?_
  refine lv_iload hx hb dL_law_290 (lv_at hl 5 rfl) ?_
  refine lv_iconst (v := (1 : Int32)) hx hb dL_law_292 (by decide) ?_
  refine lv_iadd hx hb dL_law_293 ?_
  refine am_sld hx hb hX hbl hbA hh.2.2 h1 dL_law_294 ?_
  refine lv_aload_n hx hb dL_law_295 rfl (lv_at hl 3 rfl) ?_
  obtain ⟨⟨r2, w3⟩, hk1, hF⟩ := am_bind hF
  have hF := am_u2 hF
  refine am_callW X hh (vx_runSX (As := [.ref (gAd G 0), .int x1, .ref (gAd G 151)]) (rest := []) X.1 (c_L_addGear l G hst hk1) (vx_cwSW 3 hts gL_law_L_addGear rfl rfl rfl (by decide +kernel) ⟨Nat.le_of_ble_eq_true rfl, Nat.le_of_ble_eq_true rfl⟩) (am_preS X hh) rfl rfl hl.1 rfl (lv_room (Nat.le_of_ble_eq_true rfl)) dL_law_296 ⟨by show cells + 1 ≤ 603072; omega, by show slots + 6 ≤ 7194730; omega⟩) (fun ab H locs hh => ?_)
  refine lv_istore (lv' := [(6, .int r2), (0, .ref b), (1, .ref (gAd G 0)), (2, .ref (gAd G 141)), (3, .ref (gAd G 151)), (4, .ref (gAd G 152)), (5, .int i)]) hx hb dL_law_299 hl (by decide) rfl (fun ls hl => ?_)
  refine lv_aload_n hx hb dL_law_301 rfl (lv_at hl 3 rfl) ?_
  refine lv_aload_n hx hb dL_law_302 rfl (lv_at hl 1 rfl) ?_
  refine lv_iload hx hb dL_law_303 (lv_at hl 6 rfl) ?_
  refine lv_iconst (v := (1 : Int32)) hx hb dL_law_305 (by decide) ?_
  refine lv_iadd hx hb dL_law_306 ?_
  refine am_sld hx hb hX hbl hbA hh.2.2 h1 dL_law_307 ?_
  obtain ⟨⟨r5, w6⟩, hk4, hF⟩ := am_bind hF
  have hF := am_u2 hF
  refine am_call X hh (va_runV (As := [.int x1]) (rest := []) X.1 (c_X11_addGear l G hk4) (cwV 1 hts gL_law_X11_addGear rfl rfl rfl (by decide +kernel) ⟨Nat.le_of_ble_eq_true rfl, Nat.le_of_ble_eq_true rfl⟩) (am_preV X hh 141 12 (by decide) rfl rfl) rfl rfl hl.1 rfl (lv_room (Nat.le_of_ble_eq_true rfl)) dL_law_308 ⟨by show (cells + 1) + 0 ≤ 603072; omega, by show (slots + 6) + 0 ≤ 7194730; omega⟩) (fun ab H locs hh => ?_)
  refine lv_istore (lv' := [(7, .int r5), (6, .int r2), (0, .ref b), (1, .ref (gAd G 0)), (2, .ref (gAd G 141)), (3, .ref (gAd G 151)), (4, .ref (gAd G 152)), (5, .int i)]) hx hb dL_law_311 hl (by decide) rfl (fun ls hl => ?_)
  refine lv_aload_n hx hb dL_law_313 rfl (lv_at hl 4 rfl) ?_
  obtain ⟨r8, hk7, hF⟩ := am_bind hF
  refine am_call X hh (va_runV (As := []) (rest := []) X.1 (c_X11_thrown l G hk7) (cwV 0 hts gL_law_X11_thrown rfl rfl rfl (by decide +kernel) ⟨Nat.le_of_ble_eq_true rfl, Nat.le_of_ble_eq_true rfl⟩) (am_preV X hh 141 12 (by decide) rfl rfl) rfl rfl hl.1 rfl (lv_room (Nat.le_of_ble_eq_true rfl)) dL_law_314 ⟨by show (cells + 1) + 0 ≤ 603072; omega, by show (slots + 6) + 0 ≤ 7194730; omega⟩) (fun ab H locs hh => ?_)
  refine lv_iload hx hb dL_law_317 (lv_at hl 1 rfl) ?_
  refine lv_icmp_eq (tgt := 324) hx hb dL_law_319 (by decide) (fun hc9 => ?_) (fun hc9 => ?_)
  · have hF := am_pos hc9 hF
    refine lv_iload hx hb dL_law_324 (lv_at hl 1 rfl) ?_
    refine lv_if_ne (tgt := 341) hx hb dL_law_326 (by decide) (fun hc10 => ?_) (fun hc10 => ?_)
    · have hF := am_neg hc10 hF
      refine lv_goto (tgt := 3310) hx hb dL_law_341 (by decide) ?_
      cases hF
      exact W.widen (by omega) (by omega) (kk ab H locs ls hh (lv_sub hl [2, 3, 4, 5, 6, 7] rfl))
    · have hF := am_pos hc10 hF
      refine lv_aload_n hx hb dL_law_329 rfl (lv_at hl 5 rfl) ?_
      refine lv_iconst (v := (0 : Int32)) hx hb dL_law_330 (by decide) ?_
      obtain ⟨hq11, hF⟩ := am_ifR hF
      refine am_lald X hh 151 (by decide) rfl hq11 dL_law_331 ?_
      refine lv_iload hx hb dL_law_332 (lv_at hl 0 rfl) ?_
      refine lv_i2l hx hb dL_law_334 rfl ?_
      refine am_lcmp_eq (tgt := 341) hx hb dL_law_335 dL_law_336 (by decide) (fun hc12 => ?_) (fun hc12 => ?_)
      · have hF := am_pos hc12 hF
        refine lv_goto (tgt := 3310) hx hb dL_law_341 (by decide) ?_
        cases hF
        exact W.widen (by omega) (by omega) (kk ab H locs ls hh (lv_sub hl [2, 3, 4, 5, 6, 7] rfl))
      · have hF := am_neg hc12 hF
        refine lv_iconst (v := (0 : Int32)) hx hb dL_law_339 (by decide) ?_
        cases hF
  · have hF := am_neg hc9 hF
    refine lv_iconst (v := (0 : Int32)) hx hb dL_law_322 (by decide) ?_
    cases hF
set_option maxHeartbeats 4000000 in
set_option maxRecDepth 100000 in
theorem c_law_344 (l : Launch) (hst : l.stackTraces = false) {G : GG} {p : Program} {e : Env} {s : State} {m : MethodId} {args : Array Value} {below : List Frame} {meth : Method} {c : Code} {b L cells slots ab : Nat} {xs : Nat → Int32} {H : Heap} {locs : List Loc} {ls : Array Slot} {w w1 : Wd} {i x1 x2 x3 : Int32} {Q : State → Prop} (X : CX G p s m args meth c cL_law 9 RL wsL_law) (hX : va_X b L xs s s.heap) (hbl : b < s.heap.size) (hbA : ¬ gA G b) (hh : AH G s.heap w ab H locs) (h1 : vp_in (i + 1) L ∧ xs (i + 1).toNatClampNeg = x1) (h2 : vp_in (i + 2) L ∧ xs (i + 2).toNatClampNeg = x2) (h3 : vp_in (i + 3) L ∧ xs (i + 3).toNatClampNeg = x3) (hc : cells + 35 ≤ 603072) (hs : slots + 2182 ≤ 7194730) (hl : lv_has ls 9 [(0, .ref b), (1, .ref (gAd G 0)), (2, .ref (gAd G 141)), (3, .ref (gAd G 151)), (4, .ref (gAd G 152)), (5, .int i)]) (hF : f_law_344 w x1 x2 x3 = some w1) (kk : ∀ (ab : Nat) (H : Heap) (locs : List Loc) (ls : Array Slot), AH G s.heap w1 ab H locs → lv_has ls 9 [(0, .ref b), (1, .ref (gAd G 0)), (2, .ref (gAd G 141)), (3, .ref (gAd G 151)), (4, .ref (gAd G 152)), (5, .int i)] → W p l e room_1 s m args below meth c H locs (cells + 35) (slots + 2182) Q (F0 m 3310 ls [])) : W p l e room_1 s m args below meth c H locs cells slots Q (F0 m 344 ls []) := by
  have hx := X.1.1; have hb := X.1.2.1; have hml := X.1.2.2.1; have hown := X.1.2.2.2.1; have hts := X.1.2.2.2.2
  unfold f_law_344 at hF
  refine lv_aload_n hx hb dL_law_344 rfl (lv_at hl 1 rfl) ?_
  refine lv_aload_n hx hb dL_law_345 rfl (lv_at hl 0 rfl) ?_
  refine lv_iload hx hb dL_law_346 (lv_at hl 5 rfl) ?_
  refine lv_iconst (v := (1 : Int32)) hx hb dL_law_348 (by decide) ?_
  refine lv_iadd hx hb dL_law_349 ?_
  refine am_sld hx hb hX hbl hbA hh.2.2 h1 dL_law_350 ?_
  refine lv_aload_n hx hb dL_law_351 rfl (lv_at hl 0 rfl) ?_
  refine lv_iload hx hb dL_law_352 (lv_at hl 5 rfl) ?_
  refine lv_iconst (v := (2 : Int32)) hx hb dL_law_354 (by decide) ?_
  refine lv_iadd hx hb dL_law_355 ?_
  refine am_sld hx hb hX hbl hbA hh.2.2 h2 dL_law_356 ?_
  refine lv_aload_n hx hb dL_law_357 rfl (lv_at hl 3 rfl) ?_
  obtain ⟨⟨r2, w3⟩, hk1, hF⟩ := am_bind hF
  have hF := am_u2 hF
  refine am_callW X hh (vx_runSX (As := [.ref (gAd G 0), .int x1, .int x2, .ref (gAd G 151)]) (rest := []) X.1 (c_L_mesh l G hst hk1) (vx_cwSW 4 hts gL_law_L_mesh rfl rfl rfl (by decide +kernel) ⟨Nat.le_of_ble_eq_true rfl, Nat.le_of_ble_eq_true rfl⟩) (am_preS X hh) rfl rfl hl.1 rfl (lv_room (Nat.le_of_ble_eq_true rfl)) dL_law_358 ⟨by show cells + 1 ≤ 603072; omega, by show slots + 6 ≤ 7194730; omega⟩) (fun ab H locs hh => ?_)
  refine lv_istore (lv' := [(6, .int r2), (0, .ref b), (1, .ref (gAd G 0)), (2, .ref (gAd G 141)), (3, .ref (gAd G 151)), (4, .ref (gAd G 152)), (5, .int i)]) hx hb dL_law_361 hl (by decide) rfl (fun ls hl => ?_)
  refine lv_aload_n hx hb dL_law_363 rfl (lv_at hl 3 rfl) ?_
  refine lv_aload_n hx hb dL_law_364 rfl (lv_at hl 1 rfl) ?_
  refine lv_iload hx hb dL_law_365 (lv_at hl 6 rfl) ?_
  refine lv_iconst (v := (1 : Int32)) hx hb dL_law_367 (by decide) ?_
  refine lv_iadd hx hb dL_law_368 ?_
  refine am_sld hx hb hX hbl hbA hh.2.2 h1 dL_law_369 ?_
  refine lv_aload_n hx hb dL_law_370 rfl (lv_at hl 1 rfl) ?_
  refine lv_iload hx hb dL_law_371 (lv_at hl 6 rfl) ?_
  refine lv_iconst (v := (2 : Int32)) hx hb dL_law_373 (by decide) ?_
  refine lv_iadd hx hb dL_law_374 ?_
  refine am_sld hx hb hX hbl hbA hh.2.2 h2 dL_law_375 ?_
  obtain ⟨⟨r5, w6⟩, hk4, hF⟩ := am_bind hF
  have hF := am_u2 hF
  refine am_call X hh (va_runV (As := [.int x1, .int x2]) (rest := []) X.1 (c_X11_mesh l G hk4) (cwV 2 hts gL_law_X11_mesh rfl rfl rfl (by decide +kernel) ⟨Nat.le_of_ble_eq_true rfl, Nat.le_of_ble_eq_true rfl⟩) (am_preV X hh 141 12 (by decide) rfl rfl) rfl rfl hl.1 rfl (lv_room (Nat.le_of_ble_eq_true rfl)) dL_law_376 ⟨by show (cells + 1) + 0 ≤ 603072; omega, by show (slots + 6) + 0 ≤ 7194730; omega⟩) (fun ab H locs hh => ?_)
  refine lv_istore (lv' := [(7, .int r5), (6, .int r2), (0, .ref b), (1, .ref (gAd G 0)), (2, .ref (gAd G 141)), (3, .ref (gAd G 151)), (4, .ref (gAd G 152)), (5, .int i)]) hx hb dL_law_379 hl (by decide) rfl (fun ls hl => ?_)
  refine lv_aload_n hx hb dL_law_381 rfl (lv_at hl 4 rfl) ?_
  obtain ⟨r8, hk7, hF⟩ := am_bind hF
  refine am_call X hh (va_runV (As := []) (rest := []) X.1 (c_X11_thrown l G hk7) (cwV 0 hts gL_law_X11_thrown rfl rfl rfl (by decide +kernel) ⟨Nat.le_of_ble_eq_true rfl, Nat.le_of_ble_eq_true rfl⟩) (am_preV X hh 141 12 (by decide) rfl rfl) rfl rfl hl.1 rfl (lv_room (Nat.le_of_ble_eq_true rfl)) dL_law_382 ⟨by show (cells + 1) + 0 ≤ 603072; omega, by show (slots + 6) + 0 ≤ 7194730; omega⟩) (fun ab H locs hh => ?_)
  refine lv_iload hx hb dL_law_385 (lv_at hl 1 rfl) ?_
  refine lv_icmp_eq (tgt := 392) hx hb dL_law_387 (by decide) (fun hc9 => ?_) (fun hc9 => ?_)
  · have hF := am_pos hc9 hF
    refine lv_iload hx hb dL_law_392 (lv_at hl 1 rfl) ?_
    refine lv_if_ne (tgt := 409) hx hb dL_law_394 (by decide) (fun hc10 => ?_) (fun hc10 => ?_)
    · have hF := am_neg hc10 hF
      refine lv_goto (tgt := 3310) hx hb dL_law_409 (by decide) ?_
      cases hF
      exact W.widen (by omega) (by omega) (kk ab H locs ls hh (lv_sub hl [2, 3, 4, 5, 6, 7] rfl))
    · have hF := am_pos hc10 hF
      refine lv_aload_n hx hb dL_law_397 rfl (lv_at hl 5 rfl) ?_
      refine lv_iconst (v := (0 : Int32)) hx hb dL_law_398 (by decide) ?_
      obtain ⟨hq11, hF⟩ := am_ifR hF
      refine am_lald X hh 151 (by decide) rfl hq11 dL_law_399 ?_
      refine lv_iload hx hb dL_law_400 (lv_at hl 0 rfl) ?_
      refine lv_i2l hx hb dL_law_402 rfl ?_
      refine am_lcmp_eq (tgt := 409) hx hb dL_law_403 dL_law_404 (by decide) (fun hc12 => ?_) (fun hc12 => ?_)
      · have hF := am_pos hc12 hF
        refine lv_goto (tgt := 3310) hx hb dL_law_409 (by decide) ?_
        cases hF
        exact W.widen (by omega) (by omega) (kk ab H locs ls hh (lv_sub hl [2, 3, 4, 5, 6, 7] rfl))
      · have hF := am_neg hc12 hF
        refine lv_iconst (v := (0 : Int32)) hx hb dL_law_407 (by decide) ?_
        cases hF
  · have hF := am_neg hc9 hF
    refine lv_iconst (v := (0 : Int32)) hx hb dL_law_390 (by decide) ?_
    cases hF
set_option maxHeartbeats 4000000 in
set_option maxRecDepth 100000 in
theorem c_law_412 (l : Launch) (hst : l.stackTraces = false) {G : GG} {p : Program} {e : Env} {s : State} {m : MethodId} {args : Array Value} {below : List Frame} {meth : Method} {c : Code} {b L cells slots ab : Nat} {xs : Nat → Int32} {H : Heap} {locs : List Loc} {ls : Array Slot} {w w1 : Wd} {i x1 x2 x3 : Int32} {Q : State → Prop} (X : CX G p s m args meth c cL_law 9 RL wsL_law) (hX : va_X b L xs s s.heap) (hbl : b < s.heap.size) (hbA : ¬ gA G b) (hh : AH G s.heap w ab H locs) (h1 : vp_in (i + 1) L ∧ xs (i + 1).toNatClampNeg = x1) (h2 : vp_in (i + 2) L ∧ xs (i + 2).toNatClampNeg = x2) (h3 : vp_in (i + 3) L ∧ xs (i + 3).toNatClampNeg = x3) (hc : cells + 35 ≤ 603072) (hs : slots + 2182 ≤ 7194730) (hl : lv_has ls 9 [(0, .ref b), (1, .ref (gAd G 0)), (2, .ref (gAd G 141)), (3, .ref (gAd G 151)), (4, .ref (gAd G 152)), (5, .int i)]) (hF : f_law_412 w x1 x2 x3 = some w1) (kk : ∀ (ab : Nat) (H : Heap) (locs : List Loc) (ls : Array Slot), AH G s.heap w1 ab H locs → lv_has ls 9 [(0, .ref b), (1, .ref (gAd G 0)), (2, .ref (gAd G 141)), (3, .ref (gAd G 151)), (4, .ref (gAd G 152)), (5, .int i)] → W p l e room_1 s m args below meth c H locs (cells + 35) (slots + 2182) Q (F0 m 3310 ls [])) : W p l e room_1 s m args below meth c H locs cells slots Q (F0 m 412 ls []) := by
  have hx := X.1.1; have hb := X.1.2.1; have hml := X.1.2.2.1; have hown := X.1.2.2.2.1; have hts := X.1.2.2.2.2
  unfold f_law_412 at hF
  refine lv_aload_n hx hb dL_law_412 rfl (lv_at hl 1 rfl) ?_
  refine lv_aload_n hx hb dL_law_413 rfl (lv_at hl 0 rfl) ?_
  refine lv_iload hx hb dL_law_414 (lv_at hl 5 rfl) ?_
  refine lv_iconst (v := (1 : Int32)) hx hb dL_law_416 (by decide) ?_
  refine lv_iadd hx hb dL_law_417 ?_
  refine am_sld hx hb hX hbl hbA hh.2.2 h1 dL_law_418 ?_
  refine lv_aload_n hx hb dL_law_419 rfl (lv_at hl 0 rfl) ?_
  refine lv_iload hx hb dL_law_420 (lv_at hl 5 rfl) ?_
  refine lv_iconst (v := (2 : Int32)) hx hb dL_law_422 (by decide) ?_
  refine lv_iadd hx hb dL_law_423 ?_
  refine am_sld hx hb hX hbl hbA hh.2.2 h2 dL_law_424 ?_
  refine lv_aload_n hx hb dL_law_425 rfl (lv_at hl 3 rfl) ?_
  obtain ⟨⟨r2, w3⟩, hk1, hF⟩ := am_bind hF
  have hF := am_u2 hF
  refine am_callW X hh (vx_runSX (As := [.ref (gAd G 0), .int x1, .int x2, .ref (gAd G 151)]) (rest := []) X.1 (c_L_shareAxle l G hst hk1) (vx_cwSW 4 hts gL_law_L_shareAxle rfl rfl rfl (by decide +kernel) ⟨Nat.le_of_ble_eq_true rfl, Nat.le_of_ble_eq_true rfl⟩) (am_preS X hh) rfl rfl hl.1 rfl (lv_room (Nat.le_of_ble_eq_true rfl)) dL_law_426 ⟨by show cells + 1 ≤ 603072; omega, by show slots + 6 ≤ 7194730; omega⟩) (fun ab H locs hh => ?_)
  refine lv_istore (lv' := [(6, .int r2), (0, .ref b), (1, .ref (gAd G 0)), (2, .ref (gAd G 141)), (3, .ref (gAd G 151)), (4, .ref (gAd G 152)), (5, .int i)]) hx hb dL_law_429 hl (by decide) rfl (fun ls hl => ?_)
  refine lv_aload_n hx hb dL_law_431 rfl (lv_at hl 3 rfl) ?_
  refine lv_aload_n hx hb dL_law_432 rfl (lv_at hl 1 rfl) ?_
  refine lv_iload hx hb dL_law_433 (lv_at hl 6 rfl) ?_
  refine lv_iconst (v := (1 : Int32)) hx hb dL_law_435 (by decide) ?_
  refine lv_iadd hx hb dL_law_436 ?_
  refine am_sld hx hb hX hbl hbA hh.2.2 h1 dL_law_437 ?_
  refine lv_aload_n hx hb dL_law_438 rfl (lv_at hl 1 rfl) ?_
  refine lv_iload hx hb dL_law_439 (lv_at hl 6 rfl) ?_
  refine lv_iconst (v := (2 : Int32)) hx hb dL_law_441 (by decide) ?_
  refine lv_iadd hx hb dL_law_442 ?_
  refine am_sld hx hb hX hbl hbA hh.2.2 h2 dL_law_443 ?_
  obtain ⟨⟨r5, w6⟩, hk4, hF⟩ := am_bind hF
  have hF := am_u2 hF
  refine am_call X hh (va_runV (As := [.int x1, .int x2]) (rest := []) X.1 (c_X11_shareAxle l G hk4) (cwV 2 hts gL_law_X11_shareAxle rfl rfl rfl (by decide +kernel) ⟨Nat.le_of_ble_eq_true rfl, Nat.le_of_ble_eq_true rfl⟩) (am_preV X hh 141 12 (by decide) rfl rfl) rfl rfl hl.1 rfl (lv_room (Nat.le_of_ble_eq_true rfl)) dL_law_444 ⟨by show (cells + 1) + 0 ≤ 603072; omega, by show (slots + 6) + 0 ≤ 7194730; omega⟩) (fun ab H locs hh => ?_)
  refine lv_istore (lv' := [(7, .int r5), (6, .int r2), (0, .ref b), (1, .ref (gAd G 0)), (2, .ref (gAd G 141)), (3, .ref (gAd G 151)), (4, .ref (gAd G 152)), (5, .int i)]) hx hb dL_law_447 hl (by decide) rfl (fun ls hl => ?_)
  refine lv_aload_n hx hb dL_law_449 rfl (lv_at hl 4 rfl) ?_
  obtain ⟨r8, hk7, hF⟩ := am_bind hF
  refine am_call X hh (va_runV (As := []) (rest := []) X.1 (c_X11_thrown l G hk7) (cwV 0 hts gL_law_X11_thrown rfl rfl rfl (by decide +kernel) ⟨Nat.le_of_ble_eq_true rfl, Nat.le_of_ble_eq_true rfl⟩) (am_preV X hh 141 12 (by decide) rfl rfl) rfl rfl hl.1 rfl (lv_room (Nat.le_of_ble_eq_true rfl)) dL_law_450 ⟨by show (cells + 1) + 0 ≤ 603072; omega, by show (slots + 6) + 0 ≤ 7194730; omega⟩) (fun ab H locs hh => ?_)
  refine lv_iload hx hb dL_law_453 (lv_at hl 1 rfl) ?_
  refine lv_icmp_eq (tgt := 460) hx hb dL_law_455 (by decide) (fun hc9 => ?_) (fun hc9 => ?_)
  · have hF := am_pos hc9 hF
    refine lv_iload hx hb dL_law_460 (lv_at hl 1 rfl) ?_
    refine lv_if_ne (tgt := 477) hx hb dL_law_462 (by decide) (fun hc10 => ?_) (fun hc10 => ?_)
    · have hF := am_neg hc10 hF
      refine lv_goto (tgt := 3310) hx hb dL_law_477 (by decide) ?_
      cases hF
      exact W.widen (by omega) (by omega) (kk ab H locs ls hh (lv_sub hl [2, 3, 4, 5, 6, 7] rfl))
    · have hF := am_pos hc10 hF
      refine lv_aload_n hx hb dL_law_465 rfl (lv_at hl 5 rfl) ?_
      refine lv_iconst (v := (0 : Int32)) hx hb dL_law_466 (by decide) ?_
      obtain ⟨hq11, hF⟩ := am_ifR hF
      refine am_lald X hh 151 (by decide) rfl hq11 dL_law_467 ?_
      refine lv_iload hx hb dL_law_468 (lv_at hl 0 rfl) ?_
      refine lv_i2l hx hb dL_law_470 rfl ?_
      refine am_lcmp_eq (tgt := 477) hx hb dL_law_471 dL_law_472 (by decide) (fun hc12 => ?_) (fun hc12 => ?_)
      · have hF := am_pos hc12 hF
        refine lv_goto (tgt := 3310) hx hb dL_law_477 (by decide) ?_
        cases hF
        exact W.widen (by omega) (by omega) (kk ab H locs ls hh (lv_sub hl [2, 3, 4, 5, 6, 7] rfl))
      · have hF := am_neg hc12 hF
        refine lv_iconst (v := (0 : Int32)) hx hb dL_law_475 (by decide) ?_
        cases hF
  · have hF := am_neg hc9 hF
    refine lv_iconst (v := (0 : Int32)) hx hb dL_law_458 (by decide) ?_
    cases hF
set_option maxHeartbeats 4000000 in
set_option maxRecDepth 100000 in
theorem c_law_480 (l : Launch) (hst : l.stackTraces = false) {G : GG} {p : Program} {e : Env} {s : State} {m : MethodId} {args : Array Value} {below : List Frame} {meth : Method} {c : Code} {b L cells slots ab : Nat} {xs : Nat → Int32} {H : Heap} {locs : List Loc} {ls : Array Slot} {w w1 : Wd} {i x1 x2 x3 : Int32} {Q : State → Prop} (X : CX G p s m args meth c cL_law 9 RL wsL_law) (hX : va_X b L xs s s.heap) (hbl : b < s.heap.size) (hbA : ¬ gA G b) (hh : AH G s.heap w ab H locs) (h1 : vp_in (i + 1) L ∧ xs (i + 1).toNatClampNeg = x1) (h2 : vp_in (i + 2) L ∧ xs (i + 2).toNatClampNeg = x2) (h3 : vp_in (i + 3) L ∧ xs (i + 3).toNatClampNeg = x3) (hc : cells + 35 ≤ 603072) (hs : slots + 2182 ≤ 7194730) (hl : lv_has ls 9 [(0, .ref b), (1, .ref (gAd G 0)), (2, .ref (gAd G 141)), (3, .ref (gAd G 151)), (4, .ref (gAd G 152)), (5, .int i)]) (hF : f_law_480 w x1 x2 x3 = some w1) (kk : ∀ (ab : Nat) (H : Heap) (locs : List Loc) (ls : Array Slot), AH G s.heap w1 ab H locs → lv_has ls 9 [(0, .ref b), (1, .ref (gAd G 0)), (2, .ref (gAd G 141)), (3, .ref (gAd G 151)), (4, .ref (gAd G 152)), (5, .int i)] → W p l e room_1 s m args below meth c H locs (cells + 35) (slots + 2182) Q (F0 m 3310 ls [])) : W p l e room_1 s m args below meth c H locs cells slots Q (F0 m 480 ls []) := by
  have hx := X.1.1; have hb := X.1.2.1; have hml := X.1.2.2.1; have hown := X.1.2.2.2.1; have hts := X.1.2.2.2.2
  unfold f_law_480 at hF
  refine lv_aload_n hx hb dL_law_480 rfl (lv_at hl 1 rfl) ?_
  refine lv_aload_n hx hb dL_law_481 rfl (lv_at hl 0 rfl) ?_
  refine lv_iload hx hb dL_law_482 (lv_at hl 5 rfl) ?_
  refine lv_iconst (v := (1 : Int32)) hx hb dL_law_484 (by decide) ?_
  refine lv_iadd hx hb dL_law_485 ?_
  refine am_sld hx hb hX hbl hbA hh.2.2 h1 dL_law_486 ?_
  refine lv_aload_n hx hb dL_law_487 rfl (lv_at hl 0 rfl) ?_
  refine lv_iload hx hb dL_law_488 (lv_at hl 5 rfl) ?_
  refine lv_iconst (v := (2 : Int32)) hx hb dL_law_490 (by decide) ?_
  refine lv_iadd hx hb dL_law_491 ?_
  refine am_sld hx hb hX hbl hbA hh.2.2 h2 dL_law_492 ?_
  refine lv_aload_n hx hb dL_law_493 rfl (lv_at hl 3 rfl) ?_
  obtain ⟨⟨r2, w3⟩, hk1, hF⟩ := am_bind hF
  have hF := am_u2 hF
  refine am_callW X hh (vx_runSX (As := [.ref (gAd G 0), .int x1, .int x2, .ref (gAd G 151)]) (rest := []) X.1 (c_L_separate l G hst hk1) (vx_cwSW 4 hts gL_law_L_separate rfl rfl rfl (by decide +kernel) ⟨Nat.le_of_ble_eq_true rfl, Nat.le_of_ble_eq_true rfl⟩) (am_preS X hh) rfl rfl hl.1 rfl (lv_room (Nat.le_of_ble_eq_true rfl)) dL_law_494 ⟨by show cells + 1 ≤ 603072; omega, by show slots + 6 ≤ 7194730; omega⟩) (fun ab H locs hh => ?_)
  refine lv_istore (lv' := [(6, .int r2), (0, .ref b), (1, .ref (gAd G 0)), (2, .ref (gAd G 141)), (3, .ref (gAd G 151)), (4, .ref (gAd G 152)), (5, .int i)]) hx hb dL_law_497 hl (by decide) rfl (fun ls hl => ?_)
  refine lv_aload_n hx hb dL_law_499 rfl (lv_at hl 3 rfl) ?_
  refine lv_aload_n hx hb dL_law_500 rfl (lv_at hl 1 rfl) ?_
  refine lv_iload hx hb dL_law_501 (lv_at hl 6 rfl) ?_
  refine lv_iconst (v := (1 : Int32)) hx hb dL_law_503 (by decide) ?_
  refine lv_iadd hx hb dL_law_504 ?_
  refine am_sld hx hb hX hbl hbA hh.2.2 h1 dL_law_505 ?_
  refine lv_aload_n hx hb dL_law_506 rfl (lv_at hl 1 rfl) ?_
  refine lv_iload hx hb dL_law_507 (lv_at hl 6 rfl) ?_
  refine lv_iconst (v := (2 : Int32)) hx hb dL_law_509 (by decide) ?_
  refine lv_iadd hx hb dL_law_510 ?_
  refine am_sld hx hb hX hbl hbA hh.2.2 h2 dL_law_511 ?_
  obtain ⟨⟨r5, w6⟩, hk4, hF⟩ := am_bind hF
  have hF := am_u2 hF
  refine am_call X hh (va_runV (As := [.int x1, .int x2]) (rest := []) X.1 (c_X11_separate l G hk4) (cwV 2 hts gL_law_X11_separate rfl rfl rfl (by decide +kernel) ⟨Nat.le_of_ble_eq_true rfl, Nat.le_of_ble_eq_true rfl⟩) (am_preV X hh 141 12 (by decide) rfl rfl) rfl rfl hl.1 rfl (lv_room (Nat.le_of_ble_eq_true rfl)) dL_law_512 ⟨by show (cells + 1) + 0 ≤ 603072; omega, by show (slots + 6) + 0 ≤ 7194730; omega⟩) (fun ab H locs hh => ?_)
  refine lv_istore (lv' := [(7, .int r5), (6, .int r2), (0, .ref b), (1, .ref (gAd G 0)), (2, .ref (gAd G 141)), (3, .ref (gAd G 151)), (4, .ref (gAd G 152)), (5, .int i)]) hx hb dL_law_515 hl (by decide) rfl (fun ls hl => ?_)
  refine lv_aload_n hx hb dL_law_517 rfl (lv_at hl 4 rfl) ?_
  obtain ⟨r8, hk7, hF⟩ := am_bind hF
  refine am_call X hh (va_runV (As := []) (rest := []) X.1 (c_X11_thrown l G hk7) (cwV 0 hts gL_law_X11_thrown rfl rfl rfl (by decide +kernel) ⟨Nat.le_of_ble_eq_true rfl, Nat.le_of_ble_eq_true rfl⟩) (am_preV X hh 141 12 (by decide) rfl rfl) rfl rfl hl.1 rfl (lv_room (Nat.le_of_ble_eq_true rfl)) dL_law_518 ⟨by show (cells + 1) + 0 ≤ 603072; omega, by show (slots + 6) + 0 ≤ 7194730; omega⟩) (fun ab H locs hh => ?_)
  refine lv_iload hx hb dL_law_521 (lv_at hl 1 rfl) ?_
  refine lv_icmp_eq (tgt := 528) hx hb dL_law_523 (by decide) (fun hc9 => ?_) (fun hc9 => ?_)
  · have hF := am_pos hc9 hF
    refine lv_iload hx hb dL_law_528 (lv_at hl 1 rfl) ?_
    refine lv_if_ne (tgt := 545) hx hb dL_law_530 (by decide) (fun hc10 => ?_) (fun hc10 => ?_)
    · have hF := am_neg hc10 hF
      refine lv_goto (tgt := 3310) hx hb dL_law_545 (by decide) ?_
      cases hF
      exact W.widen (by omega) (by omega) (kk ab H locs ls hh (lv_sub hl [2, 3, 4, 5, 6, 7] rfl))
    · have hF := am_pos hc10 hF
      refine lv_aload_n hx hb dL_law_533 rfl (lv_at hl 5 rfl) ?_
      refine lv_iconst (v := (0 : Int32)) hx hb dL_law_534 (by decide) ?_
      obtain ⟨hq11, hF⟩ := am_ifR hF
      refine am_lald X hh 151 (by decide) rfl hq11 dL_law_535 ?_
      refine lv_iload hx hb dL_law_536 (lv_at hl 0 rfl) ?_
      refine lv_i2l hx hb dL_law_538 rfl ?_
      refine am_lcmp_eq (tgt := 545) hx hb dL_law_539 dL_law_540 (by decide) (fun hc12 => ?_) (fun hc12 => ?_)
      · have hF := am_pos hc12 hF
        refine lv_goto (tgt := 3310) hx hb dL_law_545 (by decide) ?_
        cases hF
        exact W.widen (by omega) (by omega) (kk ab H locs ls hh (lv_sub hl [2, 3, 4, 5, 6, 7] rfl))
      · have hF := am_neg hc12 hF
        refine lv_iconst (v := (0 : Int32)) hx hb dL_law_543 (by decide) ?_
        cases hF
  · have hF := am_neg hc9 hF
    refine lv_iconst (v := (0 : Int32)) hx hb dL_law_526 (by decide) ?_
    cases hF
set_option maxHeartbeats 4000000 in
set_option maxRecDepth 100000 in
theorem c_law_548 (l : Launch) (hst : l.stackTraces = false) {G : GG} {p : Program} {e : Env} {s : State} {m : MethodId} {args : Array Value} {below : List Frame} {meth : Method} {c : Code} {b L cells slots ab : Nat} {xs : Nat → Int32} {H : Heap} {locs : List Loc} {ls : Array Slot} {w w1 : Wd} {i x1 x2 x3 : Int32} {Q : State → Prop} (X : CX G p s m args meth c cL_law 9 RL wsL_law) (hX : va_X b L xs s s.heap) (hbl : b < s.heap.size) (hbA : ¬ gA G b) (hh : AH G s.heap w ab H locs) (h1 : vp_in (i + 1) L ∧ xs (i + 1).toNatClampNeg = x1) (h2 : vp_in (i + 2) L ∧ xs (i + 2).toNatClampNeg = x2) (h3 : vp_in (i + 3) L ∧ xs (i + 3).toNatClampNeg = x3) (hc : cells + 35 ≤ 603072) (hs : slots + 2182 ≤ 7194730) (hl : lv_has ls 9 [(0, .ref b), (1, .ref (gAd G 0)), (2, .ref (gAd G 141)), (3, .ref (gAd G 151)), (4, .ref (gAd G 152)), (5, .int i)]) (hF : f_law_548 w x1 x2 x3 = some w1) (kk : ∀ (ab : Nat) (H : Heap) (locs : List Loc) (ls : Array Slot), AH G s.heap w1 ab H locs → lv_has ls 9 [(0, .ref b), (1, .ref (gAd G 0)), (2, .ref (gAd G 141)), (3, .ref (gAd G 151)), (4, .ref (gAd G 152)), (5, .int i)] → W p l e room_1 s m args below meth c H locs (cells + 35) (slots + 2182) Q (F0 m 3310 ls [])) : W p l e room_1 s m args below meth c H locs cells slots Q (F0 m 548 ls []) := by
  have hx := X.1.1; have hb := X.1.2.1; have hml := X.1.2.2.1; have hown := X.1.2.2.2.1; have hts := X.1.2.2.2.2
  unfold f_law_548 at hF
  refine lv_aload_n hx hb dL_law_548 rfl (lv_at hl 1 rfl) ?_
  refine lv_aload_n hx hb dL_law_549 rfl (lv_at hl 0 rfl) ?_
  refine lv_iload hx hb dL_law_550 (lv_at hl 5 rfl) ?_
  refine lv_iconst (v := (1 : Int32)) hx hb dL_law_552 (by decide) ?_
  refine lv_iadd hx hb dL_law_553 ?_
  refine am_sld hx hb hX hbl hbA hh.2.2 h1 dL_law_554 ?_
  refine lv_aload_n hx hb dL_law_555 rfl (lv_at hl 0 rfl) ?_
  refine lv_iload hx hb dL_law_556 (lv_at hl 5 rfl) ?_
  refine lv_iconst (v := (2 : Int32)) hx hb dL_law_558 (by decide) ?_
  refine lv_iadd hx hb dL_law_559 ?_
  refine am_sld hx hb hX hbl hbA hh.2.2 h2 dL_law_560 ?_
  refine lv_aload_n hx hb dL_law_561 rfl (lv_at hl 3 rfl) ?_
  obtain ⟨⟨r2, w3⟩, hk1, hF⟩ := am_bind hF
  have hF := am_u2 hF
  refine am_callW X hh (vx_runSX (As := [.ref (gAd G 0), .int x1, .int x2, .ref (gAd G 151)]) (rest := []) X.1 (c_L_setSpring l G hst hk1) (vx_cwSW 4 hts gL_law_L_setSpring rfl rfl rfl (by decide +kernel) ⟨Nat.le_of_ble_eq_true rfl, Nat.le_of_ble_eq_true rfl⟩) (am_preS X hh) rfl rfl hl.1 rfl (lv_room (Nat.le_of_ble_eq_true rfl)) dL_law_562 ⟨by show cells + 1 ≤ 603072; omega, by show slots + 6 ≤ 7194730; omega⟩) (fun ab H locs hh => ?_)
  refine lv_istore (lv' := [(6, .int r2), (0, .ref b), (1, .ref (gAd G 0)), (2, .ref (gAd G 141)), (3, .ref (gAd G 151)), (4, .ref (gAd G 152)), (5, .int i)]) hx hb dL_law_565 hl (by decide) rfl (fun ls hl => ?_)
  refine lv_aload_n hx hb dL_law_567 rfl (lv_at hl 3 rfl) ?_
  refine lv_aload_n hx hb dL_law_568 rfl (lv_at hl 1 rfl) ?_
  refine lv_iload hx hb dL_law_569 (lv_at hl 6 rfl) ?_
  refine lv_iconst (v := (1 : Int32)) hx hb dL_law_571 (by decide) ?_
  refine lv_iadd hx hb dL_law_572 ?_
  refine am_sld hx hb hX hbl hbA hh.2.2 h1 dL_law_573 ?_
  refine lv_aload_n hx hb dL_law_574 rfl (lv_at hl 1 rfl) ?_
  refine lv_iload hx hb dL_law_575 (lv_at hl 6 rfl) ?_
  refine lv_iconst (v := (2 : Int32)) hx hb dL_law_577 (by decide) ?_
  refine lv_iadd hx hb dL_law_578 ?_
  refine am_sld hx hb hX hbl hbA hh.2.2 h2 dL_law_579 ?_
  obtain ⟨⟨r5, w6⟩, hk4, hF⟩ := am_bind hF
  have hF := am_u2 hF
  refine am_call X hh (va_runV (As := [.int x1, .int x2]) (rest := []) X.1 (c_X11_setSpring l G hk4) (cwV 2 hts gL_law_X11_setSpring rfl rfl rfl (by decide +kernel) ⟨Nat.le_of_ble_eq_true rfl, Nat.le_of_ble_eq_true rfl⟩) (am_preV X hh 141 12 (by decide) rfl rfl) rfl rfl hl.1 rfl (lv_room (Nat.le_of_ble_eq_true rfl)) dL_law_580 ⟨by show (cells + 1) + 0 ≤ 603072; omega, by show (slots + 6) + 0 ≤ 7194730; omega⟩) (fun ab H locs hh => ?_)
  refine lv_istore (lv' := [(7, .int r5), (6, .int r2), (0, .ref b), (1, .ref (gAd G 0)), (2, .ref (gAd G 141)), (3, .ref (gAd G 151)), (4, .ref (gAd G 152)), (5, .int i)]) hx hb dL_law_583 hl (by decide) rfl (fun ls hl => ?_)
  refine lv_aload_n hx hb dL_law_585 rfl (lv_at hl 4 rfl) ?_
  obtain ⟨r8, hk7, hF⟩ := am_bind hF
  refine am_call X hh (va_runV (As := []) (rest := []) X.1 (c_X11_thrown l G hk7) (cwV 0 hts gL_law_X11_thrown rfl rfl rfl (by decide +kernel) ⟨Nat.le_of_ble_eq_true rfl, Nat.le_of_ble_eq_true rfl⟩) (am_preV X hh 141 12 (by decide) rfl rfl) rfl rfl hl.1 rfl (lv_room (Nat.le_of_ble_eq_true rfl)) dL_law_586 ⟨by show (cells + 1) + 0 ≤ 603072; omega, by show (slots + 6) + 0 ≤ 7194730; omega⟩) (fun ab H locs hh => ?_)
  refine lv_iload hx hb dL_law_589 (lv_at hl 1 rfl) ?_
  refine lv_icmp_eq (tgt := 596) hx hb dL_law_591 (by decide) (fun hc9 => ?_) (fun hc9 => ?_)
  · have hF := am_pos hc9 hF
    refine lv_iload hx hb dL_law_596 (lv_at hl 1 rfl) ?_
    refine lv_if_ne (tgt := 613) hx hb dL_law_598 (by decide) (fun hc10 => ?_) (fun hc10 => ?_)
    · have hF := am_neg hc10 hF
      refine lv_goto (tgt := 3310) hx hb dL_law_613 (by decide) ?_
      cases hF
      exact W.widen (by omega) (by omega) (kk ab H locs ls hh (lv_sub hl [2, 3, 4, 5, 6, 7] rfl))
    · have hF := am_pos hc10 hF
      refine lv_aload_n hx hb dL_law_601 rfl (lv_at hl 5 rfl) ?_
      refine lv_iconst (v := (0 : Int32)) hx hb dL_law_602 (by decide) ?_
      obtain ⟨hq11, hF⟩ := am_ifR hF
      refine am_lald X hh 151 (by decide) rfl hq11 dL_law_603 ?_
      refine lv_iload hx hb dL_law_604 (lv_at hl 0 rfl) ?_
      refine lv_i2l hx hb dL_law_606 rfl ?_
      refine am_lcmp_eq (tgt := 613) hx hb dL_law_607 dL_law_608 (by decide) (fun hc12 => ?_) (fun hc12 => ?_)
      · have hF := am_pos hc12 hF
        refine lv_goto (tgt := 3310) hx hb dL_law_613 (by decide) ?_
        cases hF
        exact W.widen (by omega) (by omega) (kk ab H locs ls hh (lv_sub hl [2, 3, 4, 5, 6, 7] rfl))
      · have hF := am_neg hc12 hF
        refine lv_iconst (v := (0 : Int32)) hx hb dL_law_611 (by decide) ?_
        cases hF
  · have hF := am_neg hc9 hF
    refine lv_iconst (v := (0 : Int32)) hx hb dL_law_594 (by decide) ?_
    cases hF
set_option maxHeartbeats 4000000 in
set_option maxRecDepth 100000 in
theorem c_law_616 (l : Launch) (hst : l.stackTraces = false) {G : GG} {p : Program} {e : Env} {s : State} {m : MethodId} {args : Array Value} {below : List Frame} {meth : Method} {c : Code} {b L cells slots ab : Nat} {xs : Nat → Int32} {H : Heap} {locs : List Loc} {ls : Array Slot} {w w1 : Wd} {i x1 x2 x3 : Int32} {Q : State → Prop} (X : CX G p s m args meth c cL_law 9 RL wsL_law) (hX : va_X b L xs s s.heap) (hbl : b < s.heap.size) (hbA : ¬ gA G b) (hh : AH G s.heap w ab H locs) (h1 : vp_in (i + 1) L ∧ xs (i + 1).toNatClampNeg = x1) (h2 : vp_in (i + 2) L ∧ xs (i + 2).toNatClampNeg = x2) (h3 : vp_in (i + 3) L ∧ xs (i + 3).toNatClampNeg = x3) (hc : cells + 35 ≤ 603072) (hs : slots + 2182 ≤ 7194730) (hl : lv_has ls 9 [(0, .ref b), (1, .ref (gAd G 0)), (2, .ref (gAd G 141)), (3, .ref (gAd G 151)), (4, .ref (gAd G 152)), (5, .int i)]) (hF : f_law_616 w x1 x2 x3 = some w1) (kk : ∀ (ab : Nat) (H : Heap) (locs : List Loc) (ls : Array Slot), AH G s.heap w1 ab H locs → lv_has ls 9 [(0, .ref b), (1, .ref (gAd G 0)), (2, .ref (gAd G 141)), (3, .ref (gAd G 151)), (4, .ref (gAd G 152)), (5, .int i)] → W p l e room_1 s m args below meth c H locs (cells + 35) (slots + 2182) Q (F0 m 3310 ls [])) : W p l e room_1 s m args below meth c H locs cells slots Q (F0 m 616 ls []) := by
  have hx := X.1.1; have hb := X.1.2.1; have hml := X.1.2.2.1; have hown := X.1.2.2.2.1; have hts := X.1.2.2.2.2
  unfold f_law_616 at hF
  refine lv_aload_n hx hb dL_law_616 rfl (lv_at hl 1 rfl) ?_
  refine lv_aload_n hx hb dL_law_617 rfl (lv_at hl 0 rfl) ?_
  refine lv_iload hx hb dL_law_618 (lv_at hl 5 rfl) ?_
  refine lv_iconst (v := (1 : Int32)) hx hb dL_law_620 (by decide) ?_
  refine lv_iadd hx hb dL_law_621 ?_
  refine am_sld hx hb hX hbl hbA hh.2.2 h1 dL_law_622 ?_
  refine lv_aload_n hx hb dL_law_623 rfl (lv_at hl 0 rfl) ?_
  refine lv_iload hx hb dL_law_624 (lv_at hl 5 rfl) ?_
  refine lv_iconst (v := (2 : Int32)) hx hb dL_law_626 (by decide) ?_
  refine lv_iadd hx hb dL_law_627 ?_
  refine am_sld hx hb hX hbl hbA hh.2.2 h2 dL_law_628 ?_
  refine lv_aload_n hx hb dL_law_629 rfl (lv_at hl 3 rfl) ?_
  obtain ⟨⟨r2, w3⟩, hk1, hF⟩ := am_bind hF
  have hF := am_u2 hF
  refine am_callW X hh (vx_runSX (As := [.ref (gAd G 0), .int x1, .int x2, .ref (gAd G 151)]) (rest := []) X.1 (c_L_wind l G hst hk1) (vx_cwSW 4 hts gL_law_L_wind rfl rfl rfl (by decide +kernel) ⟨Nat.le_of_ble_eq_true rfl, Nat.le_of_ble_eq_true rfl⟩) (am_preS X hh) rfl rfl hl.1 rfl (lv_room (Nat.le_of_ble_eq_true rfl)) dL_law_630 ⟨by show cells + 1 ≤ 603072; omega, by show slots + 6 ≤ 7194730; omega⟩) (fun ab H locs hh => ?_)
  refine lv_istore (lv' := [(6, .int r2), (0, .ref b), (1, .ref (gAd G 0)), (2, .ref (gAd G 141)), (3, .ref (gAd G 151)), (4, .ref (gAd G 152)), (5, .int i)]) hx hb dL_law_633 hl (by decide) rfl (fun ls hl => ?_)
  refine lv_aload_n hx hb dL_law_635 rfl (lv_at hl 3 rfl) ?_
  refine lv_aload_n hx hb dL_law_636 rfl (lv_at hl 1 rfl) ?_
  refine lv_iload hx hb dL_law_637 (lv_at hl 6 rfl) ?_
  refine lv_iconst (v := (1 : Int32)) hx hb dL_law_639 (by decide) ?_
  refine lv_iadd hx hb dL_law_640 ?_
  refine am_sld hx hb hX hbl hbA hh.2.2 h1 dL_law_641 ?_
  refine lv_aload_n hx hb dL_law_642 rfl (lv_at hl 1 rfl) ?_
  refine lv_iload hx hb dL_law_643 (lv_at hl 6 rfl) ?_
  refine lv_iconst (v := (2 : Int32)) hx hb dL_law_645 (by decide) ?_
  refine lv_iadd hx hb dL_law_646 ?_
  refine am_sld hx hb hX hbl hbA hh.2.2 h2 dL_law_647 ?_
  obtain ⟨⟨r5, w6⟩, hk4, hF⟩ := am_bind hF
  have hF := am_u2 hF
  refine am_call X hh (va_runV (As := [.int x1, .int x2]) (rest := []) X.1 (c_X11_wind l G hk4) (cwV 2 hts gL_law_X11_wind rfl rfl rfl (by decide +kernel) ⟨Nat.le_of_ble_eq_true rfl, Nat.le_of_ble_eq_true rfl⟩) (am_preV X hh 141 12 (by decide) rfl rfl) rfl rfl hl.1 rfl (lv_room (Nat.le_of_ble_eq_true rfl)) dL_law_648 ⟨by show (cells + 1) + 0 ≤ 603072; omega, by show (slots + 6) + 0 ≤ 7194730; omega⟩) (fun ab H locs hh => ?_)
  refine lv_istore (lv' := [(7, .int r5), (6, .int r2), (0, .ref b), (1, .ref (gAd G 0)), (2, .ref (gAd G 141)), (3, .ref (gAd G 151)), (4, .ref (gAd G 152)), (5, .int i)]) hx hb dL_law_651 hl (by decide) rfl (fun ls hl => ?_)
  refine lv_aload_n hx hb dL_law_653 rfl (lv_at hl 4 rfl) ?_
  obtain ⟨r8, hk7, hF⟩ := am_bind hF
  refine am_call X hh (va_runV (As := []) (rest := []) X.1 (c_X11_thrown l G hk7) (cwV 0 hts gL_law_X11_thrown rfl rfl rfl (by decide +kernel) ⟨Nat.le_of_ble_eq_true rfl, Nat.le_of_ble_eq_true rfl⟩) (am_preV X hh 141 12 (by decide) rfl rfl) rfl rfl hl.1 rfl (lv_room (Nat.le_of_ble_eq_true rfl)) dL_law_654 ⟨by show (cells + 1) + 0 ≤ 603072; omega, by show (slots + 6) + 0 ≤ 7194730; omega⟩) (fun ab H locs hh => ?_)
  refine lv_iload hx hb dL_law_657 (lv_at hl 1 rfl) ?_
  refine lv_icmp_eq (tgt := 664) hx hb dL_law_659 (by decide) (fun hc9 => ?_) (fun hc9 => ?_)
  · have hF := am_pos hc9 hF
    refine lv_iload hx hb dL_law_664 (lv_at hl 1 rfl) ?_
    refine lv_if_ne (tgt := 681) hx hb dL_law_666 (by decide) (fun hc10 => ?_) (fun hc10 => ?_)
    · have hF := am_neg hc10 hF
      refine lv_goto (tgt := 3310) hx hb dL_law_681 (by decide) ?_
      cases hF
      exact W.widen (by omega) (by omega) (kk ab H locs ls hh (lv_sub hl [2, 3, 4, 5, 6, 7] rfl))
    · have hF := am_pos hc10 hF
      refine lv_aload_n hx hb dL_law_669 rfl (lv_at hl 5 rfl) ?_
      refine lv_iconst (v := (0 : Int32)) hx hb dL_law_670 (by decide) ?_
      obtain ⟨hq11, hF⟩ := am_ifR hF
      refine am_lald X hh 151 (by decide) rfl hq11 dL_law_671 ?_
      refine lv_iload hx hb dL_law_672 (lv_at hl 0 rfl) ?_
      refine lv_i2l hx hb dL_law_674 rfl ?_
      refine am_lcmp_eq (tgt := 681) hx hb dL_law_675 dL_law_676 (by decide) (fun hc12 => ?_) (fun hc12 => ?_)
      · have hF := am_pos hc12 hF
        refine lv_goto (tgt := 3310) hx hb dL_law_681 (by decide) ?_
        cases hF
        exact W.widen (by omega) (by omega) (kk ab H locs ls hh (lv_sub hl [2, 3, 4, 5, 6, 7] rfl))
      · have hF := am_neg hc12 hF
        refine lv_iconst (v := (0 : Int32)) hx hb dL_law_679 (by decide) ?_
        cases hF
  · have hF := am_neg hc9 hF
    refine lv_iconst (v := (0 : Int32)) hx hb dL_law_662 (by decide) ?_
    cases hF
set_option maxHeartbeats 4000000 in
set_option maxRecDepth 100000 in
theorem c_law_684 (l : Launch) (hst : l.stackTraces = false) {G : GG} {p : Program} {e : Env} {s : State} {m : MethodId} {args : Array Value} {below : List Frame} {meth : Method} {c : Code} {b L cells slots ab : Nat} {xs : Nat → Int32} {H : Heap} {locs : List Loc} {ls : Array Slot} {w w1 : Wd} {i x1 x2 x3 : Int32} {Q : State → Prop} (X : CX G p s m args meth c cL_law 9 RL wsL_law) (hX : va_X b L xs s s.heap) (hbl : b < s.heap.size) (hbA : ¬ gA G b) (hh : AH G s.heap w ab H locs) (h1 : vp_in (i + 1) L ∧ xs (i + 1).toNatClampNeg = x1) (h2 : vp_in (i + 2) L ∧ xs (i + 2).toNatClampNeg = x2) (h3 : vp_in (i + 3) L ∧ xs (i + 3).toNatClampNeg = x3) (hc : cells + 35 ≤ 603072) (hs : slots + 2182 ≤ 7194730) (hl : lv_has ls 9 [(0, .ref b), (1, .ref (gAd G 0)), (2, .ref (gAd G 141)), (3, .ref (gAd G 151)), (4, .ref (gAd G 152)), (5, .int i)]) (hF : f_law_684 w x1 x2 x3 = some w1) (kk : ∀ (ab : Nat) (H : Heap) (locs : List Loc) (ls : Array Slot), AH G s.heap w1 ab H locs → lv_has ls 9 [(0, .ref b), (1, .ref (gAd G 0)), (2, .ref (gAd G 141)), (3, .ref (gAd G 151)), (4, .ref (gAd G 152)), (5, .int i)] → W p l e room_1 s m args below meth c H locs (cells + 35) (slots + 2182) Q (F0 m 3310 ls [])) : W p l e room_1 s m args below meth c H locs cells slots Q (F0 m 684 ls []) := by
  have hx := X.1.1; have hb := X.1.2.1; have hml := X.1.2.2.1; have hown := X.1.2.2.2.1; have hts := X.1.2.2.2.2
  unfold f_law_684 at hF
  refine lv_aload_n hx hb dL_law_684 rfl (lv_at hl 1 rfl) ?_
  refine lv_aload_n hx hb dL_law_685 rfl (lv_at hl 0 rfl) ?_
  refine lv_iload hx hb dL_law_686 (lv_at hl 5 rfl) ?_
  refine lv_iconst (v := (1 : Int32)) hx hb dL_law_688 (by decide) ?_
  refine lv_iadd hx hb dL_law_689 ?_
  refine am_sld hx hb hX hbl hbA hh.2.2 h1 dL_law_690 ?_
  refine lv_aload_n hx hb dL_law_691 rfl (lv_at hl 3 rfl) ?_
  obtain ⟨⟨r2, w3⟩, hk1, hF⟩ := am_bind hF
  have hF := am_u2 hF
  refine am_callW X hh (vx_runSX (As := [.ref (gAd G 0), .int x1, .ref (gAd G 151)]) (rest := []) X.1 (c_L_reverse l G hst hk1) (vx_cwSW 3 hts gL_law_L_reverse rfl rfl rfl (by decide +kernel) ⟨Nat.le_of_ble_eq_true rfl, Nat.le_of_ble_eq_true rfl⟩) (am_preS X hh) rfl rfl hl.1 rfl (lv_room (Nat.le_of_ble_eq_true rfl)) dL_law_692 ⟨by show cells + 1 ≤ 603072; omega, by show slots + 6 ≤ 7194730; omega⟩) (fun ab H locs hh => ?_)
  refine lv_istore (lv' := [(6, .int r2), (0, .ref b), (1, .ref (gAd G 0)), (2, .ref (gAd G 141)), (3, .ref (gAd G 151)), (4, .ref (gAd G 152)), (5, .int i)]) hx hb dL_law_695 hl (by decide) rfl (fun ls hl => ?_)
  refine lv_aload_n hx hb dL_law_697 rfl (lv_at hl 3 rfl) ?_
  refine lv_aload_n hx hb dL_law_698 rfl (lv_at hl 1 rfl) ?_
  refine lv_iload hx hb dL_law_699 (lv_at hl 6 rfl) ?_
  refine lv_iconst (v := (1 : Int32)) hx hb dL_law_701 (by decide) ?_
  refine lv_iadd hx hb dL_law_702 ?_
  refine am_sld hx hb hX hbl hbA hh.2.2 h1 dL_law_703 ?_
  obtain ⟨⟨r5, w6⟩, hk4, hF⟩ := am_bind hF
  have hF := am_u2 hF
  refine am_call X hh (va_runV (As := [.int x1]) (rest := []) X.1 (c_X11_reverse l G hk4) (cwV 1 hts gL_law_X11_reverse rfl rfl rfl (by decide +kernel) ⟨Nat.le_of_ble_eq_true rfl, Nat.le_of_ble_eq_true rfl⟩) (am_preV X hh 141 12 (by decide) rfl rfl) rfl rfl hl.1 rfl (lv_room (Nat.le_of_ble_eq_true rfl)) dL_law_704 ⟨by show (cells + 1) + 0 ≤ 603072; omega, by show (slots + 6) + 0 ≤ 7194730; omega⟩) (fun ab H locs hh => ?_)
  refine lv_istore (lv' := [(7, .int r5), (6, .int r2), (0, .ref b), (1, .ref (gAd G 0)), (2, .ref (gAd G 141)), (3, .ref (gAd G 151)), (4, .ref (gAd G 152)), (5, .int i)]) hx hb dL_law_707 hl (by decide) rfl (fun ls hl => ?_)
  refine lv_aload_n hx hb dL_law_709 rfl (lv_at hl 4 rfl) ?_
  obtain ⟨r8, hk7, hF⟩ := am_bind hF
  refine am_call X hh (va_runV (As := []) (rest := []) X.1 (c_X11_thrown l G hk7) (cwV 0 hts gL_law_X11_thrown rfl rfl rfl (by decide +kernel) ⟨Nat.le_of_ble_eq_true rfl, Nat.le_of_ble_eq_true rfl⟩) (am_preV X hh 141 12 (by decide) rfl rfl) rfl rfl hl.1 rfl (lv_room (Nat.le_of_ble_eq_true rfl)) dL_law_710 ⟨by show (cells + 1) + 0 ≤ 603072; omega, by show (slots + 6) + 0 ≤ 7194730; omega⟩) (fun ab H locs hh => ?_)
  refine lv_iload hx hb dL_law_713 (lv_at hl 1 rfl) ?_
  refine lv_icmp_eq (tgt := 720) hx hb dL_law_715 (by decide) (fun hc9 => ?_) (fun hc9 => ?_)
  · have hF := am_pos hc9 hF
    refine lv_iload hx hb dL_law_720 (lv_at hl 1 rfl) ?_
    refine lv_if_ne (tgt := 744) hx hb dL_law_722 (by decide) (fun hc10 => ?_) (fun hc10 => ?_)
    · have hF := am_neg hc10 hF
      refine lv_goto (tgt := 3310) hx hb dL_law_744 (by decide) ?_
      cases hF
      exact W.widen (by omega) (by omega) (kk ab H locs ls hh (lv_sub hl [2, 3, 4, 5, 6, 7] rfl))
    · have hF := am_pos hc10 hF
      refine lv_aload_n hx hb dL_law_725 rfl (lv_at hl 5 rfl) ?_
      refine lv_iconst (v := (0 : Int32)) hx hb dL_law_726 (by decide) ?_
      obtain ⟨hq11, hF⟩ := am_ifR hF
      refine am_lald X hh 151 (by decide) rfl hq11 dL_law_727 ?_
      refine lv_iload hx hb dL_law_728 (lv_at hl 0 rfl) ?_
      refine lv_if_eq (tgt := 737) hx hb dL_law_730 (by decide) (fun hc12 => ?_) (fun hc12 => ?_)
      · have hF := am_pos hc12 hF
        refine lv_lconst (v := (0 : Int64)) hx hb dL_law_737 (by decide) ?_
        refine am_lcmp_eq (tgt := 744) hx hb dL_law_738 dL_law_739 (by decide) (fun hc13 => ?_) (fun hc13 => ?_)
        · have hF := am_pos hc13 hF
          refine lv_goto (tgt := 3310) hx hb dL_law_744 (by decide) ?_
          cases hF
          exact W.widen (by omega) (by omega) (kk ab H locs ls hh (lv_sub hl [2, 3, 4, 5, 6, 7] rfl))
        · have hF := am_neg hc13 hF
          refine lv_iconst (v := (0 : Int32)) hx hb dL_law_742 (by decide) ?_
          cases hF
      · have hF := am_neg hc12 hF
        refine lv_lconst (v := (1 : Int64)) hx hb dL_law_733 (by decide) ?_
        refine lv_goto (tgt := 738) hx hb dL_law_734 (by decide) ?_
        refine am_lcmp_eq (tgt := 744) hx hb dL_law_738 dL_law_739 (by decide) (fun hc14 => ?_) (fun hc14 => ?_)
        · have hF := am_pos hc14 hF
          refine lv_goto (tgt := 3310) hx hb dL_law_744 (by decide) ?_
          cases hF
          exact W.widen (by omega) (by omega) (kk ab H locs ls hh (lv_sub hl [2, 3, 4, 5, 6, 7] rfl))
        · have hF := am_neg hc14 hF
          refine lv_iconst (v := (0 : Int32)) hx hb dL_law_742 (by decide) ?_
          cases hF
  · have hF := am_neg hc9 hF
    refine lv_iconst (v := (0 : Int32)) hx hb dL_law_718 (by decide) ?_
    cases hF
set_option maxHeartbeats 4000000 in
set_option maxRecDepth 100000 in
theorem c_law_747 (l : Launch) (hst : l.stackTraces = false) {G : GG} {p : Program} {e : Env} {s : State} {m : MethodId} {args : Array Value} {below : List Frame} {meth : Method} {c : Code} {b L cells slots ab : Nat} {xs : Nat → Int32} {H : Heap} {locs : List Loc} {ls : Array Slot} {w w1 : Wd} {i x1 x2 x3 : Int32} {Q : State → Prop} (X : CX G p s m args meth c cL_law 9 RL wsL_law) (hX : va_X b L xs s s.heap) (hbl : b < s.heap.size) (hbA : ¬ gA G b) (hh : AH G s.heap w ab H locs) (h1 : vp_in (i + 1) L ∧ xs (i + 1).toNatClampNeg = x1) (h2 : vp_in (i + 2) L ∧ xs (i + 2).toNatClampNeg = x2) (h3 : vp_in (i + 3) L ∧ xs (i + 3).toNatClampNeg = x3) (hc : cells + 35 ≤ 603072) (hs : slots + 2182 ≤ 7194730) (hl : lv_has ls 9 [(0, .ref b), (1, .ref (gAd G 0)), (2, .ref (gAd G 141)), (3, .ref (gAd G 151)), (4, .ref (gAd G 152)), (5, .int i)]) (hF : f_law_747 w x1 x2 x3 = some w1) (kk : ∀ (ab : Nat) (H : Heap) (locs : List Loc) (ls : Array Slot), AH G s.heap w1 ab H locs → lv_has ls 9 [(0, .ref b), (1, .ref (gAd G 0)), (2, .ref (gAd G 141)), (3, .ref (gAd G 151)), (4, .ref (gAd G 152)), (5, .int i)] → W p l e room_1 s m args below meth c H locs (cells + 35) (slots + 2182) Q (F0 m 3310 ls [])) : W p l e room_1 s m args below meth c H locs cells slots Q (F0 m 747 ls []) := by
  have hx := X.1.1; have hb := X.1.2.1; have hml := X.1.2.2.1; have hown := X.1.2.2.2.1; have hts := X.1.2.2.2.2
  unfold f_law_747 at hF
  refine lv_aload_n hx hb dL_law_747 rfl (lv_at hl 1 rfl) ?_
  refine lv_aload_n hx hb dL_law_748 rfl (lv_at hl 0 rfl) ?_
  refine lv_iload hx hb dL_law_749 (lv_at hl 5 rfl) ?_
  refine lv_iconst (v := (1 : Int32)) hx hb dL_law_751 (by decide) ?_
  refine lv_iadd hx hb dL_law_752 ?_
  refine am_sld hx hb hX hbl hbA hh.2.2 h1 dL_law_753 ?_
  refine lv_aload_n hx hb dL_law_754 rfl (lv_at hl 0 rfl) ?_
  refine lv_iload hx hb dL_law_755 (lv_at hl 5 rfl) ?_
  refine lv_iconst (v := (2 : Int32)) hx hb dL_law_757 (by decide) ?_
  refine lv_iadd hx hb dL_law_758 ?_
  refine am_sld hx hb hX hbl hbA hh.2.2 h2 dL_law_759 ?_
  refine lv_aload_n hx hb dL_law_760 rfl (lv_at hl 3 rfl) ?_
  obtain ⟨⟨r2, w3⟩, hk1, hF⟩ := am_bind hF
  have hF := am_u2 hF
  refine am_callW X hh (vx_runSX (As := [.ref (gAd G 0), .int x1, .int x2, .ref (gAd G 151)]) (rest := []) X.1 (c_L_release l G hst hk1) (vx_cwSW 4 hts gL_law_L_release rfl rfl rfl (by decide +kernel) ⟨Nat.le_of_ble_eq_true rfl, Nat.le_of_ble_eq_true rfl⟩) (am_preS X hh) rfl rfl hl.1 rfl (lv_room (Nat.le_of_ble_eq_true rfl)) dL_law_761 ⟨by show cells + 1 ≤ 603072; omega, by show slots + 6 ≤ 7194730; omega⟩) (fun ab H locs hh => ?_)
  refine lv_istore (lv' := [(6, .int r2), (0, .ref b), (1, .ref (gAd G 0)), (2, .ref (gAd G 141)), (3, .ref (gAd G 151)), (4, .ref (gAd G 152)), (5, .int i)]) hx hb dL_law_764 hl (by decide) rfl (fun ls hl => ?_)
  refine lv_aload_n hx hb dL_law_766 rfl (lv_at hl 3 rfl) ?_
  refine lv_aload_n hx hb dL_law_767 rfl (lv_at hl 1 rfl) ?_
  refine lv_iload hx hb dL_law_768 (lv_at hl 6 rfl) ?_
  refine lv_iconst (v := (1 : Int32)) hx hb dL_law_770 (by decide) ?_
  refine lv_iadd hx hb dL_law_771 ?_
  refine am_sld hx hb hX hbl hbA hh.2.2 h1 dL_law_772 ?_
  refine lv_aload_n hx hb dL_law_773 rfl (lv_at hl 1 rfl) ?_
  refine lv_iload hx hb dL_law_774 (lv_at hl 6 rfl) ?_
  refine lv_iconst (v := (2 : Int32)) hx hb dL_law_776 (by decide) ?_
  refine lv_iadd hx hb dL_law_777 ?_
  refine am_sld hx hb hX hbl hbA hh.2.2 h2 dL_law_778 ?_
  obtain ⟨⟨r5, w6⟩, hk4, hF⟩ := am_bind hF
  have hF := am_u2 hF
  refine am_call X hh (va_runV (As := [.int x1, .int x2]) (rest := []) X.1 (c_X11_release l G hk4) (cwV 2 hts gL_law_X11_release rfl rfl rfl (by decide +kernel) ⟨Nat.le_of_ble_eq_true rfl, Nat.le_of_ble_eq_true rfl⟩) (am_preV X hh 141 12 (by decide) rfl rfl) rfl rfl hl.1 rfl (lv_room (Nat.le_of_ble_eq_true rfl)) dL_law_779 ⟨by show (cells + 1) + 0 ≤ 603072; omega, by show (slots + 6) + 0 ≤ 7194730; omega⟩) (fun ab H locs hh => ?_)
  refine lv_istore (lv' := [(7, .int r5), (6, .int r2), (0, .ref b), (1, .ref (gAd G 0)), (2, .ref (gAd G 141)), (3, .ref (gAd G 151)), (4, .ref (gAd G 152)), (5, .int i)]) hx hb dL_law_782 hl (by decide) rfl (fun ls hl => ?_)
  refine lv_aload_n hx hb dL_law_784 rfl (lv_at hl 4 rfl) ?_
  obtain ⟨r8, hk7, hF⟩ := am_bind hF
  refine am_call X hh (va_runV (As := []) (rest := []) X.1 (c_X11_thrown l G hk7) (cwV 0 hts gL_law_X11_thrown rfl rfl rfl (by decide +kernel) ⟨Nat.le_of_ble_eq_true rfl, Nat.le_of_ble_eq_true rfl⟩) (am_preV X hh 141 12 (by decide) rfl rfl) rfl rfl hl.1 rfl (lv_room (Nat.le_of_ble_eq_true rfl)) dL_law_785 ⟨by show (cells + 1) + 0 ≤ 603072; omega, by show (slots + 6) + 0 ≤ 7194730; omega⟩) (fun ab H locs hh => ?_)
  refine lv_iload hx hb dL_law_788 (lv_at hl 1 rfl) ?_
  refine lv_icmp_eq (tgt := 795) hx hb dL_law_790 (by decide) (fun hc9 => ?_) (fun hc9 => ?_)
  · have hF := am_pos hc9 hF
    refine lv_iload hx hb dL_law_795 (lv_at hl 1 rfl) ?_
    refine lv_if_ne (tgt := 812) hx hb dL_law_797 (by decide) (fun hc10 => ?_) (fun hc10 => ?_)
    · have hF := am_neg hc10 hF
      refine lv_goto (tgt := 3310) hx hb dL_law_812 (by decide) ?_
      cases hF
      exact W.widen (by omega) (by omega) (kk ab H locs ls hh (lv_sub hl [2, 3, 4, 5, 6, 7] rfl))
    · have hF := am_pos hc10 hF
      refine lv_aload_n hx hb dL_law_800 rfl (lv_at hl 5 rfl) ?_
      refine lv_iconst (v := (0 : Int32)) hx hb dL_law_801 (by decide) ?_
      obtain ⟨hq11, hF⟩ := am_ifR hF
      refine am_lald X hh 151 (by decide) rfl hq11 dL_law_802 ?_
      refine lv_iload hx hb dL_law_803 (lv_at hl 0 rfl) ?_
      refine lv_i2l hx hb dL_law_805 rfl ?_
      refine am_lcmp_eq (tgt := 812) hx hb dL_law_806 dL_law_807 (by decide) (fun hc12 => ?_) (fun hc12 => ?_)
      · have hF := am_pos hc12 hF
        refine lv_goto (tgt := 3310) hx hb dL_law_812 (by decide) ?_
        cases hF
        exact W.widen (by omega) (by omega) (kk ab H locs ls hh (lv_sub hl [2, 3, 4, 5, 6, 7] rfl))
      · have hF := am_neg hc12 hF
        refine lv_iconst (v := (0 : Int32)) hx hb dL_law_810 (by decide) ?_
        cases hF
  · have hF := am_neg hc9 hF
    refine lv_iconst (v := (0 : Int32)) hx hb dL_law_793 (by decide) ?_
    cases hF
set_option maxHeartbeats 4000000 in
set_option maxRecDepth 100000 in
theorem c_law_815 (l : Launch) (hst : l.stackTraces = false) {G : GG} {p : Program} {e : Env} {s : State} {m : MethodId} {args : Array Value} {below : List Frame} {meth : Method} {c : Code} {b L cells slots ab : Nat} {xs : Nat → Int32} {H : Heap} {locs : List Loc} {ls : Array Slot} {w w1 : Wd} {i x1 x2 x3 : Int32} {Q : State → Prop} (X : CX G p s m args meth c cL_law 9 RL wsL_law) (hX : va_X b L xs s s.heap) (hbl : b < s.heap.size) (hbA : ¬ gA G b) (hh : AH G s.heap w ab H locs) (h1 : vp_in (i + 1) L ∧ xs (i + 1).toNatClampNeg = x1) (h2 : vp_in (i + 2) L ∧ xs (i + 2).toNatClampNeg = x2) (h3 : vp_in (i + 3) L ∧ xs (i + 3).toNatClampNeg = x3) (hc : cells + 35 ≤ 603072) (hs : slots + 2182 ≤ 7194730) (hl : lv_has ls 9 [(0, .ref b), (1, .ref (gAd G 0)), (2, .ref (gAd G 141)), (3, .ref (gAd G 151)), (4, .ref (gAd G 152)), (5, .int i)]) (hF : f_law_815 w x1 x2 x3 = some w1) (kk : ∀ (ab : Nat) (H : Heap) (locs : List Loc) (ls : Array Slot), AH G s.heap w1 ab H locs → lv_has ls 9 [(0, .ref b), (1, .ref (gAd G 0)), (2, .ref (gAd G 141)), (3, .ref (gAd G 151)), (4, .ref (gAd G 152)), (5, .int i)] → W p l e room_1 s m args below meth c H locs (cells + 35) (slots + 2182) Q (F0 m 3310 ls [])) : W p l e room_1 s m args below meth c H locs cells slots Q (F0 m 815 ls []) := by
  have hx := X.1.1; have hb := X.1.2.1; have hml := X.1.2.2.1; have hown := X.1.2.2.2.1; have hts := X.1.2.2.2.2
  unfold f_law_815 at hF
  refine lv_aload_n hx hb dL_law_815 rfl (lv_at hl 1 rfl) ?_
  refine lv_aload_n hx hb dL_law_816 rfl (lv_at hl 0 rfl) ?_
  refine lv_iload hx hb dL_law_817 (lv_at hl 5 rfl) ?_
  refine lv_iconst (v := (1 : Int32)) hx hb dL_law_819 (by decide) ?_
  refine lv_iadd hx hb dL_law_820 ?_
  refine am_sld hx hb hX hbl hbA hh.2.2 h1 dL_law_821 ?_
  refine lv_aload_n hx hb dL_law_822 rfl (lv_at hl 0 rfl) ?_
  refine lv_iload hx hb dL_law_823 (lv_at hl 5 rfl) ?_
  refine lv_iconst (v := (2 : Int32)) hx hb dL_law_825 (by decide) ?_
  refine lv_iadd hx hb dL_law_826 ?_
  refine am_sld hx hb hX hbl hbA hh.2.2 h2 dL_law_827 ?_
  refine lv_if_eq (tgt := 835) hx hb dL_law_828 (by decide) (fun hc1 => ?_) (fun hc1 => ?_)
  · have hF := am_pos hc1 hF
    refine lv_iconst (v := (0 : Int32)) hx hb dL_law_835 (by decide) ?_
    refine lv_aload_n hx hb dL_law_836 rfl (lv_at hl 3 rfl) ?_
    obtain ⟨⟨r3, w4⟩, hk2, hF⟩ := am_bind hF
    have hF := am_u2 hF
    refine am_callW X hh (vx_runSX (As := [.ref (gAd G 0), .int x1, .int (0 : Int32), .ref (gAd G 151)]) (rest := []) X.1 (c_L_setRatchet l G hst hk2) (vx_cwSW 4 hts gL_law_L_setRatchet rfl rfl rfl (by decide +kernel) ⟨Nat.le_of_ble_eq_true rfl, Nat.le_of_ble_eq_true rfl⟩) (am_preS X hh) rfl rfl hl.1 rfl (lv_room (Nat.le_of_ble_eq_true rfl)) dL_law_837 ⟨by show cells + 1 ≤ 603072; omega, by show slots + 6 ≤ 7194730; omega⟩) (fun ab H locs hh => ?_)
    refine lv_istore (lv' := [(6, .int r3), (0, .ref b), (1, .ref (gAd G 0)), (2, .ref (gAd G 141)), (3, .ref (gAd G 151)), (4, .ref (gAd G 152)), (5, .int i)]) hx hb dL_law_840 hl (by decide) rfl (fun ls hl => ?_)
    refine lv_aload_n hx hb dL_law_842 rfl (lv_at hl 3 rfl) ?_
    refine lv_aload_n hx hb dL_law_843 rfl (lv_at hl 1 rfl) ?_
    refine lv_iload hx hb dL_law_844 (lv_at hl 6 rfl) ?_
    refine lv_iconst (v := (1 : Int32)) hx hb dL_law_846 (by decide) ?_
    refine lv_iadd hx hb dL_law_847 ?_
    refine am_sld hx hb hX hbl hbA hh.2.2 h1 dL_law_848 ?_
    refine lv_aload_n hx hb dL_law_849 rfl (lv_at hl 1 rfl) ?_
    refine lv_iload hx hb dL_law_850 (lv_at hl 6 rfl) ?_
    refine lv_iconst (v := (2 : Int32)) hx hb dL_law_852 (by decide) ?_
    refine lv_iadd hx hb dL_law_853 ?_
    refine am_sld hx hb hX hbl hbA hh.2.2 h2 dL_law_854 ?_
    refine lv_if_eq (tgt := 862) hx hb dL_law_855 (by decide) (fun hc5 => ?_) (fun hc5 => ?_)
    · have hF := am_pos hc5 hF
      refine lv_iconst (v := (0 : Int32)) hx hb dL_law_862 (by decide) ?_
      obtain ⟨⟨r7, w8⟩, hk6, hF⟩ := am_bind hF
      have hF := am_u2 hF
      refine am_call X hh (va_runV (As := [.int x1, .int (0 : Int32)]) (rest := []) X.1 (c_X11_setRatchet l G hk6) (cwV 2 hts gL_law_X11_setRatchet rfl rfl rfl (by decide +kernel) ⟨Nat.le_of_ble_eq_true rfl, Nat.le_of_ble_eq_true rfl⟩) (am_preV X hh 141 12 (by decide) rfl rfl) rfl rfl hl.1 rfl (lv_room (Nat.le_of_ble_eq_true rfl)) dL_law_863 ⟨by show (cells + 1) + 0 ≤ 603072; omega, by show (slots + 6) + 0 ≤ 7194730; omega⟩) (fun ab H locs hh => ?_)
      refine lv_istore (lv' := [(7, .int r7), (6, .int r3), (0, .ref b), (1, .ref (gAd G 0)), (2, .ref (gAd G 141)), (3, .ref (gAd G 151)), (4, .ref (gAd G 152)), (5, .int i)]) hx hb dL_law_866 hl (by decide) rfl (fun ls hl => ?_)
      refine lv_aload_n hx hb dL_law_868 rfl (lv_at hl 4 rfl) ?_
      obtain ⟨r10, hk9, hF⟩ := am_bind hF
      refine am_call X hh (va_runV (As := []) (rest := []) X.1 (c_X11_thrown l G hk9) (cwV 0 hts gL_law_X11_thrown rfl rfl rfl (by decide +kernel) ⟨Nat.le_of_ble_eq_true rfl, Nat.le_of_ble_eq_true rfl⟩) (am_preV X hh 141 12 (by decide) rfl rfl) rfl rfl hl.1 rfl (lv_room (Nat.le_of_ble_eq_true rfl)) dL_law_869 ⟨by show (cells + 1) + 0 ≤ 603072; omega, by show (slots + 6) + 0 ≤ 7194730; omega⟩) (fun ab H locs hh => ?_)
      refine lv_iload hx hb dL_law_872 (lv_at hl 1 rfl) ?_
      refine lv_icmp_eq (tgt := 879) hx hb dL_law_874 (by decide) (fun hc11 => ?_) (fun hc11 => ?_)
      · have hF := am_pos hc11 hF
        refine lv_iload hx hb dL_law_879 (lv_at hl 1 rfl) ?_
        refine lv_if_ne (tgt := 903) hx hb dL_law_881 (by decide) (fun hc12 => ?_) (fun hc12 => ?_)
        · have hF := am_neg hc12 hF
          refine lv_goto (tgt := 3310) hx hb dL_law_903 (by decide) ?_
          cases hF
          exact W.widen (by omega) (by omega) (kk ab H locs ls hh (lv_sub hl [2, 3, 4, 5, 6, 7] rfl))
        · have hF := am_pos hc12 hF
          refine lv_aload_n hx hb dL_law_884 rfl (lv_at hl 5 rfl) ?_
          refine lv_iconst (v := (0 : Int32)) hx hb dL_law_885 (by decide) ?_
          obtain ⟨hq13, hF⟩ := am_ifR hF
          refine am_lald X hh 151 (by decide) rfl hq13 dL_law_886 ?_
          refine lv_iload hx hb dL_law_887 (lv_at hl 0 rfl) ?_
          refine lv_if_eq (tgt := 896) hx hb dL_law_889 (by decide) (fun hc14 => ?_) (fun hc14 => ?_)
          · have hF := am_pos hc14 hF
            refine lv_lconst (v := (0 : Int64)) hx hb dL_law_896 (by decide) ?_
            refine am_lcmp_eq (tgt := 903) hx hb dL_law_897 dL_law_898 (by decide) (fun hc15 => ?_) (fun hc15 => ?_)
            · have hF := am_pos hc15 hF
              refine lv_goto (tgt := 3310) hx hb dL_law_903 (by decide) ?_
              cases hF
              exact W.widen (by omega) (by omega) (kk ab H locs ls hh (lv_sub hl [2, 3, 4, 5, 6, 7] rfl))
            · have hF := am_neg hc15 hF
              refine lv_iconst (v := (0 : Int32)) hx hb dL_law_901 (by decide) ?_
              cases hF
          · have hF := am_neg hc14 hF
            refine lv_lconst (v := (1 : Int64)) hx hb dL_law_892 (by decide) ?_
            refine lv_goto (tgt := 897) hx hb dL_law_893 (by decide) ?_
            refine am_lcmp_eq (tgt := 903) hx hb dL_law_897 dL_law_898 (by decide) (fun hc16 => ?_) (fun hc16 => ?_)
            · have hF := am_pos hc16 hF
              refine lv_goto (tgt := 3310) hx hb dL_law_903 (by decide) ?_
              cases hF
              exact W.widen (by omega) (by omega) (kk ab H locs ls hh (lv_sub hl [2, 3, 4, 5, 6, 7] rfl))
            · have hF := am_neg hc16 hF
              refine lv_iconst (v := (0 : Int32)) hx hb dL_law_901 (by decide) ?_
              cases hF
      · have hF := am_neg hc11 hF
        refine lv_iconst (v := (0 : Int32)) hx hb dL_law_877 (by decide) ?_
        cases hF
    · have hF := am_neg hc5 hF
      refine lv_iconst (v := (1 : Int32)) hx hb dL_law_858 (by decide) ?_
      refine lv_goto (tgt := 863) hx hb dL_law_859 (by decide) ?_
      obtain ⟨⟨r18, w19⟩, hk17, hF⟩ := am_bind hF
      have hF := am_u2 hF
      refine am_call X hh (va_runV (As := [.int x1, .int (1 : Int32)]) (rest := []) X.1 (c_X11_setRatchet l G hk17) (cwV 2 hts gL_law_X11_setRatchet rfl rfl rfl (by decide +kernel) ⟨Nat.le_of_ble_eq_true rfl, Nat.le_of_ble_eq_true rfl⟩) (am_preV X hh 141 12 (by decide) rfl rfl) rfl rfl hl.1 rfl (lv_room (Nat.le_of_ble_eq_true rfl)) dL_law_863 ⟨by show (cells + 1) + 0 ≤ 603072; omega, by show (slots + 6) + 0 ≤ 7194730; omega⟩) (fun ab H locs hh => ?_)
      refine lv_istore (lv' := [(7, .int r18), (6, .int r3), (0, .ref b), (1, .ref (gAd G 0)), (2, .ref (gAd G 141)), (3, .ref (gAd G 151)), (4, .ref (gAd G 152)), (5, .int i)]) hx hb dL_law_866 hl (by decide) rfl (fun ls hl => ?_)
      refine lv_aload_n hx hb dL_law_868 rfl (lv_at hl 4 rfl) ?_
      obtain ⟨r21, hk20, hF⟩ := am_bind hF
      refine am_call X hh (va_runV (As := []) (rest := []) X.1 (c_X11_thrown l G hk20) (cwV 0 hts gL_law_X11_thrown rfl rfl rfl (by decide +kernel) ⟨Nat.le_of_ble_eq_true rfl, Nat.le_of_ble_eq_true rfl⟩) (am_preV X hh 141 12 (by decide) rfl rfl) rfl rfl hl.1 rfl (lv_room (Nat.le_of_ble_eq_true rfl)) dL_law_869 ⟨by show (cells + 1) + 0 ≤ 603072; omega, by show (slots + 6) + 0 ≤ 7194730; omega⟩) (fun ab H locs hh => ?_)
      refine lv_iload hx hb dL_law_872 (lv_at hl 1 rfl) ?_
      refine lv_icmp_eq (tgt := 879) hx hb dL_law_874 (by decide) (fun hc22 => ?_) (fun hc22 => ?_)
      · have hF := am_pos hc22 hF
        refine lv_iload hx hb dL_law_879 (lv_at hl 1 rfl) ?_
        refine lv_if_ne (tgt := 903) hx hb dL_law_881 (by decide) (fun hc23 => ?_) (fun hc23 => ?_)
        · have hF := am_neg hc23 hF
          refine lv_goto (tgt := 3310) hx hb dL_law_903 (by decide) ?_
          cases hF
          exact W.widen (by omega) (by omega) (kk ab H locs ls hh (lv_sub hl [2, 3, 4, 5, 6, 7] rfl))
        · have hF := am_pos hc23 hF
          refine lv_aload_n hx hb dL_law_884 rfl (lv_at hl 5 rfl) ?_
          refine lv_iconst (v := (0 : Int32)) hx hb dL_law_885 (by decide) ?_
          obtain ⟨hq24, hF⟩ := am_ifR hF
          refine am_lald X hh 151 (by decide) rfl hq24 dL_law_886 ?_
          refine lv_iload hx hb dL_law_887 (lv_at hl 0 rfl) ?_
          refine lv_if_eq (tgt := 896) hx hb dL_law_889 (by decide) (fun hc25 => ?_) (fun hc25 => ?_)
          · have hF := am_pos hc25 hF
            refine lv_lconst (v := (0 : Int64)) hx hb dL_law_896 (by decide) ?_
            refine am_lcmp_eq (tgt := 903) hx hb dL_law_897 dL_law_898 (by decide) (fun hc26 => ?_) (fun hc26 => ?_)
            · have hF := am_pos hc26 hF
              refine lv_goto (tgt := 3310) hx hb dL_law_903 (by decide) ?_
              cases hF
              exact W.widen (by omega) (by omega) (kk ab H locs ls hh (lv_sub hl [2, 3, 4, 5, 6, 7] rfl))
            · have hF := am_neg hc26 hF
              refine lv_iconst (v := (0 : Int32)) hx hb dL_law_901 (by decide) ?_
              cases hF
          · have hF := am_neg hc25 hF
            refine lv_lconst (v := (1 : Int64)) hx hb dL_law_892 (by decide) ?_
            refine lv_goto (tgt := 897) hx hb dL_law_893 (by decide) ?_
            refine am_lcmp_eq (tgt := 903) hx hb dL_law_897 dL_law_898 (by decide) (fun hc27 => ?_) (fun hc27 => ?_)
            · have hF := am_pos hc27 hF
              refine lv_goto (tgt := 3310) hx hb dL_law_903 (by decide) ?_
              cases hF
              exact W.widen (by omega) (by omega) (kk ab H locs ls hh (lv_sub hl [2, 3, 4, 5, 6, 7] rfl))
            · have hF := am_neg hc27 hF
              refine lv_iconst (v := (0 : Int32)) hx hb dL_law_901 (by decide) ?_
              cases hF
      · have hF := am_neg hc22 hF
        refine lv_iconst (v := (0 : Int32)) hx hb dL_law_877 (by decide) ?_
        cases hF
  · have hF := am_neg hc1 hF
    refine lv_iconst (v := (1 : Int32)) hx hb dL_law_831 (by decide) ?_
    refine lv_goto (tgt := 836) hx hb dL_law_832 (by decide) ?_
    refine lv_aload_n hx hb dL_law_836 rfl (lv_at hl 3 rfl) ?_
    obtain ⟨⟨r29, w30⟩, hk28, hF⟩ := am_bind hF
    have hF := am_u2 hF
    refine am_callW X hh (vx_runSX (As := [.ref (gAd G 0), .int x1, .int (1 : Int32), .ref (gAd G 151)]) (rest := []) X.1 (c_L_setRatchet l G hst hk28) (vx_cwSW 4 hts gL_law_L_setRatchet rfl rfl rfl (by decide +kernel) ⟨Nat.le_of_ble_eq_true rfl, Nat.le_of_ble_eq_true rfl⟩) (am_preS X hh) rfl rfl hl.1 rfl (lv_room (Nat.le_of_ble_eq_true rfl)) dL_law_837 ⟨by show cells + 1 ≤ 603072; omega, by show slots + 6 ≤ 7194730; omega⟩) (fun ab H locs hh => ?_)
    refine lv_istore (lv' := [(6, .int r29), (0, .ref b), (1, .ref (gAd G 0)), (2, .ref (gAd G 141)), (3, .ref (gAd G 151)), (4, .ref (gAd G 152)), (5, .int i)]) hx hb dL_law_840 hl (by decide) rfl (fun ls hl => ?_)
    refine lv_aload_n hx hb dL_law_842 rfl (lv_at hl 3 rfl) ?_
    refine lv_aload_n hx hb dL_law_843 rfl (lv_at hl 1 rfl) ?_
    refine lv_iload hx hb dL_law_844 (lv_at hl 6 rfl) ?_
    refine lv_iconst (v := (1 : Int32)) hx hb dL_law_846 (by decide) ?_
    refine lv_iadd hx hb dL_law_847 ?_
    refine am_sld hx hb hX hbl hbA hh.2.2 h1 dL_law_848 ?_
    refine lv_aload_n hx hb dL_law_849 rfl (lv_at hl 1 rfl) ?_
    refine lv_iload hx hb dL_law_850 (lv_at hl 6 rfl) ?_
    refine lv_iconst (v := (2 : Int32)) hx hb dL_law_852 (by decide) ?_
    refine lv_iadd hx hb dL_law_853 ?_
    refine am_sld hx hb hX hbl hbA hh.2.2 h2 dL_law_854 ?_
    refine lv_if_eq (tgt := 862) hx hb dL_law_855 (by decide) (fun hc31 => ?_) (fun hc31 => ?_)
    · have hF := am_pos hc31 hF
      refine lv_iconst (v := (0 : Int32)) hx hb dL_law_862 (by decide) ?_
      obtain ⟨⟨r33, w34⟩, hk32, hF⟩ := am_bind hF
      have hF := am_u2 hF
      refine am_call X hh (va_runV (As := [.int x1, .int (0 : Int32)]) (rest := []) X.1 (c_X11_setRatchet l G hk32) (cwV 2 hts gL_law_X11_setRatchet rfl rfl rfl (by decide +kernel) ⟨Nat.le_of_ble_eq_true rfl, Nat.le_of_ble_eq_true rfl⟩) (am_preV X hh 141 12 (by decide) rfl rfl) rfl rfl hl.1 rfl (lv_room (Nat.le_of_ble_eq_true rfl)) dL_law_863 ⟨by show (cells + 1) + 0 ≤ 603072; omega, by show (slots + 6) + 0 ≤ 7194730; omega⟩) (fun ab H locs hh => ?_)
      refine lv_istore (lv' := [(7, .int r33), (6, .int r29), (0, .ref b), (1, .ref (gAd G 0)), (2, .ref (gAd G 141)), (3, .ref (gAd G 151)), (4, .ref (gAd G 152)), (5, .int i)]) hx hb dL_law_866 hl (by decide) rfl (fun ls hl => ?_)
      refine lv_aload_n hx hb dL_law_868 rfl (lv_at hl 4 rfl) ?_
      obtain ⟨r36, hk35, hF⟩ := am_bind hF
      refine am_call X hh (va_runV (As := []) (rest := []) X.1 (c_X11_thrown l G hk35) (cwV 0 hts gL_law_X11_thrown rfl rfl rfl (by decide +kernel) ⟨Nat.le_of_ble_eq_true rfl, Nat.le_of_ble_eq_true rfl⟩) (am_preV X hh 141 12 (by decide) rfl rfl) rfl rfl hl.1 rfl (lv_room (Nat.le_of_ble_eq_true rfl)) dL_law_869 ⟨by show (cells + 1) + 0 ≤ 603072; omega, by show (slots + 6) + 0 ≤ 7194730; omega⟩) (fun ab H locs hh => ?_)
      refine lv_iload hx hb dL_law_872 (lv_at hl 1 rfl) ?_
      refine lv_icmp_eq (tgt := 879) hx hb dL_law_874 (by decide) (fun hc37 => ?_) (fun hc37 => ?_)
      · have hF := am_pos hc37 hF
        refine lv_iload hx hb dL_law_879 (lv_at hl 1 rfl) ?_
        refine lv_if_ne (tgt := 903) hx hb dL_law_881 (by decide) (fun hc38 => ?_) (fun hc38 => ?_)
        · have hF := am_neg hc38 hF
          refine lv_goto (tgt := 3310) hx hb dL_law_903 (by decide) ?_
          cases hF
          exact W.widen (by omega) (by omega) (kk ab H locs ls hh (lv_sub hl [2, 3, 4, 5, 6, 7] rfl))
        · have hF := am_pos hc38 hF
          refine lv_aload_n hx hb dL_law_884 rfl (lv_at hl 5 rfl) ?_
          refine lv_iconst (v := (0 : Int32)) hx hb dL_law_885 (by decide) ?_
          obtain ⟨hq39, hF⟩ := am_ifR hF
          refine am_lald X hh 151 (by decide) rfl hq39 dL_law_886 ?_
          refine lv_iload hx hb dL_law_887 (lv_at hl 0 rfl) ?_
          refine lv_if_eq (tgt := 896) hx hb dL_law_889 (by decide) (fun hc40 => ?_) (fun hc40 => ?_)
          · have hF := am_pos hc40 hF
            refine lv_lconst (v := (0 : Int64)) hx hb dL_law_896 (by decide) ?_
            refine am_lcmp_eq (tgt := 903) hx hb dL_law_897 dL_law_898 (by decide) (fun hc41 => ?_) (fun hc41 => ?_)
            · have hF := am_pos hc41 hF
              refine lv_goto (tgt := 3310) hx hb dL_law_903 (by decide) ?_
              cases hF
              exact W.widen (by omega) (by omega) (kk ab H locs ls hh (lv_sub hl [2, 3, 4, 5, 6, 7] rfl))
            · have hF := am_neg hc41 hF
              refine lv_iconst (v := (0 : Int32)) hx hb dL_law_901 (by decide) ?_
              cases hF
          · have hF := am_neg hc40 hF
            refine lv_lconst (v := (1 : Int64)) hx hb dL_law_892 (by decide) ?_
            refine lv_goto (tgt := 897) hx hb dL_law_893 (by decide) ?_
            refine am_lcmp_eq (tgt := 903) hx hb dL_law_897 dL_law_898 (by decide) (fun hc42 => ?_) (fun hc42 => ?_)
            · have hF := am_pos hc42 hF
              refine lv_goto (tgt := 3310) hx hb dL_law_903 (by decide) ?_
              cases hF
              exact W.widen (by omega) (by omega) (kk ab H locs ls hh (lv_sub hl [2, 3, 4, 5, 6, 7] rfl))
            · have hF := am_neg hc42 hF
              refine lv_iconst (v := (0 : Int32)) hx hb dL_law_901 (by decide) ?_
              cases hF
      · have hF := am_neg hc37 hF
        refine lv_iconst (v := (0 : Int32)) hx hb dL_law_877 (by decide) ?_
        cases hF
    · have hF := am_neg hc31 hF
      refine lv_iconst (v := (1 : Int32)) hx hb dL_law_858 (by decide) ?_
      refine lv_goto (tgt := 863) hx hb dL_law_859 (by decide) ?_
      obtain ⟨⟨r44, w45⟩, hk43, hF⟩ := am_bind hF
      have hF := am_u2 hF
      refine am_call X hh (va_runV (As := [.int x1, .int (1 : Int32)]) (rest := []) X.1 (c_X11_setRatchet l G hk43) (cwV 2 hts gL_law_X11_setRatchet rfl rfl rfl (by decide +kernel) ⟨Nat.le_of_ble_eq_true rfl, Nat.le_of_ble_eq_true rfl⟩) (am_preV X hh 141 12 (by decide) rfl rfl) rfl rfl hl.1 rfl (lv_room (Nat.le_of_ble_eq_true rfl)) dL_law_863 ⟨by show (cells + 1) + 0 ≤ 603072; omega, by show (slots + 6) + 0 ≤ 7194730; omega⟩) (fun ab H locs hh => ?_)
      refine lv_istore (lv' := [(7, .int r44), (6, .int r29), (0, .ref b), (1, .ref (gAd G 0)), (2, .ref (gAd G 141)), (3, .ref (gAd G 151)), (4, .ref (gAd G 152)), (5, .int i)]) hx hb dL_law_866 hl (by decide) rfl (fun ls hl => ?_)
      refine lv_aload_n hx hb dL_law_868 rfl (lv_at hl 4 rfl) ?_
      obtain ⟨r47, hk46, hF⟩ := am_bind hF
      refine am_call X hh (va_runV (As := []) (rest := []) X.1 (c_X11_thrown l G hk46) (cwV 0 hts gL_law_X11_thrown rfl rfl rfl (by decide +kernel) ⟨Nat.le_of_ble_eq_true rfl, Nat.le_of_ble_eq_true rfl⟩) (am_preV X hh 141 12 (by decide) rfl rfl) rfl rfl hl.1 rfl (lv_room (Nat.le_of_ble_eq_true rfl)) dL_law_869 ⟨by show (cells + 1) + 0 ≤ 603072; omega, by show (slots + 6) + 0 ≤ 7194730; omega⟩) (fun ab H locs hh => ?_)
      refine lv_iload hx hb dL_law_872 (lv_at hl 1 rfl) ?_
      refine lv_icmp_eq (tgt := 879) hx hb dL_law_874 (by decide) (fun hc48 => ?_) (fun hc48 => ?_)
      · have hF := am_pos hc48 hF
        refine lv_iload hx hb dL_law_879 (lv_at hl 1 rfl) ?_
        refine lv_if_ne (tgt := 903) hx hb dL_law_881 (by decide) (fun hc49 => ?_) (fun hc49 => ?_)
        · have hF := am_neg hc49 hF
          refine lv_goto (tgt := 3310) hx hb dL_law_903 (by decide) ?_
          cases hF
          exact W.widen (by omega) (by omega) (kk ab H locs ls hh (lv_sub hl [2, 3, 4, 5, 6, 7] rfl))
        · have hF := am_pos hc49 hF
          refine lv_aload_n hx hb dL_law_884 rfl (lv_at hl 5 rfl) ?_
          refine lv_iconst (v := (0 : Int32)) hx hb dL_law_885 (by decide) ?_
          obtain ⟨hq50, hF⟩ := am_ifR hF
          refine am_lald X hh 151 (by decide) rfl hq50 dL_law_886 ?_
          refine lv_iload hx hb dL_law_887 (lv_at hl 0 rfl) ?_
          refine lv_if_eq (tgt := 896) hx hb dL_law_889 (by decide) (fun hc51 => ?_) (fun hc51 => ?_)
          · have hF := am_pos hc51 hF
            refine lv_lconst (v := (0 : Int64)) hx hb dL_law_896 (by decide) ?_
            refine am_lcmp_eq (tgt := 903) hx hb dL_law_897 dL_law_898 (by decide) (fun hc52 => ?_) (fun hc52 => ?_)
            · have hF := am_pos hc52 hF
              refine lv_goto (tgt := 3310) hx hb dL_law_903 (by decide) ?_
              cases hF
              exact W.widen (by omega) (by omega) (kk ab H locs ls hh (lv_sub hl [2, 3, 4, 5, 6, 7] rfl))
            · have hF := am_neg hc52 hF
              refine lv_iconst (v := (0 : Int32)) hx hb dL_law_901 (by decide) ?_
              cases hF
          · have hF := am_neg hc51 hF
            refine lv_lconst (v := (1 : Int64)) hx hb dL_law_892 (by decide) ?_
            refine lv_goto (tgt := 897) hx hb dL_law_893 (by decide) ?_
            refine am_lcmp_eq (tgt := 903) hx hb dL_law_897 dL_law_898 (by decide) (fun hc53 => ?_) (fun hc53 => ?_)
            · have hF := am_pos hc53 hF
              refine lv_goto (tgt := 3310) hx hb dL_law_903 (by decide) ?_
              cases hF
              exact W.widen (by omega) (by omega) (kk ab H locs ls hh (lv_sub hl [2, 3, 4, 5, 6, 7] rfl))
            · have hF := am_neg hc53 hF
              refine lv_iconst (v := (0 : Int32)) hx hb dL_law_901 (by decide) ?_
              cases hF
      · have hF := am_neg hc48 hF
        refine lv_iconst (v := (0 : Int32)) hx hb dL_law_877 (by decide) ?_
        cases hF
set_option maxHeartbeats 4000000 in
set_option maxRecDepth 100000 in
theorem c_law_906 (l : Launch) (hst : l.stackTraces = false) {G : GG} {p : Program} {e : Env} {s : State} {m : MethodId} {args : Array Value} {below : List Frame} {meth : Method} {c : Code} {b L cells slots ab : Nat} {xs : Nat → Int32} {H : Heap} {locs : List Loc} {ls : Array Slot} {w w1 : Wd} {i x1 x2 x3 : Int32} {Q : State → Prop} (X : CX G p s m args meth c cL_law 9 RL wsL_law) (hX : va_X b L xs s s.heap) (hbl : b < s.heap.size) (hbA : ¬ gA G b) (hh : AH G s.heap w ab H locs) (h1 : vp_in (i + 1) L ∧ xs (i + 1).toNatClampNeg = x1) (h2 : vp_in (i + 2) L ∧ xs (i + 2).toNatClampNeg = x2) (h3 : vp_in (i + 3) L ∧ xs (i + 3).toNatClampNeg = x3) (hc : cells + 35 ≤ 603072) (hs : slots + 2182 ≤ 7194730) (hl : lv_has ls 9 [(0, .ref b), (1, .ref (gAd G 0)), (2, .ref (gAd G 141)), (3, .ref (gAd G 151)), (4, .ref (gAd G 152)), (5, .int i)]) (hF : f_law_906 w x1 x2 x3 = some w1) (kk : ∀ (ab : Nat) (H : Heap) (locs : List Loc) (ls : Array Slot), AH G s.heap w1 ab H locs → lv_has ls 9 [(0, .ref b), (1, .ref (gAd G 0)), (2, .ref (gAd G 141)), (3, .ref (gAd G 151)), (4, .ref (gAd G 152)), (5, .int i)] → W p l e room_1 s m args below meth c H locs (cells + 35) (slots + 2182) Q (F0 m 3310 ls [])) : W p l e room_1 s m args below meth c H locs cells slots Q (F0 m 906 ls []) := by
  have hx := X.1.1; have hb := X.1.2.1; have hml := X.1.2.2.1; have hown := X.1.2.2.2.1; have hts := X.1.2.2.2.2
  unfold f_law_906 at hF
  refine lv_aload_n hx hb dL_law_906 rfl (lv_at hl 1 rfl) ?_
  refine lv_aload_n hx hb dL_law_907 rfl (lv_at hl 0 rfl) ?_
  refine lv_iload hx hb dL_law_908 (lv_at hl 5 rfl) ?_
  refine lv_iconst (v := (1 : Int32)) hx hb dL_law_910 (by decide) ?_
  refine lv_iadd hx hb dL_law_911 ?_
  refine am_sld hx hb hX hbl hbA hh.2.2 h1 dL_law_912 ?_
  refine lv_aload_n hx hb dL_law_913 rfl (lv_at hl 3 rfl) ?_
  obtain ⟨⟨r2, w3⟩, hk1, hF⟩ := am_bind hF
  have hF := am_u2 hF
  refine am_callW X hh (vx_runSX (As := [.ref (gAd G 0), .int x1, .ref (gAd G 151)]) (rest := []) X.1 (c_L_oil l G hst hk1) (vx_cwSW 3 hts gL_law_L_oil rfl rfl rfl (by decide +kernel) ⟨Nat.le_of_ble_eq_true rfl, Nat.le_of_ble_eq_true rfl⟩) (am_preS X hh) rfl rfl hl.1 rfl (lv_room (Nat.le_of_ble_eq_true rfl)) dL_law_914 ⟨by show cells + 1 ≤ 603072; omega, by show slots + 6 ≤ 7194730; omega⟩) (fun ab H locs hh => ?_)
  refine lv_istore (lv' := [(6, .int r2), (0, .ref b), (1, .ref (gAd G 0)), (2, .ref (gAd G 141)), (3, .ref (gAd G 151)), (4, .ref (gAd G 152)), (5, .int i)]) hx hb dL_law_917 hl (by decide) rfl (fun ls hl => ?_)
  refine lv_aload_n hx hb dL_law_919 rfl (lv_at hl 3 rfl) ?_
  refine lv_aload_n hx hb dL_law_920 rfl (lv_at hl 1 rfl) ?_
  refine lv_iload hx hb dL_law_921 (lv_at hl 6 rfl) ?_
  refine lv_iconst (v := (1 : Int32)) hx hb dL_law_923 (by decide) ?_
  refine lv_iadd hx hb dL_law_924 ?_
  refine am_sld hx hb hX hbl hbA hh.2.2 h1 dL_law_925 ?_
  obtain ⟨⟨r5, w6⟩, hk4, hF⟩ := am_bind hF
  have hF := am_u2 hF
  refine am_call X hh (va_runV (As := [.int x1]) (rest := []) X.1 (c_X11_oil l G hk4) (cwV 1 hts gL_law_X11_oil rfl rfl rfl (by decide +kernel) ⟨Nat.le_of_ble_eq_true rfl, Nat.le_of_ble_eq_true rfl⟩) (am_preV X hh 141 12 (by decide) rfl rfl) rfl rfl hl.1 rfl (lv_room (Nat.le_of_ble_eq_true rfl)) dL_law_926 ⟨by show (cells + 1) + 0 ≤ 603072; omega, by show (slots + 6) + 0 ≤ 7194730; omega⟩) (fun ab H locs hh => ?_)
  refine lv_istore (lv' := [(7, .int r5), (6, .int r2), (0, .ref b), (1, .ref (gAd G 0)), (2, .ref (gAd G 141)), (3, .ref (gAd G 151)), (4, .ref (gAd G 152)), (5, .int i)]) hx hb dL_law_929 hl (by decide) rfl (fun ls hl => ?_)
  refine lv_aload_n hx hb dL_law_931 rfl (lv_at hl 4 rfl) ?_
  obtain ⟨r8, hk7, hF⟩ := am_bind hF
  refine am_call X hh (va_runV (As := []) (rest := []) X.1 (c_X11_thrown l G hk7) (cwV 0 hts gL_law_X11_thrown rfl rfl rfl (by decide +kernel) ⟨Nat.le_of_ble_eq_true rfl, Nat.le_of_ble_eq_true rfl⟩) (am_preV X hh 141 12 (by decide) rfl rfl) rfl rfl hl.1 rfl (lv_room (Nat.le_of_ble_eq_true rfl)) dL_law_932 ⟨by show (cells + 1) + 0 ≤ 603072; omega, by show (slots + 6) + 0 ≤ 7194730; omega⟩) (fun ab H locs hh => ?_)
  refine lv_iload hx hb dL_law_935 (lv_at hl 1 rfl) ?_
  refine lv_icmp_eq (tgt := 942) hx hb dL_law_937 (by decide) (fun hc9 => ?_) (fun hc9 => ?_)
  · have hF := am_pos hc9 hF
    refine lv_iload hx hb dL_law_942 (lv_at hl 1 rfl) ?_
    refine lv_if_ne (tgt := 959) hx hb dL_law_944 (by decide) (fun hc10 => ?_) (fun hc10 => ?_)
    · have hF := am_neg hc10 hF
      refine lv_goto (tgt := 3310) hx hb dL_law_959 (by decide) ?_
      cases hF
      exact W.widen (by omega) (by omega) (kk ab H locs ls hh (lv_sub hl [2, 3, 4, 5, 6, 7] rfl))
    · have hF := am_pos hc10 hF
      refine lv_aload_n hx hb dL_law_947 rfl (lv_at hl 5 rfl) ?_
      refine lv_iconst (v := (0 : Int32)) hx hb dL_law_948 (by decide) ?_
      obtain ⟨hq11, hF⟩ := am_ifR hF
      refine am_lald X hh 151 (by decide) rfl hq11 dL_law_949 ?_
      refine lv_iload hx hb dL_law_950 (lv_at hl 0 rfl) ?_
      refine lv_i2l hx hb dL_law_952 rfl ?_
      refine am_lcmp_eq (tgt := 959) hx hb dL_law_953 dL_law_954 (by decide) (fun hc12 => ?_) (fun hc12 => ?_)
      · have hF := am_pos hc12 hF
        refine lv_goto (tgt := 3310) hx hb dL_law_959 (by decide) ?_
        cases hF
        exact W.widen (by omega) (by omega) (kk ab H locs ls hh (lv_sub hl [2, 3, 4, 5, 6, 7] rfl))
      · have hF := am_neg hc12 hF
        refine lv_iconst (v := (0 : Int32)) hx hb dL_law_957 (by decide) ?_
        cases hF
  · have hF := am_neg hc9 hF
    refine lv_iconst (v := (0 : Int32)) hx hb dL_law_940 (by decide) ?_
    cases hF
set_option maxHeartbeats 4000000 in
set_option maxRecDepth 100000 in
theorem c_law_962 (l : Launch) (hst : l.stackTraces = false) {G : GG} {p : Program} {e : Env} {s : State} {m : MethodId} {args : Array Value} {below : List Frame} {meth : Method} {c : Code} {b L cells slots ab : Nat} {xs : Nat → Int32} {H : Heap} {locs : List Loc} {ls : Array Slot} {w w1 : Wd} {i x1 x2 x3 : Int32} {Q : State → Prop} (X : CX G p s m args meth c cL_law 9 RL wsL_law) (hX : va_X b L xs s s.heap) (hbl : b < s.heap.size) (hbA : ¬ gA G b) (hh : AH G s.heap w ab H locs) (h1 : vp_in (i + 1) L ∧ xs (i + 1).toNatClampNeg = x1) (h2 : vp_in (i + 2) L ∧ xs (i + 2).toNatClampNeg = x2) (h3 : vp_in (i + 3) L ∧ xs (i + 3).toNatClampNeg = x3) (hc : cells + 35 ≤ 603072) (hs : slots + 2182 ≤ 7194730) (hl : lv_has ls 9 [(0, .ref b), (1, .ref (gAd G 0)), (2, .ref (gAd G 141)), (3, .ref (gAd G 151)), (4, .ref (gAd G 152)), (5, .int i)]) (hF : f_law_962 w x1 x2 x3 = some w1) (kk : ∀ (ab : Nat) (H : Heap) (locs : List Loc) (ls : Array Slot), AH G s.heap w1 ab H locs → lv_has ls 9 [(0, .ref b), (1, .ref (gAd G 0)), (2, .ref (gAd G 141)), (3, .ref (gAd G 151)), (4, .ref (gAd G 152)), (5, .int i)] → W p l e room_1 s m args below meth c H locs (cells + 35) (slots + 2182) Q (F0 m 3310 ls [])) : W p l e room_1 s m args below meth c H locs cells slots Q (F0 m 962 ls []) := by
  have hx := X.1.1; have hb := X.1.2.1; have hml := X.1.2.2.1; have hown := X.1.2.2.2.1; have hts := X.1.2.2.2.2
  unfold f_law_962 at hF
  refine lv_aload_n hx hb dL_law_962 rfl (lv_at hl 1 rfl) ?_
  refine lv_aload_n hx hb dL_law_963 rfl (lv_at hl 0 rfl) ?_
  refine lv_iload hx hb dL_law_964 (lv_at hl 5 rfl) ?_
  refine lv_iconst (v := (1 : Int32)) hx hb dL_law_966 (by decide) ?_
  refine lv_iadd hx hb dL_law_967 ?_
  refine am_sld hx hb hX hbl hbA hh.2.2 h1 dL_law_968 ?_
  refine lv_aload_n hx hb dL_law_969 rfl (lv_at hl 3 rfl) ?_
  obtain ⟨⟨r2, w3⟩, hk1, hF⟩ := am_bind hF
  have hF := am_u2 hF
  refine am_callW X hh (vx_runSX (As := [.ref (gAd G 0), .int x1, .ref (gAd G 151)]) (rest := []) X.1 (c_L_buyOil l G hst hk1) (vx_cwSW 3 hts gL_law_L_buyOil rfl rfl rfl (by decide +kernel) ⟨Nat.le_of_ble_eq_true rfl, Nat.le_of_ble_eq_true rfl⟩) (am_preS X hh) rfl rfl hl.1 rfl (lv_room (Nat.le_of_ble_eq_true rfl)) dL_law_970 ⟨by show cells + 1 ≤ 603072; omega, by show slots + 6 ≤ 7194730; omega⟩) (fun ab H locs hh => ?_)
  refine lv_istore (lv' := [(6, .int r2), (0, .ref b), (1, .ref (gAd G 0)), (2, .ref (gAd G 141)), (3, .ref (gAd G 151)), (4, .ref (gAd G 152)), (5, .int i)]) hx hb dL_law_973 hl (by decide) rfl (fun ls hl => ?_)
  refine lv_aload_n hx hb dL_law_975 rfl (lv_at hl 3 rfl) ?_
  refine lv_aload_n hx hb dL_law_976 rfl (lv_at hl 1 rfl) ?_
  refine lv_iload hx hb dL_law_977 (lv_at hl 6 rfl) ?_
  refine lv_iconst (v := (1 : Int32)) hx hb dL_law_979 (by decide) ?_
  refine lv_iadd hx hb dL_law_980 ?_
  refine am_sld hx hb hX hbl hbA hh.2.2 h1 dL_law_981 ?_
  obtain ⟨⟨r5, w6⟩, hk4, hF⟩ := am_bind hF
  have hF := am_u2 hF
  refine am_call X hh (va_runV (As := [.int x1]) (rest := []) X.1 (c_X11_buyOil l G hk4) (cwV 1 hts gL_law_X11_buyOil rfl rfl rfl (by decide +kernel) ⟨Nat.le_of_ble_eq_true rfl, Nat.le_of_ble_eq_true rfl⟩) (am_preV X hh 141 12 (by decide) rfl rfl) rfl rfl hl.1 rfl (lv_room (Nat.le_of_ble_eq_true rfl)) dL_law_982 ⟨by show (cells + 1) + 0 ≤ 603072; omega, by show (slots + 6) + 0 ≤ 7194730; omega⟩) (fun ab H locs hh => ?_)
  refine lv_istore (lv' := [(7, .int r5), (6, .int r2), (0, .ref b), (1, .ref (gAd G 0)), (2, .ref (gAd G 141)), (3, .ref (gAd G 151)), (4, .ref (gAd G 152)), (5, .int i)]) hx hb dL_law_985 hl (by decide) rfl (fun ls hl => ?_)
  refine lv_aload_n hx hb dL_law_987 rfl (lv_at hl 4 rfl) ?_
  obtain ⟨r8, hk7, hF⟩ := am_bind hF
  refine am_call X hh (va_runV (As := []) (rest := []) X.1 (c_X11_thrown l G hk7) (cwV 0 hts gL_law_X11_thrown rfl rfl rfl (by decide +kernel) ⟨Nat.le_of_ble_eq_true rfl, Nat.le_of_ble_eq_true rfl⟩) (am_preV X hh 141 12 (by decide) rfl rfl) rfl rfl hl.1 rfl (lv_room (Nat.le_of_ble_eq_true rfl)) dL_law_988 ⟨by show (cells + 1) + 0 ≤ 603072; omega, by show (slots + 6) + 0 ≤ 7194730; omega⟩) (fun ab H locs hh => ?_)
  refine lv_iload hx hb dL_law_991 (lv_at hl 1 rfl) ?_
  refine lv_icmp_eq (tgt := 998) hx hb dL_law_993 (by decide) (fun hc9 => ?_) (fun hc9 => ?_)
  · have hF := am_pos hc9 hF
    refine lv_iload hx hb dL_law_998 (lv_at hl 1 rfl) ?_
    refine lv_if_ne (tgt := 1015) hx hb dL_law_1000 (by decide) (fun hc10 => ?_) (fun hc10 => ?_)
    · have hF := am_neg hc10 hF
      refine lv_goto (tgt := 3310) hx hb dL_law_1015 (by decide) ?_
      cases hF
      exact W.widen (by omega) (by omega) (kk ab H locs ls hh (lv_sub hl [2, 3, 4, 5, 6, 7] rfl))
    · have hF := am_pos hc10 hF
      refine lv_aload_n hx hb dL_law_1003 rfl (lv_at hl 5 rfl) ?_
      refine lv_iconst (v := (0 : Int32)) hx hb dL_law_1004 (by decide) ?_
      obtain ⟨hq11, hF⟩ := am_ifR hF
      refine am_lald X hh 151 (by decide) rfl hq11 dL_law_1005 ?_
      refine lv_iload hx hb dL_law_1006 (lv_at hl 0 rfl) ?_
      refine lv_i2l hx hb dL_law_1008 rfl ?_
      refine am_lcmp_eq (tgt := 1015) hx hb dL_law_1009 dL_law_1010 (by decide) (fun hc12 => ?_) (fun hc12 => ?_)
      · have hF := am_pos hc12 hF
        refine lv_goto (tgt := 3310) hx hb dL_law_1015 (by decide) ?_
        cases hF
        exact W.widen (by omega) (by omega) (kk ab H locs ls hh (lv_sub hl [2, 3, 4, 5, 6, 7] rfl))
      · have hF := am_neg hc12 hF
        refine lv_iconst (v := (0 : Int32)) hx hb dL_law_1013 (by decide) ?_
        cases hF
  · have hF := am_neg hc9 hF
    refine lv_iconst (v := (0 : Int32)) hx hb dL_law_996 (by decide) ?_
    cases hF
set_option maxHeartbeats 4000000 in
set_option maxRecDepth 100000 in
theorem c_law_1018 (l : Launch) (hst : l.stackTraces = false) {G : GG} {p : Program} {e : Env} {s : State} {m : MethodId} {args : Array Value} {below : List Frame} {meth : Method} {c : Code} {b L cells slots ab : Nat} {xs : Nat → Int32} {H : Heap} {locs : List Loc} {ls : Array Slot} {w w1 : Wd} {i x1 x2 x3 : Int32} {Q : State → Prop} (X : CX G p s m args meth c cL_law 9 RL wsL_law) (hX : va_X b L xs s s.heap) (hbl : b < s.heap.size) (hbA : ¬ gA G b) (hh : AH G s.heap w ab H locs) (h1 : vp_in (i + 1) L ∧ xs (i + 1).toNatClampNeg = x1) (h2 : vp_in (i + 2) L ∧ xs (i + 2).toNatClampNeg = x2) (h3 : vp_in (i + 3) L ∧ xs (i + 3).toNatClampNeg = x3) (hc : cells + 35 ≤ 603072) (hs : slots + 2182 ≤ 7194730) (hl : lv_has ls 9 [(0, .ref b), (1, .ref (gAd G 0)), (2, .ref (gAd G 141)), (3, .ref (gAd G 151)), (4, .ref (gAd G 152)), (5, .int i)]) (hF : f_law_1018 w x1 x2 x3 = some w1) (kk : ∀ (ab : Nat) (H : Heap) (locs : List Loc) (ls : Array Slot), AH G s.heap w1 ab H locs → lv_has ls 9 [(0, .ref b), (1, .ref (gAd G 0)), (2, .ref (gAd G 141)), (3, .ref (gAd G 151)), (4, .ref (gAd G 152)), (5, .int i)] → W p l e room_1 s m args below meth c H locs (cells + 35) (slots + 2182) Q (F0 m 3310 ls [])) : W p l e room_1 s m args below meth c H locs cells slots Q (F0 m 1018 ls []) := by
  have hx := X.1.1; have hb := X.1.2.1; have hml := X.1.2.2.1; have hown := X.1.2.2.2.1; have hts := X.1.2.2.2.2
  unfold f_law_1018 at hF
  refine lv_aload_n hx hb dL_law_1018 rfl (lv_at hl 1 rfl) ?_
  refine lv_aload_n hx hb dL_law_1019 rfl (lv_at hl 0 rfl) ?_
  refine lv_iload hx hb dL_law_1020 (lv_at hl 5 rfl) ?_
  refine lv_iconst (v := (1 : Int32)) hx hb dL_law_1022 (by decide) ?_
  refine lv_iadd hx hb dL_law_1023 ?_
  refine am_sld hx hb hX hbl hbA hh.2.2 h1 dL_law_1024 ?_
  refine lv_aload_n hx hb dL_law_1025 rfl (lv_at hl 3 rfl) ?_
  obtain ⟨⟨r2, w3⟩, hk1, hF⟩ := am_bind hF
  have hF := am_u2 hF
  refine am_callW X hh (vx_runSX (As := [.ref (gAd G 0), .int x1, .ref (gAd G 151)]) (rest := []) X.1 (c_L_addPlanet l G hst hk1) (vx_cwSW 3 hts gL_law_L_addPlanet rfl rfl rfl (by decide +kernel) ⟨Nat.le_of_ble_eq_true rfl, Nat.le_of_ble_eq_true rfl⟩) (am_preS X hh) rfl rfl hl.1 rfl (lv_room (Nat.le_of_ble_eq_true rfl)) dL_law_1026 ⟨by show cells + 1 ≤ 603072; omega, by show slots + 6 ≤ 7194730; omega⟩) (fun ab H locs hh => ?_)
  refine lv_istore (lv' := [(6, .int r2), (0, .ref b), (1, .ref (gAd G 0)), (2, .ref (gAd G 141)), (3, .ref (gAd G 151)), (4, .ref (gAd G 152)), (5, .int i)]) hx hb dL_law_1029 hl (by decide) rfl (fun ls hl => ?_)
  refine lv_aload_n hx hb dL_law_1031 rfl (lv_at hl 3 rfl) ?_
  refine lv_aload_n hx hb dL_law_1032 rfl (lv_at hl 1 rfl) ?_
  refine lv_iload hx hb dL_law_1033 (lv_at hl 6 rfl) ?_
  refine lv_iconst (v := (1 : Int32)) hx hb dL_law_1035 (by decide) ?_
  refine lv_iadd hx hb dL_law_1036 ?_
  refine am_sld hx hb hX hbl hbA hh.2.2 h1 dL_law_1037 ?_
  obtain ⟨⟨r5, w6⟩, hk4, hF⟩ := am_bind hF
  have hF := am_u2 hF
  refine am_call X hh (va_runV (As := [.int x1]) (rest := []) X.1 (c_X11_addPlanet l G hk4) (cwV 1 hts gL_law_X11_addPlanet rfl rfl rfl (by decide +kernel) ⟨Nat.le_of_ble_eq_true rfl, Nat.le_of_ble_eq_true rfl⟩) (am_preV X hh 141 12 (by decide) rfl rfl) rfl rfl hl.1 rfl (lv_room (Nat.le_of_ble_eq_true rfl)) dL_law_1038 ⟨by show (cells + 1) + 0 ≤ 603072; omega, by show (slots + 6) + 0 ≤ 7194730; omega⟩) (fun ab H locs hh => ?_)
  refine lv_istore (lv' := [(7, .int r5), (6, .int r2), (0, .ref b), (1, .ref (gAd G 0)), (2, .ref (gAd G 141)), (3, .ref (gAd G 151)), (4, .ref (gAd G 152)), (5, .int i)]) hx hb dL_law_1041 hl (by decide) rfl (fun ls hl => ?_)
  refine lv_aload_n hx hb dL_law_1043 rfl (lv_at hl 4 rfl) ?_
  obtain ⟨r8, hk7, hF⟩ := am_bind hF
  refine am_call X hh (va_runV (As := []) (rest := []) X.1 (c_X11_thrown l G hk7) (cwV 0 hts gL_law_X11_thrown rfl rfl rfl (by decide +kernel) ⟨Nat.le_of_ble_eq_true rfl, Nat.le_of_ble_eq_true rfl⟩) (am_preV X hh 141 12 (by decide) rfl rfl) rfl rfl hl.1 rfl (lv_room (Nat.le_of_ble_eq_true rfl)) dL_law_1044 ⟨by show (cells + 1) + 0 ≤ 603072; omega, by show (slots + 6) + 0 ≤ 7194730; omega⟩) (fun ab H locs hh => ?_)
  refine lv_iload hx hb dL_law_1047 (lv_at hl 1 rfl) ?_
  refine lv_icmp_eq (tgt := 1054) hx hb dL_law_1049 (by decide) (fun hc9 => ?_) (fun hc9 => ?_)
  · have hF := am_pos hc9 hF
    refine lv_iload hx hb dL_law_1054 (lv_at hl 1 rfl) ?_
    refine lv_if_ne (tgt := 1071) hx hb dL_law_1056 (by decide) (fun hc10 => ?_) (fun hc10 => ?_)
    · have hF := am_neg hc10 hF
      refine lv_goto (tgt := 3310) hx hb dL_law_1071 (by decide) ?_
      cases hF
      exact W.widen (by omega) (by omega) (kk ab H locs ls hh (lv_sub hl [2, 3, 4, 5, 6, 7] rfl))
    · have hF := am_pos hc10 hF
      refine lv_aload_n hx hb dL_law_1059 rfl (lv_at hl 5 rfl) ?_
      refine lv_iconst (v := (0 : Int32)) hx hb dL_law_1060 (by decide) ?_
      obtain ⟨hq11, hF⟩ := am_ifR hF
      refine am_lald X hh 151 (by decide) rfl hq11 dL_law_1061 ?_
      refine lv_iload hx hb dL_law_1062 (lv_at hl 0 rfl) ?_
      refine lv_i2l hx hb dL_law_1064 rfl ?_
      refine am_lcmp_eq (tgt := 1071) hx hb dL_law_1065 dL_law_1066 (by decide) (fun hc12 => ?_) (fun hc12 => ?_)
      · have hF := am_pos hc12 hF
        refine lv_goto (tgt := 3310) hx hb dL_law_1071 (by decide) ?_
        cases hF
        exact W.widen (by omega) (by omega) (kk ab H locs ls hh (lv_sub hl [2, 3, 4, 5, 6, 7] rfl))
      · have hF := am_neg hc12 hF
        refine lv_iconst (v := (0 : Int32)) hx hb dL_law_1069 (by decide) ?_
        cases hF
  · have hF := am_neg hc9 hF
    refine lv_iconst (v := (0 : Int32)) hx hb dL_law_1052 (by decide) ?_
    cases hF
set_option maxHeartbeats 4000000 in
set_option maxRecDepth 100000 in
theorem c_law_1074 (l : Launch) (hst : l.stackTraces = false) {G : GG} {p : Program} {e : Env} {s : State} {m : MethodId} {args : Array Value} {below : List Frame} {meth : Method} {c : Code} {b L cells slots ab : Nat} {xs : Nat → Int32} {H : Heap} {locs : List Loc} {ls : Array Slot} {w w1 : Wd} {i x1 x2 x3 : Int32} {Q : State → Prop} (X : CX G p s m args meth c cL_law 9 RL wsL_law) (hX : va_X b L xs s s.heap) (hbl : b < s.heap.size) (hbA : ¬ gA G b) (hh : AH G s.heap w ab H locs) (h1 : vp_in (i + 1) L ∧ xs (i + 1).toNatClampNeg = x1) (h2 : vp_in (i + 2) L ∧ xs (i + 2).toNatClampNeg = x2) (h3 : vp_in (i + 3) L ∧ xs (i + 3).toNatClampNeg = x3) (hc : cells + 35 ≤ 603072) (hs : slots + 2182 ≤ 7194730) (hl : lv_has ls 9 [(0, .ref b), (1, .ref (gAd G 0)), (2, .ref (gAd G 141)), (3, .ref (gAd G 151)), (4, .ref (gAd G 152)), (5, .int i)]) (hF : f_law_1074 w x1 x2 x3 = some w1) (kk : ∀ (ab : Nat) (H : Heap) (locs : List Loc) (ls : Array Slot), AH G s.heap w1 ab H locs → lv_has ls 9 [(0, .ref b), (1, .ref (gAd G 0)), (2, .ref (gAd G 141)), (3, .ref (gAd G 151)), (4, .ref (gAd G 152)), (5, .int i)] → W p l e room_1 s m args below meth c H locs (cells + 35) (slots + 2182) Q (F0 m 3310 ls [])) : W p l e room_1 s m args below meth c H locs cells slots Q (F0 m 1074 ls []) := by
  have hx := X.1.1; have hb := X.1.2.1; have hml := X.1.2.2.1; have hown := X.1.2.2.2.1; have hts := X.1.2.2.2.2
  unfold f_law_1074 at hF
  refine lv_aload_n hx hb dL_law_1074 rfl (lv_at hl 1 rfl) ?_
  obtain ⟨r2, hk1, hF⟩ := am_bind hF
  refine am_call X hh (va_runV (As := []) (rest := []) X.1 (c_X10_gearCount l G hk1) (cwV 0 hts gL_law_X10_gearCount rfl rfl rfl (by decide +kernel) ⟨Nat.le_of_ble_eq_true rfl, Nat.le_of_ble_eq_true rfl⟩) (am_preV X hh 0 11 (by decide) rfl rfl) rfl rfl hl.1 rfl (lv_room (Nat.le_of_ble_eq_true rfl)) dL_law_1075 ⟨by show cells + 0 ≤ 603072; omega, by show slots + 0 ≤ 7194730; omega⟩) (fun ab H locs hh => ?_)
  refine lv_aload_n hx hb dL_law_1078 rfl (lv_at hl 2 rfl) ?_
  obtain ⟨⟨r4, w5⟩, hk3, hF⟩ := am_bind hF
  have hF := am_u2 hF
  refine am_call X hh (va_runV (As := []) (rest := [.int r2]) X.1 (c_X11_gearCount l G hk3) (cwV 0 hts gL_law_X11_gearCount rfl rfl rfl (by decide +kernel) ⟨Nat.le_of_ble_eq_true rfl, Nat.le_of_ble_eq_true rfl⟩) (am_preV X hh 141 12 (by decide) rfl rfl) rfl rfl hl.1 rfl (lv_room (Nat.le_of_ble_eq_true rfl)) dL_law_1079 ⟨by show cells + 0 ≤ 603072; omega, by show slots + 0 ≤ 7194730; omega⟩) (fun ab H locs hh => ?_)
  refine lv_icmp_eq (tgt := 3310) hx hb dL_law_1082 (by decide) (fun hc6 => ?_) (fun hc6 => ?_)
  · have hF := am_pos hc6 hF
    cases hF
    exact W.widen (by omega) (by omega) (kk ab H locs ls hh (lv_sub hl [0, 1, 2, 3, 4, 5] rfl))
  · have hF := am_neg hc6 hF
    refine lv_iconst (v := (0 : Int32)) hx hb dL_law_1085 (by decide) ?_
    cases hF
