/-! THE BUILDER'S TEXT: the methods behind toString -/
set_option maxHeartbeats 4000000 in
set_option maxRecDepth 100000 in
theorem cT_getValue (l : Launch) (T : TGG) (ws : va_W) {k h a : Nat} (he : ws[k]? = some (h, .inr (1, [.ref a, .int 0, .int 0, .int 13]))) : Met l yJ5_getValue_6d5f1 wsJ5_getValue_6d5f1 ({ frames := 0, cells := 0, slots := 0, locals := 0 } : Room) (va_Pc [.ref h] (zTR T ws)) (TQ T (fun _ : Unit => some (.ref a)) (same_ ws)) 0 0 T.2.2 := by
  refine tq_met (own := RJ5) (cc := cJ5_getValue_6d5f1) (maxL := 1) (ret := some (.array .byte)) (by decide +kernel) rfl rfl (Nat.le_of_ble_eq_true rfl) ?_
  intro p e s m args below meth c ls X hr hnm hh hl
  have hx := X.1.1; have hb := X.1.2.1; have hml := X.1.2.2.1; have hown := X.1.2.2.2.1; have hts := X.1.2.2.2.2
  have hl : lv_has ls 1 [(0, .ref h)] := hl
  refine lv_aload_n hx hb dJ5_getValue_6d5f1_0 rfl (lv_at hl 0 rfl) ?_
  refine va_get (fs := [.ref a, .int 0, .int 0, .int 13]) (C := RJ4) (T := TJ4) (N := 4) hx hb hts (show ∀ z ∈ u_ws RJ4 TJ4 4, z ∈ wsJ5_getValue_6d5f1 by decide +kernel) hown X.2.1 hh.1 k he rfl 0 (by decide) (hts _ (show Cond.fieldLink RJ5 15 "java/lang/AbstractStringBuilder" "value" "[B" ∈ wsJ5_getValue_6d5f1 by decide +kernel)) (fun _ h9 => h9) rfl dJ5_getValue_6d5f1_1 ?_
  exact W.aret hx hb hr (Or.inr ⟨_, rfl⟩) (Or.inr ⟨_, rfl⟩) (fun t ht _ => tq_post hh () rfl ht rfl) hh.2.2.2.2 dJ5_getValue_6d5f1_4 X.2.2.2.2
set_option maxHeartbeats 4000000 in
set_option maxRecDepth 100000 in
theorem cT_length5 (l : Launch) (T : TGG) (ws : va_W) {k h a : Nat} (he : ws[k]? = some (h, .inr (1, [.ref a, .int 0, .int 0, .int 13]))) : Met l yJ5_length_8abf5 wsJ5_length_8abf5 ({ frames := 0, cells := 0, slots := 0, locals := 0 } : Room) (va_Pc [.ref h] (zTR T ws)) (TQ T (inV 13) (same_ ws)) 0 0 T.2.2 := by
  refine tq_met (own := RJ5) (cc := cJ5_length_8abf5) (maxL := 1) (ret := some .int) (by decide +kernel) rfl rfl (Nat.le_of_ble_eq_true rfl) ?_
  intro p e s m args below meth c ls X hr hnm hh hl
  have hx := X.1.1; have hb := X.1.2.1; have hml := X.1.2.2.1; have hown := X.1.2.2.2.1; have hts := X.1.2.2.2.2
  have hl : lv_has ls 1 [(0, .ref h)] := hl
  refine lv_aload_n hx hb dJ5_length_8abf5_0 rfl (lv_at hl 0 rfl) ?_
  refine va_get (fs := [.ref a, .int 0, .int 0, .int 13]) (C := RJ4) (T := TJ4) (N := 4) hx hb hts (show ∀ z ∈ u_ws RJ4 TJ4 4, z ∈ wsJ5_length_8abf5 by decide +kernel) hown X.2.1 hh.1 k he rfl 3 (by decide) (hts _ (show Cond.fieldLink RJ5 79 "java/lang/AbstractStringBuilder" "count" "I" ∈ wsJ5_length_8abf5 by decide +kernel)) (fun _ h9 => h9) rfl dJ5_length_8abf5_1 ?_
  exact W.iret hx hb hr (fun t ht _ => tq_post hh () rfl ht rfl) hh.2.2.2.2 dJ5_length_8abf5_4 X.2.2.2.2
set_option maxHeartbeats 4000000 in
set_option maxRecDepth 100000 in
theorem cT_length4 (l : Launch) (T : TGG) (ws : va_W) {k h a : Nat} (he : ws[k]? = some (h, .inr (1, [.ref a, .int 0, .int 0, .int 13]))) : Met l yJ4_length_8abf5 wsJ4_length_8abf5 ({ frames := 1, cells := 0, slots := 0, locals := 20 } : Room) (va_Pc [.ref h] (zTR T ws)) (TQ T (inV 13) (same_ ws)) 0 0 T.2.2 := by
  refine tq_met (own := RJ4) (cc := cJ4_length_8abf5) (maxL := 1) (ret := some .int) (by decide +kernel) rfl rfl (Nat.le_of_ble_eq_true rfl) ?_
  intro p e s m args below meth c ls X hr hnm hh hl
  have hx := X.1.1; have hb := X.1.2.1; have hml := X.1.2.2.1; have hown := X.1.2.2.2.1; have hts := X.1.2.2.2.2
  have hl : lv_has ls 1 [(0, .ref h)] := hl
  refine lv_aload_n hx hb dJ4_length_8abf5_0 rfl (lv_at hl 0 rfl) ?_
  refine tq_call hh (va_runSU (As := []) (rest := []) (X.2.1.1 1 _ rfl).2 X.1 (cT_length5 l T ws he) (va_cwSU 0 hts gJ4_length_8abf5_J5_length_8abf5_s343 rfl rfl rfl (by decide +kernel) ⟨Nat.le_of_ble_eq_true rfl, Nat.le_of_ble_eq_true rfl⟩) (tq_preV X hh k he rfl) rfl rfl hl.1 rfl (lv_room (Nat.le_of_ble_eq_true rfl)) dJ4_length_8abf5_1 ⟨Nat.le_of_ble_eq_true rfl, Nat.le_of_ble_eq_true rfl⟩) (fun _ H locs hh => ?_)
  exact W.iret hx hb hr (fun t ht _ => tq_post hh () rfl ht rfl) hh.2.2.2.2 dJ4_length_8abf5_4 X.2.2.2.2
set_option maxHeartbeats 4000000 in
set_option maxRecDepth 100000 in
theorem cT_isLatin1 (l : Launch) (T : TGG) (ws : va_W) {k h a : Nat} (he : ws[k]? = some (h, .inr (1, [.ref a, .int 0, .int 0, .int 13]))) : Met l yJ5_isLatin1_aae02 wsJ5_isLatin1_aae02 ({ frames := 0, cells := 0, slots := 0, locals := 0 } : Room) (va_Pc [.ref h] (zTR T ws)) (TQ T (inV 1) (same_ ws)) 0 0 T.2.2 := by
  refine tq_met (own := RJ5) (cc := cJ5_isLatin1_aae02) (maxL := 1) (ret := some .boolean) (by decide +kernel) rfl rfl (Nat.le_of_ble_eq_true rfl) ?_
  intro p e s m args below meth c ls X hr hnm hh hl
  have hx := X.1.1; have hb := X.1.2.1; have hml := X.1.2.2.1; have hown := X.1.2.2.2.1; have hts := X.1.2.2.2.2
  have hl : lv_has ls 1 [(0, .ref h)] := hl
  refine va_gets hx hb X.2.2.1 hh.2.2 hown (hts _ (show Cond.fieldLink RJ5 18 "java/lang/String" "COMPACT_STRINGS" "Z" ∈ wsJ5_isLatin1_aae02 by decide +kernel)) (fun _ h9 => h9) dJ5_isLatin1_aae02_0 ?_
  refine lv_if_eq (tgt := 17) hx hb dJ5_isLatin1_aae02_3 (by decide) (fun hz => absurd hz (by decide)) (fun _ => ?_)
  refine lv_aload_n hx hb dJ5_isLatin1_aae02_6 rfl (lv_at hl 0 rfl) ?_
  refine va_get (fs := [.ref a, .int 0, .int 0, .int 13]) (C := RJ4) (T := TJ4) (N := 4) hx hb hts (show ∀ z ∈ u_ws RJ4 TJ4 4, z ∈ wsJ5_isLatin1_aae02 by decide +kernel) hown X.2.1 hh.1 k he rfl 1 (by decide) (hts _ (show Cond.fieldLink RJ5 22 "java/lang/AbstractStringBuilder" "coder" "B" ∈ wsJ5_isLatin1_aae02 by decide +kernel)) (fun _ h9 => h9) rfl dJ5_isLatin1_aae02_7 ?_
  refine lv_if_ne (tgt := 17) hx hb dJ5_isLatin1_aae02_10 (by decide) (fun hz => absurd rfl hz) (fun _ => ?_)
  refine lv_iconst (v := (1 : Int32)) hx hb dJ5_isLatin1_aae02_13 (by decide) ?_
  refine lv_goto (tgt := 18) hx hb dJ5_isLatin1_aae02_14 (by decide) ?_
  exact W.zretN (v' := (1 : Int32)) hx hb hr rfl (fun t ht _ => tq_post hh () rfl ht rfl) hh.2.2.2.2 dJ5_isLatin1_aae02_18 X.2.2.2.2
def strB (T : TGG) (ws : va_W) (x : Nat) (f : Nat → Int32) (q : Nat) : va_W := ws ++ [(x, .inr (0, [.ref q, .int 0, .int 0, .int 0])), (q, .inl (T.2.1 4, 13, .inl (va_cpy f (fun _ => 0) 0 0 13)))]
set_option maxHeartbeats 4000000 in
set_option maxRecDepth 100000 in
theorem cT_init2 (l : Launch) (T : TGG) (ws : va_W) {k h a i x : Nat} {f : Nat → Int32} (he : (ws ++ [(x, .inr (0, [.null, .int 0, .int 0, .int 0]))])[k]? = some (h, .inr (1, [.ref a, .int 0, .int 0, .int 13]))) (hi : (ws ++ [(x, .inr (0, [.null, .int 0, .int 0, .int 0]))])[i]? = some (a, .inl (T.2.1 4, 16, .inl f))) (hk : k < ws.length) (hil : i < ws.length) (hf : ∀ i, fits .byte (.int (f i)) = true) : Met l yJ0_init_db425 wsJ0_init_db425 ({ frames := 3, cells := 1, slots := 13, locals := 120 } : Room) (va_Pc [.ref x, .ref h, .null] (zTR T (ws ++ [(x, .inr (0, [.null, .int 0, .int 0, .int 0]))]))) (TQ T (fun _ : Nat => none) (strB T ws x f)) 1 13 T.2.2 := by
  refine tq_met (own := RJ0) (cc := cJ0_init_db425) (maxL := 5) (ret := none) (by decide +kernel) rfl rfl (Nat.le_of_ble_eq_true rfl) ?_
  intro p e s m args below meth c ls X hr hnm hh hl
  have hx := X.1.1; have hb := X.1.2.1; have hml := X.1.2.2.1; have hown := X.1.2.2.2.1; have hts := X.1.2.2.2.2
  have hl : lv_has ls 5 [(0, .ref x), (1, .ref h), (2, .null)] := hl
  have hin := hnm
  have hxs : (ws ++ [(x, .inr (0, [.null, .int 0, .int 0, .int 0]))])[ws.length]? = some (x, .inr (0, [.null, .int 0, .int 0, .int 0])) := by rw [List.getElem?_append_right (Nat.le_refl _), Nat.sub_self]; rfl
  have hw0 : ∀ z ∈ u_ws RJ0 TJ0 4, z ∈ wsJ0_init_db425 := by decide +kernel
  refine lv_aload_n hx hb dJ0_init_db425_0 rfl (lv_at hl 0 rfl) ?_
  refine W.objInit hx hb hown (hts _ (show Cond.methodLink RJ0 1 objectInit ∈ wsJ0_init_db425 by decide +kernel)) (hts _ (show Cond.instanceMethod objectInit ∈ wsJ0_init_db425 by decide +kernel)) (hts _ (show Cond.code objectInit ⟨#[0xb1]⟩ 1 none ∈ wsJ0_init_db425 by decide +kernel)) rfl (by rw [hml]; exact hl.1) rfl dJ0_init_db425_1 (Nat.le_of_ble_eq_true rfl) (Nat.le_of_ble_eq_true rfl) ?_
  refine W.eq (g2 := F0 m 4 ls []) rfl ?_
  refine lv_aload_n hx hb dJ0_init_db425_4 rfl (lv_at hl 1 rfl) ?_
  refine tq_call hh (va_runU (As := []) (rest := []) X.1 (cT_getValue l T _ he) (va_cwU 0 hts gJ0_init_db425_J5_getValue_6d5f1_u552J4 rfl rfl rfl rfl (by decide +kernel) ⟨Nat.le_of_ble_eq_true rfl, Nat.le_of_ble_eq_true rfl⟩) (tq_preV X hh k he rfl) rfl rfl hl.1 rfl (lv_room (Nat.le_of_ble_eq_true rfl)) dJ0_init_db425_5 ⟨Nat.le_of_ble_eq_true rfl, Nat.le_of_ble_eq_true rfl⟩) (fun _ H locs hh => ?_)
  have hh : zTH T s.heap (ws ++ [(x, .inr (0, [.null, .int 0, .int 0, .int 0]))]) H locs := hh
  refine lv_astore_n (lv' := [(3, .ref a), (0, .ref x), (1, .ref h), (2, .null)]) hx hb dJ0_init_db425_8 rfl hl (by decide) rfl (fun ls hl => ?_)
  refine lv_aload_n hx hb dJ0_init_db425_9 rfl (lv_at hl 2 rfl) ?_
  refine tq_call hh (va_runU (As := []) (rest := []) X.1 (cT_length4 l T _ he) (va_cwO 0 hts gJ0_init_db425_J4_length_8abf5_u549J4 rfl rfl rfl (show Cond.code ⟨"java/lang/AbstractStringBuilder", "length", "()I"⟩ cJ5_length_8abf5 1 (some .int) ∈ wsJ0_init_db425 by decide +kernel) (by decide +kernel) ⟨Nat.le_of_ble_eq_true rfl, Nat.le_of_ble_eq_true rfl⟩) (tq_preV X hh k he rfl) rfl rfl hl.1 rfl (lv_room (Nat.le_of_ble_eq_true rfl)) dJ0_init_db425_10 ⟨Nat.le_of_ble_eq_true rfl, Nat.le_of_ble_eq_true rfl⟩) (fun _ H locs hh => ?_)
  have hh : zTH T s.heap (ws ++ [(x, .inr (0, [.null, .int 0, .int 0, .int 0]))]) H locs := hh
  refine lv_istore (lv' := [(4, .int 13), (3, .ref a), (0, .ref x), (1, .ref h), (2, .null)]) hx hb dJ0_init_db425_13 hl (by decide) rfl (fun ls hl => ?_)
  refine lv_aload_n hx hb dJ0_init_db425_15 rfl (lv_at hl 3 rfl) ?_
  refine tq_call hh (va_runU (As := []) (rest := []) X.1 (cT_isLatin1 l T _ he) (va_cwU 0 hts gJ0_init_db425_J5_isLatin1_aae02_u1047J4 rfl rfl rfl rfl (by decide +kernel) ⟨Nat.le_of_ble_eq_true rfl, Nat.le_of_ble_eq_true rfl⟩) (tq_preV X hh k he rfl) rfl rfl hl.1 rfl (lv_room (Nat.le_of_ble_eq_true rfl)) dJ0_init_db425_16 ⟨Nat.le_of_ble_eq_true rfl, Nat.le_of_ble_eq_true rfl⟩) (fun _ H locs hh => ?_)
  have hh : zTH T s.heap (ws ++ [(x, .inr (0, [.null, .int 0, .int 0, .int 0]))]) H locs := hh
  refine lv_if_eq (tgt := 41) hx hb dJ0_init_db425_19 (by decide) (fun hz => absurd hz (by decide)) (fun _ => ?_)
  refine lv_aload_n hx hb dJ0_init_db425_22 rfl (lv_at hl 2 rfl) ?_
  refine lv_iconst (v := (0 : Int32)) hx hb dJ0_init_db425_23 (by decide) ?_
  obtain ⟨hP, hD, hS⟩ := hh
  refine va_putF (D := T.1) (ci := 0) (v := .int 0) (ty := .byte) (C := RJ0) (T := TJ0) (N := 4) (fs := [.null, .int 0, .int 0, .int 0]) hx hb hts hw0 tyJ0 tyJ0_ok nmJ0 hown X.2.1 hP hD hS ws.length hxs rfl 1 (by decide) (hts _ (show Cond.fieldLink RJ0 15 "java/lang/String" "coder" "B" ∈ wsJ0_init_db425 by decide +kernel)) (fun _ h9 => h9) rfl hin rfl (by decide +kernel) rfl rfl (Nat.le_of_ble_eq_true rfl) dJ0_init_db425_24 (fun H locs hP hD hS => ?_)
  have e1 : (ws ++ [(x, .inr (0, [.null, .int 0, .int 0, .int 0]))] : va_W).set ws.length (x, .inr (0, ([.null, .int 0, .int 0, .int 0] : List Value).set 1 (.int 0))) = (ws ++ [(x, .inr (0, [.null, .int 0, .int 0, .int 0]))] : va_W) := by rw [List.set_append_right _ _ (Nat.le_refl _), Nat.sub_self]; rfl
  rw [e1] at hP hD
  refine lv_aload_n hx hb dJ0_init_db425_27 rfl (lv_at hl 2 rfl) ?_
  refine lv_aload_n hx hb dJ0_init_db425_28 rfl (lv_at hl 1 rfl) ?_
  refine lv_iconst (v := (0 : Int32)) hx hb dJ0_init_db425_29 (by decide) ?_
  refine lv_iload hx hb dJ0_init_db425_30 (lv_at hl 0 rfl) ?_
  have hh : zTH T s.heap (ws ++ [(x, .inr (0, [.null, .int 0, .int 0, .int 0]))]) H locs := ⟨hP, hD, hS⟩
  refine tq_call hh (va_runS (As := [.ref a, .int 0, .int 13]) (rest := [.ref x]) X.1 (cT_copyOfRange l T _ hi hf) (va_cwS 3 hts gJ0_init_db425_J7_copyOfRange_39247 rfl rfl rfl (by decide +kernel) ⟨Nat.le_of_ble_eq_true rfl, Nat.le_of_ble_eq_true rfl⟩) (tq_preS X hh) rfl rfl hl.1 rfl (lv_room (Nat.le_of_ble_eq_true rfl)) dJ0_init_db425_32 ⟨Nat.le_of_ble_eq_true rfl, Nat.le_of_ble_eq_true rfl⟩) (fun q H locs hh => ?_)
  obtain ⟨hP, hD, hS⟩ := hh
  have hxs2 : (cpB T (ws ++ [(x, .inr (0, [.null, .int 0, .int 0, .int 0]))]) f q)[ws.length]? = some (x, .inr (0, [.null, .int 0, .int 0, .int 0])) := by unfold cpB; rw [List.getElem?_append_left (by rw [List.length_append]; exact Nat.lt_succ_self _)]; exact hxs
  refine va_putF (D := T.1) (ci := 0) (v := .ref q) (ty := .array .byte) (C := RJ0) (T := TJ0) (N := 4) (fs := [.null, .int 0, .int 0, .int 0]) hx hb hts hw0 tyJ0 tyJ0_ok nmJ0 hown X.2.1 hP hD hS ws.length hxs2 rfl 0 (by decide) (hts _ (show Cond.fieldLink RJ0 9 "java/lang/String" "value" "[B" ∈ wsJ0_init_db425 by decide +kernel)) (fun _ h9 => h9) rfl hin rfl (by decide +kernel) rfl rfl (Nat.le_of_ble_eq_true rfl) dJ0_init_db425_35 (fun H locs hP hD hS => ?_)
  have e2 : (cpB T (ws ++ [(x, .inr (0, [.null, .int 0, .int 0, .int 0]))]) f q).set ws.length (x, .inr (0, ([.null, .int 0, .int 0, .int 0] : List Value).set 0 (.ref q))) = strB T ws x f q := by unfold cpB strB; rw [List.append_assoc, List.set_append_right _ _ (Nat.le_refl _), Nat.sub_self]; rfl
  rw [e2] at hP hD
  refine lv_goto (tgt := 97) hx hb dJ0_init_db425_38 (by decide) ?_
  exact W.widen (Nat.le_of_ble_eq_true rfl) (Nat.le_of_ble_eq_true rfl) (W.vret hx hb hr (fun t ht _ => tq_post ⟨hP, hD, hS⟩ q rfl ht rfl) hS.2.2 dJ0_init_db425_97 X.2.2.2.2)
set_option maxHeartbeats 4000000 in
set_option maxRecDepth 100000 in
theorem cT_init1 (l : Launch) (T : TGG) (ws : va_W) {k h a i x : Nat} {f : Nat → Int32} (he : (ws ++ [(x, .inr (0, [.null, .int 0, .int 0, .int 0]))])[k]? = some (h, .inr (1, [.ref a, .int 0, .int 0, .int 13]))) (hi : (ws ++ [(x, .inr (0, [.null, .int 0, .int 0, .int 0]))])[i]? = some (a, .inl (T.2.1 4, 16, .inl f))) (hk : k < ws.length) (hil : i < ws.length) (hf : ∀ i, fits .byte (.int (f i)) = true) : Met l yJ0_init_81219 wsJ0_init_81219 ({ frames := 4, cells := 1, slots := 13, locals := 150 } : Room) (va_Pc [.ref x, .ref h] (zTR T (ws ++ [(x, .inr (0, [.null, .int 0, .int 0, .int 0]))]))) (TQ T (fun _ : Nat => none) (strB T ws x f)) 1 13 T.2.2 := by
  refine tq_met (own := RJ0) (cc := cJ0_init_81219) (maxL := 2) (ret := none) (by decide +kernel) rfl rfl (Nat.le_of_ble_eq_true rfl) ?_
  intro p e s m args below meth c ls X hr hnm hh hl
  have hx := X.1.1; have hb := X.1.2.1; have hml := X.1.2.2.1; have hown := X.1.2.2.2.1; have hts := X.1.2.2.2.2
  have hl : lv_has ls 2 [(0, .ref x), (1, .ref h)] := hl
  refine lv_aload_n hx hb dJ0_init_81219_0 rfl (lv_at hl 0 rfl) ?_
  refine lv_aload_n hx hb dJ0_init_81219_1 rfl (lv_at hl 1 rfl) ?_
  refine lv_null hx hb dJ0_init_81219_2 ?_
  refine tq_call hh (va_runI (As := [.ref h, .null]) (rest := []) X.1 (cT_init2 l T ws he hi hk hil hf) (cwI 2 hts gJ0_init_81219_J0_init_db425 rfl rfl rfl (hts _ (show Cond.initialized RJ0 ∈ wsJ0_init_81219 by decide +kernel)) (hts _ (show Cond.methodLink RJ0 489 yJ0_init_db425 ∈ wsJ0_init_81219 by decide +kernel)) (hts _ (show Cond.instanceMethod yJ0_init_db425 ∈ wsJ0_init_81219 by decide +kernel)) rfl (by decide +kernel) ⟨Nat.le_of_ble_eq_true rfl, Nat.le_of_ble_eq_true rfl⟩) (tq_preS X hh) rfl rfl hl.1 rfl (lv_room (Nat.le_of_ble_eq_true rfl)) dJ0_init_81219_3 ⟨Nat.le_of_ble_eq_true rfl, Nat.le_of_ble_eq_true rfl⟩) (fun q H locs hh => ?_)
  exact W.widen (Nat.le_of_ble_eq_true rfl) (Nat.le_of_ble_eq_true rfl) (W.vret hx hb hr (fun t ht _ => tq_post hh q rfl ht rfl) hh.2.2.2.2 dJ0_init_81219_6 X.2.2.2.2)
set_option maxHeartbeats 4000000 in
set_option maxRecDepth 100000 in
theorem cT_toString (l : Launch) (T : TGG) (ws : va_W) {k h a i : Nat} {f : Nat → Int32} (he : ws[k]? = some (h, .inr (1, [.ref a, .int 0, .int 0, .int 13]))) (hi : ws[i]? = some (a, .inl (T.2.1 4, 16, .inl f))) (hf : ∀ i, fits .byte (.int (f i)) = true) : Met l yJ4_toString_0e30d wsJ4_toString_0e30d ({ frames := 5, cells := 2, slots := 17, locals := 180 } : Room) (va_Pc [.ref h] (zTR T ws)) (TQ T (fun u : Nat × Nat => some (.ref u.1)) (fun u => strB T ws u.1 f u.2)) 2 17 T.2.2 := by
  refine tq_met (own := RJ4) (cc := cJ4_toString_0e30d) (maxL := 1) (ret := some (.object "java/lang/String")) (by decide +kernel) rfl rfl (Nat.le_of_ble_eq_true rfl) ?_
  intro p e s m args below meth c ls X hr hnm hh hl
  have hx := X.1.1; have hb := X.1.2.1; have hml := X.1.2.2.1; have hown := X.1.2.2.2.1; have hts := X.1.2.2.2.2
  have hl : lv_has ls 1 [(0, .ref h)] := hl
  obtain ⟨hP, hD, hS⟩ := hh
  refine va_new (ci := 0) (fs := [.null, .int 0, .int 0, .int 0]) (C := RJ0) (T := TJ0) (N := 4) (ws := ws) hx hb hts (show ∀ z ∈ u_ws RJ0 TJ0 4, z ∈ wsJ4_toString_0e30d by decide +kernel) tyJ0 tyJ0_ok hown (hts _ (show Cond.classLink RJ4 18 RJ0 ∈ wsJ4_toString_0e30d by decide +kernel)) (hts _ (show Cond.instantiable RJ0 4 ∈ wsJ4_toString_0e30d by decide +kernel)) (hts _ (show Cond.initialized RJ0 ∈ wsJ4_toString_0e30d by decide +kernel)) X.2.1 hP hD hS X.2.2.2.1 rfl (fun j hj => match j, hj with | 0, _ => rfl | 1, _ => rfl | 2, _ => rfl | 3, _ => rfl | n + 4, hn => absurd hn (by omega)) (Nat.le_of_ble_eq_true rfl) (Nat.le_of_ble_eq_true rfl) dJ4_toString_0e30d_0 (fun x H hP hD hS => ?_)
  refine lv_dup hx hb dJ4_toString_0e30d_3 rfl ?_
  refine lv_aload_n hx hb dJ4_toString_0e30d_4 rfl (lv_at hl 0 rfl) ?_
  have hk := (List.getElem?_eq_some_iff.mp he).1
  have hil := (List.getElem?_eq_some_iff.mp hi).1
  have he2 : (ws ++ [(x, .inr (0, [.null, .int 0, .int 0, .int 0]))])[k]? = some (h, .inr (1, [.ref a, .int 0, .int 0, .int 13])) := by rw [List.getElem?_append_left hk]; exact he
  have hi2 : (ws ++ [(x, .inr (0, [.null, .int 0, .int 0, .int 0]))])[i]? = some (a, .inl (T.2.1 4, 16, .inl f)) := by rw [List.getElem?_append_left hil]; exact hi
  have hh : zTH T s.heap (ws ++ [(x, .inr (0, [.null, .int 0, .int 0, .int 0]))]) H [] := ⟨hP, hD, hS⟩
  refine tq_call hh (va_runI (As := [.ref h]) (rest := [.ref x]) X.1 (cT_init1 l T ws he2 hi2 hk hil hf) (cwI 1 hts gJ4_toString_0e30d_J0_init_81219 rfl rfl rfl (hts _ (show Cond.initialized RJ0 ∈ wsJ4_toString_0e30d by decide +kernel)) (hts _ (show Cond.methodLink RJ4 137 yJ0_init_81219 ∈ wsJ4_toString_0e30d by decide +kernel)) (hts _ (show Cond.instanceMethod yJ0_init_81219 ∈ wsJ4_toString_0e30d by decide +kernel)) rfl (by decide +kernel) ⟨Nat.le_of_ble_eq_true rfl, Nat.le_of_ble_eq_true rfl⟩) (tq_preS X hh) rfl rfl hl.1 rfl (lv_room (Nat.le_of_ble_eq_true rfl)) dJ4_toString_0e30d_5 ⟨Nat.le_of_ble_eq_true rfl, Nat.le_of_ble_eq_true rfl⟩) (fun q H locs hh => ?_)
  exact W.widen (Nat.le_of_ble_eq_true rfl) (Nat.le_of_ble_eq_true rfl) (W.aret hx hb hr (Or.inl ⟨_, rfl⟩) (Or.inr ⟨_, rfl⟩) (fun t ht _ => tq_post hh (x, q) rfl ht rfl) hh.2.2.2.2 dJ4_toString_0e30d_8 X.2.2.2.2)
