/-! THE LAW'S OBJECTS: two by build, one by itself -/
section LAWOB
variable {B : BP} {p : Program} {e : Env} {s : State} {m : MethodId} {args : Array Value} {below : List Frame} {meth : Method} {c : Code} {b cells slots : Nat} {sc : Sc} {H : Heap} {locs : List Loc} {ls : Array Slot} {Q : State → Prop}
set_option maxHeartbeats 4000000 in
set_option maxRecDepth 100000 in
theorem c_law_0 (l : Launch) (hst : l.stackTraces = false) {wb : Wd} (X : BX B p s m args meth c cL_law 8 RL wsL_lawQ) (hX : va_X b sc.1 sc.2 s s.heap) (hbl : b < s.heap.size) (hF : f_L_build sc = some wb) (hh : BH B s.heap [] H locs) (hc : cells + 1500 ≤ 614784) (hs : slots + 13144 ≤ 7245417) (hl : lv_has ls 8 [(0, .ref b)])
    (kk : ∀ (adX adY : Nat → Nat) (abX abY : Nat) (H : Heap) (locs : List Loc) (ls : Array Slot), BH B s.heap [obW B (adX, abX, wb), obW B (adY, abY, wb)] H locs → lv_has ls 8 [(0, .ref b), (1, .ref (adX 0)), (2, .ref (adY 0))] → W p l e room_1 s m args below meth c H locs (cells + 1500) (slots + 13144) Q (F0 m 10 ls [])) : W p l e room_1 s m args below meth c H locs cells slots Q (F0 m 0 ls []) := by
  have hx := X.1.1; have hb := X.1.2.1; have hml := X.1.2.2.1; have hown := X.1.2.2.2.1; have hts := X.1.2.2.2.2
  refine lv_aload_n hx hb dL_law_0 rfl (lv_at hl 0 rfl) ?_
  refine bm_callB hh (va_runS (As := [.ref b]) (rest := []) X.1 (c_L_build l hst B.1 B.2.1 B.2.2 H.size hF) (va_cwS 1 hts gL_law_L_build rfl rfl rfl (by decide +kernel) ⟨Nat.le_of_ble_eq_true rfl, Nat.le_of_ble_eq_true rfl⟩) (bd_preS X hh hX hbl) rfl rfl hl.1 rfl (lv_room (Nat.le_of_ble_eq_true rfl)) dL_law_1 ⟨by show cells + 750 ≤ 614784; omega, by show slots + 6572 ≤ 7245417; omega⟩) (fun adX abX H locs hh => ?_)
  have hh : BH B s.heap [obW B (adX, abX, wb)] H locs := hh
  refine lv_astore_n (lv' := [(1, .ref (adX 0)), (0, .ref b)]) hx hb dL_law_4 rfl hl (by decide) rfl (fun ls hl => ?_)
  refine lv_aload_n hx hb dL_law_5 rfl (lv_at hl 1 rfl) ?_
  refine bm_callB hh (va_runS (As := [.ref b]) (rest := []) X.1 (c_L_build l hst B.1 B.2.1 B.2.2 H.size hF) (va_cwS 1 hts gL_law_L_build rfl rfl rfl (by decide +kernel) ⟨Nat.le_of_ble_eq_true rfl, Nat.le_of_ble_eq_true rfl⟩) (bd_preS X hh hX hbl) rfl rfl hl.1 rfl (lv_room (Nat.le_of_ble_eq_true rfl)) dL_law_6 ⟨by show (cells + 750) + 750 ≤ 614784; omega, by show (slots + 6572) + 6572 ≤ 7245417; omega⟩) (fun adY abY H locs hh => ?_)
  have hh : BH B s.heap [obW B (adX, abX, wb), obW B (adY, abY, wb)] H locs := hh
  refine lv_astore_n (lv' := [(2, .ref (adY 0)), (1, .ref (adX 0)), (0, .ref b)]) hx hb dL_law_9 rfl hl (by decide) rfl (fun ls hl => ?_)
  exact W.widen (by omega) (by omega) (kk adX adY abX abY H locs ls hh (lv_sub hl [2, 1, 0] rfl))
theorem new_P {D : va_G} {cl : List vw_C} {cy : Nat → ClassId} {av : Nat → Nat} {q0 : Nat} {u0 : (Nat → Nat) × (Nat → Nat → Nat) × (Nat × (Nat → Nat) × (Nat → Nat → Nat))} {ws : va_W} {H : Heap} (h : va_P D cl (ws ++ lwL cy q0 u0) H) : va_P D cl (ws ++ wsOf (adx (lwA cy q0 u0) (lwA cy q0 u0 140)) cy av w0) H := by
  refine va_P.app (fun i q hi => h i q ?_) (lw_wsP cy av q0 u0 (fun i q hi => h (ws.length + i) q ?_))
  · rw [List.getElem?_append_left (List.getElem?_eq_some_iff.mp hi).1]; exact hi
  · rw [List.getElem?_append_right (Nat.le_add_right _ _), Nat.add_sub_cancel_left]; exact hi
theorem new_D {A : Nat → Prop} {cy : Nat → ClassId} {av : Nat → Nat} {q0 : Nat} {u0 : (Nat → Nat) × (Nat → Nat → Nat) × (Nat × (Nat → Nat) × (Nat → Nat → Nat))} {ws : va_W} (h : va_D A (ws ++ lwL cy q0 u0)) : va_D A (ws ++ wsOf (adx (lwA cy q0 u0) (lwA cy q0 u0 140)) cy av w0) := by
  refine h.same (fun i p hp => ?_)
  by_cases hi : i < ws.length
  · rw [List.getElem?_append_left hi] at hp
    exact ⟨p, by rw [List.getElem?_append_left hi]; exact hp, rfl⟩
  · rw [List.getElem?_append_right (Nat.not_lt.mp hi)] at hp
    obtain ⟨p2, h1, h2⟩ := lw_key cy av q0 u0 _ p hp
    exact ⟨p2, by rw [List.getElem?_append_right (Nat.not_lt.mp hi)]; exact h1, h2⟩
set_option maxHeartbeats 4000000 in
set_option maxRecDepth 100000 in
theorem c_law_322 (l : Launch) (hst : l.stackTraces = false) {x y : va_W} {adX adY : Nat → Nat} {l3 l4 l6 : Int32} (X : BX B p s m args meth c cL_law 8 RL wsL_lawQ) (hh : BH B s.heap [x, y] H locs) (hc : cells + 141 ≤ 614784) (hs : slots + 2918 ≤ 7245417) (hl : lv_has ls 8 [(0, .ref b), (1, .ref (adX 0)), (2, .ref (adY 0)), (3, .int l3), (4, .int l4), (6, .int l6)])
    (kk : ∀ (adZ : Nat → Nat) (abZ : Nat) (H : Heap) (locs : List Loc) (ls : Array Slot), BH B s.heap [x, y, obW B (adZ, abZ, w0)] H locs → lv_has ls 8 [(0, .ref b), (1, .ref (adX 0)), (2, .ref (adY 0)), (7, .ref (adZ 0)), (3, .int l3), (4, .int l4), (6, .int l6)] → W p l e room_1 s m args below meth c H locs (cells + 141) (slots + 2918) Q (F0 m 331 ls [])) : W p l e room_1 s m args below meth c H locs cells slots Q (F0 m 322 ls []) := by
  have hx := X.1.1; have hb := X.1.2.1; have hml := X.1.2.2.1; have hown := X.1.2.2.2.1; have hts := X.1.2.2.2.2
  have hK := X.2.1; have hE := X.2.2.2.1
  obtain ⟨hP, hD, hS⟩ := hh
  have hA : ∀ q : Nat, s.heap.size ≤ q → (fun q : Nat => s.heap.size ≤ q) q := fun _ h => h
  have hAA : ∀ q : Nat, (fun q : Nat => s.heap.size ≤ q) q → (fun q : Nat => s.heap.size ≤ q) q := fun _ h => h
  refine va_new (ci := 11) (fs := [.null, .null, .null, .int 0, .null, .null, .null, .null, .null, .null, .null, .int 0, .int 0]) (C := RX10) (T := TX10) (N := 13) (ws := [x, y].flatten) hx hb hts inlX10 tyX10 tyX10_ok hown (hts _ wlw_6) (hts _ wlw_7) (hts _ wlw_8) hK hP hD hS hA rfl (fun j hj => match j, hj with | 0, _ => rfl | 1, _ => rfl | 2, _ => rfl | 3, _ => rfl | 4, _ => rfl | 5, _ => rfl | 6, _ => rfl | 7, _ => rfl | 8, _ => rfl | 9, _ => rfl | 10, _ => rfl | 11, _ => rfl | 12, _ => rfl | n + 13, hn => absurd hn (by omega)) (by show cells + 1 ≤ 614784; omega) (by show slots + 13 ≤ 7245417; omega) dL_law_322 (fun q0 H hP hD hS => ?_)
  refine lv_dup hx hb dL_law_325 rfl ?_
  refine ct_call (ws := [x, y].flatten) (x := (q0, .inr (11, [.null, .null, .null, .int 0, .null, .null, .null, .null, .null, .null, .null, .int 0, .int 0]))) (blk := fun u : (Nat → Nat) × (Nat → Nat → Nat) × (Nat × (Nat → Nat) × (Nat → Nat → Nat)) => woB B.2.1 q0 u) (va_runI (As := []) (rest := [.ref q0]) X.1 (c_X10_init l B.1 B.2.1 (fun q : Nat => s.heap.size ≤ q) q0 H.size (ct_AA (ws := [x, y].flatten) hD hS hA hAA)) (cwI 0 hts gL_law_X10_init rfl rfl rfl (hts _ wlw_8) (hts _ wlw_9) (hts _ wlw_10) rfl (by decide +kernel) ⟨Nat.le_of_ble_eq_true rfl, Nat.le_of_ble_eq_true rfl⟩) (ct_pre (ws := [x, y].flatten) hK hP hE hS hAA) rfl rfl hl.1 rfl (lv_room (Nat.le_of_ble_eq_true rfl)) dL_law_326 ⟨by show (cells + 1) + 140 ≤ 614784; omega, by show (slots + 13) + 2905 ≤ 7245417; omega⟩) hP hD hS hA (fun u0 H locs hP hD hS => ?_)
  have hP : va_P B.1 vwCl ([x, y].flatten ++ lwL B.2.1 q0 u0) H := hP
  have hD : va_D (fun q : Nat => s.heap.size ≤ q) ([x, y].flatten ++ lwL B.2.1 q0 u0) := hD
  refine lv_astore (lv' := [(7, .ref q0), (0, .ref b), (1, .ref (adX 0)), (2, .ref (adY 0)), (3, .int l3), (4, .int l4), (6, .int l6)]) hx hb dL_law_329 hl (by decide) rfl (fun ls hl => ?_)
  refine W.widen (by omega) (by omega) (kk (lwA B.2.1 q0 u0) (lwA B.2.1 q0 u0 140) H locs ls ⟨?_, ?_, hS⟩ (lv_sub hl [1, 2, 3, 0, 4, 5, 6] rfl))
  · have h := new_P (av := vbs B.2.2) hP
    rw [show [x, y, obW B (lwA B.2.1 q0 u0, lwA B.2.1 q0 u0 140, w0)].flatten = [x, y].flatten ++ wsOf (adx (lwA B.2.1 q0 u0) (lwA B.2.1 q0 u0 140)) B.2.1 (vbs B.2.2) w0 by simp]
    exact h
  · have h := new_D (av := vbs B.2.2) hD
    rw [show [x, y, obW B (lwA B.2.1 q0 u0, lwA B.2.1 q0 u0 140, w0)].flatten = [x, y].flatten ++ wsOf (adx (lwA B.2.1 q0 u0) (lwA B.2.1 q0 u0 140)) B.2.1 (vbs B.2.2) w0 by simp]
    exact h
end LAWOB
