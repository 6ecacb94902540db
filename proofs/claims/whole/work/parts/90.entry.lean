/-! THE LAW'S ENTRY -/
set_option maxHeartbeats 8000000 in
set_option maxRecDepth 100000 in
theorem whole_startI (Inv : Wd → Prop) (hstep : ∀ (w : Wd) (y x1 x2 x3 : Int32), Inv w → ∃ w1, f_turn w y x1 x2 x3 = some w1 ∧ Inv w1) (hI0 : Inv w0) {p : Program} {e : Env} {s : State} {m : MethodId} {below : List Frame} {meth : Method} {c : Code} (l : Launch) (hflags : l.flags = flags0) {b L : Nat} {xs : Nat → Int32} (hL : L ≤ 2048) (C0 : lw_At p s m meth c b L xs) : W p l e room_1 s m #[Value.ref b] below meth c s.heap [] 0 0 (lw_Z below #[Value.ref b] s) (entryFrame m ([Value.ref b] : List Value).toArray 9) := by
  obtain ⟨hx, hb, hr, hml, hown, ht, hX, hbl, hlk, hgv⟩ := C0
  have hst : l.stackTraces = false := by unfold Launch.stackTraces; rw [hflags]; decide +kernel
  have hbg : ∀ w ∈ lw_big, w.before #[Value.ref b] s = true := lw_hts ht
  have hts : ∀ w ∈ wsL_law, w.before #[Value.ref b] s = true := fun w h => hbg w (wsL_law_in w h)
  obtain ⟨D, cy, hK⟩ := st_K ht
  have hs0 := flat_of_before _ hgv
  have hA0 : ∀ a : Nat, a < s.heap.size → ¬ (fun q : Nat => s.heap.size ≤ q) a := fun a h1 h2 => Nat.lt_irrefl _ (Nat.lt_of_lt_of_le h1 h2)
  obtain ⟨av, hC⟩ := st_Cst (A := fun q : Nat => s.heap.size ≤ q) hs0 ht hA0
  have hE := st_ctE (A := fun q : Nat => s.heap.size ≤ q) hs0 ht hA0
  have hS : va_S (fun q : Nat => s.heap.size ≤ q) s.heap s.heap [] := va_S.rf
  have hA : ∀ q : Nat, s.heap.size ≤ q → (fun q : Nat => s.heap.size ≤ q) q := fun _ h => h
  have hAA : ∀ q : Nat, (fun q : Nat => s.heap.size ≤ q) q → (fun q : Nat => s.heap.size ≤ q) q := fun _ h => h
  have hbA : ¬ (fun q : Nat => s.heap.size ≤ q) b := hA0 b hbl
  have hP : va_P D vwCl ([] : va_W) s.heap := fun k q h => by simp at h
  have hD : va_D (fun q : Nat => s.heap.size ≤ q) ([] : va_W) := ⟨fun i j p q h => by simp at h, fun k q h => by simp at h⟩
  have F : CallFix p m c cL_law 9 s #[Value.ref b] wsL_law RL := ⟨hx, hb, hml, hown, hts⟩
  have hl := lv_entry [Value.ref b] (n := 9) (Nat.le_of_ble_eq_true rfl)
  rw [lg_entry_eq]
  generalize (lg_sl [Value.ref b] ++ List.replicate (9 - (lg_sl [Value.ref b]).length) Slot.unset).toArray = ls at hl ⊢
  have hl : lv_has ls 9 [(0, .ref b)] := hl
  refine va_new (ci := 11) (fs := [.null, .null, .null, .int 0, .null, .null, .null, .null, .null, .null, .null, .int 0, .int 0]) (C := RX10) (T := TX10) (N := 13) (ws := ([] : va_W)) hx hb hbg inX10 tyX10 tyX10_ok hown (sT ht 108 (show lw_tbl[108]? = some (Cond.classLink RL 8 RX10) by decide +kernel)) (sT ht 109 (show lw_tbl[109]? = some (Cond.instantiable RX10 13) by decide +kernel)) (sT ht 74 (show lw_tbl[74]? = some (Cond.initialized RX10) by decide +kernel)) hK hP hD hS hA rfl (fun j hj => match j, hj with | 0, _ => rfl | 1, _ => rfl | 2, _ => rfl | 3, _ => rfl | 4, _ => rfl | 5, _ => rfl | 6, _ => rfl | 7, _ => rfl | 8, _ => rfl | 9, _ => rfl | 10, _ => rfl | 11, _ => rfl | 12, _ => rfl | n + 13, hn => absurd hn (by omega)) (Nat.le_of_ble_eq_true rfl) (Nat.le_of_ble_eq_true rfl) dL_law_0 (fun q0 H hP hD hS => ?_)
  refine lv_dup hx hb dL_law_3 rfl ?_
  have hP : va_P D vwCl (([] : va_W) ++ [(q0, .inr (11, [.null, .null, .null, .int 0, .null, .null, .null, .null, .null, .null, .null, .int 0, .int 0]))]) H := hP
  have hD : va_D _ (([] : va_W) ++ [(q0, .inr (11, [.null, .null, .null, .int 0, .null, .null, .null, .null, .null, .null, .null, .int 0, .int 0]))]) := hD
  refine ct_call (ws := ([] : va_W)) (x := (q0, .inr (11, [.null, .null, .null, .int 0, .null, .null, .null, .null, .null, .null, .null, .int 0, .int 0]))) (blk := fun u : (Nat → Nat) × (Nat → Nat → Nat) × (Nat × (Nat → Nat) × (Nat → Nat → Nat)) => woB cy q0 u) (va_runI (As := []) (rest := [.ref q0]) F (c_X10_init l D cy (fun q : Nat => s.heap.size ≤ q) q0 H.size (ct_AA (ws := ([] : va_W)) hD hS hA hAA)) (cwI 0 hts gL_law_X10_init rfl rfl rfl (sT ht 74 (show lw_tbl[74]? = some (Cond.initialized RX10) by decide +kernel)) (sT ht 110 (show lw_tbl[110]? = some (Cond.methodLink RL 177 yX10_init) by decide +kernel)) (sT ht 111 (show lw_tbl[111]? = some (Cond.instanceMethod yX10_init) by decide +kernel)) rfl (by decide +kernel) ⟨Nat.le_of_ble_eq_true rfl, Nat.le_of_ble_eq_true rfl⟩) (ct_pre (ws := ([] : va_W)) hK hP hE hS hAA) rfl rfl hl.1 rfl (lv_room (Nat.le_of_ble_eq_true rfl)) dL_law_4 ⟨Nat.le_of_ble_eq_true rfl, Nat.le_of_ble_eq_true rfl⟩) hP hD hS hA (fun u0 H locs hP hD hS => ?_)
  have hP : va_P D vwCl (woB cy q0 u0) H := hP
  have hD : va_D _ (woB cy q0 u0) := hD
  refine lv_astore_n (lv' := [(1, .ref q0), (0, .ref b)]) hx hb dL_law_7 rfl hl (by decide) rfl (fun ls hl => ?_)
  refine va_new (ci := 12) (fs := [.null, .null, .null, .int 0, .null, .int 0, .null, .int 0, .int 0, .int 0, .null, .int 0, .int 0, .null, .null, .int 0, .int 0, .null]) (C := RX11) (T := TX11) (N := 18) (ws := woB cy q0 u0) hx hb hbg inX11 tyX11 tyX11_ok hown (sT ht 1636 (show lw_tbl[1636]? = some (Cond.classLink RL 178 RX11) by decide +kernel)) (sT ht 1637 (show lw_tbl[1637]? = some (Cond.instantiable RX11 18) by decide +kernel)) (sT ht 86 (show lw_tbl[86]? = some (Cond.initialized RX11) by decide +kernel)) hK hP hD hS hA rfl (fun j hj => match j, hj with | 0, _ => rfl | 1, _ => rfl | 2, _ => rfl | 3, _ => rfl | 4, _ => rfl | 5, _ => rfl | 6, _ => rfl | 7, _ => rfl | 8, _ => rfl | 9, _ => rfl | 10, _ => rfl | 11, _ => rfl | 12, _ => rfl | 13, _ => rfl | 14, _ => rfl | 15, _ => rfl | 16, _ => rfl | 17, _ => rfl | n + 18, hn => absurd hn (by omega)) (Nat.le_of_ble_eq_true rfl) (Nat.le_of_ble_eq_true rfl) dL_law_8 (fun q1 H hP hD hS => ?_)
  refine lv_dup hx hb dL_law_11 rfl ?_
  have hP : va_P D vwCl (woB cy q0 u0 ++ [(q1, .inr (12, [.null, .null, .null, .int 0, .null, .int 0, .null, .int 0, .int 0, .int 0, .null, .int 0, .int 0, .null, .null, .int 0, .int 0, .null]))]) H := hP
  have hD : va_D _ (woB cy q0 u0 ++ [(q1, .inr (12, [.null, .null, .null, .int 0, .null, .int 0, .null, .int 0, .int 0, .int 0, .null, .int 0, .int 0, .null, .null, .int 0, .int 0, .null]))]) := hD
  refine ct_call (ws := woB cy q0 u0) (x := (q1, .inr (12, [.null, .null, .null, .int 0, .null, .int 0, .null, .int 0, .int 0, .int 0, .null, .int 0, .int 0, .null, .null, .int 0, .int 0, .null]))) (blk := fun u : Nat → Nat => moB cy q1 u) (va_runI (As := []) (rest := [.ref q1]) F (c_X11_init l D cy (fun q : Nat => s.heap.size ≤ q) q1 H.size (ct_AA (ws := woB cy q0 u0) hD hS hA hAA)) (cwI 0 hts gL_law_X11_init rfl rfl rfl (sT ht 86 (show lw_tbl[86]? = some (Cond.initialized RX11) by decide +kernel)) (sT ht 1638 (show lw_tbl[1638]? = some (Cond.methodLink RL 180 yX11_init) by decide +kernel)) (sT ht 1639 (show lw_tbl[1639]? = some (Cond.instanceMethod yX11_init) by decide +kernel)) rfl (by decide +kernel) ⟨Nat.le_of_ble_eq_true rfl, Nat.le_of_ble_eq_true rfl⟩) (ct_pre (ws := woB cy q0 u0) hK hP hE hS hAA) rfl rfl hl.1 rfl (lv_room (Nat.le_of_ble_eq_true rfl)) dL_law_12 ⟨Nat.le_of_ble_eq_true rfl, Nat.le_of_ble_eq_true rfl⟩) hP hD hS hA (fun u1 H locs hP hD hS => ?_)
  refine lv_astore_n (lv' := [(2, .ref q1), (1, .ref q0), (0, .ref b)]) hx hb dL_law_15 rfl hl (by decide) rfl (fun ls hl => ?_)
  refine lv_iconst (v := (1 : Int32)) hx hb dL_law_16 (by decide) ?_
  refine ct_newa (atype := .long) (a0 := aL 1) hx hb .long 1 (sT ht 216 (show lw_tbl[216]? = some (Cond.arrayClass .long) by decide +kernel)) rfl rfl hK hP hD hS hA (fun _ => rfl) (by decide) (by decide) (Nat.le_of_ble_eq_true rfl) (Nat.le_of_ble_eq_true rfl) (Nat.le_of_ble_eq_true rfl) dL_law_17 (fun q2 H hP hD hS => ?_)
  refine lv_astore_n (lv' := [(3, .ref q2), (2, .ref q1), (1, .ref q0), (0, .ref b)]) hx hb dL_law_19 rfl hl (by decide) rfl (fun ls hl => ?_)
  refine lv_iconst (v := (1 : Int32)) hx hb dL_law_20 (by decide) ?_
  refine ct_newa (atype := .double) (a0 := (1, .inr (.inr (.inr (.inl (fun _ => 0)))))) hx hb .double 5 (sT ht 2153 (show lw_tbl[2153]? = some (Cond.arrayClass .double) by decide +kernel)) rfl rfl hK hP hD hS hA (fun _ => rfl) (by decide) (by decide) (Nat.le_of_ble_eq_true rfl) (Nat.le_of_ble_eq_true rfl) (Nat.le_of_ble_eq_true rfl) dL_law_21 (fun q3 H hP hD hS => ?_)
  refine lv_astore (lv' := [(4, .ref q3), (3, .ref q2), (2, .ref q1), (1, .ref q0), (0, .ref b)]) hx hb dL_law_23 hl (by decide) rfl (fun ls hl => ?_)
  refine lv_iconst (v := (0 : Int32)) hx hb dL_law_25 (by decide) ?_
  refine lv_istore (lv' := [(5, .int 0), (4, .ref q3), (3, .ref q2), (2, .ref q1), (1, .ref q0), (0, .ref b)]) hx hb dL_law_26 hl (by decide) rfl (fun ls hl => ?_)
  have hP : va_P D vwCl (lwL cy q0 u0 q1 u1 q2 q3) H := hP
  have hD : va_D (fun q : Nat => s.heap.size ≤ q) (lwL cy q0 u0 q1 u1 q2 q3) := hD
  have hP := lw_wsP cy av q0 u0 q1 u1 q2 q3 hP
  have hD := lw_wsD cy av q0 u0 q1 u1 q2 q3 hD
  have X : CX (D, lwA cy q0 u0 q1 u1 q2 q3, cy, av, fun q : Nat => s.heap.size ≤ q) p s m #[Value.ref b] meth c cL_law 9 RL wsL_law := ⟨F, hK, hC, hA, hlk⟩
  have hl : lv_has ls 9 [(5, .int (nI (4 * 0))), (4, .ref (lwA cy q0 u0 q1 u1 q2 q3 152)), (3, .ref (lwA cy q0 u0 q1 u1 q2 q3 151)), (2, .ref (lwA cy q0 u0 q1 u1 q2 q3 141)), (1, .ref (lwA cy q0 u0 q1 u1 q2 q3 0)), (0, .ref b)] := hl
  refine law_loop l hst Inv hstep X hX hbl hbA hL (fun w ab cells slots H locs ls hh hc hs => ?_) 513 0 rfl w0 (lwA cy q0 u0 q1 u1 q2 q3 140) _ _ H locs ls hI0 ⟨hP, hD, hS⟩ (lv_sub hl [5, 4, 3, 2, 1, 0] rfl) (Nat.le_of_ble_eq_true rfl) (Nat.le_of_ble_eq_true rfl)
  refine va_forget (fun q hq => hh.2.2.2.2 q hq) ?_
  refine lv_iconst (v := (1 : Int32)) hx hb dL_law_3316 (by decide) ?_
  refine W.widen hc hs ?_
  exact W.base (lw_ret (Drawn.sameBut.refl s.drawn lw_cs) hx hb hr hlk dL_law_3317)
