/-! THE LAW'S WALK out of its segments; what the pure side owes -/
def LawOk (sc : Sc) : Prop := ∃ (wb s1 s2 s3 x1 y1 x2 y2 x3 y3 x4 y4 x5 y5 x6 y6 x7 y7 z7 x8 y8 z8 x9 y9 z9 x10 y10 z10 x11 y11 z11 zc0 x12 y12 z12 x13 y13 z13 x14 y14 z14 : Wd) (l3 l4 l6 r : Int32) (t : Nat), f_L_build sc = some wb ∧ f_law_10 wb wb = some (x1, y1, l3, l4) ∧ f_law_72 x1 y1 l3 l4 = some (x2, y2) ∧ f_law_120 x2 y2 l3 l4 = some (x3, y3) ∧ f_law_154 x3 y3 l3 l4 = some (x4, y4) ∧ f_law_187 x4 y4 l3 l4 = some (x5, y5) ∧ f_law_310 x5 y5 l3 l4 sc = some (x6, y6, l6) ∧ f_law_331 x6 y6 w0 l3 l4 l6 = some (x7, y7, z7) ∧ f_law_423 x7 y7 z7 l3 l4 l6 = some (x8, y8, z8) ∧ f_law_594 x8 y8 z8 l3 l4 l6 = some (x9, y9, z9) ∧ f_law_767 x9 y9 z9 l3 l4 l6 = some (x10, y10, z10) ∧ f_law_916 x10 y10 z10 l3 l4 l6 = some (x11, y11, z11) ∧ (f_X10_renderGear z11 (0 : Int32) = some (.inr r, zc0) ∧ fB_J4_append_15ec4 wS0 27 = some s1 ∧ fB_J4_append_bf812 s1 ((90 : Int32) - ((7 : Int32) * l6)) = some s2 ∧ fB_J4_append_15ec4 s2 28 = some s3 ∧ (gI s3 0 1 = 0 ∧ gI s3 0 2 = 0 ∧ gI s3 0 3 = 13 ∧ gC s3 = 16) ∧ (∀ i, fits .byte (.int (gI s3 1 i)) = true) ∧ (cLens.getD t 0 = 13 ∧ ∀ i, i < 13 → gI s3 1 i = (cWords.getD t []).getD i 0) ∧ (31 ≤ t ∧ t < 100) ∧ f_L_isText zc0 r t = some 1) ∧ f_law_1095 x11 y11 zc0 l3 l4 l6 = some (x12, y12, z12) ∧ f_law_1131 x12 y12 z12 l3 l4 l6 = some (x13, y13, z13) ∧ f_law_1385 x13 y13 z13 l3 l4 l6 = some (x14, y14, z14)
set_option maxHeartbeats 16000000 in
set_option maxRecDepth 100000 in
theorem whole_startP {p : Program} {e : Env} {s : State} {m : MethodId} {below : List Frame} {meth : Method} {c : Code} (l : Launch) (hflags : l.flags = flags0) {b L : Nat} {xs : Nat → Int32} (hP : LawOk (L, xs)) (C0 : lw_At p s m meth c b L xs) : W p l e room_1 s m #[Value.ref b] below meth c s.heap [] 0 0 (lw_Z below #[Value.ref b] s) (entryFrame m ([Value.ref b] : List Value).toArray 8) := by
  obtain ⟨wb, s1, s2, s3, x1, y1, x2, y2, x3, y3, x4, y4, x5, y5, x6, y6, x7, y7, z7, x8, y8, z8, x9, y9, z9, x10, y10, z10, x11, y11, z11, zc0, x12, y12, z12, x13, y13, z13, x14, y14, z14, l3, l4, l6, r, t, h0, h1, h2, h3, h4, h5, h6, h7, h8, h9, h10, h11, h12, h13, h14, h15⟩ := hP
  obtain ⟨k1, k2, k3, k4, g, gf, gb, ht2, k5⟩ := h12
  obtain ⟨hx, hb, hr, hml, hown, ht, hX, hbl, hlk, hgv⟩ := C0
  have hst : l.stackTraces = false := by unfold Launch.stackTraces; rw [hflags]; decide +kernel
  have hbg : ∀ w ∈ lw_big, w.before #[Value.ref b] s = true := lw_hts ht
  have hts : ∀ w ∈ wsL_lawQ, w.before #[Value.ref b] s = true := fun w h => hbg w (wsL_law_in w h)
  obtain ⟨D, cy, hK⟩ := st_K ht
  have hs0 := flat_of_before _ hgv
  have hA0 : ∀ a : Nat, a < s.heap.size → ¬ (fun q : Nat => s.heap.size ≤ q) a := fun a h1 h2 => Nat.lt_irrefl _ (Nat.lt_of_lt_of_le h1 h2)
  obtain ⟨av, hC, hav, hav0, hR⟩ := st_Cst (A := fun q : Nat => s.heap.size ≤ q) hs0 ht hA0
  have hE := st_ctE (A := fun q : Nat => s.heap.size ≤ q) hs0 ht hA0
  have hbA : ¬ (fun q : Nat => s.heap.size ≤ q) b := hA0 b hbl
  have F : CallFix p m c cL_law 8 s #[Value.ref b] wsL_lawQ RL := ⟨hx, hb, hml, hown, hts⟩
  have X : BX (D, cy, av) p s m #[Value.ref b] meth c cL_law 8 RL wsL_lawQ := ⟨F, hK, hC, hE, hlk⟩
  have hX' : va_X b ((L, xs) : Sc).1 ((L, xs) : Sc).2 s s.heap := hX
  have hl := lv_entry [Value.ref b] (n := 8) (Nat.le_of_ble_eq_true rfl)
  rw [lg_entry_eq]
  generalize (lg_sl [Value.ref b] ++ List.replicate (8 - (lg_sl [Value.ref b]).length) Slot.unset).toArray = ls at hl ⊢
  have hl : lv_has ls 8 [(0, .ref b)] := hl
  have hh : BH (D, cy, av) s.heap [] s.heap [] := ⟨fun k q h => by simp at h, ⟨fun i j p q h => by simp at h, fun k q h => by simp at h⟩, va_S.rf⟩
  refine c_law_0 l hst X hX' hbl h0 hh (by decide) (by decide) hl (fun adX adY abX abY H locs ls hh hl => ?_)
  refine c_law_10 l hst X hav hR hh (by decide) (by decide) hl h1 (fun abX abY H locs ls hh hl => ?_)
  refine c_law_72 l hst X hav hR hh (by decide) (by decide) hl h2 (fun abX abY H locs ls hh hl => ?_)
  refine c_law_120 l hst X hav hR hh (by decide) (by decide) hl h3 (fun abX abY H locs ls hh hl => ?_)
  refine c_law_154 l hst X hav hR hh (by decide) (by decide) hl h4 (fun abX abY H locs ls hh hl => ?_)
  refine c_law_187 l hst X hav hR hh (by decide) (by decide) hl h5 (fun abX abY H locs ls hh hl => ?_)
  refine c_law_310 l hst X hX' hbl hbA hav hR hh (by decide) (by decide) hl h6 (fun abX abY H locs ls hh hl => ?_)
  refine c_law_322 l hst X hh (by decide) (by decide) hl (fun adZ abZ H locs ls hh hl => ?_)
  refine c_law_331 l hst X hav hR hh (by decide) (by decide) hl h7 (fun abX abY abZ H locs ls hh hl => ?_)
  refine c_law_423 l hst X hav hR hh (by decide) (by decide) hl h8 (fun abX abY abZ H locs ls hh hl => ?_)
  refine c_law_594 l hst X hav hR hh (by decide) (by decide) hl h9 (fun abX abY abZ H locs ls hh hl => ?_)
  refine c_law_767 l hst X hav hR hh (by decide) (by decide) hl h10 (fun abX abY abZ H locs ls hh hl => ?_)
  refine c_law_916 l hst X hav hR hh (by decide) (by decide) hl h11 (fun abX abY abZ H locs ls hh hl => ?_)
  refine c_law_1048 l hst X hav hav0 hR hh (by decide) (by decide) hl k1 k2 k3 k4 g gf gb ht2 k5 (fun abX abY abZ H locs ls hh hl => ?_)
  refine c_law_1095 l hst X hav hR hh (by decide) (by decide) hl h13 (fun abX abY abZ H locs ls hh hl => ?_)
  refine c_law_1131 l hst X hav hR hh (by decide) (by decide) hl h14 (fun abX abY abZ H locs ls hh hl => ?_)
  refine c_law_1385 l hst X hav hR hh (by decide) (by decide) hl h15 (fun abX abY abZ H locs ls hh hl => ?_)
  refine va_forget (fun q hq => hh.2.2.2.2 q hq) ?_
  refine lv_iconst (v := (1 : Int32)) hx hb dL_law_1402 (by decide) ?_
  refine lv_goto (tgt := 1407) hx hb dL_law_1403 (by decide) ?_
  refine W.widen (k := 614784) (n := 7245417) (by decide) (by decide) ?_
  exact W.base (lw_ret (Drawn.sameBut.refl s.drawn lw_cs) hx hb hr hlk dL_law_1407)
