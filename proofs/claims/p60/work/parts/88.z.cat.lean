/-! THE LAW'S ONE MADE TEXT: a builder, its text, and what isText says of it -/
def wS0 : Wd := (fun _ _ => 0, fun _ _ => 0, fun _ => none, fun _ => 0, 16)
def adS (q : Nat) (u : Nat → Nat) : Nat → Nat := fun k => if k = 0 then q else u 0
theorem sb_new (B : BP) (q : Nat) (u : Nat → Nat) : sbB B.2.1 q u = sbW B (adS q u, 0, wS0) := rfl
theorem bh_drop {B : BP} {H0 H : Heap} {bs : List va_W} {x : va_W} {locs : List Loc} (h : BH B H0 (bs ++ [x]) H locs) : BH B H0 bs H locs := by
  obtain ⟨hP, hD, hS⟩ := h
  rw [List.flatten_append, List.flatten_singleton] at hP hD
  have pl : ∀ (i : Nat) (q : Nat × va_E), bs.flatten[i]? = some q → (bs.flatten ++ x)[i]? = some q := fun i q h => by rw [List.getElem?_append_left (List.getElem?_eq_some_iff.mp h).1]; exact h
  exact ⟨fun i q h => hP i q (pl i q h), ⟨fun i j p q hp hq e => hD.1 i j p q (pl i p hp) (pl j q hq) e, fun i q h => hD.2 i q (pl i q h)⟩, hS⟩
/-- the constants with one text more -/
def avT (av : Nat → Nat) (t x q : Nat) : Nat → Nat := fun k => if k = 100 + t then x else if k = 200 + t then q else if k = 300 + t then 1 else av k
theorem avT_x {av : Nat → Nat} {t x q : Nat} : avT av t x q (100 + t) = x := if_pos rfl
theorem avT_q {av : Nat → Nat} {t x q : Nat} : avT av t x q (200 + t) = q := by unfold avT; rw [if_neg (by omega), if_pos rfl]
theorem avT_f {av : Nat → Nat} {t x q : Nat} : avT av t x q (300 + t) = 1 := by unfold avT; rw [if_neg (by omega), if_neg (by omega), if_pos rfl]
theorem avT_o {av : Nat → Nat} {t x q k : Nat} (h1 : k ≠ 100 + t) (h2 : k ≠ 200 + t) (h3 : k ≠ 300 + t) : avT av t x q k = av k := by unfold avT; rw [if_neg h1, if_neg h2, if_neg h3]
theorem avT_v {av : Nat → Nat} {t x q : Nat} : vbs (avT av t x q) = vbs av := by
  funext k
  unfold vbs
  by_cases h : k < 13
  · rw [if_pos h, if_pos h, avT_o (by omega) (by omega) (by omega)]
  · rw [if_neg h, if_neg h]
theorem Cst.text {av : Nat → Nat} {A : Nat → Prop} {U : State} {H : Heap} {t x q : Nat} (h : Cst av A U H) (ht : 31 ≤ t ∧ t < 100) (h0 : ∀ i, 31 ≤ i → av (300 + i) = 0) (h1 : va_O "java/lang/String" x A U H) (h2 : va_OF "java/lang/String" "coder" "B" (.int 0) x A U H) (h3 : va_OF "java/lang/String" "value" "[B" (.ref q) x A U H) (h4 : va_T .byte q (cLens.getD t 0) (fun j => .int ((cWords.getD t []).getD j 0)) A U H) : Cst (avT av t x q) A U H := by
  obtain ⟨⟨a1, a2, a3, a4, a5, a6, a7, a8, a9, a10, a11, a12⟩, ⟨b1, b2, b3, b4, b5⟩, c, d⟩ := h
  have e : ∀ k, k < 100 → avT av t x q k = av k := fun k hk => avT_o (by omega) (by omega) (by omega)
  refine ⟨?_, ⟨?_, ?_, ?_, ?_, ?_⟩, c, d⟩
  · unfold CsA
    rw [e 20 (by decide), e 21 (by decide), e 22 (by decide), e 23 (by decide), e 24 (by decide), e 25 (by decide), avT_v]
    exact ⟨a1, a2, a3, a4, a5, a6, a7, a8, a9, a10, a11, a12⟩
  · rw [avT_v]; exact b1
  · rw [avT_v]
    intro i hi
    have k := b2 i hi
    show va_OF "PlanetWorkshop$Verb" "word" "Ljava/lang/String;" (.ref (avT av t x q (100 + i))) (vbs av i) A U H
    rw [avT_o (by omega) (by omega) (by omega)]
    exact k
  · rw [avT_v]; exact b3
  · rw [avT_v]; exact b4
  · refine ⟨fun i hi => ?_, fun i hi => ?_⟩
    · by_cases hit : i = t
      · subst hit
        rw [avT_x, avT_q]
        exact ⟨h1, h2, h3, h4⟩
      · rw [avT_o (by omega) (by omega) (by omega)] at hi
        have hl : i < 31 := by
          by_cases z : i < 31
          · exact z
          · rw [h0 i (by omega)] at hi; cases hi
        rw [avT_o (k := 100 + i) (by omega) (by omega) (by omega), avT_o (k := 200 + i) (by omega) (by omega) (by omega)]
        exact b5.1 i hi
    · rw [avT_o (by omega) (by omega) (by omega)]
      exact b5.2 i hi
theorem str_facts {D : va_G} {cy : Nat → ClassId} {A A1 A2 : Nat → Prop} {U : State} {H H1 H2 : Heap} {x q y1 y2 : Nat} {u1 u2 : Value} {f : Nat → Int32} (hK : va_K D vwCl (TYs cy) U) (hp1 : va_at D vwCl (x, .inr (0, [.ref q, .int 0, .int 0, .int 0])) H) (hp2 : va_at D vwCl (q, .inl (cy 4, 13, .inl f)) H) (hx : ¬ A x) (hq : ¬ A q) (o1 : va_OF "java/lang/String" "coder" "B" u1 y1 A1 U H1) (o2 : va_OF "java/lang/String" "value" "[B" u2 y2 A2 U H2) : va_O "java/lang/String" x A U H ∧ va_OF "java/lang/String" "coder" "B" (.int 0) x A U H ∧ va_OF "java/lang/String" "value" "[B" (.ref q) x A U H ∧ va_T .byte q 13 (fun j => .int (f j)) A U H := by
  obtain ⟨r, hr, cell, c1, c2, c3, c4⟩ := hp1
  cases (Option.some.inj hr : (RJ0, TJ0, 4) = r)
  have hKn := hK.1 0 (RJ0, TJ0, 4) rfl
  obtain ⟨cf0, kf0, fi0, fd0, e0, s0⟩ := hKn.1 0 (by decide)
  obtain ⟨cf1, kf1, fi1, fd1, e1, s1⟩ := hKn.1 1 (by decide)
  have v0 := c4 0 (by decide)
  have v1 := c4 1 (by decide)
  obtain ⟨cg1, kg1, gi1, g1, cl1, a1, b1, -⟩ := o1
  obtain ⟨cg2, kg2, gi2, g2, cl2, a2, b2, -⟩ := o2
  have e1' : U.fieldFound? "java/lang/String" "coder" "B" = some (cf1, kf1, fi1, fd1) := e1
  have e0' : U.fieldFound? "java/lang/String" "value" "[B" = some (cf0, kf0, fi0, fd0) := e0
  rw [a1] at e1'
  rw [a2] at e0'
  cases e1'
  cases e0'
  refine ⟨⟨cell, c1, by rw [c3]; rfl, by rw [c2]; exact hKn.2.1, hx⟩, ⟨cf1, kf1, fi1, fd1, cell, a1, b1, c1, by rw [c3]; simp, by rw [s1]; exact v1, hx⟩, ⟨cf0, kf0, fi0, fd0, cell, a2, b2, c1, by rw [c3]; simp, by rw [s0]; exact v0, hx⟩, ?_⟩
  have hp2 : H[q]? = some (arrV (cy 4) 13 (fun j => .int (f j))) := hp2
  have ha : ArrOfT U (cy 4) .byte := (hK.2 4 (cy 4, .byte) rfl).1
  have z1 : (arrV (cy 4) 13 (fun j => .int (f j))).vm ≠ .unknown := by intro h; cases h
  have z2 : (arrV (cy 4) 13 (fun j => .int (f j))).slots.size = 13 := arrV_size _ _ _
  exact ⟨arrV (cy 4) 13 (fun j => .int (f j)), hp2, ha 13 _, z1, Nat.le_of_eq z2.symm, by rw [z2], fun j hj => arrV_read (cy 4) (fun j => .int (f j)) hj, hq⟩
theorem va_T.congr13 {ty : FieldType} {t N : Nat} {f g : Nat → Value} {A : Nat → Prop} {U : State} {H : Heap} (h : va_T ty t N f A U H) (e : ∀ j, j < N → f j = g j) : va_T ty t N g A U H := by
  obtain ⟨cell, h1, h2, h3, h4, h5, h6, h7⟩ := h
  exact ⟨cell, h1, h2, h3, h4, h5, fun j hj => by rw [← e j hj]; exact h6 j hj, h7⟩
section SMT
variable {p : Program} {lc : Launch} {e : Env} {R : Room} {s : State} {m : MethodId} {args : Array Value} {below : List Frame} {meth : Method} {c : Code} {H : Heap} {locs : List Loc} {cells slots mc ms : Nat} {Q : State → Prop} {B : BP} {cc : ByteArray} {pc nL : Nat} {ls : Array Slot} {rest st0 As : List Value} {own : String} {Ts : List Cond} {a : Array Value} {ob : Ob} {bs : List va_W}
theorem sm_tr (X : BX B p s m args meth c cc nL own Ts) (hh : BH B s.heap bs H locs) (l r : List va_W) (hb : bs = l ++ sbW B ob :: r) {U : State} (hU : U.heap = H) (hW : s.WarmedH U.vm) : zTR (B.1, B.2.1, va_A (sbW B ob) H.size) (sbW B ob) U := by
  obtain ⟨ab, h1, h2, h3, h4, h5⟩ := sm_rel X hh l r hb hU hW
  exact ⟨h1, h2, h3, h4.2.2.1.1, h5⟩
theorem sm_callT {β : Type} {rv : β → Option Value} {blk : β → va_W} (hh : BH B s.heap bs H locs) (l r : List va_W) {x : va_W} (hb : bs = l ++ x :: r) (hr : va_Run p lc e R s m args below meth c H locs cells slots mc ms (F0 m pc ls st0) rest (TQ (B.1, B.2.1, va_A x H.size) rv blk a) (va_A x H.size))
    (kk : ∀ (u : β) (H1 : Heap) (locs1 : List Loc), BH B s.heap (l ++ blk u :: r) H1 locs1 → W p lc e R s m args below meth c H1 locs1 (cells + mc) (slots + ms) Q (F0 m (pc + 3) ls ((rv u).toList ++ rest))) : W p lc e R s m args below meth c H locs cells slots Q (F0 m pc ls st0) := by
  intro T hT X1
  obtain ⟨v, st₀, t, T', L, h0, X', hL, e1, e2, ⟨u, hv, h1, h2, hf⟩, st⟩ := hr T hT X1
  cases hv
  have hF := bm_sub hh l r hb
  obtain ⟨hP, hD, hS⟩ := hh
  obtain ⟨-, k2, k3⟩ := vx_keep (A0 := fun q : Nat => s.heap.size ≤ q) (A1 := va_A x H.size) (free := va_A x H.size) h0 e1 hS (fun q _ h => hF q h) hF hL hf
  rw [hb, flat_mid] at hP hD
  rw [← e1] at h1
  have hj := mid_join (m1 := blk u) hP hD k2 hF h1 h2
  obtain ⟨t2, a1, b1⟩ := kk u T'.heap (locs ++ L) ⟨by rw [flat_mid]; exact hj.1, by rw [flat_mid]; exact hj.2, k3⟩ T' rfl X'
  exact ⟨t2, st t2 a1, b1⟩
theorem amQ_T {B : BP} {ob : Ob} {A : Nat → Prop} {t x q : Nat} {o : Option Value} {w : Wd} : amQ (obG (B.1, B.2.1, avT B.2.2 t x q) ob A) o w = amQ (obG B ob A) o w := by
  unfold amQ RelP
  have e : gVb (obG (B.1, B.2.1, avT B.2.2 t x q) ob A) = gVb (obG B ob A) := avT_v
  rw [e]
theorem Rel_T {B : BP} {ob : Ob} {A : Nat → Prop} {t x q : Nat} {w : Wd} {U : State} (h : Rel (obG B ob A) w U) (hC : Cst B.2.2 A U U.heap → Cst (avT B.2.2 t x q) A U U.heap) : Rel (obG (B.1, B.2.1, avT B.2.2 t x q) ob A) w U := by
  obtain ⟨ab, h1, h2, h3, h4, h5⟩ := h
  have e : gVb (obG (B.1, B.2.1, avT B.2.2 t x q) ob A) = gVb (obG B ob A) := avT_v
  exact ⟨ab, h1, by rw [e]; exact h2, by rw [e]; exact h3, hC h4, h5⟩
end SMT
set_option maxHeartbeats 8000000 in
set_option maxRecDepth 100000 in
theorem c_law_1048 (l : Launch) (hst : l.stackTraces = false) {B : BP} {p : Program} {e : Env} {s : State} {m : MethodId} {args : Array Value} {below : List Frame} {meth : Method} {c : Code} {b cells slots abX abY abZ : Nat} {adX adY adZ : Nat → Nat} {H : Heap} {locs : List Loc} {ls : Array Slot} {wX wY wZ wZ1 w1 w2 w3 : Wd} {l3 l4 l6 r : Int32} {Q : State → Prop} {t : Nat} (X : BX B p s m args meth c cL_law 8 RL wsL_lawQ) (hav : ∀ i, i < 31 → B.2.2 (300 + i) = 1) (hav0 : ∀ i, 31 ≤ i → B.2.2 (300 + i) = 0) (hR : ∀ i, i < 31 → 13 ≤ i → vk_R "PlanetWorkshopLaw" (sW.getD i 0) (sX.getD i "") (B.2.2 (100 + i)) s) (hh : BH B s.heap [obW B (adX, abX, wX), obW B (adY, abY, wY), obW B (adZ, abZ, wZ)] H locs) (hc : cells + 60 ≤ 614784) (hs : slots + 1000 ≤ 7245417) (hl : lv_has ls 8 [(0, .ref b), (1, .ref (adX 0)), (2, .ref (adY 0)), (7, .ref (adZ 0)), (3, .int l3), (4, .int l4), (6, .int l6)]) (k1 : f_X10_renderGear wZ (0 : Int32) = some (.inr r, wZ1)) (k2 : fB_J4_append_15ec4 wS0 27 = some w1) (k3 : fB_J4_append_bf812 w1 ((90 : Int32) - ((7 : Int32) * l6)) = some w2) (k4 : fB_J4_append_15ec4 w2 28 = some w3) (g : gI w3 0 1 = 0 ∧ gI w3 0 2 = 0 ∧ gI w3 0 3 = 13 ∧ gC w3 = 16) (gf : ∀ i, fits .byte (.int (gI w3 1 i)) = true) (gb : cLens.getD t 0 = 13 ∧ ∀ i, i < 13 → gI w3 1 i = (cWords.getD t []).getD i 0) (ht : 31 ≤ t ∧ t < 100) (k5 : f_L_isText wZ1 r t = some 1)
    (kk : ∀ (abX abY abZ : Nat) (H : Heap) (locs : List Loc) (ls : Array Slot), BH B s.heap [obW B (adX, abX, wX), obW B (adY, abY, wY), obW B (adZ, abZ, wZ1)] H locs → lv_has ls 8 [(0, .ref b), (1, .ref (adX 0)), (2, .ref (adY 0)), (7, .ref (adZ 0)), (3, .int l3), (4, .int l4), (6, .int l6)] → W p l e room_1 s m args below meth c H locs (cells + 60) (slots + 1000) Q (F0 m 1095 ls [])) : W p l e room_1 s m args below meth c H locs cells slots Q (F0 m 1048 ls []) := by
  have hx := X.1.1; have hb := X.1.2.1; have hml := X.1.2.2.1; have hown := X.1.2.2.2.1; have hts := X.1.2.2.2.2
  have hK := X.2.1; have hE := X.2.2.2.1
  have hA : ∀ q : Nat, s.heap.size ≤ q → (fun q : Nat => s.heap.size ≤ q) q := fun _ h => h
  have hAA : ∀ q : Nat, (fun q : Nat => s.heap.size ≤ q) q → (fun q : Nat => s.heap.size ≤ q) q := fun _ h => h
  refine lv_aload hx hb dL_law_1048 (lv_at hl 3 rfl) ?_
  refine lv_aload hx hb dL_law_1050 (lv_at hl 3 rfl) ?_
  refine lv_iconst (v := (0 : Int32)) hx hb dL_law_1052 (by decide) ?_
  refine bm_callX (ob := (adZ, abZ, wZ)) hh [obW B (adX, abX, wX), obW B (adY, abY, wY)] [] rfl (vx_runV (As := [.int (0 : Int32)]) (rest := [.ref (adZ 0)]) X.1 (c_X10_renderGear l (obG B (adZ, abZ, wZ) (va_A (obW B (adZ, abZ, wZ)) H.size)) hst k1) (cwV 1 hts gL_law_X10_renderGear rfl rfl rfl (by decide +kernel) ⟨Nat.le_of_ble_eq_true rfl, Nat.le_of_ble_eq_true rfl⟩) (bm_preV (ob := (adZ, abZ, wZ)) X hh [obW B (adX, abX, wX), obW B (adY, abY, wY)] [] rfl) rfl rfl hl.1 rfl (lv_room (Nat.le_of_ble_eq_true rfl)) dL_law_1053 ⟨by show cells + 12 ≤ 614784; omega, by show slots + 710 ≤ 7245417; omega⟩) (fun abZ H locs hh => ?_)
  have hh : BH B s.heap [obW B (adX, abX, wX), obW B (adY, abY, wY), obW B (adZ, abZ, wZ1)] H locs := hh
  obtain ⟨hP, hD, hS⟩ := hh
  refine va_new (ci := 1) (fs := [.null, .int 0, .int 0, .int 0]) (C := RJ4) (T := TJ4) (N := 4) (ws := [obW B (adX, abX, wX), obW B (adY, abY, wY), obW B (adZ, abZ, wZ1)].flatten) hx hb hts inlJ4 tyJ4 tyJ4_ok hown (hts _ wlw_11) (hts _ wlw_12) (hts _ wlw_13) hK hP hD hS hA rfl (fun j hj => match j, hj with | 0, _ => rfl | 1, _ => rfl | 2, _ => rfl | 3, _ => rfl | n + 4, hn => absurd hn (by omega)) (by show (cells + 12) + 1 ≤ 614784; omega) (by show (slots + 710) + 4 ≤ 7245417; omega) dL_law_1056 (fun qS H hP hD hS => ?_)
  refine lv_dup hx hb dL_law_1059 rfl ?_
  refine ct_call (ws := [obW B (adX, abX, wX), obW B (adY, abY, wY), obW B (adZ, abZ, wZ1)].flatten) (x := (qS, .inr (1, [.null, .int 0, .int 0, .int 0]))) (blk := fun u : Nat → Nat => sbB B.2.1 qS u) (va_runI (As := []) (rest := [.ref qS, .int r, .ref (adZ 0)]) X.1 (c_J4_init_da8c8 l B.1 B.2.1 (fun q : Nat => s.heap.size ≤ q) qS H.size (ct_AA (ws := [obW B (adX, abX, wX), obW B (adY, abY, wY), obW B (adZ, abZ, wZ1)].flatten) hD hS hA hAA)) (cwI 0 hts gL_law_J4_init_da8c8 rfl rfl rfl (hts _ wlw_13) (hts _ wlw_14) (hts _ wlw_15) rfl (by decide +kernel) ⟨Nat.le_of_ble_eq_true rfl, Nat.le_of_ble_eq_true rfl⟩) (ct_pre (ws := [obW B (adX, abX, wX), obW B (adY, abY, wY), obW B (adZ, abZ, wZ1)].flatten) hK hP hE hS hAA) rfl rfl hl.1 rfl (lv_room (Nat.le_of_ble_eq_true rfl)) dL_law_1060 ⟨by show ((cells + 12) + 1) + 1 ≤ 614784; omega, by show ((slots + 710) + 4) + 16 ≤ 7245417; omega⟩) hP hD hS hA (fun uS H locs hP hD hS => ?_)
  have hfl : ∀ y : va_W, [obW B (adX, abX, wX), obW B (adY, abY, wY), obW B (adZ, abZ, wZ1), y].flatten = [obW B (adX, abX, wX), obW B (adY, abY, wY), obW B (adZ, abZ, wZ1)].flatten ++ y := fun y => by simp
  have hh : BH B s.heap [obW B (adX, abX, wX), obW B (adY, abY, wY), obW B (adZ, abZ, wZ1), sbW B (adS qS uS, 0, wS0)] H locs := ⟨by rw [hfl]; exact hP, by rw [hfl]; exact hD, hS⟩
  refine lv_ldcwS hx hb hown (hR 27 (by decide) (by decide)) dL_law_1063 ?_
  refine sm_call (ob := (adS qS uS, 0, wS0)) hh [obW B (adX, abX, wX), obW B (adY, abY, wY), obW B (adZ, abZ, wZ1)] [] rfl (va_runV (As := [.ref (B.2.2 (100 + 27))]) (rest := [.int r, .ref (adZ 0)]) X.1 (cB_J4_append_15ec4 l (obG B (adS qS uS, 0, wS0) (va_A (sbW B (adS qS uS, 0, wS0)) H.size)) (hav 27 (by decide)) k2) (cwV 1 hts gL_law_J4_append_15ec4 rfl rfl rfl (by decide +kernel) ⟨Nat.le_of_ble_eq_true rfl, Nat.le_of_ble_eq_true rfl⟩) (sm_preV (ob := (adS qS uS, 0, wS0)) X hh [obW B (adX, abX, wX), obW B (adY, abY, wY), obW B (adZ, abZ, wZ1)] [] rfl) rfl rfl hl.1 rfl (lv_room (Nat.le_of_ble_eq_true rfl)) dL_law_1066 ⟨by show (((cells + 12) + 1) + 1) + 0 ≤ 614784; omega, by show (((slots + 710) + 4) + 16) + 0 ≤ 7245417; omega⟩) (fun abw1 H locs hh => ?_)
  have hh : BH B s.heap [obW B (adX, abX, wX), obW B (adY, abY, wY), obW B (adZ, abZ, wZ1), sbW B (adS qS uS, abw1, w1)] H locs := hh
  refine lv_bipush (v := (90 : Int32)) hx hb dL_law_1069 (by decide) ?_
  refine lv_bipush (v := (7 : Int32)) hx hb dL_law_1071 (by decide) ?_
  refine lv_iload hx hb dL_law_1073 (lv_at hl 6 rfl) ?_
  refine lv_imul hx hb dL_law_1075 ?_
  refine lv_isub hx hb dL_law_1076 ?_
  refine sm_call (ob := (adS qS uS, abw1, w1)) hh [obW B (adX, abX, wX), obW B (adY, abY, wY), obW B (adZ, abZ, wZ1)] [] rfl (va_runV (As := [.int ((90 : Int32) - ((7 : Int32) * l6))]) (rest := [.int r, .ref (adZ 0)]) X.1 (cB_J4_append_bf812 l (obG B (adS qS uS, abw1, w1) (va_A (sbW B (adS qS uS, abw1, w1)) H.size)) k3) (cwV 1 hts gL_law_J4_append_bf812 rfl rfl rfl (by decide +kernel) ⟨Nat.le_of_ble_eq_true rfl, Nat.le_of_ble_eq_true rfl⟩) (sm_preV (ob := (adS qS uS, abw1, w1)) X hh [obW B (adX, abX, wX), obW B (adY, abY, wY), obW B (adZ, abZ, wZ1)] [] rfl) rfl rfl hl.1 rfl (lv_room (Nat.le_of_ble_eq_true rfl)) dL_law_1077 ⟨by show (((cells + 12) + 1) + 1) + 0 + 0 ≤ 614784; omega, by show (((slots + 710) + 4) + 16) + 0 + 0 ≤ 7245417; omega⟩) (fun abw2 H locs hh => ?_)
  have hh : BH B s.heap [obW B (adX, abX, wX), obW B (adY, abY, wY), obW B (adZ, abZ, wZ1), sbW B (adS qS uS, abw2, w2)] H locs := hh
  refine lv_ldcwS hx hb hown (hR 28 (by decide) (by decide)) dL_law_1080 ?_
  refine sm_call (ob := (adS qS uS, abw2, w2)) hh [obW B (adX, abX, wX), obW B (adY, abY, wY), obW B (adZ, abZ, wZ1)] [] rfl (va_runV (As := [.ref (B.2.2 (100 + 28))]) (rest := [.int r, .ref (adZ 0)]) X.1 (cB_J4_append_15ec4 l (obG B (adS qS uS, abw2, w2) (va_A (sbW B (adS qS uS, abw2, w2)) H.size)) (hav 28 (by decide)) k4) (cwV 1 hts gL_law_J4_append_15ec4 rfl rfl rfl (by decide +kernel) ⟨Nat.le_of_ble_eq_true rfl, Nat.le_of_ble_eq_true rfl⟩) (sm_preV (ob := (adS qS uS, abw2, w2)) X hh [obW B (adX, abX, wX), obW B (adY, abY, wY), obW B (adZ, abZ, wZ1)] [] rfl) rfl rfl hl.1 rfl (lv_room (Nat.le_of_ble_eq_true rfl)) dL_law_1083 ⟨by show (((cells + 12) + 1) + 1) + 0 + 0 + 0 ≤ 614784; omega, by show (((slots + 710) + 4) + 16) + 0 + 0 + 0 ≤ 7245417; omega⟩) (fun abw3 H locs hh => ?_)
  have hh : BH B s.heap [obW B (adX, abX, wX), obW B (adY, abY, wY), obW B (adZ, abZ, wZ1), sbW B (adS qS uS, abw3, w3)] H locs := hh
  have he : (sbW B (adS qS uS, abw3, w3))[0]? = some (qS, .inr (1, [.ref (uS 0), .int 0, .int 0, .int 13])) := by
    show some (qS, Sum.inr (1, [Value.ref (uS 0), Value.int (gI w3 0 1), Value.int (gI w3 0 2), Value.int (gI w3 0 3)])) = _
    rw [g.1, g.2.1, g.2.2.1]
  have hi : (sbW B (adS qS uS, abw3, w3))[1]? = some (uS 0, .inl (B.2.1 4, 16, .inl (gI w3 1))) := by
    show some (uS 0, Sum.inl (B.2.1 4, gC w3, Sum.inl (gI w3 1))) = _
    rw [g.2.2.2]
  refine sm_callT (x := sbW B (adS qS uS, abw3, w3)) hh [obW B (adX, abX, wX), obW B (adY, abY, wY), obW B (adZ, abZ, wZ1)] [] rfl (va_runV (As := []) (rest := [.int r, .ref (adZ 0)]) X.1 (cT_toString l (B.1, B.2.1, va_A (sbW B (adS qS uS, abw3, w3)) H.size) (sbW B (adS qS uS, abw3, w3)) he hi gf) (cwV 0 hts gL_law_J4_toString_0e30d rfl rfl rfl (by decide +kernel) ⟨Nat.le_of_ble_eq_true rfl, Nat.le_of_ble_eq_true rfl⟩) ⟨tr_blind, va_recv (q := (RJ4, TJ4, 4)) X.2.1 hh.1 rfl ((show ([obW B (adX, abX, wX), obW B (adY, abY, wY), obW B (adZ, abZ, wZ1), sbW B (adS qS uS, abw3, w3)].flatten)[[obW B (adX, abX, wX), obW B (adY, abY, wY), obW B (adZ, abZ, wZ1)].flatten.length]? = some (qS, .inr (1, [.ref (uS 0), .int 0, .int 0, .int 13])) by rw [show [obW B (adX, abX, wX), obW B (adY, abY, wY), obW B (adZ, abZ, wZ1), sbW B (adS qS uS, abw3, w3)].flatten = [obW B (adX, abX, wX), obW B (adY, abY, wY), obW B (adZ, abZ, wZ1)].flatten ++ sbW B (adS qS uS, abw3, w3) by simp, List.getElem?_append_right (Nat.le_refl _), Nat.sub_self]; exact he)), fun U hU hW => ⟨rfl, sm_tr (ob := (adS qS uS, abw3, w3)) X hh [obW B (adX, abX, wX), obW B (adY, abY, wY), obW B (adZ, abZ, wZ1)] [] rfl hU hW⟩⟩ rfl rfl hl.1 rfl (lv_room (Nat.le_of_ble_eq_true rfl)) dL_law_1086 ⟨by show ((((((cells + 12) + 1) + 1) + 0) + 0) + 0) + 2 ≤ 614784; omega, by show ((((((slots + 710) + 4) + 16) + 0) + 0) + 0) + 17 ≤ 7245417; omega⟩) (fun u H locs hh => ?_)
  obtain ⟨x, q⟩ := u
  have hh : BH B s.heap [obW B (adX, abX, wX), obW B (adY, abY, wY), obW B (adZ, abZ, wZ1), sbW B (adS qS uS, abw3, w3) ++ [(x, .inr (0, [.ref q, .int 0, .int 0, .int 0])), (q, .inl (B.2.1 4, 13, .inl (va_cpy (gI w3 1) (fun _ => 0) 0 0 13)))]] H locs := hh
  have ex : ∃ i, ([obW B (adX, abX, wX), obW B (adY, abY, wY), obW B (adZ, abZ, wZ1), sbW B (adS qS uS, abw3, w3) ++ [(x, .inr (0, [.ref q, .int 0, .int 0, .int 0])), (q, .inl (B.2.1 4, 13, .inl (va_cpy (gI w3 1) (fun _ => 0) 0 0 13)))]].flatten)[i]? = some (x, .inr (0, [.ref q, .int 0, .int 0, .int 0])) ∧ [obW B (adX, abX, wX), obW B (adY, abY, wY), obW B (adZ, abZ, wZ1)].flatten.length ≤ i := by
    refine ⟨[obW B (adX, abX, wX), obW B (adY, abY, wY), obW B (adZ, abZ, wZ1)].flatten.length + 2, ?_, Nat.le_add_right _ _⟩
    rw [show ∀ z : va_W, [obW B (adX, abX, wX), obW B (adY, abY, wY), obW B (adZ, abZ, wZ1), z].flatten = [obW B (adX, abX, wX), obW B (adY, abY, wY), obW B (adZ, abZ, wZ1)].flatten ++ z from fun z => by simp, List.getElem?_append_right (Nat.le_add_right _ _), Nat.add_sub_cancel_left]
    rfl
  have eq : ∃ i, ([obW B (adX, abX, wX), obW B (adY, abY, wY), obW B (adZ, abZ, wZ1), sbW B (adS qS uS, abw3, w3) ++ [(x, .inr (0, [.ref q, .int 0, .int 0, .int 0])), (q, .inl (B.2.1 4, 13, .inl (va_cpy (gI w3 1) (fun _ => 0) 0 0 13)))]].flatten)[i]? = some (q, .inl (B.2.1 4, 13, .inl (va_cpy (gI w3 1) (fun _ => 0) 0 0 13))) ∧ [obW B (adX, abX, wX), obW B (adY, abY, wY), obW B (adZ, abZ, wZ1)].flatten.length ≤ i := by
    refine ⟨[obW B (adX, abX, wX), obW B (adY, abY, wY), obW B (adZ, abZ, wZ1)].flatten.length + 3, ?_, Nat.le_add_right _ _⟩
    rw [show ∀ z : va_W, [obW B (adX, abX, wX), obW B (adY, abY, wY), obW B (adZ, abZ, wZ1), z].flatten = [obW B (adX, abX, wX), obW B (adY, abY, wY), obW B (adZ, abZ, wZ1)].flatten ++ z from fun z => by simp, List.getElem?_append_right (Nat.le_add_right _ _), Nat.add_sub_cancel_left]
    rfl
  generalize hstb : (sbW B (adS qS uS, abw3, w3) ++ [(x, .inr (0, [.ref q, .int 0, .int 0, .int 0])), (q, .inl (B.2.1 4, 13, .inl (va_cpy (gI w3 1) (fun _ => 0) 0 0 13)))] : va_W) = stb at hh ex eq
  clear hstb
  obtain ⟨i1, g1, j1⟩ := ex
  obtain ⟨i2, g2, j2⟩ := eq
  have hz : ∀ (i : Nat) (y : Nat × va_E), ([obW B (adX, abX, wX), obW B (adY, abY, wY), obW B (adZ, abZ, wZ1), stb].flatten)[i]? = some y → [obW B (adX, abX, wX), obW B (adY, abY, wY), obW B (adZ, abZ, wZ1)].flatten.length ≤ i → ¬ va_A (obW B (adZ, abZ, wZ1)) H.size y.1 := by
    intro i y hy hi h
    rcases h with ⟨k, ee, h⟩ | h
    · have hk : k < (obW B (adZ, abZ, wZ1)).length := (List.getElem?_eq_some_iff.mp h).1
      have h2 : ([obW B (adX, abX, wX), obW B (adY, abY, wY), obW B (adZ, abZ, wZ1), stb].flatten)[[obW B (adX, abX, wX), obW B (adY, abY, wY)].flatten.length + k]? = some (y.1, ee) := by
        rw [show [obW B (adX, abX, wX), obW B (adY, abY, wY), obW B (adZ, abZ, wZ1), stb].flatten = [obW B (adX, abX, wX), obW B (adY, abY, wY)].flatten ++ (obW B (adZ, abZ, wZ1) ++ stb) by simp, List.getElem?_append_right (Nat.le_add_right _ _), Nat.add_sub_cancel_left, List.getElem?_append_left hk]; exact h
      have h3 := hh.2.1.1 _ _ y (y.1, ee) hy h2 rfl
      have h4 : [obW B (adX, abX, wX), obW B (adY, abY, wY), obW B (adZ, abZ, wZ1)].flatten.length = [obW B (adX, abX, wX), obW B (adY, abY, wY)].flatten.length + (obW B (adZ, abZ, wZ1)).length := by
        rw [show [obW B (adX, abX, wX), obW B (adY, abY, wY), obW B (adZ, abZ, wZ1)].flatten = [obW B (adX, abX, wX), obW B (adY, abY, wY)].flatten ++ obW B (adZ, abZ, wZ1) by simp, List.length_append]
      omega
    · exact Nat.lt_irrefl _ (Nat.lt_of_lt_of_le (hh.1 i y hy).lt h)
  have con := c_L_isText l (obG (B.1, B.2.1, avT B.2.2 t x q) (adZ, abZ, wZ1) (va_A (obW B (adZ, abZ, wZ1)) H.size)) hst (x2 := t) avT_f k5
  rw [amQ_T, show gAv (obG (B.1, B.2.1, avT B.2.2 t x q) (adZ, abZ, wZ1) (va_A (obW B (adZ, abZ, wZ1)) H.size)) (100 + t) = x from avT_x] at con
  refine bm_call (ob := (adZ, abZ, wZ1)) hh [obW B (adX, abX, wX), obW B (adY, abY, wY)] [stb] rfl (va_runS (As := [.ref (adZ 0), .int r, .ref x]) (rest := []) X.1 con (va_cwS 3 hts gL_law_L_isText rfl rfl rfl (by decide +kernel) ⟨Nat.le_of_ble_eq_true rfl, Nat.le_of_ble_eq_true rfl⟩) ⟨am_blind, fun U hU hW => ⟨rfl, Rel_T (bm_rel (ob := (adZ, abZ, wZ1)) X hh [obW B (adX, abX, wX), obW B (adY, abY, wY)] [stb] rfl hU hW) (fun hC => ?_)⟩⟩ rfl rfl hl.1 rfl (lv_room (Nat.le_of_ble_eq_true rfl)) dL_law_1089 ⟨by show (((((((cells + 12) + 1) + 1) + 0) + 0) + 0) + 2) + 24 ≤ 614784; omega, by show (((((((slots + 710) + 4) + 16) + 0) + 0) + 0) + 17) + 144 ≤ 7245417; omega⟩) (fun abZ H locs hh => ?_)
  · have ho := hC.2.1.2.2.2.2.1 13 (hav 13 (by decide))
    have hp1 := hh.1 i1 _ g1
    have hp2 := hh.1 i2 _ g2
    have hsf := str_facts (A := va_A (obW B (adZ, abZ, wZ1)) H.size) (H := U.heap) (va_K.moved hW.alike X.2.1) (by rw [hU]; exact hp1) (by rw [hU]; exact hp2) (hz i1 _ g1 j1) (hz i2 _ g2 j2) ho.2.1 ho.2.2.1
    refine hC.text ht hav0 hsf.1 hsf.2.1 hsf.2.2.1 ?_
    rw [gb.1]
    exact hsf.2.2.2.congr13 (fun j hj => by rw [← gb.2 j hj]; show Value.int (if 0 ≤ j ∧ j < 0 + 13 then gI w3 1 (0 + (j - 0)) else 0) = _; rw [if_pos ⟨Nat.zero_le _, by omega⟩]; simp)
  · have hh : BH B s.heap ([obW B (adX, abX, wX), obW B (adY, abY, wY), obW B (adZ, abZ, wZ1)] ++ [stb]) H locs := hh
    refine lv_if_eq (tgt := 1129) hx hb dL_law_1092 (by decide) (fun hz => absurd hz (by decide)) (fun _ => ?_)
    exact W.widen (by omega) (by omega) (kk abX abY abZ H locs ls (bh_drop hh) hl)
