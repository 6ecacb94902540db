/-! THE GROWTH of the bytes: Arrays.copyOf, and what calls it -/
theorem gI_uG (w : Wd) (n a b : Nat) : gI (uG w n) a b = if a = 140 ∧ gC w ≤ b then 0 else gI w a b := rfl
theorem gL_uG (w : Wd) (n a b : Nat) : gL (uG w n) a b = gL w a b := rfl
theorem gV_uG (w : Wd) (n b : Nat) : gV (uG w n) b = gV w b := rfl
theorem gD_uG (w : Wd) (n b : Nat) : gD (uG w n) b = gD w b := rfl
theorem gC_uG (w : Wd) (n : Nat) : gC (uG w n) = n := rfl
theorem dsc_ne (c1 c2 : Nat) {k : Nat} (h : k ≠ 140) : dsc c1 k = dsc c2 k := by
  unfold dsc kEnd
  repeat' split
  all_goals first | rfl | (exfalso; omega)
theorem mkF_ad {a1 a2 : Nat → Nat} {w : Wd} {k : Nat} : ∀ {ks : List (Option Nat)} {i : Nat}, (∀ x, some x ∈ ks → a1 x = a2 x) → mkF a1 w k i ks = mkF a2 w k i ks
  | [], _, _ => rfl
  | none :: os, i, h => by
    show _ :: _ = _ :: _
    rw [mkF_ad (i := i + 1) (fun x hx => h x (List.mem_cons_of_mem _ hx))]
  | some y :: os, i, h => by
    show Value.ref (a1 y) :: _ = Value.ref (a2 y) :: _
    rw [mkF_ad (i := i + 1) (fun x hx => h x (List.mem_cons_of_mem _ hx)), h y List.mem_cons_self]
theorem dsc_r140 : ∀ k, k < 141 → k ≠ 139 → (match dsc 0 k with | .inl (_, ks) => decide (some 140 ∈ ks) | _ => false) = false := by decide +kernel
theorem adx_eq {ad : Nat → Nat} {a b x : Nat} (h : x ≠ 140) : adx ad a x = adx ad b x := by
  unfold adx
  rw [if_neg h, if_neg h]
theorem toE_uG {ad : Nat → Nat} {cy : Nat → ClassId} {av : Nat → Nat} {w : Wd} {ab q n k : Nat} (hk : k < 141) (h1 : k ≠ 139) (h2 : k ≠ 140) : toE (adx ad q) cy av (uG w n) k = toE (adx ad ab) cy av w k := by
  have hd : dsc (gC (uG w n)) k = dsc (gC w) k := dsc_ne _ _ h2
  have hg : gI (uG w n) k = gI w k := by
    funext b
    rw [gI_uG, if_neg (fun z => h2 z.1)]
  unfold toE
  rw [hd]
  cases hq : dsc (gC w) k with
  | inl x =>
    obtain ⟨ci, ks⟩ := x
    show Sum.inr (ci, _) = Sum.inr (ci, _)
    rw [mkF_ne (w := w) (w' := uG w n) (fun i => congrFun hg i)]
    rw [mkF_ad (a1 := adx ad q) (a2 := adx ad ab)]
    intro x hx
    refine adx_eq ?_
    intro hz
    subst hz
    have h3 := dsc_r140 k hk h1
    rw [dsc_ne 0 (gC w) h2, hq] at h3
    exact absurd hx (of_decide_eq_false h3)
  | inr x =>
    obtain ⟨t, m⟩ := x
    show Sum.inl (cy t, _) = Sum.inl (cy t, _)
    have hm : mkA (adx ad q) av (uG w n) k t m = mkA (adx ad ab) av w k t m := by
      unfold mkA
      split
      · rfl
      · rfl
      · have e : ∀ i : Nat, adx ad q (36 + 11 * i) = adx ad ab (36 + 11 * i) := fun i => adx_eq (by omega)
        simp only [e]
      · rfl
      · rw [hg]
    rw [hm]
def grL (G : GG) (ab q n : Nat) (w : Wd) : va_W := wsOf (adx (gAd G) ab) (gCy G) (gVb G) w ++ [(q, .inl (gCy G 4, n, .inl (gI (uG w n) 140)))]
theorem ws_len {ad : Nat → Nat} {cy : Nat → ClassId} {av : Nat → Nat} {w : Wd} : (wsOf ad cy av w).length = 141 := by unfold wsOf; simp
theorem gr_at {G : GG} {ab q n : Nat} {w : Wd} {k : Nat} (h : k < 141) : (grL G ab q n w)[k]? = some (adx (gAd G) ab k, toE (adx (gAd G) ab) (gCy G) (gVb G) w k) := by
  unfold grL
  rw [List.getElem?_append_left (by rw [ws_len]; exact h), ws_at h]
theorem grw_new {G : GG} {ab q n : Nat} {w : Wd} : (grL G ab q n w)[141]? = some (q, .inl (gCy G 4, n, .inl (gI (uG w n) 140))) := by
  unfold grL
  rw [List.getElem?_append_right (by rw [ws_len]; exact Nat.le_refl _), ws_len]
  rfl
theorem gr_pick {G : GG} {ab q n : Nat} {w : Wd} {k : Nat} {x : Nat × va_E} (h : (wsOf (adx (gAd G) q) (gCy G) (gVb G) (uG w n))[k]? = some x) :
    ((grL G ab q n w).set 139 (gAd G 139, .inr (1, (mkF (adx (gAd G) ab) w 139 0 [some 140, none, none, none]).set 0 (.ref q))))[if k = 140 then 141 else k]? = some x := by
  have hk : k < 141 := by
    have h2 := (List.getElem?_eq_some_iff.mp h).1
    rw [ws_len] at h2
    exact h2
  rw [ws_at hk] at h
  cases h
  by_cases h140 : k = 140
  · subst h140
    rw [if_pos rfl, List.getElem?_set_ne (by decide), grw_new]
    have e : adx (gAd G) q 140 = q := by unfold adx; rw [if_pos rfl]
    rw [e, toE_a (t := 4) (n := n) rfl]
    rfl
  · rw [if_neg h140]
    by_cases h139 : k = 139
    · subst h139
      rw [List.getElem?_set_self (by unfold grL; rw [List.length_append, ws_len]; exact Nat.lt_of_lt_of_le (show 139 < 141 by decide) (Nat.le_add_right _ _))]
      have e : adx (gAd G) q 139 = gAd G 139 := by unfold adx; rw [if_neg (by decide)]
      have e2 : adx (gAd G) q 140 = q := by unfold adx; rw [if_pos rfl]
      rw [e, toE_o (ci := 1) (ks := [some 140, none, none, none]) rfl]
      show some (gAd G 139, Sum.inr (1, [Value.ref q, .int (gI w 139 1), .int (gI w 139 2), .int (gI w 139 3)])) = some (gAd G 139, Sum.inr (1, [Value.ref (adx (gAd G) q 140), .int (gI (uG w n) 139 1), .int (gI (uG w n) 139 2), .int (gI (uG w n) 139 3)]))
      rw [e2]
      rfl
    · rw [List.getElem?_set_ne (fun z => h139 z.symm), gr_at hk, toE_uG (ab := ab) hk h139 h140, adx_eq (a := q) (b := ab) h140]
theorem gr_P {G : GG} {ab q n : Nat} {w : Wd} {H : Heap} (h : va_P (gDc G) vwCl ((grL G ab q n w).set 139 (gAd G 139, .inr (1, (mkF (adx (gAd G) ab) w 139 0 [some 140, none, none, none]).set 0 (.ref q)))) H) : va_P (gDc G) vwCl (wsOf (adx (gAd G) q) (gCy G) (gVb G) (uG w n)) H :=
  fun k x hx => h _ x (gr_pick hx)
theorem gr_D {G : GG} {ab q n : Nat} {w : Wd} {A : Nat → Prop} (h : va_D A ((grL G ab q n w).set 139 (gAd G 139, .inr (1, (mkF (adx (gAd G) ab) w 139 0 [some 140, none, none, none]).set 0 (.ref q))))) : va_D A (wsOf (adx (gAd G) q) (gCy G) (gVb G) (uG w n)) := by
  refine ⟨fun i j x y hx hy e => ?_, fun k x hx => h.2 _ x (gr_pick hx)⟩
  have hi : i < 141 := by
    have h2 := (List.getElem?_eq_some_iff.mp hx).1
    rw [ws_len] at h2
    exact h2
  have hj : j < 141 := by
    have h2 := (List.getElem?_eq_some_iff.mp hy).1
    rw [ws_len] at h2
    exact h2
  have h3 := h.1 _ _ x y (gr_pick hx) (gr_pick hy) e
  by_cases h1 : i = 140 <;> by_cases h2 : j = 140
  · omega
  · rw [if_pos h1, if_neg h2] at h3; omega
  · rw [if_neg h1, if_pos h2] at h3; omega
  · rw [if_neg h1, if_neg h2] at h3; exact h3
theorem gK_spec {w : Wd} {n : Int32} (h : gK w n = true) : ¬ n < 0 ∧ n.toNatClampNeg ≤ 64 ∧ gC w < n.toNatClampNeg ∧ ∀ i, i < gC w → fits .byte (.int (gI w 140 i)) = true := by
  unfold gK at h
  simp only [Bool.and_eq_true, decide_eq_true_eq] at h
  exact ⟨h.1, h.2.1, h.2.2.1, fun i hi => List.all_eq_true.mp h.2.2.2 i (List.mem_range.mpr hi)⟩
def amQ7 (G : GG) (ab : Nat) (w : Wd) (n : Nat) : Array Value → State → Outcome → State → Prop := fun _ st oc t =>
  (∃ q : Nat, oc = .returned (some (.ref q)) ∧ va_P (gDc G) vwCl (grL G ab q n w) t.heap ∧ va_D (gA G) (grL G ab q n w)) ∧ va_F (gA G) st t
theorem i32_nI {x : Int32} (h : ¬ x < 0) : x = nI x.toNatClampNeg := by
  obtain ⟨j, hj, rfl⟩ := nI_of h
  rw [nI_clamp hj]
set_option maxHeartbeats 4000000 in
set_option maxRecDepth 100000 in
theorem c_J7_copyOf_9075b (l : Launch) (G : GG) {ab : Nat} {w : Wd} {x1 : Int32} (hK1 : gK w x1 = true) : Met l yJ7_copyOf_9075b wsJ7_copyOf_9075b ({ frames := 1, cells := 1, slots := 64, locals := 60 } : Room) (va_Pc [.ref ab, .int x1] (RelF G ab w)) (amQ7 G ab w x1.toNatClampNeg) 1 64 (gA G) := by
  obtain ⟨k1, k2, k3, k4⟩ := gK_spec hK1
  refine am_metB (own := RJ7) (cc := cJ7_copyOf_9075b) (maxL := 3) (ret := some (.array .byte)) (by decide +kernel) rfl rfl (Nat.le_of_ble_eq_true rfl) ?_
  intro p e s m args below meth c H locs ls X hr hh hl
  have hx := X.1.1; have hb := X.1.2.1; have hml := X.1.2.2.1; have hown := X.1.2.2.2.1; have hts := X.1.2.2.2.2
  have hl : lv_has ls 3 [(0, .ref ab), (1, .int x1)] := hl
  have hN : ¬ x1 = nI (gC w) := by
    intro z
    have g64 : gC w < 64 := by omega
    rw [z, nI_clamp (by omega)] at k3
    omega
  refine lv_iload_n hx hb dJ7_copyOf_9075b_0 rfl (lv_at hl 1 rfl) ?_
  refine lv_aload_n hx hb dJ7_copyOf_9075b_1 rfl (lv_at hl 0 rfl) ?_
  refine am_alenC X hh dJ7_copyOf_9075b_2 ?_
  refine lv_icmp_ne (tgt := 14) hx hb dJ7_copyOf_9075b_3 (by decide) (fun _ => ?_) (fun z => absurd z hN)
  refine lv_iload_n hx hb dJ7_copyOf_9075b_14 rfl (lv_at hl 1 rfl) ?_
  refine va_newa (atype := .byte) (ty := .byte) hx hb (hts _ (show Cond.arrayClass .byte ∈ wsJ7_copyOf_9075b by decide +kernel)) rfl X.2.1 hh.1 hh.2.1 hh.2.2 X.2.2.2.1 (n := x1) (N' := x1.toNatClampNeg) (a0 := (x1.toNatClampNeg, .inl (fun _ => 0))) (fun _ => rfl) k1 rfl (by show x1.toNatClampNeg * 1 ≤ _; omega) (Nat.le_of_ble_eq_true rfl) (by show 0 + x1.toNatClampNeg ≤ 64; omega) dJ7_copyOf_9075b_15 (fun q cA H1 hK' hP' hD' hS' => ?_)
  have hcA : cA = gCy G 4 := by
    have e1 := (hK'.2 8 (cA, .byte) rfl).2
    have e2 := (X.2.1.2 4 (gCy G 4, .byte) rfl).2
    have e1' : s.vm.findClass ("[" ++ FieldType.byte.toString) = some cA := e1
    have e2' : s.vm.findClass ("[" ++ FieldType.byte.toString) = some (gCy G 4) := e2
    exact Option.some.inj (e1'.symm.trans e2')
  subst hcA
  refine W.widen (k := 1) (n := 64) (by omega) (by omega) ?_
  refine lv_astore_n (lv' := [(2, .ref q), (0, .ref ab), (1, .int x1)]) hx hb dJ7_copyOf_9075b_17 rfl hl (by decide) rfl (fun ls hl => ?_)
  refine lv_aload_n hx hb dJ7_copyOf_9075b_18 rfl (lv_at hl 1 rfl) ?_
  refine lv_iconst (v := (0 : Int32)) hx hb dJ7_copyOf_9075b_19 (by decide) ?_
  refine lv_aload_n hx hb dJ7_copyOf_9075b_20 rfl (lv_at hl 0 rfl) ?_
  refine lv_iconst (v := (0 : Int32)) hx hb dJ7_copyOf_9075b_21 (by decide) ?_
  refine lv_aload_n hx hb dJ7_copyOf_9075b_22 rfl (lv_at hl 1 rfl) ?_
  have e140 : adx (gAd G) ab 140 = ab := by unfold adx; rw [if_pos rfl]
  have a0 : (wsOf (adx (gAd G) ab) (gCy G) (gVb G) w ++ [(q, Sum.inl (gCy G 4, x1.toNatClampNeg, Sum.inl (fun _ => (0 : Int32))))])[140]? = some (ab, .inl (gCy G 4, gC w, .inl (gI w 140))) := by
    rw [List.getElem?_append_left (by rw [ws_len]; decide), ws_at (by decide), e140, toE_a (t := 4) (n := gC w) rfl]
    rfl
  have a1 : (wsOf (adx (gAd G) ab) (gCy G) (gVb G) w ++ [(q, Sum.inl (gCy G 4, x1.toNatClampNeg, Sum.inl (fun _ => (0 : Int32))))])[141]? = some (q, .inl (gCy G 4, x1.toNatClampNeg, .inl (fun _ => (0 : Int32)))) := by
    rw [List.getElem?_append_right (by rw [ws_len]; exact Nat.le_refl _), ws_len]
    rfl
  refine va_alen hx hb hK' hP' 140 4 a0 (v := nI (gC w)) rfl rfl dJ7_copyOf_9075b_23 ?_
  refine lv_iload_n hx hb dJ7_copyOf_9075b_24 rfl (lv_at hl 2 rfl) ?_
  refine va_mmin hx hb (hml.trans hl.1.symm) hown (hts _ (show Cond.methodLink RJ7 304 Lib.Math.min.name ∈ wsJ7_copyOf_9075b by decide +kernel)) (hts _ (show Cond.static Lib.Math.min.name ∈ wsJ7_copyOf_9075b by decide +kernel)) (hts _ (show Cond.initialized "java/lang/Math" ∈ wsJ7_copyOf_9075b by decide +kernel)) (hts _ (show Cond.code Lib.Math.min.name Lib.Math.min.code 2 (some .int) ∈ wsJ7_copyOf_9075b by decide +kernel)) (Nat.le_of_ble_eq_true rfl) (Nat.le_of_ble_eq_true rfl) (Nat.le_of_ble_eq_true rfl) (Nat.le_of_ble_eq_true rfl) dJ7_copyOf_9075b_25 ?_
  have hmin : (if x1 < nI (gC w) then x1 else nI (gC w)) = nI (gC w) := by
    rw [if_neg]
    intro z
    rw [i32_nI k1, nI_ltI (by omega) (by omega)] at z
    omega
  rw [hmin]
  have hcl : (nI (gC w)).toNatClampNeg = gC w := nI_clamp (by omega)
  refine va_copyi hx hb (hml.trans hl.1.symm) hown (hts _ (show Cond.methodLink RJ7 150 arraycopyName ∈ wsJ7_copyOf_9075b by decide +kernel)) (hts _ (show Cond.native arraycopyName ∈ wsJ7_copyOf_9075b by decide +kernel)) (hts _ (show Cond.static arraycopyName ∈ wsJ7_copyOf_9075b by decide +kernel)) (hts _ (show Cond.initialized "java/lang/System" ∈ wsJ7_copyOf_9075b by decide +kernel)) hK' hP' hD' hS' 140 141 4 8 (ty := .byte) a0 a1 rfl rfl rfl (by decide) (by decide) (nI_pos (by omega)) (by rw [hcl]; show 0 + gC w ≤ gC w; omega) (by rw [hcl]; show 0 + gC w ≤ _; omega) (fun i hi => by rw [hcl] at hi; show fits .byte (.int (gI w 140 (0 + i))) = true; rw [Nat.zero_add]; exact k4 i hi) (Nat.le_of_ble_eq_true rfl) (by decide +kernel) dJ7_copyOf_9075b_28 (fun H2 locs2 hP2 hD2 hS2 => ?_)
  have el : (wsOf (adx (gAd G) ab) (gCy G) (gVb G) w ++ [(q, Sum.inl (gCy G 4, x1.toNatClampNeg, Sum.inl (fun _ => (0 : Int32))))]).set 141 (q, .inl (gCy G 4, x1.toNatClampNeg, .inl (va_cpy (gI w 140) (fun _ => (0 : Int32)) (0 : Int32).toNatClampNeg (0 : Int32).toNatClampNeg (nI (gC w)).toNatClampNeg))) = grL G ab q x1.toNatClampNeg w := by
    unfold grL
    rw [List.set_append_right _ _ (by rw [ws_len]; exact Nat.le_refl _), ws_len]
    have e3 : va_cpy (gI w 140) (fun _ => (0 : Int32)) (0 : Int32).toNatClampNeg (0 : Int32).toNatClampNeg (nI (gC w)).toNatClampNeg = gI (uG w x1.toNatClampNeg) 140 := by
      funext b
      rw [hcl, gI_uG]
      show (if 0 ≤ b ∧ b < 0 + gC w then gI w 140 (0 + (b - 0)) else 0) = _
      by_cases hb9 : b < gC w
      · rw [if_pos ⟨Nat.zero_le _, by omega⟩, if_neg (fun z => by omega), Nat.zero_add, Nat.sub_zero]
      · rw [if_neg (fun z => hb9 (by omega)), if_pos ⟨rfl, by omega⟩]
    rw [e3]
    rfl
  rw [el] at hP2 hD2
  refine lv_aload_n hx hb dJ7_copyOf_9075b_31 rfl (lv_at hl 0 rfl) ?_
  exact W.aret hx hb hr (Or.inr ⟨_, rfl⟩) (Or.inr ⟨_, rfl⟩) (fun t ht _ => ⟨⟨q, rfl, by rw [ht]; exact hP2, hD2⟩, hS2.F ht⟩) hS2.2.2 dJ7_copyOf_9075b_32 X.2.2.2.2
section AMG
variable {p : Program} {l : Launch} {e : Env} {R : Room} {s : State} {m : MethodId} {args : Array Value} {below : List Frame} {meth : Method} {c : Code} {H : Heap} {locs : List Loc} {cells slots mc ms : Nat} {Q : State → Prop} {G : GG} {w w1 : Wd} {ab : Nat} {cc : ByteArray} {pc nL : Nat} {ls : Array Slot} {rest st0 : List Value} {own : String} {Ts : List Cond} {a : Array Value}
theorem am_call7 {n : Nat} (hh : AH G s.heap w ab H locs) (hr : va_Run p l e R s m args below meth c H locs cells slots mc ms (F0 m pc ls st0) rest (amQ7 G ab w n a) (gA G))
    (kk : ∀ (q : Nat) (H1 : Heap) (locs1 : List Loc), va_P (gDc G) vwCl (grL G ab q n w) H1 → va_D (gA G) (grL G ab q n w) → va_S (gA G) s.heap H1 locs1 → W p l e R s m args below meth c H1 locs1 (cells + mc) (slots + ms) Q (F0 m (pc + 3) ls (.ref q :: rest))) : W p l e R s m args below meth c H locs cells slots Q (F0 m pc ls st0) := by
  intro T hT X1
  obtain ⟨v, st₀, t, T', L, h0, X', hL, e1, e2, ⟨⟨q, hv, hp1, hp2⟩, hf⟩, st⟩ := hr T hT X1
  cases hv
  obtain ⟨-, -, k3⟩ := vx_keep (A0 := gA G) (A1 := gA G) (free := gA G) h0 e1 hh.2.2 (fun _ _ h => h) (fun _ h => h) hL hf
  obtain ⟨t2, a1, b1⟩ := kk q T'.heap (locs ++ L) (by rw [e1]; exact hp1) hp2 k3 T' rfl X'
  exact ⟨t2, st t2 a1, b1⟩
end AMG
set_option maxHeartbeats 4000000 in
set_option maxRecDepth 100000 in
theorem c_J5_ensureCapacityInternal_d00df (l : Launch) (G : GG) {w : Wd} {x1 : Int32} {w1 : Wd} (hF : f_J5_ensureCapacityInternal_d00df w x1 = some w1) : Met l yJ5_ensureCapacityInternal_d00df wsJ5_ensureCapacityInternal_d00df ({ frames := 4, cells := 1, slots := 64, locals := 120 } : Room) (va_Pc [.ref (gAd G 139), .int x1] (Rel G w)) (amQ G none w1) 1 64 (gA G) := by
  refine am_metF (own := RJ5) (cc := cJ5_ensureCapacityInternal_d00df) (maxL := 3) (ret := none) (by decide +kernel) rfl rfl (Nat.le_of_ble_eq_true rfl) ?_
  intro p e s m args below meth c ab H locs ls X hr hh hl
  have hx := X.1.1; have hb := X.1.2.1; have hml := X.1.2.2.1; have hown := X.1.2.2.2.1; have hts := X.1.2.2.2.2
  have hl : lv_has ls 3 [(0, .ref (gAd G 139)), (1, .int x1)] := hl
  have hwRJ4 : ∀ z ∈ u_ws RJ4 TJ4 4, z ∈ wsJ5_ensureCapacityInternal_d00df := by decide +kernel
  unfold f_J5_ensureCapacityInternal_d00df at hF
  refine lv_aload_n hx hb dJ5_ensureCapacityInternal_d00df_0 rfl (lv_at hl 0 rfl) ?_
  refine am_getR X hh 139 1 0 140 (by decide) rfl rfl (by decide) hwRJ4 (show Cond.fieldLink RJ5 15 "java/lang/AbstractStringBuilder" "value" "[B" ∈ wsJ5_ensureCapacityInternal_d00df by decide +kernel) rfl dJ5_ensureCapacityInternal_d00df_1 ?_
  refine am_alenC X hh dJ5_ensureCapacityInternal_d00df_4 ?_
  refine lv_aload_n hx hb dJ5_ensureCapacityInternal_d00df_5 rfl (lv_at hl 0 rfl) ?_
  refine am_getI X hh 139 1 1 (by decide) rfl rfl (by decide) hwRJ4 (show Cond.fieldLink RJ5 22 "java/lang/AbstractStringBuilder" "coder" "B" ∈ wsJ5_ensureCapacityInternal_d00df by decide +kernel) rfl dJ5_ensureCapacityInternal_d00df_6 ?_
  refine lv_ishr hx hb dJ5_ensureCapacityInternal_d00df_9 ?_
  refine lv_istore_n (lv' := [(2, .int ((nI (gC w)) >>> ((gI w 139 1) &&& 31))), (0, .ref (gAd G 139)), (1, .int x1)]) hx hb dJ5_ensureCapacityInternal_d00df_10 rfl hl (by decide) rfl (fun ls hl => ?_)
  refine lv_iload_n hx hb dJ5_ensureCapacityInternal_d00df_11 rfl (lv_at hl 2 rfl) ?_
  refine lv_iload_n hx hb dJ5_ensureCapacityInternal_d00df_12 rfl (lv_at hl 0 rfl) ?_
  refine lv_isub hx hb dJ5_ensureCapacityInternal_d00df_13 ?_
  refine lv_if_le (tgt := 38) hx hb dJ5_ensureCapacityInternal_d00df_14 (by decide) (fun hc1 => ?_) (fun hc1 => ?_)
  · have hF := am_pos hc1 hF
    exact am_vret X hr hh (fun t ht => am_qv hF ht) (Nat.le_of_ble_eq_true rfl) (Nat.le_of_ble_eq_true rfl) dJ5_ensureCapacityInternal_d00df_38
  · have hF := am_neg hc1 hF
    refine lv_aload_n hx hb dJ5_ensureCapacityInternal_d00df_17 rfl (lv_at hl 1 rfl) ?_
    refine lv_aload_n hx hb dJ5_ensureCapacityInternal_d00df_18 rfl (lv_at hl 1 rfl) ?_
    refine am_getR X hh 139 1 0 140 (by decide) rfl rfl (by decide) hwRJ4 (show Cond.fieldLink RJ5 15 "java/lang/AbstractStringBuilder" "value" "[B" ∈ wsJ5_ensureCapacityInternal_d00df by decide +kernel) rfl dJ5_ensureCapacityInternal_d00df_19 ?_
    refine lv_aload_n hx hb dJ5_ensureCapacityInternal_d00df_22 rfl (lv_at hl 1 rfl) ?_
    refine lv_iload_n hx hb dJ5_ensureCapacityInternal_d00df_23 rfl (lv_at hl 2 rfl) ?_
    obtain ⟨r3, hk2, hF⟩ := am_bind hF
    refine am_callF X hh (va_runU (As := [.int x1]) (rest := [.ref ab, .ref (gAd G 139)]) X.1 (c_J5_newCapacity_0f7a4 l G hk2) (va_cwU 1 hts gJ5_ensureCapacityInternal_d00df_J5_newCapacity_0f7a4_u104J4 rfl rfl rfl rfl (by decide +kernel) ⟨Nat.le_of_ble_eq_true rfl, Nat.le_of_ble_eq_true rfl⟩) (am_preVF X hh 139 1 (by decide) rfl rfl) rfl rfl hl.1 rfl (lv_room (Nat.le_of_ble_eq_true rfl)) dJ5_ensureCapacityInternal_d00df_24 ⟨Nat.le_of_ble_eq_true rfl, Nat.le_of_ble_eq_true rfl⟩) (fun H locs hh => ?_)
    refine lv_aload_n hx hb dJ5_ensureCapacityInternal_d00df_27 rfl (lv_at hl 1 rfl) ?_
    refine am_getI X hh 139 1 1 (by decide) rfl rfl (by decide) hwRJ4 (show Cond.fieldLink RJ5 22 "java/lang/AbstractStringBuilder" "coder" "B" ∈ wsJ5_ensureCapacityInternal_d00df by decide +kernel) rfl dJ5_ensureCapacityInternal_d00df_28 ?_
    refine lv_ishl hx hb dJ5_ensureCapacityInternal_d00df_31 ?_
    obtain ⟨hK1, hF⟩ := am_if hF
    refine am_call7 hh (va_runS (As := [.ref ab, .int (r3 <<< ((gI w 139 1) &&& 31))]) (rest := [.ref (gAd G 139)]) X.1 (c_J7_copyOf_9075b l G hK1) (va_cwS 2 hts gJ5_ensureCapacityInternal_d00df_J7_copyOf_9075b rfl rfl rfl (by decide +kernel) ⟨Nat.le_of_ble_eq_true rfl, Nat.le_of_ble_eq_true rfl⟩) (am_preSF X hh) rfl rfl hl.1 rfl (lv_room (Nat.le_of_ble_eq_true rfl)) dJ5_ensureCapacityInternal_d00df_32 ⟨Nat.le_of_ble_eq_true rfl, Nat.le_of_ble_eq_true rfl⟩) (fun q H1 locs1 hP1 hD1 hS1 => ?_)
    have e139 : adx (gAd G) ab 139 = gAd G 139 := by unfold adx; rw [if_neg (by decide)]
    refine va_put (C := RJ4) (T := TJ4) (N := 4) (ci := 1) hx hb hts hwRJ4 tyJ4 tyJ4_ok nmJ4 hown X.2.1 hP1 hD1 hS1 139 (fs := mkF (adx (gAd G) ab) w 139 0 [some 140, none, none, none]) (by rw [gr_at (by decide), e139, toE_o (ci := 1) (ks := [some 140, none, none, none]) rfl]) rfl 0 (by decide) (hts _ (show Cond.fieldLink RJ5 15 "java/lang/AbstractStringBuilder" "value" "[B" ∈ wsJ5_ensureCapacityInternal_d00df by decide +kernel)) (fun _ h => h) rfl (tyJ4_ok 0 (by decide)) rfl rfl (by rw [mkF_len]; decide) dJ5_ensureCapacityInternal_d00df_35 (fun H2 locs2 hP2 hD2 hS2 => ?_)
    have hh2 : AH G s.heap (uG w (r3 <<< ((gI w 139 1) &&& 31)).toNatClampNeg) q H2 locs2 := ⟨gr_P hP2, gr_D hD2, hS2⟩
    exact am_vret X hr hh2 (fun t ht => am_qv hF ht) (Nat.le_of_ble_eq_true rfl) (Nat.le_of_ble_eq_true rfl) dJ5_ensureCapacityInternal_d00df_38
