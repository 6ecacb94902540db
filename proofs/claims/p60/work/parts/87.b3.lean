/-! THE BUILDER among the blocks -/
abbrev sbW (B : BP) (o : Ob) : va_W := wsOfB (adx o.1 o.2.1) B.2.1 (vbs B.2.2) o.2.2
section
variable {p : Program} {lc : Launch} {e : Env} {R : Room} {s : State} {m : MethodId} {args : Array Value} {below : List Frame} {meth : Method} {c : Code} {H : Heap} {locs : List Loc} {cells slots mc ms : Nat} {Q : State → Prop} {B : BP} {w1 : Wd} {cc : ByteArray} {pc nL : Nat} {ls : Array Slot} {rest st0 : List Value} {own : String} {Ts : List Cond} {a : Array Value} {ob : Ob} {bs : List va_W}
theorem sm_rel (X : BX B p s m args meth c cc nL own Ts) (hh : BH B s.heap bs H locs) (l r : List va_W) (hb : bs = l ++ sbW B ob :: r) {U : State} (hU : U.heap = H) (hW : s.WarmedH U.vm) : RelB (obG B ob (va_A (sbW B ob) H.size)) ob.2.2 U := by
  have hF := bm_sub hh l r hb
  obtain ⟨hP, hD, hS⟩ := hh
  have pm : ∀ (i : Nat) (q : Nat × va_E), (sbW B ob)[i]? = some q → (bs.flatten)[l.flatten.length + i]? = some q := fun i q h => by
    rw [hb, flat_mid, List.getElem?_append_right (Nat.le_add_right _ _), Nat.add_sub_cancel_left, List.getElem?_append_left (List.getElem?_eq_some_iff.mp h).1]; exact h
  refine ⟨ob.2.1, va_K.moved hW.alike X.2.1, fun i q h => by rw [hU]; exact hP _ q (pm i q h), ⟨fun i j y z hy hz e => by have := hD.1 _ _ y z (pm i y hy) (pm j z hz) e; omega, fun i q h => va_A.in h⟩, ?_, fun q hq => Or.inr (by rw [← hU]; exact hq)⟩
  rw [hU]
  exact ((X.2.2.1.kept hS.2.1).moved hW).narrow hF
theorem sm_preV (X : BX B p s m args meth c cc nL own Ts) (hh : BH B s.heap bs H locs) (l r : List va_W) (hb : bs = l ++ sbW B ob :: r) {As : List Value} : PreV s H RJ4 (ob.1 0) (va_Pc (.ref (ob.1 0) :: As) (RelB (obG B ob (va_A (sbW B ob) H.size)) ob.2.2)) As := by
  have h0 : (bs.flatten)[l.flatten.length + 0]? = some (ob.1 0, toEB (adx ob.1 ob.2.1) B.2.1 (vbs B.2.2) ob.2.2 0) := by
    rw [hb, flat_mid, List.getElem?_append_right (Nat.le_add_right _ _), Nat.add_sub_cancel_left, List.getElem?_append_left (by show 0 < (wsOfB (adx ob.1 ob.2.1) B.2.1 (vbs B.2.2) ob.2.2).length; unfold wsOfB; simp), ws_atB (by decide)]
    rfl
  rw [toE_oB (ci := 1) (ks := [some 1, none, none, none]) rfl] at h0
  exact ⟨am_blindB, va_recv (q := (RJ4, TJ4, 4)) X.2.1 hh.1 rfl h0, fun _ hU hW => ⟨rfl, sm_rel X hh l r hb hU hW⟩⟩
theorem sm_back (hh : BH B s.heap bs H locs) (l r : List va_W) (hb : bs = l ++ sbW B ob :: r) {st₀ t T' : State} {L : List Loc} (h0 : st₀.heap = H) (hL : ∀ q ∈ L, va_A (sbW B ob) H.size q.base) (e1 : T'.heap = t.heap) (hr : RelPB (obG B ob (va_A (sbW B ob) H.size)) w1 t) (hf : va_F (va_A (sbW B ob) H.size) st₀ t) : ∃ ab1, BH B s.heap (l ++ sbW B (ob.1, ab1, w1) :: r) T'.heap (locs ++ L) := by
  have hF := bm_sub hh l r hb
  obtain ⟨hP, hD, hS⟩ := hh
  obtain ⟨ab1, h1, h2⟩ := hr
  obtain ⟨-, k2, k3⟩ := vx_keep (A0 := fun q : Nat => s.heap.size ≤ q) (A1 := va_A (sbW B ob) H.size) (free := va_A (sbW B ob) H.size) h0 e1 hS (fun q _ h => hF q h) hF hL hf
  rw [hb, flat_mid] at hP hD
  rw [← e1] at h1
  have hj := mid_join (m1 := sbW B (ob.1, ab1, w1)) hP hD k2 hF h1 h2
  refine ⟨ab1, ?_, ?_, k3⟩
  · rw [flat_mid]; exact hj.1
  · rw [flat_mid]; exact hj.2
theorem sm_call {o : Option Value} (hh : BH B s.heap bs H locs) (l r : List va_W) (hb : bs = l ++ sbW B ob :: r) (hr : va_Run p lc e R s m args below meth c H locs cells slots mc ms (F0 m pc ls st0) rest (amQB (obG B ob (va_A (sbW B ob) H.size)) o w1 a) (va_A (sbW B ob) H.size))
    (kk : ∀ (ab1 : Nat) (H1 : Heap) (locs1 : List Loc), BH B s.heap (l ++ sbW B (ob.1, ab1, w1) :: r) H1 locs1 → W p lc e R s m args below meth c H1 locs1 (cells + mc) (slots + ms) Q (F0 m (pc + 3) ls (o.toList ++ rest))) : W p lc e R s m args below meth c H locs cells slots Q (F0 m pc ls st0) := by
  intro T hT X1
  obtain ⟨v, st₀, t, T', L, h0, X', hL, e1, e2, ⟨hv, hp, hf⟩, st⟩ := hr T hT X1
  cases hv
  obtain ⟨ab1, h3⟩ := sm_back hh l r hb h0 hL e1 hp hf
  obtain ⟨t2, a1, b1⟩ := kk ab1 T'.heap (locs ++ L) h3 T' rfl X'
  exact ⟨t2, st t2 a1, b1⟩
end
