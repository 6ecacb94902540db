/-! SEVERAL OBJECTS: the heap as a list of blocks of cells; a method of one of them leaves the others -/
theorem txS.narrow {av : Nat → Nat} {A B : Nat → Prop} {U : State} {H : Heap} (h : txS av A U H) (hAB : ∀ q, B q → A q) : txS av B U H :=
  ⟨fun i hi => ⟨(h.1 i hi).1.narrow hAB, (h.1 i hi).2.1.narrow hAB, (h.1 i hi).2.2.1.narrow hAB, (h.1 i hi).2.2.2.narrow hAB⟩, h.2⟩
theorem Cst.narrow {av : Nat → Nat} {A B : Nat → Prop} {U : State} {H : Heap} (h : Cst av A U H) (hAB : ∀ q, B q → A q) : Cst av B U H := by
  obtain ⟨⟨a1, a2, a3, a4, a5, a6, a7, a8, a9, a10, a11, a12⟩, ⟨b1, b2, b3, b4, b5⟩, ⟨c1, c2, c3, c4⟩, d⟩ := h
  exact ⟨⟨a1.narrow hAB, a2.narrow hAB, a3.narrow hAB, a4.narrow hAB, a5.narrow hAB, a6.narrow hAB, a7.narrow hAB, a8.narrow hAB, a9.narrow hAB, a10.narrow hAB, a11.narrow hAB, a12.narrow hAB⟩,
    ⟨fun i hi => (b1 i hi).narrow hAB, b2.narrow hAB, b3.narrow hAB, b4.narrow hAB, b5.narrow hAB⟩, ⟨c1.narrow hAB, c2.narrow hAB, c3.narrow hAB, c4.narrow hAB⟩, d⟩
theorem mid_join {A0 : Nat → Prop} {D : va_G} {cl : List vw_C} {l m r m1 : va_W} {H H1 : Heap} (hP : va_P D cl (l ++ (m ++ r)) H) (hD : va_D A0 (l ++ (m ++ r)))
    (hk : ∀ q : Nat, q < H.size → ¬ va_A m H.size q → H1[q]? = H[q]?) (hF : ∀ q, va_A m H.size q → A0 q) (hP1 : va_P D cl m1 H1) (hD1 : va_D (va_A m H.size) m1) : va_P D cl (l ++ (m1 ++ r)) H1 ∧ va_D A0 (l ++ (m1 ++ r)) := by
  have pl : ∀ (i : Nat) (q : Nat × va_E), l[i]? = some q → (l ++ (m ++ r))[i]? = some q := fun i q h => by rw [List.getElem?_append_left (List.getElem?_eq_some_iff.mp h).1]; exact h
  have pm : ∀ (i : Nat) (q : Nat × va_E), m[i]? = some q → (l ++ (m ++ r))[l.length + i]? = some q := fun i q h => by
    rw [List.getElem?_append_right (Nat.le_add_right _ _), Nat.add_sub_cancel_left, List.getElem?_append_left (List.getElem?_eq_some_iff.mp h).1]; exact h
  have pr : ∀ (i : Nat) (q : Nat × va_E), r[i]? = some q → (l ++ (m ++ r))[l.length + (m.length + i)]? = some q := fun i q h => by
    rw [List.getElem?_append_right (Nat.le_add_right _ _), Nat.add_sub_cancel_left, List.getElem?_append_right (Nat.le_add_right _ _), Nat.add_sub_cancel_left]; exact h
  have apart : ∀ (j : Nat) (q : Nat × va_E), (l ++ (m ++ r))[j]? = some q → (∀ i, i < m.length → j ≠ l.length + i) → q.1 < H.size ∧ ¬ va_A m H.size q.1 := by
    intro j q h hj
    have h1 : q.1 < H.size := (hP j q h).lt
    refine ⟨h1, fun h2 => ?_⟩
    rcases h2 with ⟨k2, e, h2⟩ | h2
    · exact hj k2 (List.getElem?_eq_some_iff.mp h2).1 (hD.1 j (l.length + k2) q (q.1, e) h (pm k2 _ h2) rfl)
    · omega
  have al : ∀ (i : Nat) (q : Nat × va_E), l[i]? = some q → q.1 < H.size ∧ ¬ va_A m H.size q.1 := fun i q h => apart i q (pl i q h) (fun k hk => by have := (List.getElem?_eq_some_iff.mp h).1; omega)
  have ar : ∀ (i : Nat) (q : Nat × va_E), r[i]? = some q → q.1 < H.size ∧ ¬ va_A m H.size q.1 := fun i q h => apart _ q (pr i q h) (fun k hk => by omega)
  have Pl : va_P D cl l H1 := va_P.kept (H := H) (fun i q h => hP i q (pl i q h)) (fun i q h => hk q.1 (al i q h).1 (al i q h).2)
  have Pr : va_P D cl r H1 := va_P.kept (H := H) (fun i q h => hP _ q (pr i q h)) (fun i q h => hk q.1 (ar i q h).1 (ar i q h).2)
  have Dl : va_D A0 l := ⟨fun i j p q hp hq e => hD.1 i j p q (pl i p hp) (pl j q hq) e, fun i q h => hD.2 i q (pl i q h)⟩
  have Dr : va_D A0 r := ⟨fun i j p q hp hq e => by have := hD.1 _ _ p q (pr i p hp) (pr j q hq) e; omega, fun i q h => hD.2 _ q (pr i q h)⟩
  have Dm : va_D A0 m1 := hD1.weaken (fun k q _ h => hF q.1 h)
  refine ⟨va_P.app Pl (va_P.app hP1 Pr), va_D.app Dl (va_D.app Dm Dr (fun i j y z hy hz hyz => (ar j z hz).2 (by rw [← hyz]; exact hD1.2 i y hy))) (fun i j y z hy hz hyz => ?_)⟩
  by_cases hj : j < m1.length
  · rw [List.getElem?_append_left hj] at hz
    exact (al i y hy).2 (by rw [hyz]; exact hD1.2 j z hz)
  · rw [List.getElem?_append_right (Nat.not_lt.mp hj)] at hz
    have h1 := (List.getElem?_eq_some_iff.mp hy).1
    have h2 := hD.1 i _ y z (pl i y hy) (pr _ z hz) hyz
    omega
/-- the parameters of the law's walk: classes, array classes, constants -/
abbrev BP : Type := va_G × (Nat → ClassId) × (Nat → Nat)
/-- an object: its addresses, its bytes' address, what it holds -/
abbrev Ob : Type := (Nat → Nat) × Nat × Wd
abbrev obW (B : BP) (o : Ob) : va_W := wsOf (adx o.1 o.2.1) B.2.1 (vbs B.2.2) o.2.2
abbrev obG (B : BP) (o : Ob) (A : Nat → Prop) : GG := (B.1, o.1, B.2.1, B.2.2, A)
def BH (B : BP) (H0 : Heap) (bs : List va_W) (H : Heap) (locs : List Loc) : Prop := va_P B.1 vwCl bs.flatten H ∧ va_D (fun q : Nat => H0.size ≤ q) bs.flatten ∧ va_S (fun q : Nat => H0.size ≤ q) H0 H locs
def BX (B : BP) (p : Program) (s : State) (m : MethodId) (args : Array Value) (meth : Method) (c : Code) (cc : ByteArray) (nL : Nat) (own : String) (Ts : List Cond) : Prop :=
  CallFix p m c cc nL s args Ts own ∧ va_K B.1 vwCl (TYs B.2.1) s ∧ Cst B.2.2 (fun q : Nat => s.heap.size ≤ q) s s.heap ∧ ctE (fun q : Nat => s.heap.size ≤ q) s s.heap ∧ meth.locks = false
theorem am_zn {α β γ : Type} {z : α ⊕ β} {h : β → Option γ} {x : γ} (hF : zc z (fun _ => none) h = some x) : ∃ r, z = .inr r ∧ h r = some x := by
  cases z with
  | inl a => cases hF
  | inr r => exact ⟨r, rfl, hF⟩
theorem ctE.narrow {A A2 : Nat → Prop} {U : State} {H : Heap} (h : ctE A U H) (hAB : ∀ q, A2 q → A q) : ctE A2 U H := ⟨h.1, h.2.1, h.2.2.1, h.2.2.2.1, h.2.2.2.2.1, h.2.2.2.2.2.1, h.2.2.2.2.2.2.narrow hAB⟩
section BMC
variable {p : Program} {lc : Launch} {e : Env} {R : Room} {s : State} {m : MethodId} {args : Array Value} {below : List Frame} {meth : Method} {c : Code} {H : Heap} {locs : List Loc} {cells slots mc ms : Nat} {Q : State → Prop} {B : BP} {w1 : Wd} {cc : ByteArray} {pc nL : Nat} {ls : Array Slot} {rest st0 : List Value} {own : String} {Ts : List Cond} {a : Array Value} {ob : Ob} {bs : List va_W}
theorem flat_mid (l r : List va_W) (x : va_W) : (l ++ x :: r).flatten = l.flatten ++ (x ++ r.flatten) := by rw [List.flatten_append, List.flatten_cons]
theorem bm_sub (hh : BH B s.heap bs H locs) (l r : List va_W) {x : va_W} (hb : bs = l ++ x :: r) : ∀ q, va_A x H.size q → s.heap.size ≤ q := by
  intro q h
  obtain ⟨hP, hD, hS⟩ := hh
  rcases h with ⟨k, e, h⟩ | h
  · have h1 : (bs.flatten)[l.flatten.length + k]? = some (q, e) := by
      rw [hb, flat_mid, List.getElem?_append_right (Nat.le_add_right _ _), Nat.add_sub_cancel_left, List.getElem?_append_left (List.getElem?_eq_some_iff.mp h).1]; exact h
    exact hD.2 _ _ h1
  · exact Nat.le_trans hS.1 h
theorem bm_rel (X : BX B p s m args meth c cc nL own Ts) (hh : BH B s.heap bs H locs) (l r : List va_W) (hb : bs = l ++ obW B ob :: r) {U : State} (hU : U.heap = H) (hW : s.WarmedH U.vm) : Rel (obG B ob (va_A (obW B ob) H.size)) ob.2.2 U := by
  have hF := bm_sub hh l r hb
  obtain ⟨hP, hD, hS⟩ := hh
  have pm : ∀ (i : Nat) (q : Nat × va_E), (obW B ob)[i]? = some q → (bs.flatten)[l.flatten.length + i]? = some q := fun i q h => by
    rw [hb, flat_mid, List.getElem?_append_right (Nat.le_add_right _ _), Nat.add_sub_cancel_left, List.getElem?_append_left (List.getElem?_eq_some_iff.mp h).1]; exact h
  refine ⟨ob.2.1, va_K.moved hW.alike X.2.1, fun i q h => by rw [hU]; exact hP _ q (pm i q h), ⟨fun i j y z hy hz e => by have := hD.1 _ _ y z (pm i y hy) (pm j z hz) e; omega, fun i q h => va_A.in h⟩, ?_, fun q hq => Or.inr (by rw [← hU]; exact hq)⟩
  rw [hU]
  exact ((X.2.2.1.kept hS.2.1).moved hW).narrow hF
theorem bm_preS (X : BX B p s m args meth c cc nL own Ts) (hh : BH B s.heap bs H locs) (l r : List va_W) (hb : bs = l ++ obW B ob :: r) {As : List Value} : PreS s H (va_Pc As (Rel (obG B ob (va_A (obW B ob) H.size)) ob.2.2)) As :=
  ⟨am_blind, fun _ hU hW => ⟨rfl, bm_rel X hh l r hb hU hW⟩⟩
theorem bm_preV (X : BX B p s m args meth c cc nL own Ts) (hh : BH B s.heap bs H locs) (l r : List va_W) (hb : bs = l ++ obW B ob :: r) {As : List Value} : PreV s H RX10 (ob.1 0) (va_Pc (.ref (ob.1 0) :: As) (Rel (obG B ob (va_A (obW B ob) H.size)) ob.2.2)) As := by
  have h0 : (bs.flatten)[l.flatten.length + 0]? = some (ob.1 0, toE (adx ob.1 ob.2.1) B.2.1 (vbs B.2.2) ob.2.2 0) := by
    rw [hb, flat_mid, List.getElem?_append_right (Nat.le_add_right _ _), Nat.add_sub_cancel_left, List.getElem?_append_left (by show 0 < (wsOf (adx ob.1 ob.2.1) B.2.1 (vbs B.2.2) ob.2.2).length; unfold wsOf; simp), ws_at (by decide)]
    rfl
  rw [toE_o (ci := 11) (ks := [some 1, some 12, some 23, none, some 34, some 124, some 127, some 128, some 129, some 134, some 139, none, none]) rfl] at h0
  exact ⟨am_blind, va_recv (q := (RX10, TX10, 13)) X.2.1 hh.1 rfl h0, fun _ hU hW => ⟨rfl, bm_rel X hh l r hb hU hW⟩⟩
theorem bm_back (hh : BH B s.heap bs H locs) (l r : List va_W) (hb : bs = l ++ obW B ob :: r) {st₀ t T' : State} {L : List Loc} (h0 : st₀.heap = H) (hL : ∀ q ∈ L, va_A (obW B ob) H.size q.base) (e1 : T'.heap = t.heap) (hr : RelP (obG B ob (va_A (obW B ob) H.size)) w1 t) (hf : va_F (va_A (obW B ob) H.size) st₀ t) : ∃ ab1, BH B s.heap (l ++ obW B (ob.1, ab1, w1) :: r) T'.heap (locs ++ L) := by
  have hF := bm_sub hh l r hb
  obtain ⟨hP, hD, hS⟩ := hh
  obtain ⟨ab1, h1, h2⟩ := hr
  obtain ⟨-, k2, k3⟩ := vx_keep (A0 := fun q : Nat => s.heap.size ≤ q) (A1 := va_A (obW B ob) H.size) (free := va_A (obW B ob) H.size) h0 e1 hS (fun q _ h => hF q h) hF hL hf
  rw [hb, flat_mid] at hP hD
  rw [← e1] at h1
  have hj := mid_join (m1 := obW B (ob.1, ab1, w1)) hP hD k2 hF h1 h2
  refine ⟨ab1, ?_, ?_, k3⟩
  · rw [flat_mid]; exact hj.1
  · rw [flat_mid]; exact hj.2
theorem bm_call {o : Option Value} (hh : BH B s.heap bs H locs) (l r : List va_W) (hb : bs = l ++ obW B ob :: r) (hr : va_Run p lc e R s m args below meth c H locs cells slots mc ms (F0 m pc ls st0) rest (amQ (obG B ob (va_A (obW B ob) H.size)) o w1 a) (va_A (obW B ob) H.size))
    (kk : ∀ (ab1 : Nat) (H1 : Heap) (locs1 : List Loc), BH B s.heap (l ++ obW B (ob.1, ab1, w1) :: r) H1 locs1 → W p lc e R s m args below meth c H1 locs1 (cells + mc) (slots + ms) Q (F0 m (pc + 3) ls (o.toList ++ rest))) : W p lc e R s m args below meth c H locs cells slots Q (F0 m pc ls st0) := by
  intro T hT X1
  obtain ⟨v, st₀, t, T', L, h0, X', hL, e1, e2, ⟨hv, hp, hf⟩, st⟩ := hr T hT X1
  cases hv
  obtain ⟨ab1, h3⟩ := bm_back hh l r hb h0 hL e1 hp hf
  obtain ⟨t2, a1, b1⟩ := kk ab1 T'.heap (locs ++ L) h3 T' rfl X'
  exact ⟨t2, st t2 a1, b1⟩
theorem bm_callX {τ : Type} {mk : τ → Option Value} {v : τ} (hh : BH B s.heap bs H locs) (l r : List va_W) (hb : bs = l ++ obW B ob :: r) (hr : vx_Run p lc e R s m args below meth c H locs cells slots mc ms (F0 m pc ls st0) rest (amR (obG B ob (va_A (obW B ob) H.size)) mk (.inr v) w1 a) (amX (obG B ob (va_A (obW B ob) H.size)) (.inr v) w1) (va_A (obW B ob) H.size))
    (kk : ∀ (ab1 : Nat) (H1 : Heap) (locs1 : List Loc), BH B s.heap (l ++ obW B (ob.1, ab1, w1) :: r) H1 locs1 → W p lc e R s m args below meth c H1 locs1 (cells + mc) (slots + ms) Q (F0 m (pc + 3) ls ((mk v).toList ++ rest))) : W p lc e R s m args below meth c H locs cells slots Q (F0 m pc ls st0) := by
  intro T hT X1
  rcases hr T hT X1 with ⟨v2, st₀, t, T', L, h0, X', hL, e1, e2, ⟨⟨r2, hz, hv⟩, hp, hf⟩, st⟩ | ⟨q, st₀, t, T', L, E, ce, h0, X', hL, e1, e2, ⟨⟨k, hz, hE⟩, hp, hf⟩, hce, hcv, hcl, st⟩
  · cases hz
    cases hv
    obtain ⟨ab1, h3⟩ := bm_back hh l r hb h0 hL e1 hp hf
    obtain ⟨t2, a1, b1⟩ := kk ab1 T'.heap (locs ++ L) h3 T' rfl X'
    exact ⟨t2, st t2 a1, b1⟩
  · cases hz
theorem bm_callW {o : Option Value} (hh : BH B s.heap bs H locs) (l r : List va_W) (hb : bs = l ++ obW B ob :: r) (hr : vx_Run p lc e R s m args below meth c H locs cells slots mc ms (F0 m pc ls st0) rest (amQ (obG B ob (va_A (obW B ob) H.size)) o w1 a) (fun _ _ _ => False) (va_A (obW B ob) H.size))
    (kk : ∀ (ab1 : Nat) (H1 : Heap) (locs1 : List Loc), BH B s.heap (l ++ obW B (ob.1, ab1, w1) :: r) H1 locs1 → W p lc e R s m args below meth c H1 locs1 (cells + mc) (slots + ms) Q (F0 m (pc + 3) ls (o.toList ++ rest))) : W p lc e R s m args below meth c H locs cells slots Q (F0 m pc ls st0) := by
  intro T hT X1
  rcases hr T hT X1 with ⟨v, st₀, t, T', L, h0, X', hL, e1, e2, ⟨hv, hp, hf⟩, st⟩ | ⟨q, st₀, t, T', L, E, ce, h0, X', hL, e1, e2, hfalse, -⟩
  · cases hv
    obtain ⟨ab1, h3⟩ := bm_back hh l r hb h0 hL e1 hp hf
    obtain ⟨t2, a1, b1⟩ := kk ab1 T'.heap (locs ++ L) h3 T' rfl X'
    exact ⟨t2, st t2 a1, b1⟩
  · exact hfalse.elim
/-- the script's reader -/
theorem bm_callAt {b : Nat} {sc : Sc} {r : Int32} (hh : BH B s.heap bs H locs) (hr : va_Run p lc e R s m args below meth c H locs cells slots 0 0 (F0 m pc ls st0) rest (atQ r a) (fun _ => False))
    (kk : ∀ (H1 : Heap) (locs1 : List Loc), BH B s.heap bs H1 locs1 → W p lc e R s m args below meth c H1 locs1 cells slots Q (F0 m (pc + 3) ls (.int r :: rest))) : W p lc e R s m args below meth c H locs cells slots Q (F0 m pc ls st0) := by
  intro T hT X1
  obtain ⟨v, st₀, t, T', L, h0, X', hL, e1, e2, ⟨hv, hf⟩, st⟩ := hr T hT X1
  cases hv
  obtain ⟨-, k2, k3⟩ := vx_keep (A0 := fun q : Nat => s.heap.size ≤ q) (A1 := fun _ => False) (free := fun _ => False) h0 e1 hh.2.2 (fun _ _ h => h.elim) (fun _ h => h.elim) hL hf
  obtain ⟨t2, a1, b1⟩ := kk T'.heap (locs ++ L) ⟨hh.1.kept (fun i q hi => k2 q.1 (hh.1 i q hi).lt (fun h => h)), hh.2.1, k3⟩ T' rfl X'
  exact ⟨t2, st t2 a1, b1⟩
/-- build: one object more, at the end -/
theorem bd_preS {b : Nat} {sc : Sc} (X : BX B p s m args meth c cc nL own Ts) (hh : BH B s.heap bs H locs) (hX : va_X b sc.1 sc.2 s s.heap) (hbl : b < s.heap.size) {As : List Value} : PreS s H (va_Pc As (bdP B.1 B.2.1 B.2.2 b sc H.size)) As := by
  refine ⟨bd_blind, fun U hU hW => ⟨rfl, by rw [hU], va_K.moved hW.alike X.2.1, ?_, ?_, ?_, Nat.lt_of_lt_of_le hbl hh.2.2.1⟩⟩
  · rw [hU]; exact ((X.2.2.1.kept hh.2.2.2.1).moved hW).narrow (fun q h => Nat.le_trans hh.2.2.1 h)
  · rw [hU]; exact ctE.narrow ((X.2.2.2.1.kept hh.2.2.2.1).moved hW) (fun q h => Nat.le_trans hh.2.2.1 h)
  · rw [hU]; exact (hX.kept (hh.2.2.2.1 b hbl (fun h => Nat.lt_irrefl _ (Nat.lt_of_lt_of_le hbl h)))).moved hW.alike
theorem bm_callB (hh : BH B s.heap bs H locs) (hr : va_Run p lc e R s m args below meth c H locs cells slots mc ms (F0 m pc ls st0) rest (bdR B.1 B.2.1 B.2.2 (fun q : Nat => H.size ≤ q) w1 a) (fun q : Nat => H.size ≤ q))
    (kk : ∀ (ad : Nat → Nat) (ab1 : Nat) (H1 : Heap) (locs1 : List Loc), BH B s.heap (bs ++ [obW B (ad, ab1, w1)]) H1 locs1 → W p lc e R s m args below meth c H1 locs1 (cells + mc) (slots + ms) Q (F0 m (pc + 3) ls (.ref (ad 0) :: rest))) : W p lc e R s m args below meth c H locs cells slots Q (F0 m pc ls st0) := by
  intro T hT X1
  obtain ⟨v, st₀, t, T', L, h0, X', hL, e1, e2, ⟨ad, hv, ⟨ab1, h1, h2⟩, hf⟩, st⟩ := hr T hT X1
  cases hv
  obtain ⟨hP, hD, hS⟩ := hh
  obtain ⟨-, k2, k3⟩ := vx_keep (A0 := fun q : Nat => s.heap.size ≤ q) (A1 := fun q : Nat => H.size ≤ q) (free := fun q : Nat => H.size ≤ q) h0 e1 hS (fun q _ h => Nat.le_trans hS.1 h) (fun q h => Nat.le_trans hS.1 h) hL hf
  rw [← e1] at h1
  have hBH : BH B s.heap (bs ++ [obW B (ad, ab1, w1)]) T'.heap (locs ++ L) := by
    refine ⟨?_, ?_, k3⟩
    · rw [List.flatten_append, List.flatten_singleton]
      exact va_P.app (hP.kept (fun i q hi => k2 q.1 (hP i q hi).lt (fun h => Nat.lt_irrefl _ (Nat.lt_of_lt_of_le (hP i q hi).lt h)))) h1
    · rw [List.flatten_append, List.flatten_singleton]
      exact va_D.app hD (h2.weaken (fun _ q _ h => Nat.le_trans hS.1 h)) (fun i j y z hy hz hyz => Nat.lt_irrefl _ (Nat.lt_of_lt_of_le (hP i y hy).lt (by rw [hyz]; exact h2.2 j z hz)))
  obtain ⟨t2, a1, b1⟩ := kk ad ab1 T'.heap (locs ++ L) hBH T' rfl X'
  exact ⟨t2, st t2 a1, b1⟩
end BMC
