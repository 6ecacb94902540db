/-! THE STATE STAYS GOOD -/
theorem CSt.congr {w : Wd} {b : Nat} {S S' : Ab} (h : CSt w b S) (e : ∀ z, 0 ≤ z → z < 192 → S' z = S z) : CSt w b S' := by
  have hj : jc S' = jc S := sm_congr (fun i h0 h1 => by rw [e (92 + i) (by omega) (by omega)])
  obtain ⟨h1, h2, h3, h4, h5, h6, h7, h8, h9, h10⟩ := h
  refine ⟨fun x x0 x1 => ?_, fun x x0 x1 => ?_, fun x x0 x1 => ?_, ?_, ?_, ?_, ?_, ?_, ?_, ?_⟩
  · rw [e (6 + x) (by omega) (by omega), e (16 + x) (by omega) (by omega), e (66 + x) (by omega) (by omega), e (76 + x) (by omega) (by omega), e (56 + x) (by omega) (by omega), e (26 + x) (by omega) (by omega), e (36 + x) (by omega) (by omega), e (46 + x) (by omega) (by omega)]
    exact h1 x x0 x1
  · rw [e (92 + x) (by omega) (by omega)]; exact h2 x x0 x1
  · rw [e (86 + x) (by omega) (by omega)]; exact h3 x x0 x1
  · rw [e 0 (by omega) (by omega)]; exact h4
  · rw [hj]; exact h5
  · rw [e 1 (by omega) (by omega)]; exact h6
  · rw [e 2 (by omega) (by omega)]; exact h7
  · rw [e 3 (by omega) (by omega)]; exact h8
  · rw [e 4 (by omega) (by omega)]; exact h9
  · rw [e 5 (by omega) (by omega)]; exact h10
theorem RSt.congr {w : Wd} {k : Nat} {o : Int} {S S' : Ab} (h : RSt w k o S) (e : ∀ z, 0 ≤ z → z < 192 → S' z = S z) : RSt w k o S' := fun z h0 h1 => by rw [e z h0 h1]; exact h z h0 h1
theorem Good.of {S S' : Ab} (hG : Good S) (e0 : S' 0 = S 0) (e1 : S' 1 = S 1) (d : 0 ≤ S' 2 ∧ S' 2 ≤ 99) (et : ∀ i, 0 ≤ i → i < 10 → S' (6 + i) = S (6 + i)) (ec : ∀ p, 0 ≤ p → p < 6 → S' (86 + p) = S (86 + p)) (ej : ∀ k, 0 ≤ k → k < 100 → S' (92 + k) = S (92 + k)) (hg : ∀ i, 0 ≤ i → i < 10 → Gg S' i) (hs : sm (fun i => S' (36 + i)) 10 = S' 3 - S' 4) : Good S' := by
  have ej2 : ∀ a b, 0 ≤ a → a < 10 → 0 ≤ b → b < 10 → S' (92 + 10 * a + b) = S (92 + 10 * a + b) := by
    intro a b a0 a1 b0 b1
    rw [show 92 + 10 * a + b = 92 + (10 * a + b) by omega]
    exact ej _ (by omega) (by omega)
  obtain ⟨g1, g2, g3, g4, g5, g6, P, hP⟩ := hG
  refine ⟨⟨by omega, by omega, by omega, by omega, d.1, d.2⟩, hg, fun p p0 p1 => ?_, fun a b a0 a1 b0 b1 => ?_, ?_, hs, P, fun a a0 a1 => ⟨(hP a a0 a1).1, fun b b0 b1 => ?_⟩⟩
  · rw [ec p p0 (by omega), e0]; exact g3 p p0 (by omega)
  · unfold Gj
    rw [ej2 a b a0 a1 b0 b1, ej2 b a b0 b1 a0 a1, e0]
    exact g4 a b a0 a1 b0 b1
  · rw [show jc S' = jc S from sm_congr (fun i h0 h1 => by rw [ej i h0 (by omega)])]
    exact g5
  · unfold Rl
    rw [ej2 a b a0 a1 b0 b1, et a a0 a1, et b b0 b1]
    exact (hP a a0 a1).2 b b0 b1
theorem Good.congr {S S' : Ab} (hG : Good S) (e : ∀ z, 0 ≤ z → z < 192 → S' z = S z) : Good S' := by
  refine hG.of (e 0 (by omega) (by omega)) (e 1 (by omega) (by omega)) (by rw [e 2 (by omega) (by omega)]; have := hG.1; omega) (fun i i0 i1 => e _ (by omega) (by omega)) (fun i i0 i1 => e _ (by omega) (by omega)) (fun i i0 i1 => e _ (by omega) (by omega)) (fun i i0 i1 => ?_) ?_
  · unfold Gg
    rw [e (6 + i) (by omega) (by omega), e (16 + i) (by omega) (by omega), e (66 + i) (by omega) (by omega), e (76 + i) (by omega) (by omega), e (56 + i) (by omega) (by omega), e (26 + i) (by omega) (by omega), e (36 + i) (by omega) (by omega), e (46 + i) (by omega) (by omega), e 0 (by omega) (by omega)]
    exact hG.2.1 i i0 i1
  · rw [e 3 (by omega) (by omega), e 4 (by omega) (by omega), ← hG.2.2.2.2.2.1]
    exact sm_congr (fun i h0 h1 => e _ (by omega) (by omega))
/-- the units, as a function of the state -/
noncomputable def TU (S : Ab) (d : Int) : Ab := Classical.epsilon (fun u => IsTr S d u)
def wOf (S : Ab) : Wd := (fun _ _ => 0, fun k i => if k = 142 then jL (S i) else 0, fun _ => none, fun _ => 0, 0)
theorem wOf_r (S : Ab) : RSt (wOf S) 142 0 S := by
  intro z h0 h1
  show (if (142 : Nat) = 142 then jL (S (((0 + z).toNat : Nat) : Int)) else 0) = _
  rw [if_pos rfl, show (((0 + z).toNat : Nat) : Int) = z by omega]
theorem tu_is {S : Ab} {d : Int} (hG : Good S) (d0 : 0 ≤ d) (d1 : d < S 0) : IsTr S d (TU S d) := by
  obtain ⟨w', -, -, u, -, hI, -⟩ := s_turns hG (wOf_r S) d0 d1
  exact Classical.epsilon_spec (p := fun u => IsTr S d u) ⟨u, hI⟩
theorem tu_b {S : Ab} {d : Int} (hG : Good S) (d0 : 0 ≤ d) (d1 : d < S 0) (x : Int) (x0 : 0 ≤ x) (x1 : x < 10) : -14929920000000000 ≤ TU S d x ∧ TU S d x ≤ 14929920000000000 := by
  have hg := hG.1
  obtain ⟨w', -, -, u, -, hI, hb⟩ := s_turns hG (wOf_r S) d0 d1
  rw [(tu_is hG d0 d1).uniq hG.2.2.2.2.2.2 d0 (by omega) hI x x0 x1]
  exact hb x x0 x1
theorem tu_d {S : Ab} {d : Int} (hG : Good S) (d0 : 0 ≤ d) (d1 : d < S 0) : TU S d d = 24883200000 := by
  have hg := hG.1
  obtain ⟨P, hP⟩ := hG.2.2.2.2.2.2
  have h := ((tu_is hG d0 d1) d d0 (by omega)).1 (Reach.refl S d)
  exact Int.eq_of_mul_eq_mul_right (hP d d0 (by omega)).1 (h.2 P hP)
theorem tu_out {S : Ab} {d : Int} (hG : Good S) (d0 : 0 ≤ d) (d1 : d < S 0) (x : Int) (x0 : 0 ≤ x) (x1 : x < 10) (h : S 0 ≤ x) : TU S d x = 0 := (tu_is hG d0 d1).out hG d1 x x0 x1 h
/-- the class's train, by the state alone -/
def CTr (w : Wd) (u : Ab) : Prop := ∃ m, CT w u (ct u) m
theorem CT.congr {w : Wd} {u v m : Ab} {sz : Int} (h : CT w u sz m) (e : ∀ x, 0 ≤ x → x < 10 → u x = v x) : CT w v sz m := ⟨fun x x0 x1 => by rw [← e x x0 x1]; exact h.1 x x0 x1, h.2⟩
theorem RT.congr {w : Wd} {u v : Ab} (h : RT w u) (e : ∀ x, 0 ≤ x → x < 10 → u x = v x) : RT w v := fun x x0 x1 => by
  have h1 := h x x0 x1
  rw [h1.1, h1.2, e x x0 x1]
  exact ⟨rfl, rfl⟩
theorem s_trace {w : Wd} {S : Ab} {d : Int} (hG : Good S) (h : CSt w 1 S) (d0 : 0 ≤ d) (d1 : d < S 0) :
    ∃ w' m, f_X8_trace w (jI d) = some w' ∧ Sm KT w w' ∧ CT w' (TU S d) (ct (TU S d)) m ∧ CSt w' 1 S := by
  have hg := hG.1
  obtain ⟨w', hr, hs, u, m, hC, hI, -⟩ := s_trace0 hG h d0 d1
  have e := hI.uniq hG.2.2.2.2.2.2 d0 (by omega) (tu_is hG d0 d1)
  refine ⟨w', m, hr, hs, ?_, h.kept (fun r hr => hs.1 _ (by unfold KT; omega))⟩
  rw [← ct_congr (u := u) (v := TU S d) (fun x x0 x1 => by rw [e x x0 x1])]
  exact hC.congr e
theorem s_rTurns {w : Wd} {S : Ab} {d : Int} (hG : Good S) (h : RSt w 142 0 S) (d0 : 0 ≤ d) (d1 : d < S 0) :
    ∃ w', f_X11_turns w (jI d) = some w' ∧ Sm KU w w' ∧ RT w' (TU S d) ∧ RSt w' 142 0 S := by
  have hg := hG.1
  obtain ⟨w', hr, hs, u, hR, hI, -⟩ := s_turns hG h d0 d1
  exact ⟨w', hr, hs, hR.congr (hI.uniq hG.2.2.2.2.2.2 d0 (by omega) (tu_is hG d0 d1)), h.kept (hs.1 142 (by unfold KU; omega)).2⟩
/-! what a change answers -/
abbrev Oc : Type := Nat ⊕ (Int × Ab)
def KC (k : Nat) : Prop := (1 ≤ k ∧ k < 12) ∨ (124 ≤ k ∧ k < 127)
def KM (k : Nat) : Prop := k = 141 ∨ k = 142 ∨ k = 148 ∨ k = 149
def CO (w w' : Wd) (r : Int32) (S : Ab) (o : Oc) : Prop := Sm KC w w' ∧ zc o (fun e => r = jI (-(e : Int) - 1) ∧ CSt w' 1 S) (fun q => r = jI q.1 ∧ CSt w' 1 q.2)
def RO (w w' : Wd) (r : Int32) (cd : Nat → Int) (o : Oc) : Prop := Sm KM w w' ∧ (∀ i, i ≠ 12 → gI w' 141 i = gI w 141 i) ∧ zc o (fun e => gI w' 141 12 = jI (cd e)) (fun q => r = jI q.1 ∧ gI w' 141 12 = jI 0 ∧ RSt w' 142 0 q.2)
def OK (es : List Nat) (o : Oc) : Prop := zc o (fun e => e ∈ es) (fun q => 0 ≤ q.1 ∧ q.1 < 1000 ∧ Good q.2)
theorem ok_e {es : List Nat} {e : Nat} (h : e ∈ es) : OK es (.inl e) := h
def Op (S : Ab) (es : List Nat) (cd : Nat → Int) (cf rf : Wd → Option (Int32 × Wd)) : Prop :=
  ∃ o : Oc, OK es o ∧ (∀ w, CSt w 1 S → ∃ r w', cf w = some (r, w') ∧ CO w w' r S o) ∧ ∀ w, RSt w 142 0 S → ∃ r w', rf w = some (r, w') ∧ RO w w' r cd o
theorem s_fails (w : Wd) (x : Int32) : f_X11_fails w x = some (jI 0, uI w 141 12 x) := rfl
theorem s_done (w : Wd) (x : Int32) : f_X11_done w x = some (x, uI w 141 12 (jI 0)) := rfl
theorem KT_C {k : Nat} (h : KT k) : KC k := by unfold KT at h; unfold KC; omega
theorem KU_M {k : Nat} (h : KU k) : KM k := by unfold KU at h; unfold KM; omega
theorem CO.err {w w' : Wd} {r : Int32} {S : Ab} {e : Nat} (hs : Sm KC w w') (hr : r = jI (-(e : Int) - 1)) (h : CSt w' 1 S) : CO w w' r S (.inl e) := ⟨hs, hr, h⟩
theorem CO.val {w w' : Wd} {r : Int32} {S S' : Ab} {v : Int} (hs : Sm KC w w') (hr : r = jI v) (h : CSt w' 1 S') : CO w w' r S (.inr (v, S')) := ⟨hs, hr, h⟩
theorem RO.err {w w' : Wd} {cd : Nat → Int} {e : Nat} {x : Int} (hs : Sm KM w w') (h1 : gI w' 141 = gI w 141) (hx : x = cd e) : RO w (uI w' 141 12 (jI x)) (jI 0) cd (.inl e) :=
  ⟨hs.tr (Sm.wI w' (Or.inl rfl)), fun i hi => by rw [gI_uI, if_neg (fun z => hi z.2), h1], by show gI (uI w' 141 12 (jI x)) 141 12 = jI (cd e); rw [gI_uI, if_pos ⟨rfl, rfl⟩, hx]⟩
theorem RO.val {w w' : Wd} {cd : Nat → Int} {S' : Ab} {v : Int} (hs : Sm KM w w') (h1 : gI w' 141 = gI w 141) (h : RSt w' 142 0 S') : RO w (uI w' 141 12 (jI 0)) (jI v) cd (.inr (v, S')) :=
  ⟨hs.tr (Sm.wI w' (Or.inl rfl)), fun i hi => by rw [gI_uI, if_neg (fun z => hi z.2), h1], rfl, by rw [gI_uI, if_pos ⟨rfl, rfl⟩], h.kept rfl⟩
