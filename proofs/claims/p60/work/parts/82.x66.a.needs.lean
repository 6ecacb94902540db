/-! THE REFERENCE reads: letters and digits -/
def RTx (w : Wd) (X : Int → Int) (C : Int) : Prop := gI w 141 7 = jI C ∧ ∀ i : Int, 0 ≤ i → i < C → gI w 146 i.toNat = jI (X i)
def KB (k : Nat) : Prop := k = 141
def RFn (w w' : Wd) : Prop := Sm KB w w' ∧ ∀ i, i ≠ 15 → i ≠ 16 → gI w' 141 i = gI w 141 i
theorem RFn.refl (w : Wd) : RFn w w := ⟨Sm.refl w, fun _ _ _ => rfl⟩
theorem RFn.tr {w w1 w2 : Wd} (h : RFn w w1) (k : RFn w1 w2) : RFn w w2 := ⟨h.1.tr k.1, fun i a b => (k.2 i a b).trans (h.2 i a b)⟩
theorem RFn.w5 (w : Wd) (v : Int32) : RFn w (uI w 141 15 v) := ⟨Sm.wI w rfl, fun i a _ => by rw [gI_uI, if_neg (fun z => a z.2)]⟩
theorem RFn.w6 (w : Wd) (v : Int32) : RFn w (uI w 141 16 v) := ⟨Sm.wI w rfl, fun i _ a => by rw [gI_uI, if_neg (fun z => a z.2)]⟩
theorem RTx.fn {w w' : Wd} {X : Int → Int} {C : Int} (h : RTx w X C) (k : RFn w w') : RTx w' X C :=
  ⟨by rw [k.2 7 (by decide) (by decide)]; exact h.1, fun i a b => by rw [k.1.iK (by unfold KB; omega)]; exact h.2 i a b⟩
def RP (w : Wd) (X : Int → Int) (C : Int) (q : Int × Int) : Prop := RTx w X C ∧ gI w 141 15 = jI q.1 ∧ gI w 141 16 = jI q.2 ∧ (0 ≤ q.1 ∧ q.1 ≤ C) ∧ (q.2 = 0 ∨ q.2 = 1)
section
variable {w : Wd} {X : Int → Int} {C : Int} {q : Int × Int}
theorem s_here (hB : TXb X C) (h : RP w X C q) : f_X11_here w = some (jI (hr X C q.1)) := by
  obtain ⟨h1, h2, h3, h4, h5⟩ := h
  have c60 := hB.1
  unfold f_X11_here
  obtain ⟨a1, a2⟩ | ⟨a1, a2, a3⟩ := hr_b hB h4.1
  · rw [h1.1, h2, if_pos (by rw [jI_le (by omega) (by omega) (by omega) (by omega)]; exact a2), a1]
    rfl
  · rw [h1.1, h2, if_neg (by rw [jI_le (by omega) (by omega) (by omega) (by omega)]; omega), if_pos (by rw [inR_j (by omega) (by omega)]; omega), jI_clamp (by omega) (by omega), h1.2 _ h4.1 a1, a2]
theorem hr_i (hB : TXb X C) {p : Int} (p0 : 0 ≤ p) : -1 ≤ hr X C p ∧ hr X C p ≤ 126 := by
  have k := hr_b hB p0
  omega
/-- the place goes on, or not -/
theorem RP.go (h : RP w X C q) {p : Int} {b : Int} (p0 : 0 ≤ p) (p1 : p ≤ C) (hb : b = 0 ∨ b = 1) : RP (uI (uI w 141 16 (jI b)) 141 15 (jI p)) X C (p, b) ∧ RFn w (uI (uI w 141 16 (jI b)) 141 15 (jI p)) := by
  have k := (RFn.w6 w (jI b)).tr (RFn.w5 (uI w 141 16 (jI b)) (jI p))
  exact ⟨⟨h.1.fn k, by rw [gI_uI, if_pos ⟨rfl, rfl⟩], by rw [gI_uI, if_neg (by omega), gI_uI, if_pos ⟨rfl, rfl⟩], ⟨p0, p1⟩, hb⟩, k⟩
theorem s_needs (hB : TXb X C) (h : RP w X C q) {c : Int} (c0 : 0 ≤ c) (c1 : c ≤ 127) : ∃ w', f_X11_needs w (jI c) = some w' ∧ RFn w w' ∧ RP w' X C (nst (hr X C) c q) := by
  have c60 := hB.1
  obtain ⟨p, b⟩ := q
  have h4 := h.2.2.2.1
  have p0 : 0 ≤ p := h4.1
  have p1 : p ≤ C := h4.2
  have f5 : ∀ v, gI (uI w 141 16 v) 141 15 = jI p := fun v => by rw [gI_uI, if_neg (by omega)]; exact h.2.1
  have f6 : ∀ v, gI (uI w 141 16 v) 141 16 = v := fun v => by rw [gI_uI, if_pos ⟨rfl, rfl⟩]
  have i0 : ¬ (1 : Int32) = 0 := by decide +kernel
  unfold f_X11_needs
  rcases h.2.2.2.2 with z | z
  · have z : b = 0 := z
    subst z
    have e6 : gI w 141 16 = jI 0 := h.2.2.1
    have hh := s_here hB h
    have hi := hr_i hB p0
    rw [e6, if_pos (show jI 0 = 0 from rfl), hh, bs_p]
    show ∃ w', (if jI (hr X C p) = jI c then _ else _) = some w' ∧ _
    by_cases y : hr X C p = c
    · have k := hr_b hB p0
      obtain ⟨g1, g2⟩ := h.go (p := p + 1) (b := 0) (by omega) (by omega) (Or.inl rfl)
      rw [if_pos (by rw [y]), wl_p, f6, if_pos rfl, wl_p, f5, l32_1, jI_add, nst_T y]
      exact ⟨_, rfl, g2, g1⟩
    · obtain ⟨g1, g2⟩ := h.go (p := p) (b := 1) p0 p1 (Or.inr rfl)
      rw [if_neg (by rw [jI_eq (by omega) (by omega) (by omega) (by omega)]; exact y), wl_p, f6, if_neg i0, wl_p, f5, l32_0, jI_add, Int.add_zero, nst_F y]
      exact ⟨_, rfl, g2, g1⟩
  · have z : b = 1 := z
    subst z
    have e6 : gI w 141 16 = jI 1 := h.2.2.1
    obtain ⟨g1, g2⟩ := h.go (p := p) (b := 1) p0 p1 (Or.inr rfl)
    rw [e6, if_neg (show ¬ jI 1 = 0 from i0), wl_p, f6, if_neg i0, wl_p, f5, l32_0, jI_add, Int.add_zero, nst_w]
    exact ⟨_, rfl, g2, g1⟩
theorem s_three (hB : TXb X C) (h : RP w X C q) {a b c : Int} (a0 : 0 ≤ a) (a1 : a ≤ 127) (b0 : 0 ≤ b) (b1 : b ≤ 127) (c0 : 0 ≤ c) (c1 : c ≤ 127) : ∃ w', f_X11_needsThree w (jI a) (jI b) (jI c) = some w' ∧ RFn w w' ∧ RP w' X C (nst (hr X C) c (nst (hr X C) b (nst (hr X C) a q))) := by
  obtain ⟨w1, x1, y1, z1⟩ := s_needs hB h a0 a1
  obtain ⟨w2, x2, y2, z2⟩ := s_needs hB z1 b0 b1
  obtain ⟨w3, x3, y3, z3⟩ := s_needs hB z2 c0 c1
  refine ⟨w3, ?_, (y1.tr y2).tr y3, z3⟩
  unfold f_X11_needsThree
  rw [x1, bs_p, x2, bs_p, x3, bs_p]
end
theorem s_rdl {X : Int → Int} {C : Int} {L : Nat} (hB : TXb X C) (hL : L ≤ 3) : ∀ (n y f : Nat) (w : Wd) (p v : Int), y + n = L → n < f → RP w X C (p, 0) → dB y v →
    ∃ r w', p_X11_digits_34 (jI (L : Int)) f (jI v) (jI (y : Int)) w = some (.inl (jI (dv n (hr X C) p v), r, w')) ∧ RFn w w' ∧ RP w' X C (p + dc n (hr X C) p, 0) := by
  intro n
  induction n with
  | zero =>
    intro y f w p v hy hf h hb
    obtain ⟨f, rfl⟩ : ∃ f', f = f' + 1 := ⟨f - 1, by omega⟩
    have e : y = L := by omega
    subst e
    have e6 : gI w 141 16 = jI 0 := h.2.2.1
    refine ⟨jI (y : Int), w, ?_, RFn.refl w, ?_⟩
    · rw [p_X11_digits_34, e6, if_pos (show jI 0 = 0 from rfl), if_pos (by rw [jI_le (by omega) (by omega) (by omega) (by omega)]; omega)]
      rfl
    · show RP w X C (p + ((0 : Nat) : Int), 0)
      rw [show p + ((0 : Nat) : Int) = p by omega]
      exact h
  | succ n ih =>
    intro y f w p v hy hf h hb
    obtain ⟨f, rfl⟩ : ∃ f', f = f' + 1 := ⟨f - 1, by omega⟩
    have e6 : gI w 141 16 = jI 0 := h.2.2.1
    have e5 : gI w 141 15 = jI p := h.2.1
    have c60 := hB.1
    have p0 : 0 ≤ p := h.2.2.2.1.1
    have p1 : p ≤ C := h.2.2.2.1.2
    have e1 : jI (y : Int) + (1 : Int32) = jI ((y + 1 : Nat) : Int) := by rw [l32_1, jI_add]; rfl
    have hi := hr_i hB p0
    have hh : f_X11_here w = some (jI (hr X C p)) := s_here hB h
    have vb : 0 ≤ v ∧ v < 1000 := by unfold dB at hb; omega
    rw [p_X11_digits_34, e6, if_pos (show jI 0 = 0 from rfl), if_neg (by rw [jI_le (by omega) (by omega) (by omega) (by omega)]; omega), hh, bs_p, l32_48, l32_57, s_in w (by omega) (by omega) (by omega) (by omega) (by omega) (by omega), bs_p]
    by_cases q : 48 ≤ hr X C p ∧ hr X C p ≤ 57
    · have k := hr_b hB p0
      have k2 := RFn.w5 w (jI (p + 1))
      have R2 : RP (uI w 141 15 (jI (p + 1))) X C (p + 1, 0) := ⟨h.1.fn k2, by rw [gI_uI, if_pos ⟨rfl, rfl⟩], by rw [gI_uI, if_neg (by omega)]; exact e6, ⟨by show 0 ≤ p + 1; omega, by show p + 1 ≤ C; omega⟩, Or.inl rfl⟩
      obtain ⟨r, w', b1, b2, b3⟩ := ih (y + 1) f _ (p + 1) (10 * v + hr X C p - 48) (by omega) (by omega) R2 (by unfold dB at hb ⊢; omega)
      have d1 : dc (n + 1) (hr X C) p = dc n (hr X C) (p + 1) + 1 := if_pos q
      have d2 : dv (n + 1) (hr X C) p v = dv n (hr X C) (p + 1) (10 * v + hr X C p - 48) := if_pos q
      rw [if_neg (bz_n q), bs_p, e5, l32_1, jI_add, wl_p, l32_10, jI_mul, jI_add, jI_sub, d1, d2]
      rw [l32_1] at e1
      rw [e1, b1]
      refine ⟨r, w', rfl, k2.tr b2, ?_⟩
      rw [show p + ((dc n (hr X C) (p + 1) + 1 : Nat) : Int) = p + 1 + (dc n (hr X C) (p + 1) : Nat) by omega]
      exact b3
    · have d1 : dc (n + 1) (hr X C) p = 0 := if_neg q
      have d2 : dv (n + 1) (hr X C) p v = v := if_neg q
      rw [if_pos (bz_z q), d1, d2]
      refine ⟨_, w, rfl, RFn.refl w, ?_⟩
      rw [show p + ((0 : Nat) : Int) = p by omega]
      exact h
section
variable {w : Wd} {X : Int → Int} {C : Int} {q : Int × Int}
theorem s_dig (hB : TXb X C) (h : RP w X C q) {n : Nat} (hL : n + 1 ≤ 3) : ∃ w', f_X11_digits w (jI ((n + 1 : Nat) : Int)) = some (jI (dvl (n + 1) (hr X C) q), w') ∧ RFn w w' ∧ RP w' X C (dst (n + 1) (hr X C) q) := by
  have c60 := hB.1
  obtain ⟨p, b⟩ := q
  have p0 : 0 ≤ p := h.2.2.2.1.1
  have p1 : p ≤ C := h.2.2.2.1.2
  have i0 : ¬ (1 : Int32) = 0 := by decide +kernel
  have f6 : ∀ v, gI (uI w 141 16 v) 141 16 = v := fun v => by rw [gI_uI, if_pos ⟨rfl, rfl⟩]
  have k1 := RFn.w6 w (jI 1)
  have R1 : RP (uI w 141 16 (jI 1)) X C (p, 1) := ⟨h.1.fn k1, by rw [gI_uI, if_neg (by omega)]; exact h.2.1, f6 _, ⟨p0, p1⟩, Or.inr rfl⟩
  have stop : ∀ x1 : Int32, p_X11_digits_34 x1 2000 (0 : Int32) (0 : Int32) (uI w 141 16 (1 : Int32)) = some (.inl (0, 0, uI w 141 16 (1 : Int32))) := by
    intro x1
    show p_X11_digits_34 x1 (1999 + 1) (0 : Int32) (0 : Int32) (uI w 141 16 (1 : Int32)) = _
    rw [p_X11_digits_34, f6, if_neg i0]
  unfold f_X11_digits
  rcases h.2.2.2.2 with z | z
  · have z : b = 0 := z
    subst z
    have e6 : gI w 141 16 = jI 0 := h.2.2.1
    have hh : f_X11_here w = some (jI (hr X C p)) := s_here hB h
    have hi := hr_i hB p0
    rw [e6, if_pos (show jI 0 = 0 from rfl), hh, bs_p, l32_48, l32_57, s_in w (by omega) (by omega) (by omega) (by omega) (by omega) (by omega), bs_p]
    by_cases y : 48 ≤ hr X C p ∧ hr X C p ≤ 57
    · have k0 := RFn.w6 w (jI 0)
      have R0 : RP (uI w 141 16 (jI 0)) X C (p, 0) := ⟨h.1.fn k0, by rw [gI_uI, if_neg (by omega)]; exact h.2.1, f6 _, ⟨p0, p1⟩, Or.inl rfl⟩
      obtain ⟨r, w', b1, b2, b3⟩ := s_rdl hB hL (n + 1) 0 2000 _ p 0 (by omega) (by omega) R0 (by unfold dB; omega)
      have b1 : p_X11_digits_34 (jI ((n + 1 : Nat) : Int)) 2000 (0 : Int32) (0 : Int32) (uI w 141 16 (0 : Int32)) = _ := b1
      have d : dc (n + 1) (hr X C) p ≠ 0 := by
        show (if 48 ≤ hr X C p ∧ hr X C p ≤ 57 then dc n (hr X C) (p + 1) + 1 else 0) ≠ 0
        rw [if_pos y]
        omega
      rw [if_neg (bz_n y), wl_p, b1, bs_p, zl_p, u3_p, dst_T d, dvl_0]
      exact ⟨w', rfl, k0.tr b2, b3⟩
    · have d : dc (n + 1) (hr X C) p = 0 := if_neg y
      have d2 : dv (n + 1) (hr X C) p 0 = 0 := if_neg y
      rw [if_pos (bz_z y), wl_p, stop, bs_p, zl_p, u3_p, dst_F d, dvl_0, d2]
      exact ⟨_, rfl, k1, R1⟩
  · have z : b = 1 := z
    subst z
    have e6 : gI w 141 16 = jI 1 := h.2.2.1
    rw [e6, if_neg (show ¬ jI 1 = 0 from i0), wl_p, stop, bs_p, zl_p, u3_p, dst_w, dvl_1]
    exact ⟨_, rfl, k1, R1⟩
theorem s_dAfter (hB : TXb X C) (h : RP w X C q) {n : Nat} (hL : n + 1 ≤ 3) : ∃ w', f_X11_digitsAfter w (jI ((n + 1 : Nat) : Int)) = some (jI (dvl (n + 1) (hr X C) (nst (hr X C) 32 q)), w') ∧ RFn w w' ∧ RP w' X C (dst (n + 1) (hr X C) (nst (hr X C) 32 q)) := by
  obtain ⟨w1, x1, y1, z1⟩ := s_needs hB h (c := 32) (by decide) (by decide)
  obtain ⟨w2, x2, y2, z2⟩ := s_dig hB z1 hL
  refine ⟨w2, ?_, y1.tr y2, z2⟩
  unfold f_X11_digitsAfter
  rw [l32_32, x1, bs_p, x2, bs_p, u2_p]
end
/-- what a command of the reference leaves -/
def RFp (z : Nat) (w w' : Wd) : Prop := Sm (fun k => k = 141 ∨ k = 150) w w' ∧ (∀ i, i ≠ 15 → i ≠ 16 → gI w' 141 i = gI w 141 i) ∧ ∀ j : Nat, j < z ∨ z + 2 < j → gI w' 150 j = gI w 150 j
theorem RFp.tr {z : Nat} {w w1 w2 : Wd} (h : RFp z w w1) (k : RFp z w1 w2) : RFp z w w2 := ⟨h.1.tr k.1, fun i a b => (k.2.1 i a b).trans (h.2.1 i a b), fun j a => (k.2.2 j a).trans (h.2.2 j a)⟩
theorem RFn.fp {w w' : Wd} (h : RFn w w') (z : Nat) : RFp z w w' := ⟨h.1.mono (fun k hk => Or.inl hk), h.2, fun j _ => h.1.iK (by unfold KB; omega) j⟩
theorem RFp.w (w : Wd) {z i : Nat} (v : Int32) (h : z ≤ i) (h2 : i ≤ z + 2) : RFp z w (uI w 150 i v) := ⟨Sm.wI w (Or.inr rfl), fun j _ _ => by rw [gI_uI, if_neg (by omega)], fun j a => by rw [gI_uI, if_neg (by omega)]⟩
theorem RP.w {w : Wd} {X : Int → Int} {C : Int} {q : Int × Int} (h : RP w X C q) (i : Nat) (v : Int32) : RP (uI w 150 i v) X C q :=
  ⟨⟨by rw [gI_uI, if_neg (by omega)]; exact h.1.1, fun j a b => by rw [gI_uI, if_neg (by omega)]; exact h.1.2 j a b⟩, by rw [gI_uI, if_neg (by omega)]; exact h.2.1, by rw [gI_uI, if_neg (by omega)]; exact h.2.2.1, h.2.2.2⟩
theorem RFn.at {w w' : Wd} (h : RFn w w') (i : Nat) : gI w' 150 i = gI w 150 i := h.1.iK (by unfold KB; omega) i
section
variable {w : Wd} {X : Int → Int} {C : Int} {q : Int × Int} {z : Nat}
theorem s_one (hB : TXb X C) (hz : z + 2 < 180) (h : RP w X C q) {n : Nat} (hL : n + 1 ≤ 3) : ∃ w', ((f_X11_digitsAfter w (jI ((n + 1 : Nat) : Int))).bind fun y => u2 y fun r14 w15 => (if inR (jI (z : Int) + (1 : Int32)) 180 then (wl (uI w15 150 ((jI (z : Int) + (1 : Int32))).toNatClampNeg r14) fun w18 => (some w18)) else none)) = some w' ∧ RFp z w w' ∧ RP w' X C (dst (n + 1) (hr X C) (nst (hr X C) 32 q)) ∧ gI w' 150 z = gI w 150 z ∧ gI w' 150 (z + 1) = jI (dvl (n + 1) (hr X C) (nst (hr X C) 32 q)) := by
  obtain ⟨w1, x1, y1, z1⟩ := s_dAfter hB h hL
  have e1 : jI (z : Int) + (1 : Int32) = jI ((z + 1 : Nat) : Int) := by rw [l32_1, jI_add]; rfl
  have c1 : (jI ((z + 1 : Nat) : Int)).toNatClampNeg = z + 1 := by rw [jI_clamp (by omega) (by omega)]; omega
  rw [x1, bs_p, u2_p, e1, if_pos (by rw [inR_j (by omega) (by omega)]; omega), c1, wl_p]
  exact ⟨_, rfl, (y1.fp z).tr (RFp.w w1 _ (by omega) (by omega)), z1.w _ _, by rw [gI_uI, if_neg (by omega)]; exact y1.at z, by rw [gI_uI, if_pos ⟨rfl, rfl⟩]⟩
theorem s_two (hB : TXb X C) (hz : z + 2 < 180) (h : RP w X C q) : ∃ w', f_X11_parsesTwo w (jI (z : Int)) = some w' ∧ RFp z w w' ∧ RP w' X C (pcQ 2 (hr X C) (nst (hr X C) 32 q)) ∧ gI w' 150 z = gI w 150 z ∧ gI w' 150 (z + 1) = jI (pcA 2 (hr X C) (nst (hr X C) 32 q)) ∧ gI w' 150 (z + 2) = jI (pcB 2 (hr X C) (nst (hr X C) 32 q)) := by
  obtain ⟨w1, x1, y1, z1⟩ := s_dAfter hB h (n := 0) (by decide)
  have x1 : f_X11_digitsAfter w (1 : Int32) = _ := x1
  have e1 : jI (z : Int) + (1 : Int32) = jI ((z + 1 : Nat) : Int) := by rw [l32_1, jI_add]; rfl
  have e2 : jI (z : Int) + (2 : Int32) = jI ((z + 2 : Nat) : Int) := by rw [l32_2, jI_add]; rfl
  have c1 : (jI ((z + 1 : Nat) : Int)).toNatClampNeg = z + 1 := by rw [jI_clamp (by omega) (by omega)]; omega
  have c2 : (jI ((z + 2 : Nat) : Int)).toNatClampNeg = z + 2 := by rw [jI_clamp (by omega) (by omega)]; omega
  obtain ⟨w2, x2, y2, z2⟩ := s_dig hB (z1.w (z + 1) (jI (dvl (0 + 1) (hr X C) (nst (hr X C) 32 q)))) (n := 0) (by decide)
  have x2 : f_X11_digits (uI w1 150 (z + 1) (jI (dvl (0 + 1) (hr X C) (nst (hr X C) 32 q)))) (1 : Int32) = _ := x2
  unfold f_X11_parsesTwo
  rw [x1, bs_p, u2_p, e1, if_pos (by rw [inR_j (by omega) (by omega)]; omega), c1, wl_p, x2, bs_p, u2_p, e2, if_pos (by rw [inR_j (by omega) (by omega)]; omega), c2, wl_p]
  exact ⟨_, rfl, (((y1.fp z).tr (RFp.w w1 _ (by omega) (by omega))).tr (y2.fp z)).tr (RFp.w w2 _ (by omega) (by omega)), z2.w _ _, by rw [gI_uI, if_neg (by omega), y2.at, gI_uI, if_neg (by omega)]; exact y1.at z, by rw [gI_uI, if_neg (by omega), y2.at, gI_uI, if_pos ⟨rfl, rfl⟩]; rfl, by rw [gI_uI, if_pos ⟨rfl, rfl⟩]; rfl⟩
theorem s_value (hB : TXb X C) (hz : z + 2 < 180) (h : RP w X C q) : ∃ w', f_X11_parsesValue w (jI (z : Int)) = some w' ∧ RFp z w w' ∧ RP w' X C (pcQ 3 (hr X C) (nst (hr X C) 32 q)) ∧ gI w' 150 z = gI w 150 z ∧ gI w' 150 (z + 1) = jI (pcA 3 (hr X C) (nst (hr X C) 32 q)) ∧ gI w' 150 (z + 2) = jI (pcB 3 (hr X C) (nst (hr X C) 32 q)) := by
  obtain ⟨w1, x1, y1, z1⟩ := s_dAfter hB h (n := 0) (by decide)
  have x1 : f_X11_digitsAfter w (1 : Int32) = _ := x1
  have e1 : jI (z : Int) + (1 : Int32) = jI ((z + 1 : Nat) : Int) := by rw [l32_1, jI_add]; rfl
  have e2 : jI (z : Int) + (2 : Int32) = jI ((z + 2 : Nat) : Int) := by rw [l32_2, jI_add]; rfl
  have c1 : (jI ((z + 1 : Nat) : Int)).toNatClampNeg = z + 1 := by rw [jI_clamp (by omega) (by omega)]; omega
  have c2 : (jI ((z + 2 : Nat) : Int)).toNatClampNeg = z + 2 := by rw [jI_clamp (by omega) (by omega)]; omega
  obtain ⟨w2, x2, y2, z2⟩ := s_dAfter hB (z1.w (z + 1) (jI (dvl (0 + 1) (hr X C) (nst (hr X C) 32 q)))) (n := 2) (by decide)
  have x2 : f_X11_digitsAfter (uI w1 150 (z + 1) (jI (dvl (0 + 1) (hr X C) (nst (hr X C) 32 q)))) (3 : Int32) = _ := x2
  unfold f_X11_parsesValue
  rw [x1, bs_p, u2_p, e1, if_pos (by rw [inR_j (by omega) (by omega)]; omega), c1, wl_p, x2, bs_p, u2_p, e2, if_pos (by rw [inR_j (by omega) (by omega)]; omega), c2, wl_p]
  exact ⟨_, rfl, (((y1.fp z).tr (RFp.w w1 _ (by omega) (by omega))).tr (y2.fp z)).tr (RFp.w w2 _ (by omega) (by omega)), z2.w _ _, by rw [gI_uI, if_neg (by omega), y2.at, gI_uI, if_neg (by omega)]; exact y1.at z, by rw [gI_uI, if_neg (by omega), y2.at, gI_uI, if_pos ⟨rfl, rfl⟩]; rfl, by rw [gI_uI, if_pos ⟨rfl, rfl⟩]; rfl⟩
end
