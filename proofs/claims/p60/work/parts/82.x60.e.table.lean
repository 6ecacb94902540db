/-! THE TABLE OF PAIRS -/
theorem low_iff {a b c d : Int} (a0 : 0 < a) (b0 : 0 < b) (c0 : 0 < c) (d0 : 0 < d) : (a / (Int.gcd a b : Nat) = c / (Int.gcd c d : Nat) ∧ b / (Int.gcd a b : Nat) = d / (Int.gcd c d : Nat)) ↔ a * d = b * c := by
  have gp : 0 < Int.gcd a b := Nat.pos_of_ne_zero (fun z => absurd (Int.gcd_eq_zero_iff.mp z).1 (by omega))
  have hp : 0 < Int.gcd c d := Nat.pos_of_ne_zero (fun z => absurd (Int.gcd_eq_zero_iff.mp z).1 (by omega))
  have c1 := Int.gcd_ediv_gcd_ediv_gcd gp
  have c2 := Int.gcd_ediv_gcd_ediv_gcd hp
  obtain ⟨x, hx⟩ := Int.gcd_dvd_left a b
  obtain ⟨y, hy⟩ := Int.gcd_dvd_right a b
  obtain ⟨u, hu⟩ := Int.gcd_dvd_left c d
  obtain ⟨v, hv⟩ := Int.gcd_dvd_right c d
  generalize hg : ((Int.gcd a b : Nat) : Int) = g at *
  generalize hh : ((Int.gcd c d : Nat) : Int) = h at *
  have g0 : 0 < g := by omega
  have h0 : 0 < h := by omega
  have ex : a / g = x := Int.ediv_eq_of_eq_mul_right (by omega) hx
  have ey : b / g = y := Int.ediv_eq_of_eq_mul_right (by omega) hy
  have eu : c / h = u := Int.ediv_eq_of_eq_mul_right (by omega) hu
  have ev : d / h = v := Int.ediv_eq_of_eq_mul_right (by omega) hv
  rw [ex, ey] at c1
  rw [eu, ev] at c2
  rw [ex, ey, eu, ev]
  have x0 : 0 < x := by
    refine Decidable.byContradiction fun z => ?_
    have : g * x ≤ 0 := Int.mul_nonpos_of_nonneg_of_nonpos (by omega) (by omega)
    omega
  have u0 : 0 < u := by
    refine Decidable.byContradiction fun z => ?_
    have : h * u ≤ 0 := Int.mul_nonpos_of_nonneg_of_nonpos (by omega) (by omega)
    omega
  constructor
  · intro ⟨e1, e2⟩
    subst e1 e2
    rw [hx, hy, hu, hv]
    grind
  · intro e
    have e2 : x * v = y * u := by
      have e3 : (g * h) * (x * v) = (g * h) * (y * u) := by
        rw [hx, hy, hu, hv] at e
        grind
      exact Int.eq_of_mul_eq_mul_left (by have := Int.mul_pos g0 h0; omega) e3
    have d1 : x.natAbs ∣ u.natAbs := by
      have k : x.natAbs ∣ y.natAbs * u.natAbs := by
        rw [← Int.natAbs_mul, ← e2, Int.natAbs_mul]
        exact Nat.dvd_mul_right _ _
      exact Nat.Coprime.dvd_of_dvd_mul_left c1 k
    have d2 : u.natAbs ∣ x.natAbs := by
      have k : u.natAbs ∣ v.natAbs * x.natAbs := by
        rw [← Int.natAbs_mul, Int.mul_comm v x, e2, Int.natAbs_mul]
        exact Nat.dvd_mul_left _ _
      exact Nat.Coprime.dvd_of_dvd_mul_left c2 k
    have xu : x = u := by
      have := Nat.dvd_antisymm d1 d2
      omega
    refine ⟨xu, ?_⟩
    have e4 : x * v = x * y := by rw [e2, xu, Int.mul_comm]
    exact (Int.eq_of_mul_eq_mul_left (by omega) e4).symm
def gq (S : Ab) (u l : Int) : Int := (Int.gcd (S (6 + u)) (S (6 + l)) : Nat)
def Ent (w : Wd) (S : Ab) (k u l : Int) : Prop := gI w 130 k.toNat = jI (S (6 + u) / gq S u l) ∧ gI w 131 k.toNat = jI (S (6 + l) / gq S u l) ∧ gI w 132 k.toNat = jI u ∧ gI w 133 k.toNat = jI l
def TB (w : Wd) (S : Ab) (m : Int) (D : Int → Int → Prop) : Prop := gI w 129 5 = jI m ∧ (∀ k, 0 ≤ k → k < m → ∃ u l, D u l ∧ Ent w S k u l) ∧ ∀ u l, D u l → ∃ k, (0 ≤ k ∧ k < m) ∧ Ent w S k u l
theorem TB.congr {w : Wd} {S : Ab} {m n : Int} {D E : Int → Int → Prop} (h : TB w S m D) (e : n = m) (he : ∀ u l, D u l ↔ E u l) : TB w S n E := by
  subst e
  refine ⟨h.1, fun k k0 k1 => ?_, fun u l hul => h.2.2 u l ((he u l).mpr hul)⟩
  obtain ⟨u, l, hD, hE⟩ := h.2.1 k k0 k1
  exact ⟨u, l, (he u l).mp hD, hE⟩
def KE (k : Nat) : Prop := 129 ≤ k ∧ k < 134
theorem KE_Y {k : Nat} (h : KE k) : KY k := by unfold KE at h; unfold KY; omega
theorem gq_b {S : Ab} (hG : Good S) {u l : Int} (u0 : 0 ≤ u ∧ u < S 0) (l0 : 0 ≤ l ∧ l < S 0) : 0 < gq S u l ∧ gq S u l ≤ 60 ∧ (0 < S (6 + u) / gq S u l ∧ S (6 + u) / gq S u l ≤ 60) ∧ (0 < S (6 + l) / gq S u l ∧ S (6 + l) / gq S u l ≤ 60) ∧ gq S u l * (S (6 + u) / gq S u l) = S (6 + u) ∧ gq S u l * (S (6 + l) / gq S u l) = S (6 + l) := by
  have tu := tt_b hG u0.1 u0.2
  have tl := tt_b hG l0.1 l0.2
  have gp : 0 < Int.gcd (S (6 + u)) (S (6 + l)) := Nat.pos_of_ne_zero (fun z => absurd (Int.gcd_eq_zero_iff.mp z).1 (by omega))
  have d1 := Int.gcd_dvd_left (S (6 + u)) (S (6 + l))
  have d2 := Int.gcd_dvd_right (S (6 + u)) (S (6 + l))
  have l1 := Int.le_of_dvd (by omega) d1
  have l2 := Int.le_of_dvd (by omega) d2
  unfold gq
  generalize hg : ((Int.gcd (S (6 + u)) (S (6 + l)) : Nat) : Int) = g at *
  have e1 : g * (S (6 + u) / g) = S (6 + u) := Int.mul_ediv_cancel' d1
  have e2 : g * (S (6 + l) / g) = S (6 + l) := Int.mul_ediv_cancel' d2
  have p1 := Int.ediv_le_self g (show 0 ≤ S (6 + u) by omega)
  have q1 : 0 < S (6 + u) / g := by
    refine Decidable.byContradiction fun z => ?_
    have : g * (S (6 + u) / g) ≤ 0 := Int.mul_nonpos_of_nonneg_of_nonpos (by omega) (by omega)
    omega
  have q2 : 0 < S (6 + l) / g := by
    refine Decidable.byContradiction fun z => ?_
    have : g * (S (6 + l) / g) ≤ 0 := Int.mul_nonpos_of_nonneg_of_nonpos (by omega) (by omega)
    omega
  have r1 : S (6 + u) / g ≤ S (6 + u) := Int.ediv_le_self _ (by omega)
  have r2 : S (6 + l) / g ≤ S (6 + l) := Int.ediv_le_self _ (by omega)
  exact ⟨by omega, by omega, ⟨q1, by omega⟩, ⟨q2, by omega⟩, e1, e2⟩
theorem s_addPair {w : Wd} {S : Ab} (hG : Good S) (h : CSt w 1 S) {m u l : Int} {D : Int → Int → Prop} (hT : TB w S m D) (m0 : 0 ≤ m) (m1 : m < 90) (u0 : 0 ≤ u ∧ u < S 0) (l0 : 0 ≤ l ∧ l < S 0) :
    ∃ w', f_X5_addPair w (jI u) (jI l) = some w' ∧ Sm KE w w' ∧ CSt w' 1 S ∧ TB w' S (m + 1) (fun x y => D x y ∨ (x = u ∧ y = l)) := by
  have hg := hG.1
  have tu := tt_b hG u0.1 u0.2
  have tl := tt_b hG l0.1 l0.2
  have gb := gq_b hG u0 l0
  have n90 : ¬ jI 90 ≤ jI m := by rw [jI_le (by omega) (by omega) (by omega) (by omega)]; omega
  have iu : inR (jI u) 10 = true := by rw [inR_j (by omega) (by omega)]; omega
  have il : inR (jI l) 10 = true := by rw [inR_j (by omega) (by omega)]; omega
  have im : inR (jI m) 90 = true := by rw [inR_j (by omega) (by omega)]; omega
  have cu : (jI u).toNatClampNeg = u.toNat := jI_clamp (by omega) (by omega)
  have cl : (jI l).toNatClampNeg = l.toNat := jI_clamp (by omega) (by omega)
  have cm : (jI m).toNatClampNeg = m.toNat := jI_clamp (by omega) (by omega)
  have gg := s_gcd (a := S (6 + u)) (b := S (6 + l)) (by omega) (by omega) (by omega) (by omega)
  have gg : f_X4_commonDivisor (jL (S (6 + u))) (jL (S (6 + l))) = some (jL (gq S u l)) := gg
  have q1 : f_X4_quotient (jL (S (6 + u))) (jL (gq S u l)) = some (jL (S (6 + u) / gq S u l)) := s_quot (by omega) (by omega) (by omega) (by omega)
  have q2 : f_X4_quotient (jL (S (6 + l))) (jL (gq S u l)) = some (jL (S (6 + l) / gq S u l)) := s_quot (by omega) (by omega) (by omega) (by omega)
  generalize hA : S (6 + u) / gq S u l = A at *
  generalize hB : S (6 + l) / gq S u l = B at *
  refine ⟨uI (uI (uI (uI (uI w 130 m.toNat (jI A)) 131 m.toNat (jI B)) 132 m.toNat (jI u)) 133 m.toNat (jI l)) 129 5 (jI (m + 1)), ?_, ?_, ?_, ?_, fun k k0 k1 => ?_, fun x y hxy => ?_⟩
  · unfold f_X5_addPair
    rw [hT.1, l32_90, if_neg n90, if_pos iu, if_pos il, cu, cl, c_t h u u0.1 (by omega), c_t h l l0.1 (by omega), jI_toL (by omega) (by omega), jI_toL (by omega) (by omega), gg, bs_p, if_pos iu, q1, bs_p, if_pos im, wl_p, jL_toI, cm, if_pos il]
    have t1 : gI (uI w 130 m.toNat (jI A)) 2 l.toNat = jI (S (6 + l)) := by rw [gI_uI, if_neg (by omega)]; exact c_t h l l0.1 (by omega)
    have t2 : ∀ k v, k ≠ 129 → ∀ w' : Wd, gI w' 129 5 = jI m → gI (uI w' k m.toNat v) 129 5 = jI m := fun k v hk w' hw => by rw [gI_uI, if_neg (fun z => hk z.1.symm)]; exact hw
    have f1 := t2 130 (jI A) (by decide) w hT.1
    have f2 := t2 131 (jI B) (by decide) _ f1
    have f3 := t2 132 (jI u) (by decide) _ f2
    have f4 := t2 133 (jI l) (by decide) _ f3
    rw [t1, jI_toL (by omega) (by omega), q2, bs_p, f1, if_pos im, wl_p, jL_toI, cm, f2, if_pos im, wl_p, cm, f3, if_pos im, wl_p, cm, f4, wl_p, l32_1, jI_add]
  · exact ((((Sm.wI w (by unfold KE; omega)).tr (Sm.wI _ (by unfold KE; omega))).tr (Sm.wI _ (by unfold KE; omega))).tr (Sm.wI _ (by unfold KE; omega))).tr (Sm.wI _ (by unfold KE; omega))
  · exact h.kept (fun r hr => ⟨by funext j; rw [gI_uI, if_neg (by omega), gI_uI, if_neg (by omega), gI_uI, if_neg (by omega), gI_uI, if_neg (by omega), gI_uI, if_neg (by omega)], rfl⟩)
  · rw [gI_uI, if_pos ⟨rfl, rfl⟩]
  · by_cases z : k = m
    · refine ⟨u, l, Or.inr ⟨rfl, rfl⟩, ?_⟩
      unfold Ent
      rw [z, hA, hB]
      simp (disch := omega) only [gI_uI, if_neg, if_pos, and_self]
      exact ⟨if_pos trivial, if_pos trivial, if_pos trivial, if_pos trivial⟩
    · obtain ⟨x, y, hD, e1, e2, e3, e4⟩ := hT.2.1 k k0 (by omega)
      refine ⟨x, y, Or.inl hD, ?_⟩
      unfold Ent
      simp (disch := omega) only [gI_uI, if_neg]
      exact ⟨e1, e2, e3, e4⟩
  · rcases hxy with hxy | ⟨rfl, rfl⟩
    · obtain ⟨k, hk, e1, e2, e3, e4⟩ := hT.2.2 x y hxy
      refine ⟨k, ⟨hk.1, by omega⟩, ?_⟩
      unfold Ent
      simp (disch := omega) only [gI_uI, if_neg]
      exact ⟨e1, e2, e3, e4⟩
    · refine ⟨m, ⟨m0, by omega⟩, ?_⟩
      unfold Ent
      rw [hA, hB]
      simp (disch := omega) only [gI_uI, if_neg, if_pos, and_self]
      exact ⟨if_pos trivial, if_pos trivial, if_pos trivial, if_pos trivial⟩
