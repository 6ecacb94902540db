/-! THE RELEASE, both ways -/
/-- which way -/
def er (S : Ab) (x c : Int) : Int := if S (46 + x) = 1 then -c else c
theorem er_c (S : Ab) (x c : Int) : er S x c = c ∨ er S x c = -c := by unfold er; split <;> simp
noncomputable def rn (S : Ab) (x c : Int) : Ab := t3 (t1 (up (up (up S (36 + x) (S (36 + x) - dg S (TU S x) * c)) 4 (S 4 + dg S (TU S x) * c)) 5 (S 5 + (if 0 < c then 1 else 0))) (TU S x) c (er S x c))
/-- the numbers before the turning, laid in the class's order -/
noncomputable def ru (S : Ab) (x c : Int) : Ab := up (up (up S (36 + x) (S (36 + x) - dg S (TU S x) * c)) 4 (S 4 + dg S (TU S x) * c)) 5 (S 5 + (if 0 < c then 1 else 0))
theorem ru_o {S : Ab} {x c z : Int} (h : z ≠ 36 + x) (h4 : z ≠ 4) (h5 : z ≠ 5) : ru S x c z = S z := by
  unfold ru; rw [up_ne h5, up_ne h4, up_ne h]
theorem rn_lo {S : Ab} {x c z : Int} (h1 : ¬ (16 ≤ z ∧ z < 26)) (h2 : ¬ (66 ≤ z ∧ z < 86)) : rn S x c z = ru S x c z := by
  show t3 (t1 (ru S x c) _ _ _) z = _
  rw [t3_r h2, t1_o h1 (by omega)]
section
variable {S : Ab} {x c : Int}
theorem rg1 (hG : Good S) (x0 : 0 ≤ x) (x1 : x < 10) : ∀ i, 0 ≤ i → i < 10 → (0 ≤ ru S x c (16 + i) ∧ ru S x c (16 + i) < 24883200000) ∧ (ru S x c (66 + i) = 0 ∨ ru S x c (66 + i) = 1) ∧ (ru S x c (66 + i) = 1 → 0 ≤ ru S x c (76 + i) ∧ ru S x c (76 + i) < 746496000000) := by
  intro i i0 i1
  rw [ru_o (z := 16 + i) (by omega) (by omega) (by omega), ru_o (z := 66 + i) (by omega) (by omega) (by omega), ru_o (z := 76 + i) (by omega) (by omega) (by omega)]
  obtain ⟨k1, k2, k3, k4, k5, k6⟩ := hG.2.1 i i0 i1
  exact ⟨k3, k4, k5⟩
theorem rg2 (hG : Good S) (x0 : 0 ≤ x) (x1 : x < S 0) (c0 : 0 ≤ c) (c1 : c ≤ 50) {e : Int} : ∀ i, 0 ≤ i → i < 10 → (t1 (ru S x c) (TU S x) c e (66 + i) = 0 ∨ t1 (ru S x c) (TU S x) c e (66 + i) = 1) ∧ (t1 (ru S x c) (TU S x) c e (66 + i) = 1 → 0 ≤ t1 (ru S x c) (TU S x) c e (76 + i) ∧ t1 (ru S x c) (TU S x) c e (76 + i) < 4000000000000000000) := by
  have hg := hG.1
  intro i i0 i1
  obtain ⟨k1, k2, k3⟩ := rg1 (x := x) (c := c) hG x0 (by omega) i i0 i1
  have ub := tu_b hG x0 x1 i i0 i1
  have um := u_mul ub.1 ub.2 (e := c) (by omega) (by omega)
  have hn : (c.natAbs : Int) = c := by omega
  rw [hn] at um
  have hm : 0 ≤ ((TU S x i).natAbs : Int) * c := Int.mul_nonneg (by omega) c0
  rw [t1_o (z := 66 + i) (by omega) (by omega), t1_w i0 i1]
  refine ⟨k2, fun q => ?_⟩
  have k3 := k3 q
  split <;> omega
theorem Good.rel (hG : Good S) (x0 : 0 ≤ x) (x1 : x < S 0) (c0 : 0 ≤ c) (c1 : c ≤ 50) (hc : dg S (TU S x) * c ≤ S (36 + x)) (hf : 0 ≤ dg S (TU S x)) : Good (rn S x c) := by
  have hg := hG.1
  have hm : 0 ≤ dg S (TU S x) * c := Int.mul_nonneg hf c0
  have r36 : rn S x c (36 + x) = S (36 + x) - dg S (TU S x) * c := by
    rw [rn_lo (by omega) (by omega)]; unfold ru; rw [up_ne (by omega), up_ne (by omega), up_eq]
  refine hG.of ?_ ?_ ?_ (fun i i0 i1 => ?_) (fun i i0 i1 => ?_) (fun i i0 i1 => ?_) (fun i i0 i1 => ?_) ?_
  · rw [rn_lo (by omega) (by omega), ru_o (by omega) (by omega) (by omega)]
  · rw [rn_lo (by omega) (by omega), ru_o (by omega) (by omega) (by omega)]
  · rw [rn_lo (by omega) (by omega), ru_o (by omega) (by omega) (by omega)]; omega
  · rw [rn_lo (by omega) (by omega), ru_o (by omega) (by omega) (by omega)]
  · rw [rn_lo (by omega) (by omega), ru_o (by omega) (by omega) (by omega)]
  · rw [rn_lo (by omega) (by omega), ru_o (by omega) (by omega) (by omega)]
  · obtain ⟨k1, k2, k3, k4, k5, k6, k7, k8, k9⟩ := hG.2.1 i i0 i1
    obtain ⟨m1, m2⟩ := rg2 (c := c) hG x0 x1 c0 c1 (e := er S x c) i i0 i1
    unfold Gg
    rw [rn_lo (z := 0) (by omega) (by omega), ru_o (z := 0) (by omega) (by omega) (by omega), rn_lo (z := 6 + i) (by omega) (by omega), ru_o (z := 6 + i) (by omega) (by omega) (by omega), rn_lo (z := 26 + i) (by omega) (by omega), ru_o (z := 26 + i) (by omega) (by omega) (by omega), rn_lo (z := 46 + i) (by omega) (by omega), ru_o (z := 46 + i) (by omega) (by omega) (by omega), rn_lo (z := 56 + i) (by omega) (by omega), ru_o (z := 56 + i) (by omega) (by omega) (by omega)]
    refine ⟨k1, k2, ?_, ?_, ?_, k6, k7, k8, ?_⟩
    · show 0 ≤ t3 (t1 (ru S x c) _ _ _) (16 + i) ∧ t3 (t1 (ru S x c) _ _ _) (16 + i) < _
      rw [t3_r (by omega), t1_a i0 i1, ru_o (by omega) (by omega) (by omega)]
      split
      · exact k3
      · exact ⟨Int.emod_nonneg _ (by decide), Int.emod_lt_of_pos _ (by decide)⟩
    · show t3 (t1 (ru S x c) _ _ _) (66 + i) = 0 ∨ t3 (t1 (ru S x c) _ _ _) (66 + i) = 1
      rw [t3_o i0 i1]
      split
      · exact Or.inl rfl
      · exact m1
    · show t3 (t1 (ru S x c) _ _ _) (66 + i) = 1 → 0 ≤ t3 (t1 (ru S x c) _ _ _) (76 + i) ∧ t3 (t1 (ru S x c) _ _ _) (76 + i) < _
      rw [t3_o i0 i1, t3_w i0 i1]
      split
      · exact fun z => absurd z (by decide)
      · rename_i z
        intro z2
        have m3 := m2 z2
        exact ⟨m3.1, by
          refine Classical.byContradiction (fun z3 => z ⟨z2, by omega⟩)⟩
    · by_cases z : i = x
      · subst z
        rw [r36]
        omega
      · rw [rn_lo (by omega) (by omega), ru_o (by omega) (by omega) (by omega)]
        exact k9
  · have e3 : rn S x c 3 = S 3 := by rw [rn_lo (by omega) (by omega), ru_o (by omega) (by omega) (by omega)]
    have e4 : rn S x c 4 = S 4 + dg S (TU S x) * c := by rw [rn_lo (by omega) (by omega)]; unfold ru; rw [up_ne (by omega), up_eq]
    rw [e3, e4, sm_up (g := fun i => rn S x c (36 + i)) (h := fun i => S (36 + i)) (k := x) x0 (by omega) (fun i i0 i1 i2 => by show rn S x c (36 + i) = S (36 + i); rw [rn_lo (by omega) (by omega), ru_o (by omega) (by omega) (by omega)]), hG.2.2.2.2.2.1]
    show S 3 - S 4 + (rn S x c (36 + x) - S (36 + x)) = _
    rw [r36]
    omega
theorem rn_0 (hG : Good S) : ∀ z, 0 ≤ z → z < 192 → rn S x 0 z = S z := by
  have e5 : ∀ z, ru S x 0 z = S z := by
    intro z
    unfold ru
    rw [Int.mul_zero, Int.sub_zero, Int.add_zero, if_neg (by decide), Int.add_zero]
    unfold up
    split
    · rename_i q; rw [q]
    · split
      · rename_i q; rw [q]
      · split
        · rename_i q; rw [q]
        · rfl
  have e1 : ∀ z, 0 ≤ z → z < 192 → t1 (ru S x 0) (TU S x) 0 (er S x 0) z = S z := by
    intro z z0 z1
    have e0 : er S x 0 = 0 := by unfold er; split <;> rfl
    rw [e0]
    by_cases q : 16 ≤ z ∧ z < 26
    · have k := (hG.2.1 (z - 16) (by omega) (by omega)).2.2.1
      rw [show 16 + (z - 16) = z by omega] at k
      rw [show z = 16 + (z - 16) by omega, t1_a (by omega) (by omega), e5]
      split
      · rfl
      · rw [Int.mul_zero, Int.add_zero, show 16 + (z - 16) = z by omega, Int.emod_eq_of_lt k.1 k.2]
    · by_cases q2 : 76 ≤ z ∧ z < 86
      · rw [show z = 76 + (z - 76) by omega, t1_w (by omega) (by omega), e5, e5]
        split
        · rw [Int.mul_zero, Int.add_zero]
        · rfl
      · rw [t1_o q q2, e5]
  intro z z0 z1
  show t3 (t1 (ru S x 0) _ _ _) z = S z
  by_cases q : 66 ≤ z ∧ z < 76
  · have k := (hG.2.1 (z - 66) (by omega) (by omega)).2.2.2.2.1
    rw [show z = 66 + (z - 66) by omega, t3_o (by omega) (by omega), e1 (66 + (z - 66)) (by omega) (by omega), e1 (76 + (z - 66)) (by omega) (by omega), if_neg (fun q => by have := k q.1; omega)]
  · by_cases q2 : 76 ≤ z ∧ z < 86
    · have k := (hG.2.1 (z - 76) (by omega) (by omega)).2.2.2.2.1
      rw [show z = 76 + (z - 76) by omega, t3_w (by omega) (by omega), e1 (66 + (z - 76)) (by omega) (by omega), e1 (76 + (z - 76)) (by omega) (by omega), if_neg (fun q => by have := k q.1; omega)]
    · rw [t3_r (by omega), e1 z z0 z1]
end
theorem RSt.rel {w : Wd} {S u : Ab} {x c e f d : Int} (x0 : 0 ≤ x) (x1 : x < 10) (h : RSt w 142 0 (t1 S u c e)) :
    RSt (uL (uL (uL w 142 (36 + x).toNat (jL (S (36 + x) - f))) 142 (4 : Int).toNat (jL (S 4 + f))) 142 (5 : Int).toNat (jL (S 5 + d))) 142 0 (t1 (up (up (up S (36 + x) (S (36 + x) - f)) 4 (S 4 + f)) 5 (S 5 + d)) u c e) := by
  refine (((h.put (z := 36 + x) (v := S (36 + x) - f) (by omega) (by omega)).put (z := 4) (v := S 4 + f) (by omega) (by omega)).put (z := 5) (v := S 5 + d) (by omega) (by omega)).congr (fun z z0 z1 => ?_)
  by_cases p1 : z = 5
  · rw [p1, up_eq, t1_o (by omega) (by omega), up_eq]
  · rw [up_ne p1]
    by_cases p2 : z = 4
    · rw [p2, up_eq, t1_o (by omega) (by omega), up_ne (by omega), up_eq]
    · rw [up_ne p2]
      by_cases p3 : z = 36 + x
      · rw [p3, up_eq, t1_o (by omega) (by omega), up_ne (by omega), up_ne (by omega), up_eq]
      · rw [up_ne p3]
        have o : ∀ y, y ≠ 5 → y ≠ 4 → y ≠ 36 + x → up (up (up S (36 + x) (S (36 + x) - f)) 4 (S 4 + f)) 5 (S 5 + d) y = S y := fun y y1 y2 y3 => by rw [up_ne y1, up_ne y2, up_ne y3]
        by_cases q : 16 ≤ z ∧ z < 26
        · rw [show z = 16 + (z - 16) by omega, t1_a (by omega) (by omega), t1_a (by omega) (by omega), o _ (by omega) (by omega) (by omega)]
        · by_cases q2 : 76 ≤ z ∧ z < 86
          · rw [show z = 76 + (z - 76) by omega, t1_w (by omega) (by omega), t1_w (by omega) (by omega), o _ (by omega) (by omega) (by omega), o _ (by omega) (by omega) (by omega)]
          · rw [t1_o q q2, t1_o q q2, o _ p1 p2 p3]
