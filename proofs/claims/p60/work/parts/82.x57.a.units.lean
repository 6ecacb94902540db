/-! THE COMMON DIVISOR -/
theorem mod_half {x y : Nat} (y0 : 0 < y) (h : y ≤ x) : x % y * 2 ≤ x := by
  have h1 := Nat.div_add_mod x y
  have h2 := Nat.mod_lt x y0
  have h3 : y * 1 ≤ y * (x / y) := Nat.mul_le_mul_left y (Nat.div_pos h y0)
  omega
def GI (g : Nat) (i x y : Nat) : Prop := Nat.gcd x y = g ∧ x ≤ 4611686018427387903 ∧ y ≤ 4611686018427387903 ∧ (y = 0 ∨ i = 0 ∨ (y ≤ x ∧ x * y * 2 ^ i ≤ 2 ^ 125))
theorem GI.step {g i x y : Nat} (h : GI g i x y) (y0 : y ≠ 0) : GI g (i + 1) y (x % y) := by
  obtain ⟨h1, h2, h3, h4⟩ := h
  have hm := Nat.mod_lt x (show 0 < y by omega)
  refine ⟨?_, h3, by omega, Or.inr (Or.inr ⟨by omega, ?_⟩)⟩
  · rw [Nat.gcd_comm, ← Nat.gcd_rec, Nat.gcd_comm]; exact h1
  · rcases h4 with h4 | h4 | h4
    · omega
    · subst h4
      have := Nat.mul_le_mul h3 (show x % y ≤ 4611686018427387903 by omega)
      omega
    · have k := mod_half (show 0 < y by omega) h4.1
      have k2 : y * (x % y * 2) ≤ y * x := Nat.mul_le_mul_left y k
      have k3 : y * (x % y * 2) * 2 ^ i ≤ y * x * 2 ^ i := Nat.mul_le_mul_right _ k2
      have e1 : y * (x % y) * 2 ^ (i + 1) = y * (x % y * 2) * 2 ^ i := by
        rw [Nat.pow_succ, Nat.mul_assoc, Nat.mul_assoc, Nat.mul_assoc, Nat.mul_comm (2 ^ i) 2]
      rw [e1]
      rw [Nat.mul_comm y x] at k3
      exact Nat.le_trans k3 h4.2
theorem GI.done {g x y : Nat} (h : GI g 200 x y) : y = 0 := by
  obtain ⟨-, -, -, h4⟩ := h
  rcases h4 with h4 | h4 | h4
  · exact h4
  · exact absurd h4 (by decide)
  · refine Decidable.byContradiction fun q => ?_
    have k1 : 1 ≤ x * y := Nat.mul_pos (by omega) (by omega)
    have k2 : 1 * 2 ^ 200 ≤ x * y * 2 ^ 200 := Nat.mul_le_mul_right _ k1
    have k3 : (1 : Nat) * 2 ^ 200 ≤ 2 ^ 125 := Nat.le_trans k2 h4.2
    exact absurd k3 (by decide +kernel)
theorem s_gcd {a b : Int} (h1 : -4611686018427387904 < a) (h2 : a < 4611686018427387904) (h3 : -4611686018427387904 < b) (h4 : b < 4611686018427387904) : f_X4_commonDivisor (jL a) (jL b) = some (jL (Int.gcd a b : Nat)) := by
  have ab : ∀ z : Int, -4611686018427387904 < z → z < 4611686018427387904 → (if 0 < jL z then jL z else -jL z) = jL (z.natAbs : Int) := by
    intro z z1 z2
    rw [l64_0]
    by_cases q : 0 < z
    · rw [if_pos (show jL 0 < jL z by rw [jL_lt (by omega) (by omega) (by omega) (by omega)]; exact q)]
      congr 1; omega
    · rw [if_neg (show ¬ jL 0 < jL z by rw [jL_lt (by omega) (by omega) (by omega) (by omega)]; exact q), jL_neg]
      congr 1; omega
  obtain ⟨r, hr, hP⟩ := lp (fun n (s : Int64 × Int64 × Int32) => p_X4_commonDivisor_15 n s.1 s.2.1 s.2.2)
    (fun i s => ∃ x y : Nat, s = (jL x, jL y, jI i) ∧ GI (Int.gcd a b) i x y) 200
    (fun r => ∃ q, r = .inl (jL (Int.gcd a b : Nat), q))
    (fun i n s hi hI => by
      obtain ⟨x, y, rfl, hg⟩ := hI
      have g2 := hg.2.1
      have g3 := hg.2.2.1
      by_cases q : y = 0
      · subst q
        refine Or.inr ⟨.inl (jL (x : Int), jL ((0 : Nat) : Int), jI i), ?_, (jL ((0 : Nat) : Int), jI i), ?_⟩
        · show p_X4_commonDivisor_15 (n + 1) (jL x) (jL ((0 : Nat) : Int)) (jI i) = _
          rw [p_X4_commonDivisor_15, l32_200, if_neg (show ¬ jI 200 ≤ jI i by rw [jI_le (by omega) (by omega) (by omega) (by omega)]; omega)]
          exact if_pos rfl
        · rw [← hg.1, Nat.gcd_zero_right]
      · refine Or.inl ⟨(jL y, jL ((x % y : Nat) : Int), jI ((i + 1 : Nat) : Int)), ⟨y, x % y, rfl, hg.step q⟩, ?_⟩
        show p_X4_commonDivisor_15 (n + 1) (jL x) (jL y) (jI i) = p_X4_commonDivisor_15 n (jL y) (jL ((x % y : Nat) : Int)) (jI ((i + 1 : Nat) : Int))
        rw [p_X4_commonDivisor_15, l32_200, if_neg (show ¬ jI 200 ≤ jI i by rw [jI_le (by omega) (by omega) (by omega) (by omega)]; omega), l64_0, if_neg (show ¬ jL y = jL 0 by rw [jL_eq (by omega) (by omega) (by omega) (by omega)]; omega)]
        rw [s_rem (by omega) (by omega) (by omega) (by omega), bs_p, l32_1, jI_add, Int.natCast_emod]
        rfl)
    (fun n s hI => by
      obtain ⟨x, y, rfl, hg⟩ := hI
      have q := hg.done
      subst q
      refine ⟨.inl (jL (x : Int), jL ((0 : Nat) : Int), jI ((200 : Nat) : Int)), ?_, (jL ((0 : Nat) : Int), jI ((200 : Nat) : Int)), ?_⟩
      · show p_X4_commonDivisor_15 (n + 1) (jL x) (jL ((0 : Nat) : Int)) (jI ((200 : Nat) : Int)) = _
        rw [p_X4_commonDivisor_15]
        exact if_pos (show jI 200 ≤ jI 200 by rw [jI_le (by omega) (by omega) (by omega) (by omega)]; omega)
      · rw [← hg.1, Nat.gcd_zero_right]) 2000 0 (jL (a.natAbs : Int), jL (b.natAbs : Int), jI 0) (by omega) (by omega) ⟨a.natAbs, b.natAbs, rfl, rfl, by omega, by omega, Or.inr (Or.inl rfl)⟩
  obtain ⟨q, rfl⟩ := hP
  have hr : p_X4_commonDivisor_15 2000 (jL (a.natAbs : Int)) (jL (b.natAbs : Int)) (0 : Int32) = _ := hr
  unfold f_X4_commonDivisor
  rw [ab a h1 h2, ab b h3 h4, hr]
  rfl
/-- two whole numbers, brought to lowest terms -/
theorem cop {a b u G : Int} (a0 : a ≠ 0) (h : u * a = G * b) : ∃ g a' b' q : Int, g = (Int.gcd a b : Nat) ∧ 0 < g ∧ a = g * a' ∧ b = g * b' ∧ a' ≠ 0 ∧ G = a' * q ∧ u = q * b' := by
  have gp : 0 < Int.gcd a b := Nat.pos_of_ne_zero (fun z => a0 (Int.gcd_eq_zero_iff.mp z).1)
  obtain ⟨a', ha⟩ := Int.gcd_dvd_left a b
  obtain ⟨b', hb⟩ := Int.gcd_dvd_right a b
  have hc := Int.gcd_ediv_gcd_ediv_gcd gp
  have gz : ((Int.gcd a b : Nat) : Int) ≠ 0 := by omega
  have ea : a / ((Int.gcd a b : Nat) : Int) = a' := Int.ediv_eq_of_eq_mul_right gz ha
  have eb : b / ((Int.gcd a b : Nat) : Int) = b' := Int.ediv_eq_of_eq_mul_right gz hb
  rw [ea, eb] at hc
  have a'0 : a' ≠ 0 := fun z => a0 (by rw [ha, z, Int.mul_zero])
  have h2 : u * a' = G * b' := by
    refine Int.eq_of_mul_eq_mul_left gz ?_
    generalize ((Int.gcd a b : Nat) : Int) = g at *
    rw [ha, hb] at h
    rw [← Int.mul_assoc, ← Int.mul_assoc, Int.mul_comm g u, Int.mul_comm g G, Int.mul_assoc, Int.mul_assoc]
    exact h
  have hd : a' ∣ G := by
    have k : a'.natAbs ∣ b'.natAbs * G.natAbs := by
      rw [← Int.natAbs_mul, Int.mul_comm b' G, ← h2, Int.natAbs_mul]
      exact Nat.dvd_mul_left _ _
    exact Int.natAbs_dvd_natAbs.mp (Nat.Coprime.dvd_of_dvd_mul_left hc k)
  obtain ⟨q, hq⟩ := hd
  refine ⟨_, a', b', q, rfl, by omega, ha, hb, a'0, hq, ?_⟩
  refine Int.eq_of_mul_eq_mul_left a'0 ?_
  rw [Int.mul_comm a' u, h2, hq, Int.mul_assoc]
/-! UNITS BY THE LOWEST GEAR -/
theorem Reach.trans {S : Ab} {a b c : Int} (h : Reach S a b) (k : Reach S b c) : Reach S a c := fun M hM hc => k M (h M hM hc) hc
theorem Reach.symm {S : Ab} {d x : Int} (hG : Good S) (h : Reach S d x) : Reach S x d :=
  h (fun z => Reach S z d) (Reach.refl S d) (fun a b a0 a1 b0 b1 hM hj => by
    have k := hG.2.2.2.1 a b a0 a1 b0 b1
    have hj2 : S (92 + 10 * b + a) ≠ 0 := by rw [← k.1]; exact hj
    exact ((Reach.refl S b).step b0 b1 a0 a1 hj2).trans hM)
theorem tu_nz {S : Ab} {d x : Int} (hG : Good S) (d0 : 0 ≤ d) (d1 : d < S 0) (x0 : 0 ≤ x) (x1 : x < 10) : TU S d x ≠ 0 ↔ Reach S d x := (tu_is hG d0 d1).iff x0 x1
/-- from another gear of the train: the same ratio -/
theorem tu_rat {S : Ab} {d x y : Int} (hG : Good S) (d0 : 0 ≤ d) (d1 : d < S 0) (x0 : 0 ≤ x) (x1 : x < S 0) (y0 : 0 ≤ y) (y1 : y < S 0) (hx : TU S d x ≠ 0) (hy : TU S d y ≠ 0) : TU S d y * TU S y d = TU S x d * 0 + 24883200000 * 24883200000 ∧ TU S d y * TU S x d = 24883200000 * TU S x y := by
  have hg := hG.1
  obtain ⟨P, hP⟩ := hG.2.2.2.2.2.2
  have rx := (tu_nz hG d0 d1 x0 (by omega)).mp hx
  have ry := (tu_nz hG d0 d1 y0 (by omega)).mp hy
  have e1 := ((tu_is hG d0 d1 y y0 (by omega)).1 ry).2 P hP
  have e2 := ((tu_is hG y0 y1 d d0 (by omega)).1 (ry.symm hG)).2 P hP
  have e3 := ((tu_is hG x0 x1 d d0 (by omega)).1 (rx.symm hG)).2 P hP
  have e4 := ((tu_is hG x0 x1 y y0 (by omega)).1 ((rx.symm hG).trans ry)).2 P hP
  have pd := (hP d d0 (by omega)).1
  have px := (hP x x0 (by omega)).1
  have py := (hP y y0 (by omega)).1
  constructor
  · rw [Int.mul_zero, Int.zero_add]
    refine Int.eq_of_mul_eq_mul_right py ?_
    rw [Int.mul_assoc, e2, ← Int.mul_assoc, Int.mul_comm _ 24883200000, Int.mul_assoc, e1, Int.mul_assoc]
  · refine Int.eq_of_mul_eq_mul_right px ?_
    rw [Int.mul_assoc, e3, ← Int.mul_assoc, Int.mul_comm _ 24883200000, Int.mul_assoc, e1, Int.mul_assoc, e4]
theorem s_chain {w : Wd} {S : Ab} (hG : Good S) (h : CSt w 1 S) {x y : Int} (q : 0 ≤ x ∧ x < S 0) (q2 : 0 ≤ y ∧ y < S 0) : ∃ w', f_X10_unitsByChain w (jI x) (jI y) = some (jL (TU S x y), w') ∧ Sm KT w w' ∧ CSt w' 1 S := by
  have hg := hG.1
  obtain ⟨w3, m, e3, s3, t3, c3⟩ := s_trace hG h q.1 q.2
  refine ⟨w3, ?_, s3, c3⟩
  unfold f_X10_unitsByChain
  simp (disch := omega) only [l32_0, l32_1, l32_2, l32_3, l32_4, l32_5, l32_6, l32_7, l32_8, l32_9, l32_10, l32_11, l32_12, l32_13, l32_14, l32_15, l32_16, l32_17, l32_18, l32_19, l32_20, l32_21, l32_22, l32_23, l32_24, l32_25, l32_26, l32_27, l32_28, l32_29, l32_30, l32_31, l32_32, l32_33, l32_34, l32_35, l32_36, l32_37, l32_38, l32_39, l32_40, l32_41, l32_42, l32_43, l32_44, l32_45, l32_46, l32_47, l32_48, l32_49, l32_50, l32_51, l32_52, l32_53, l32_54, l32_55, l32_56, l32_57, l32_58, l32_59, l32_60, l32_61, l32_62, l32_63, l32_64, l32_65, l32_66, l32_76, l32_86, l32_90, l32_92, l32_97, l32_98, l32_99, l32_100, l32_101, l32_102, l32_103, l32_104, l32_105, l32_106, l32_107, l32_108, l32_109, l32_110, l32_111, l32_112, l32_113, l32_114, l32_115, l32_116, l32_117, l32_118, l32_119, l32_120, l32_121, l32_122, l32_123, l32_124, l32_125, l32_126, l32_192, l32_200, l32_255, l32_999, l32_1000, l32_1344, l32_2147483639, l32_2147483647, l64_0, l64_1, l64_99, l64_999, l64_24883200000, l64_746496000000, jI_add, jI_sub, jI_mul, jI_neg, jL_add, jL_sub, jL_mul, jL_neg, jL_toI, jI_toL, jI_eqT, jI_eqF, jI_ltT, jI_ltF, jI_leT, jI_leF, jL_eqT, jL_eqF, jL_ltT, jL_ltF, jL_leT, jL_leF, inR_T, inR_F, bZ_T, bZ_F, not_true_eq_false, not_false_eq_true, jI_clamp, nI_j, bs_p, wl_p, u2_p, u3_p, u4_p, u5_p, zl_p, zr_p, mn_p, ms_p, if_pos, if_neg, ite_true, ite_false, e3, t3.1]
theorem s_lowest {w : Wd} {S : Ab} (hG : Good S) (h : CSt w 1 S) {x y : Int} (q : 0 ≤ x ∧ x < S 0) (q2 : 0 ≤ y ∧ y < S 0) (hz : TU S x y ≠ 0) : ∃ w', f_X10_unitsByLowest w (jI x) (jI y) = some (jL (TU S x y), w') ∧ Sm KT w w' ∧ CSt w' 1 S := by
  have hg := hG.1
  obtain ⟨w3, m, e3, s3, t3, c3⟩ := s_trace hG h q.1 q.2
  obtain ⟨r, er, fr⟩ := s_lowestGear t3 (tu_b hG q.1 q.2)
  have hr : 0 ≤ r ∧ r < 10 ∧ TU S x r ≠ 0 := by
    rcases fr with ⟨r0, r1, r2, -⟩ | ⟨-, r2⟩
    · exact ⟨r0, r1, r2⟩
    · exact absurd hz (r2 y q2.1 (by omega))
  have r1 : r < S 0 := by
    refine Decidable.byContradiction fun z => hr.2.2 (tu_out hG q.1 q.2 r hr.1 hr.2.1 (by omega))
  obtain ⟨w8, m8, e8, s8, t8, c8⟩ := s_trace hG c3 hr.1 r1
  have hx0 : TU S r x ≠ 0 := (tu_nz hG hr.1 r1 q.1 (by omega)).mpr (((tu_nz hG q.1 q.2 hr.1 hr.2.1).mp hr.2.2).symm hG)
  have k := (tu_rat hG q.1 q.2 hr.1 r1 q2.1 q2.2 hr.2.2 hz).2
  have bx := tu_b hG hr.1 r1 x q.1 (by omega)
  have by' := tu_b hG hr.1 r1 y q2.1 (by omega)
  have ax := t8.1 x q.1 (by omega)
  have ay := t8.1 y q2.1 (by omega)
  obtain ⟨g, a', b', qq, eg, g0, ea, eb, a0, eG, eu⟩ := cop hx0 k
  have eg2 := s_gcd (a := TU S r x) (b := TU S r y) (by omega) (by omega) (by omega) (by omega)
  rw [← eg] at eg2
  have na : (TU S r x).natAbs = g.natAbs * a'.natAbs := by rw [ea, Int.natAbs_mul]
  have na2 : 1 * a'.natAbs ≤ g.natAbs * a'.natAbs := Nat.mul_le_mul_right _ (by omega)
  have na3 : g.natAbs * 1 ≤ g.natAbs * a'.natAbs := Nat.mul_le_mul_left _ (by omega)
  have f1 : f_X4_quotient (jL (TU S r y)) (jL g) = some (jL b') := by
    rw [eb] at by' ⊢
    exact s_quot_ex (by omega) (by omega) (by omega) (by omega) (by omega)
  have f2 : f_X4_quotient (jL (TU S r x)) (jL g) = some (jL a') := by
    rw [ea] at bx ⊢
    exact s_quot_ex (by omega) (by omega) (by omega) (by omega) (by omega)
  have f3 : f_X4_quotient (jL 24883200000) (jL a') = some (jL qq) := by
    have e5 : (jL 24883200000) = jL (a' * qq) := by rw [← eG]
    rw [e5]
    exact s_quot_ex (by omega) (by omega) a0 (by omega) (by omega)
  refine ⟨w8, ?_, s3.tr s8, c8⟩
  generalize TU S r x = A at *
  generalize TU S r y = B at *
  unfold f_X10_unitsByLowest
  simp (disch := omega) only [l32_0, l32_1, l32_2, l32_3, l32_4, l32_5, l32_6, l32_7, l32_8, l32_9, l32_10, l32_11, l32_12, l32_13, l32_14, l32_15, l32_16, l32_17, l32_18, l32_19, l32_20, l32_21, l32_22, l32_23, l32_24, l32_25, l32_26, l32_27, l32_28, l32_29, l32_30, l32_31, l32_32, l32_33, l32_34, l32_35, l32_36, l32_37, l32_38, l32_39, l32_40, l32_41, l32_42, l32_43, l32_44, l32_45, l32_46, l32_47, l32_48, l32_49, l32_50, l32_51, l32_52, l32_53, l32_54, l32_55, l32_56, l32_57, l32_58, l32_59, l32_60, l32_61, l32_62, l32_63, l32_64, l32_65, l32_66, l32_76, l32_86, l32_90, l32_92, l32_97, l32_98, l32_99, l32_100, l32_101, l32_102, l32_103, l32_104, l32_105, l32_106, l32_107, l32_108, l32_109, l32_110, l32_111, l32_112, l32_113, l32_114, l32_115, l32_116, l32_117, l32_118, l32_119, l32_120, l32_121, l32_122, l32_123, l32_124, l32_125, l32_126, l32_192, l32_200, l32_255, l32_999, l32_1000, l32_1344, l32_2147483639, l32_2147483647, l64_0, l64_1, l64_99, l64_999, l64_24883200000, l64_746496000000, jI_add, jI_sub, jI_mul, jI_neg, jL_add, jL_sub, jL_mul, jL_neg, jL_toI, jI_toL, jI_eqT, jI_eqF, jI_ltT, jI_ltF, jI_leT, jI_leF, jL_eqT, jL_eqF, jL_ltT, jL_ltF, jL_leT, jL_leF, inR_T, inR_F, bZ_T, bZ_F, not_true_eq_false, not_false_eq_true, jI_clamp, nI_j, bs_p, wl_p, u2_p, u3_p, u4_p, u5_p, zl_p, zr_p, mn_p, ms_p, if_pos, if_neg, ite_true, ite_false, e3, er, e8, ax, ay, eg2, f1, f2, f3]
  rw [eu]
