/-! THE ROADS through the class's join -/
theorem m32_1 : (-1 : Int32) = jI (-1) := rfl
theorem i10 : (jI 1 = (0 : Int32)) = False := eq_false (by decide +kernel)
section
variable {w w1 w2 w3 w5 : Wd} {X Y K r12 r17 r67 j : Int32} {uu : Int64}
theorem j_bad (A : f_X7_isGear w X = some (jI 1)) (B : f_X7_isGear w Y = some (jI 1)) (N : ¬ X = Y) (T1 : f_X8_trace w Y = some w1) (G1 : f_X8_springGear w1 = some r12) (T2 : f_X8_trace w1 X = some w2) (H : f_X8_holds w2 Y = some r17) (G2 : f_X8_springGear w2 = some r67) (J : f_X7_jointOf w2 X Y = some j) (h : ¬ j = 0 ∨ (15 : Int32) ≤ gI w2 1 11 ∨ (r17 = 0 ∧ ¬ r12 = (-1 : Int32) ∧ ¬ r67 = (-1 : Int32))) : f_X1_join w X Y K = some ((-3 : Int32), w2) := by
  unfold f_X1_join
  simp only [A, B, N, T1, G1, T2, H, bs_p, i10, ite_false]
  by_cases c1 : r17 = 0
  · by_cases c2 : r12 = (-1 : Int32)
    · by_cases c4 : j = 0
      · by_cases c5 : (15 : Int32) ≤ gI w2 1 11
        · simp only [c1, c2, J, bs_p, c4, c5, ite_true]
        · exact absurd h (fun z => z.elim (fun y => y c4) (fun y => y.elim c5 (fun x => x.2.1 c2)))
      · simp only [c1, c2, J, bs_p, c4, ite_true, ite_false]
    · by_cases c3 : r67 = (-1 : Int32)
      · by_cases c4 : j = 0
        · by_cases c5 : (15 : Int32) ≤ gI w2 1 11
          · simp only [c1, c2, G2, c3, J, bs_p, c4, c5, ite_true, ite_false]
          · exact absurd h (fun z => z.elim (fun y => y c4) (fun y => y.elim c5 (fun x => x.2.2 c3)))
        · simp only [c1, c2, G2, c3, J, bs_p, c4, ite_true, ite_false]
      · by_cases c4 : j = 0
        · by_cases c5 : (15 : Int32) ≤ gI w2 1 11
          · simp only [c1, c2, G2, c3, J, bs_p, c4, c5, ite_true, ite_false]
          · simp only [c1, c2, G2, c3, J, bs_p, c4, c5, ite_true, ite_false]
        · simp only [c1, c2, G2, c3, J, bs_p, c4, ite_true, ite_false]
  · by_cases c4 : j = 0
    · by_cases c5 : (15 : Int32) ≤ gI w2 1 11
      · simp only [c1, J, bs_p, c4, c5, ite_true, ite_false]
      · exact absurd h (fun z => z.elim (fun y => y c4) (fun y => y.elim c5 (fun x => c1 x.1)))
    · simp only [c1, J, bs_p, c4, ite_false]
theorem j_put (A : f_X7_isGear w X = some (jI 1)) (B : f_X7_isGear w Y = some (jI 1)) (N : ¬ X = Y) (T1 : f_X8_trace w Y = some w1) (G1 : f_X8_springGear w1 = some r12) (T2 : f_X8_trace w1 X = some w2) (H : f_X8_holds w2 Y = some r17) (G2 : f_X8_springGear w2 = some r67) (J : f_X7_jointOf w2 X Y = some j) (c4 : j = 0) (c5 : ¬ (15 : Int32) ≤ gI w2 1 11) (c1 : r17 = 0) (c2 : r12 = (-1 : Int32) ∨ r67 = (-1 : Int32)) (P : f_X7_putJoint w2 X Y K = some w3) (T3 : f_X8_trace (uI w3 1 11 (gI w3 1 11 + (1 : Int32))) X = some w5) : f_X1_join w X Y K = some (gI w5 124 2, w5) := by
  unfold f_X1_join
  simp only [A, B, N, T1, G1, T2, H, bs_p, i10, ite_false]
  by_cases c3 : r12 = (-1 : Int32)
  · simp only [c1, c3, J, bs_p, c4, c5, P, wl_p, T3, ite_true, ite_false]
  · have c6 := c2.resolve_left c3
    simp only [c1, c3, G2, c6, J, bs_p, c4, c5, P, wl_p, T3, ite_true, ite_false]
theorem j_put2 (A : f_X7_isGear w X = some (jI 1)) (B : f_X7_isGear w Y = some (jI 1)) (N : ¬ X = Y) (T1 : f_X8_trace w Y = some w1) (G1 : f_X8_springGear w1 = some r12) (T2 : f_X8_trace w1 X = some w2) (H : f_X8_holds w2 Y = some r17) (J : f_X7_jointOf w2 X Y = some j) (c4 : j = 0) (c5 : ¬ (15 : Int32) ≤ gI w2 1 11) (c1 : ¬ r17 = 0) (c6 : inR Y 10 = true) (U : f_X7_unitsBehind w2 (24883200000 : Int64) X Y K = some uu) (c7 : gL w2 125 (Y).toNatClampNeg = uu) (P : f_X7_putJoint w2 X Y K = some w3) (T3 : f_X8_trace (uI w3 1 11 (gI w3 1 11 + (1 : Int32))) X = some w5) : f_X1_join w X Y K = some (gI w5 124 2, w5) := by
  unfold f_X1_join
  simp only [A, B, N, T1, G1, T2, H, bs_p, i10, ite_false, c1, J, c4, c5, c6, U, c7, P, wl_p, T3, ite_true]
theorem j_no (A : f_X7_isGear w X = some (jI 1)) (B : f_X7_isGear w Y = some (jI 1)) (N : ¬ X = Y) (T1 : f_X8_trace w Y = some w1) (G1 : f_X8_springGear w1 = some r12) (T2 : f_X8_trace w1 X = some w2) (H : f_X8_holds w2 Y = some r17) (J : f_X7_jointOf w2 X Y = some j) (c4 : j = 0) (c5 : ¬ (15 : Int32) ≤ gI w2 1 11) (c1 : ¬ r17 = 0) (c6 : inR Y 10 = true) (U : f_X7_unitsBehind w2 (24883200000 : Int64) X Y K = some uu) (c7 : ¬ gL w2 125 (Y).toNatClampNeg = uu) : f_X1_join w X Y K = some ((-4 : Int32), w2) := by
  unfold f_X1_join
  simp only [A, B, N, T1, G1, T2, H, bs_p, i10, ite_false, c1, J, c4, c5, c6, U, c7, ite_true]
end
/-! THE ROADS through the reference's join -/
section
variable {w w2 w3 w5 : Wd} {X Y K j q r m : Int32}
theorem jr_b1 (A : f_X11_areGears w X Y = some (jI 1)) (N : ¬ X = Y) (J : f_X11_jointOf w X Y = some j) (c4 : ¬ j = 0) : f_X11_joins w X Y K = some (jI 0, uI w 141 12 (3 : Int32)) := by
  unfold f_X11_joins
  simp only [A, N, J, bs_p, i10, ite_false, c4, s_fails, u2_p]
theorem jr_b2 (A : f_X11_areGears w X Y = some (jI 1)) (N : ¬ X = Y) (J : f_X11_jointOf w X Y = some j) (c4 : j = 0) (Q : f_X11_joints w = some q) (c5 : q = (15 : Int32)) : f_X11_joins w X Y K = some (jI 0, uI w 141 12 (3 : Int32)) := by
  unfold f_X11_joins
  simp only [A, N, J, Q, bs_p, i10, ite_false, ite_true, c4, c5, s_fails, u2_p]
theorem jr_b3 (A : f_X11_areGears w X Y = some (jI 1)) (N : ¬ X = Y) (J : f_X11_jointOf w X Y = some j) (c4 : j = 0) (Q : f_X11_joints w = some q) (c5 : ¬ q = (15 : Int32)) (V : f_X11_haveSprings w X Y = some (r, w2)) (c6 : ¬ r = 0) : f_X11_joins w X Y K = some (jI 0, uI w2 141 12 (3 : Int32)) := by
  unfold f_X11_joins
  simp only [A, N, J, Q, V, bs_p, i10, ite_false, ite_true, c4, c5, c6, s_fails, u2_p]
theorem jr_a (A : f_X11_areGears w X Y = some (jI 1)) (N : ¬ X = Y) (J : f_X11_jointOf w X Y = some j) (c4 : j = 0) (Q : f_X11_joints w = some q) (c5 : ¬ q = (15 : Int32)) (V : f_X11_haveSprings w X Y = some (r, w2)) (c6 : r = 0) (k2 : K = (2 : Int32)) (T1 : f_X11_turns w2 X = some w3) (I : inR Y 10 = true) (c1 : gI w3 149 (Y).toNatClampNeg = 0 ∨ gL w3 148 (Y).toNatClampNeg = (24883200000 : Int64)) (I1 : inR (((92 : Int32) + ((10 : Int32) * X)) + Y) 192 = true) (I2 : inR (((92 : Int32) + ((10 : Int32) * Y)) + X) 192 = true) (T2 : f_X11_turns (uL (uL w3 142 ((((92 : Int32) + ((10 : Int32) * X)) + Y)).toNatClampNeg (K).toInt64) 142 ((((92 : Int32) + ((10 : Int32) * Y)) + X)).toNatClampNeg (K).toInt64) X = some w5) (M : f_X11_members w5 = some m) : f_X11_joins w X Y K = some (m, uI w5 141 12 (jI 0)) := by
  unfold f_X11_joins
  rw [k2] at T2
  by_cases c2 : gI w3 149 (Y).toNatClampNeg = 0
  · simp only [A, N, J, Q, V, bs_p, i10, ite_false, ite_true, c4, c5, c6, k2, T1, I, c2, I1, I2, wl_p, T2, M, s_done, u2_p]
  · have c3 := c1.resolve_left c2
    simp only [A, N, J, Q, V, bs_p, i10, ite_false, ite_true, c4, c5, c6, k2, T1, I, c2, c3, I1, I2, wl_p, T2, M, s_done, u2_p]
theorem jr_an (A : f_X11_areGears w X Y = some (jI 1)) (N : ¬ X = Y) (J : f_X11_jointOf w X Y = some j) (c4 : j = 0) (Q : f_X11_joints w = some q) (c5 : ¬ q = (15 : Int32)) (V : f_X11_haveSprings w X Y = some (r, w2)) (c6 : r = 0) (k2 : K = (2 : Int32)) (T1 : f_X11_turns w2 X = some w3) (I : inR Y 10 = true) (c1 : ¬ gI w3 149 (Y).toNatClampNeg = 0) (c2 : ¬ gL w3 148 (Y).toNatClampNeg = (24883200000 : Int64)) : f_X11_joins w X Y K = some (jI 0, uI w3 141 12 (4 : Int32)) := by
  unfold f_X11_joins
  simp only [A, N, J, Q, V, bs_p, i10, ite_false, ite_true, c4, c5, c6, k2, T1, I, c1, c2, s_fails, u2_p]
theorem jr_m (A : f_X11_areGears w X Y = some (jI 1)) (N : ¬ X = Y) (J : f_X11_jointOf w X Y = some j) (c4 : j = 0) (Q : f_X11_joints w = some q) (c5 : ¬ q = (15 : Int32)) (V : f_X11_haveSprings w X Y = some (r, w2)) (c6 : r = 0) (k2 : ¬ K = (2 : Int32)) (I3 : inR ((6 : Int32) + X) 192 = true) (I4 : inR ((6 : Int32) + Y) 192 = true) (c7 : ¬ gL w2 142 (((6 : Int32) + Y)).toNatClampNeg = 0) (T1 : f_X11_turns w2 X = some w3) (I : inR Y 10 = true) (c1 : gI w3 149 (Y).toNatClampNeg = 0 ∨ gL w3 148 (Y).toNatClampNeg = (((-24883200000 : Int64) * (gL w2 142 (((6 : Int32) + X)).toNatClampNeg)) / (gL w2 142 (((6 : Int32) + Y)).toNatClampNeg))) (I1 : inR (((92 : Int32) + ((10 : Int32) * X)) + Y) 192 = true) (I2 : inR (((92 : Int32) + ((10 : Int32) * Y)) + X) 192 = true) (T2 : f_X11_turns (uL (uL w3 142 ((((92 : Int32) + ((10 : Int32) * X)) + Y)).toNatClampNeg (K).toInt64) 142 ((((92 : Int32) + ((10 : Int32) * Y)) + X)).toNatClampNeg (K).toInt64) X = some w5) (M : f_X11_members w5 = some m) : f_X11_joins w X Y K = some (m, uI w5 141 12 (jI 0)) := by
  unfold f_X11_joins
  by_cases c2 : gI w3 149 (Y).toNatClampNeg = 0
  · simp only [A, N, J, Q, V, bs_p, i10, ite_false, ite_true, c4, c5, c6, k2, I3, I4, c7, not_false_eq_true, T1, I, c2, I1, I2, wl_p, T2, M, s_done, u2_p]
  · have c3 := c1.resolve_left c2
    simp only [A, N, J, Q, V, bs_p, i10, ite_false, ite_true, c4, c5, c6, k2, I3, I4, c7, not_false_eq_true, T1, I, c2, c3, I1, I2, wl_p, T2, M, s_done, u2_p]
theorem jr_mn (A : f_X11_areGears w X Y = some (jI 1)) (N : ¬ X = Y) (J : f_X11_jointOf w X Y = some j) (c4 : j = 0) (Q : f_X11_joints w = some q) (c5 : ¬ q = (15 : Int32)) (V : f_X11_haveSprings w X Y = some (r, w2)) (c6 : r = 0) (k2 : ¬ K = (2 : Int32)) (I3 : inR ((6 : Int32) + X) 192 = true) (I4 : inR ((6 : Int32) + Y) 192 = true) (c7 : ¬ gL w2 142 (((6 : Int32) + Y)).toNatClampNeg = 0) (T1 : f_X11_turns w2 X = some w3) (I : inR Y 10 = true) (c1 : ¬ gI w3 149 (Y).toNatClampNeg = 0) (c2 : ¬ gL w3 148 (Y).toNatClampNeg = (((-24883200000 : Int64) * (gL w2 142 (((6 : Int32) + X)).toNatClampNeg)) / (gL w2 142 (((6 : Int32) + Y)).toNatClampNeg))) : f_X11_joins w X Y K = some (jI 0, uI w3 141 12 (4 : Int32)) := by
  unfold f_X11_joins
  simp only [A, N, J, Q, V, bs_p, i10, ite_false, ite_true, c4, c5, c6, k2, I3, I4, c7, not_false_eq_true, T1, I, c1, c2, s_fails, u2_p]
end
section
variable {w : Wd} {X Y K : Int32}
theorem j_g1 (A : f_X7_isGear w X = some (jI 0)) : f_X1_join w X Y K = some ((-1 : Int32), w) := by
  unfold f_X1_join
  rw [A]
  rfl
theorem j_g2 (A : f_X7_isGear w X = some (jI 1)) (B : f_X7_isGear w Y = some (jI 0)) : f_X1_join w X Y K = some ((-1 : Int32), w) := by
  unfold f_X1_join
  rw [A]
  rw [bs_p, if_neg (show ¬ jI 1 = (0 : Int32) by decide +kernel), B]
  rfl
theorem jr_g (A : f_X11_areGears w X Y = some (jI 0)) : f_X11_joins w X Y K = some (jI 0, uI w 141 12 (1 : Int32)) := by
  unfold f_X11_joins
  rw [A]
  rfl
end
