/-! THE ROADS through a release -/
section
variable {w w1 w2 w3 w4 : Wd} {X K r r16 k q : Int32} {r19 : Int64}
theorem lg_0 (A : f_X7_isGear w X = some (jI 0)) : f_X1_letGo w X K = some ((-1 : Int32), w) := by
  unfold f_X1_letGo
  rw [A]
  rfl
theorem lg_1 (A : f_X7_isGear w X = some (jI 1)) (h : K < (1 : Int32) ∨ ¬ K ≤ (50 : Int32)) : f_X1_letGo w X K = some ((-2 : Int32), w) := by
  unfold f_X1_letGo
  rw [A]
  rw [bs_p, if_neg (show ¬ jI 1 = (0 : Int32) by decide +kernel)]
  by_cases c : K < (1 : Int32)
  · rw [if_pos c]
  · rw [if_neg c, if_neg (h.resolve_left c)]
theorem lg_5 (A : f_X7_isGear w X = some (jI 1)) (h1 : ¬ K < (1 : Int32)) (h2 : K ≤ (50 : Int32)) (B : f_X7_hasSpring w X = some (jI 0)) : f_X1_letGo w X K = some ((-5 : Int32), w) := by
  unfold f_X1_letGo
  rw [A]
  rw [bs_p, if_neg (show ¬ jI 1 = (0 : Int32) by decide +kernel), if_neg h1, if_pos h2, B]
  rfl
theorem lg_4 (A : f_X7_isGear w X = some (jI 1)) (h1 : ¬ K < (1 : Int32)) (h2 : K ≤ (50 : Int32)) (B : f_X7_hasSpring w X = some (jI 1)) (T : f_X8_trace w X = some w1) (L : f_X8_isBlocked w1 X = some (jI 1)) : f_X1_letGo w X K = some ((-4 : Int32), w1) := by
  unfold f_X1_letGo
  simp only [A, B, T, L, bs_p, i10, h1, h2, ite_true, ite_false]
theorem lg_z (A : f_X7_isGear w X = some (jI 1)) (h1 : ¬ K < (1 : Int32)) (h2 : K ≤ (50 : Int32)) (B : f_X7_hasSpring w X = some (jI 1)) (T : f_X8_trace w X = some w1) (L : f_X8_isBlocked w1 X = some (jI 0)) (D : f_X8_drag w1 = some r16) (I : inR X 10 = true) (Q : f_X4_quotient (gI w1 8 (X).toNatClampNeg).toInt64 (r16).toInt64 = some r19) (M : (if (r19).toInt32 < K then (r19).toInt32 else K) = k) (h : k ≤ 0) : f_X1_letGo w X K = some (k, w1) := by
  unfold f_X1_letGo
  have L0 : (jI 0 = (0 : Int32)) = True := eq_true rfl
  simp only [A, B, T, L, L0, D, I, Q, M, bs_p, i10, h1, h2, h, ite_true, ite_false]
theorem lg_p (A : f_X7_isGear w X = some (jI 1)) (h1 : ¬ K < (1 : Int32)) (h2 : K ≤ (50 : Int32)) (B : f_X7_hasSpring w X = some (jI 1)) (T : f_X8_trace w X = some w1) (L : f_X8_isBlocked w1 X = some (jI 0)) (D : f_X8_drag w1 = some r16) (I : inR X 10 = true) (Q : f_X4_quotient (gI w1 8 (X).toNatClampNeg).toInt64 (r16).toInt64 = some r19) (M : (if (r19).toInt32 < K then (r19).toInt32 else K) = k) (h : ¬ k ≤ 0)
    (W2 : uI (uI (uI w1 8 (X).toNatClampNeg (gI w1 8 (X).toNatClampNeg - r16 * k)) 1 15 (gI (uI w1 8 (X).toNatClampNeg (gI w1 8 (X).toNatClampNeg - r16 * k)) 1 15 + r16 * k)) 1 16 (gI (uI (uI w1 8 (X).toNatClampNeg (gI w1 8 (X).toNatClampNeg - r16 * k)) 1 15 (gI (uI w1 8 (X).toNatClampNeg (gI w1 8 (X).toNatClampNeg - r16 * k)) 1 15 + r16 * k)) 1 16 + (1 : Int32)) = w2)
    (V : (gI w2 9 (X).toNatClampNeg = 0 ∧ f_X1_turnTrain w2 k = some w3) ∨ (¬ gI w2 9 (X).toNatClampNeg = 0 ∧ f_X1_turnTrain w2 (-k) = some w3)) (Y : f_X1_dryWornGears w3 = some w4) : f_X1_letGo w X K = some (k, w4) := by
  unfold f_X1_letGo
  have L0 : (jI 0 = (0 : Int32)) = True := eq_true rfl
  rcases V with ⟨v1, v2⟩ | ⟨v1, v2⟩
  · simp only [A, B, T, L, L0, D, I, Q, M, bs_p, i10, h1, h2, h, ite_true, ite_false, wl_p, W2, v1, v2, Y]
  · simp only [A, B, T, L, L0, D, I, Q, M, bs_p, i10, h1, h2, h, ite_true, ite_false, wl_p, W2, v1, v2, Y]
theorem rl_0 (A : f_X11_isGear w X = some (jI 0)) : f_X11_releases w X K = some (jI 0, uI w 141 12 (1 : Int32)) := by
  unfold f_X11_releases
  rw [A]
  rfl
theorem rl_1 (A : f_X11_isGear w X = some (jI 1)) (B : f_X11_in w K (1 : Int32) (50 : Int32) = some (jI 0)) : f_X11_releases w X K = some (jI 0, uI w 141 12 (2 : Int32)) := by
  unfold f_X11_releases
  rw [A]
  rw [bs_p, if_neg (show ¬ jI 1 = (0 : Int32) by decide +kernel), B]
  rfl
theorem rl_3 (A : f_X11_isGear w X = some (jI 1)) (B : f_X11_in w K (1 : Int32) (50 : Int32) = some (jI 1)) (C : f_X11_hasSpring w X = some (jI 0)) : f_X11_releases w X K = some (jI 0, uI w 141 12 (3 : Int32)) := by
  unfold f_X11_releases
  rw [A]
  rw [bs_p, if_neg (show ¬ jI 1 = (0 : Int32) by decide +kernel), B]
  rw [bs_p, if_neg (show ¬ jI 1 = (0 : Int32) by decide +kernel), C]
  rfl
theorem rl_4 (A : f_X11_isGear w X = some (jI 1)) (B : f_X11_in w K (1 : Int32) (50 : Int32) = some (jI 1)) (C : f_X11_hasSpring w X = some (jI 1)) (D : f_X11_rubs w X = some (r16, w1)) (E : f_X11_isHindered w1 X = some (jI 1)) : f_X11_releases w X K = some (jI 0, uI w1 141 12 (4 : Int32)) := by
  unfold f_X11_releases
  simp only [A, B, C, D, E, bs_p, u2_p, i10, ite_false, s_fails]
theorem rl_p (A : f_X11_isGear w X = some (jI 1)) (B : f_X11_in w K (1 : Int32) (50 : Int32) = some (jI 1)) (C : f_X11_hasSpring w X = some (jI 1)) (D : f_X11_rubs w X = some (r16, w1)) (E : f_X11_isHindered w1 X = some (jI 0)) (F : f_X11_at w1 ((36 : Int32) + X) = some q) (f0 : ¬ r16 = 0) (M : ((q / r16) ≤ K ∧ k = q / r16) ∨ (¬ (q / r16) ≤ K ∧ k = K)) (T : f_X11_turnsBy w1 X (k).toInt64 = some w2) (I : inR ((36 : Int32) + X) 192 = true)
    (W3 : uL (uL w2 142 ((36 : Int32) + X).toNatClampNeg (gL w2 142 ((36 : Int32) + X).toNatClampNeg - (r16 * k).toInt64)) 142 ((4 : Int32)).toNatClampNeg (gL (uL w2 142 ((36 : Int32) + X).toNatClampNeg (gL w2 142 ((36 : Int32) + X).toNatClampNeg - (r16 * k).toInt64)) 142 ((4 : Int32)).toNatClampNeg + (r16 * k).toInt64) = w3) {d : Int64} (dd : (k ≤ 0 ∧ d = 0) ∨ (¬ k ≤ 0 ∧ d = 1)) (Y : f_X11_dries (uL w3 142 ((5 : Int32)).toNatClampNeg (gL w3 142 ((5 : Int32)).toNatClampNeg + d)) = some w4) : f_X11_releases w X K = some (k, uI w4 141 12 (jI 0)) := by
  unfold f_X11_releases
  have L0 : (jI 0 = (0 : Int32)) = True := eq_true rfl
  have I4 : inR (4 : Int32) 192 = true := by decide +kernel
  have I5 : inR (5 : Int32) 192 = true := by decide +kernel
  rcases M with ⟨m1, rfl⟩ | ⟨m1, rfl⟩
  · rcases dd with ⟨d1, rfl⟩ | ⟨d1, rfl⟩
    · simp only [A, B, C, D, E, F, L0, bs_p, u2_p, i10, ite_true, ite_false, f0, not_false_eq_true, m1, T, I, wl_p, W3, I4, I5, d1, Y, s_done]
    · simp only [A, B, C, D, E, F, L0, bs_p, u2_p, i10, ite_true, ite_false, f0, not_false_eq_true, m1, T, I, wl_p, W3, I4, I5, d1, Y, s_done]
  · rcases dd with ⟨d1, rfl⟩ | ⟨d1, rfl⟩
    · simp only [A, B, C, D, E, F, L0, bs_p, u2_p, i10, ite_true, ite_false, f0, not_false_eq_true, m1, T, I, wl_p, W3, I4, I5, d1, Y, s_done]
    · simp only [A, B, C, D, E, F, L0, bs_p, u2_p, i10, ite_true, ite_false, f0, not_false_eq_true, m1, T, I, wl_p, W3, I4, I5, d1, Y, s_done]
end
