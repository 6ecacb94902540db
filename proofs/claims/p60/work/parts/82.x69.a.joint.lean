/-! the read that was wanting: a joint's kind -/
theorem rjo {w : Wd} {S : Ab} (h : RSt w 142 0 S) {a b : Int} (a0 : 0 ≤ a) (a1 : a < 10) (b0 : 0 ≤ b) (b1 : b < 10) : f_X11_jointOf w (jI a) (jI b) = some (jI (S (92 + 10 * a + b))) := by
  unfold f_X11_jointOf
  rw [l32_92, l32_10, jI_mul, jI_add, jI_add, s_at h (by omega) (by omega)]
  rfl
theorem lq_joint {w : Wd} (h : Inv w) (x1 x2 x3 : Int32) : ∃ w1, f_law_1143 w x1 x2 x3 = some w1 ∧ Inv w1 := by
  obtain ⟨T, hG, hC, hR⟩ := h
  obtain ⟨x, rfl, xb1, xb2⟩ := jI_ex x1
  obtain ⟨y, rfl, yb1, yb2⟩ := jI_ex x2
  have hg := hG.1.1
  have hS := hG.1
  have c1 := hC.1
  unfold f_law_1143
  by_cases q : (0 ≤ x ∧ x < tS T 0) ∧ 0 ≤ y ∧ y < tS T 0
  · obtain ⟨q1, q2⟩ := q
    have gj := (hS.2.2.2.1 x y q1.1 (by omega) q2.1 (by omega)).2.1
    have cj := s_jointOf c1 q1.1 (show x < 10 by omega) q2.1 (show y < 10 by omega)
    have jb := jk_b (tS T (92 + 10 * x + y))
    by_cases z : tS T (92 + 10 * x + y) = 0
    · refine lawQI (c := 2) (v := 0) hG hC hR (by decide) (by decide) ⟨by decide, by decide⟩ ?_ (fun w' hR' => ?_)
      · refine LQ.err (Sm.refl w) (by decide) ?_
        unfold f_L_joint f_X10_joint
        rw [cg_T c1 hS q1, bs_p, zr_p, cg_T c1 hS q2, bs_p, zr_p, cj, bs_p, z, if_pos (show jI (jk 0) = 0 from rfl)]
        rfl
      · refine RQ.errU (Sm.refl w') (by decide) ?_
        unfold f_X11_joint
        rw [s_rAreGears hR'.1 hS xb1 xb2 yb1 yb2, bs_p, if_neg (bz_n ⟨q1, q2⟩), rjo hR'.1 q1.1 (by omega) q2.1 (by omega), bs_p, z, if_pos (show jI 0 = 0 from rfl), wl_p, if_neg (by rw [gI_uI, if_pos ⟨rfl, rfl⟩]; decide +kernel)]
        rfl
    · have e2 : jI (if tS T (92 + 10 * x + y) = 1 then (109 : Int) else 97) = jI (jk (tS T (92 + 10 * x + y))) := by
        unfold jk
        rw [if_neg z]
      refine lawQI (c := 0) (v := jk (tS T (92 + 10 * x + y))) hG hC hR (by decide) (by decide) ⟨by omega, by omega⟩ ?_ (fun w' hR' => ?_)
      · refine LQ.val (Sm.refl w) ?_
        have jn : ¬ jI (jk (tS T (92 + 10 * x + y))) = 0 := by
          rw [show (0 : Int32) = jI 0 from rfl, jI_eq (by omega) (by omega) (by omega) (by omega)]
          exact fun u => z (jk_0.mp u)
        unfold f_L_joint f_X10_joint
        rw [cg_T c1 hS q1, bs_p, zr_p, cg_T c1 hS q2, bs_p, zr_p, cj, bs_p, if_neg jn, jk_nar, bs_p, zr_p, if_pos (show inR (0 : Int32) 1 = true by decide +kernel), wl_p, jI_toL (by omega) (by omega)]
        rfl
      · refine RQ.valU (Sm.refl w') ?_
        have r0 := rjo hR'.1 q1.1 (show x < 10 by omega) q2.1 (show y < 10 by omega)
        have r1 : f_X11_jointOf (uI w' 141 12 (0 : Int32)) (jI x) (jI y) = some (jI (tS T (92 + 10 * x + y))) := rjo (u12 (v := jI 0) hR'.1) q1.1 (by omega) q2.1 (by omega)
        unfold f_X11_joint
        rw [s_rAreGears hR'.1 hS xb1 xb2 yb1 yb2, bs_p, if_neg (bz_n ⟨q1, q2⟩), r0, bs_p, if_neg (by rw [show (0 : Int32) = jI 0 from rfl, jI_eq (by omega) (by omega) (by omega) (by omega)]; exact z), wl_p, if_pos (by rw [gI_uI, if_pos ⟨rfl, rfl⟩]; decide +kernel), r1, bs_p]
        rcases gj with k | k | k
        · exact absurd k z
        · rw [k, if_pos (show jI 1 = 1 from rfl)]
          rfl
        · rw [k, if_neg (show ¬ jI 2 = 1 by decide +kernel)]
          rfl
  · refine lawQI (c := 1) (v := 0) hG hC hR (by decide) (by decide) ⟨by decide, by decide⟩ ?_ (fun w' hR' => ?_)
    · refine LQ.err (Sm.refl w) (by decide) ?_
      unfold f_L_joint f_X10_joint
      by_cases q1 : 0 ≤ x ∧ x < tS T 0
      · rw [cg_T c1 hS q1, bs_p, zr_p, cg_F c1 hS yb1 yb2 (fun u => q ⟨q1, u⟩)]
        rfl
      · rw [cg_F c1 hS xb1 xb2 q1]
        rfl
    · refine RQ.errU (Sm.refl w') (by decide) ?_
      unfold f_X11_joint
      rw [s_rAreGears hR'.1 hS xb1 xb2 yb1 yb2, bs_p, if_pos (bz_z q), wl_p, if_neg (by rw [gI_uI, if_pos ⟨rfl, rfl⟩]; decide +kernel)]
      rfl
