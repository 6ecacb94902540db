/-! A NEW JOINT -/
def Sp (S : Ab) (x : Int) : Prop := ∃ i, 0 ≤ i ∧ i < 10 ∧ TU S x i ≠ 0 ∧ 0 < S (26 + i)
def HS (S : Ab) (x y : Int) : Prop := TU S x y = 0 ∧ Sp S y ∧ Sp S x
theorem IsF.none {p : Int → Prop} {n r : Int} (h : IsF p n r) : r = -1 ↔ ¬ ∃ i, 0 ≤ i ∧ i < n ∧ p i := by
  rcases h with h | h
  · exact ⟨fun z => by omega, fun z => absurd ⟨r, h.1, h.2.1, h.2.2.1⟩ z⟩
  · exact ⟨fun _ ⟨i, i0, i1, i2⟩ => h.2 i i0 i1 i2, fun _ => h.1⟩
theorem s_haveSprings {w : Wd} {S : Ab} (hG : Good S) (h : RSt w 142 0 S) {x y : Int} (x0 : 0 ≤ x) (x1 : x < S 0) (y0 : 0 ≤ y) (y1 : y < S 0) : ∃ r w', f_X11_haveSprings w (jI x) (jI y) = some (jI r, w') ∧ Sm KU w w' ∧ RSt w' 142 0 S ∧ ((r = 0 ∧ ¬ HS S x y) ∨ (r = 1 ∧ HS S x y)) := by
  have hg := hG.1
  obtain ⟨w1, hr1, hs1, hR1, h1⟩ := s_rTurns hG h y0 y1
  obtain ⟨r1, hq1, hF1⟩ := s_rSpringIn h1 hG hR1
  obtain ⟨w2, hr2, hs2, hR2, h2⟩ := s_rTurns hG h1 x0 x1
  obtain ⟨r2, hq2, hF2⟩ := s_rSpringIn h2 hG hR2
  have b1 := hF1.b
  have b2 := hF2.b
  have n1 : r1 = -1 ↔ ¬ Sp S y := hF1.none
  have n2 : r2 = -1 ↔ ¬ Sp S x := hF2.none
  by_cases q1 : r1 = -1
  · refine ⟨0, w2, ?_, hs1.tr hs2, h2, Or.inl ⟨rfl, fun z => n1.mp q1 z.2.1⟩⟩
    unfold f_X11_haveSprings
    by_cases q3 : TU S x y = 0
    · simp (disch := omega) only [l32_0, l32_1, l32_2, l32_3, l32_4, l32_5, l32_6, l32_7, l32_8, l32_9, l32_10, l32_11, l32_12, l32_13, l32_14, l32_15, l32_16, l32_17, l32_18, l32_19, l32_20, l32_21, l32_22, l32_23, l32_24, l32_25, l32_26, l32_27, l32_28, l32_29, l32_30, l32_31, l32_32, l32_33, l32_34, l32_35, l32_36, l32_37, l32_38, l32_39, l32_40, l32_41, l32_42, l32_43, l32_44, l32_45, l32_46, l32_47, l32_48, l32_49, l32_50, l32_51, l32_52, l32_53, l32_54, l32_55, l32_56, l32_57, l32_58, l32_59, l32_60, l32_61, l32_62, l32_63, l32_64, l32_65, l32_66, l32_76, l32_86, l32_90, l32_92, l32_97, l32_98, l32_99, l32_100, l32_101, l32_102, l32_103, l32_104, l32_105, l32_106, l32_107, l32_108, l32_109, l32_110, l32_111, l32_112, l32_113, l32_114, l32_115, l32_116, l32_117, l32_118, l32_119, l32_120, l32_121, l32_122, l32_123, l32_124, l32_125, l32_126, l32_192, l32_200, l32_255, l32_999, l32_1000, l32_1344, l32_2147483639, l32_2147483647, l64_0, l64_1, l64_99, l64_999, l64_24883200000, l64_746496000000, jI_add, jI_sub, jI_mul, jI_neg, jL_add, jL_sub, jL_mul, jL_neg, jL_toI, jI_toL, jI_eqT, jI_eqF, jI_ltT, jI_ltF, jI_leT, jI_leF, jL_eqT, jL_eqF, jL_ltT, jL_ltF, jL_leT, jL_leF, inR_T, inR_F, bZ_T, bZ_F, not_true_eq_false, not_false_eq_true, jI_clamp, nI_j, bs_p, wl_p, u2_p, u3_p, u4_p, u5_p, zl_p, zr_p, mn_p, ms_p, if_pos, if_neg, ite_true, ite_false, hr1, hq1, hr2, rt_k hR2]
    · simp (disch := omega) only [l32_0, l32_1, l32_2, l32_3, l32_4, l32_5, l32_6, l32_7, l32_8, l32_9, l32_10, l32_11, l32_12, l32_13, l32_14, l32_15, l32_16, l32_17, l32_18, l32_19, l32_20, l32_21, l32_22, l32_23, l32_24, l32_25, l32_26, l32_27, l32_28, l32_29, l32_30, l32_31, l32_32, l32_33, l32_34, l32_35, l32_36, l32_37, l32_38, l32_39, l32_40, l32_41, l32_42, l32_43, l32_44, l32_45, l32_46, l32_47, l32_48, l32_49, l32_50, l32_51, l32_52, l32_53, l32_54, l32_55, l32_56, l32_57, l32_58, l32_59, l32_60, l32_61, l32_62, l32_63, l32_64, l32_65, l32_66, l32_76, l32_86, l32_90, l32_92, l32_97, l32_98, l32_99, l32_100, l32_101, l32_102, l32_103, l32_104, l32_105, l32_106, l32_107, l32_108, l32_109, l32_110, l32_111, l32_112, l32_113, l32_114, l32_115, l32_116, l32_117, l32_118, l32_119, l32_120, l32_121, l32_122, l32_123, l32_124, l32_125, l32_126, l32_192, l32_200, l32_255, l32_999, l32_1000, l32_1344, l32_2147483639, l32_2147483647, l64_0, l64_1, l64_99, l64_999, l64_24883200000, l64_746496000000, jI_add, jI_sub, jI_mul, jI_neg, jL_add, jL_sub, jL_mul, jL_neg, jL_toI, jI_toL, jI_eqT, jI_eqF, jI_ltT, jI_ltF, jI_leT, jI_leF, jL_eqT, jL_eqF, jL_ltT, jL_ltF, jL_leT, jL_leF, inR_T, inR_F, bZ_T, bZ_F, not_true_eq_false, not_false_eq_true, jI_clamp, nI_j, bs_p, wl_p, u2_p, u3_p, u4_p, u5_p, zl_p, zr_p, mn_p, ms_p, if_pos, if_neg, ite_true, ite_false, hr1, hq1, hr2, rt_k hR2]
  · have e1 : Sp S y := Classical.byContradiction (fun z => q1 (n1.mpr z))
    have f1 : (jI r1 = jI (-1)) = False := jI_eqF q1 (by omega) (by omega) (by omega) (by omega)
    by_cases q3 : TU S x y = 0
    · by_cases q2 : r2 = -1
      · refine ⟨0, w2, ?_, hs1.tr hs2, h2, Or.inl ⟨rfl, fun z => n2.mp q2 z.2.2⟩⟩
        unfold f_X11_haveSprings
        simp (disch := omega) only [l32_0, l32_1, l32_2, l32_3, l32_4, l32_5, l32_6, l32_7, l32_8, l32_9, l32_10, l32_11, l32_12, l32_13, l32_14, l32_15, l32_16, l32_17, l32_18, l32_19, l32_20, l32_21, l32_22, l32_23, l32_24, l32_25, l32_26, l32_27, l32_28, l32_29, l32_30, l32_31, l32_32, l32_33, l32_34, l32_35, l32_36, l32_37, l32_38, l32_39, l32_40, l32_41, l32_42, l32_43, l32_44, l32_45, l32_46, l32_47, l32_48, l32_49, l32_50, l32_51, l32_52, l32_53, l32_54, l32_55, l32_56, l32_57, l32_58, l32_59, l32_60, l32_61, l32_62, l32_63, l32_64, l32_65, l32_66, l32_76, l32_86, l32_90, l32_92, l32_97, l32_98, l32_99, l32_100, l32_101, l32_102, l32_103, l32_104, l32_105, l32_106, l32_107, l32_108, l32_109, l32_110, l32_111, l32_112, l32_113, l32_114, l32_115, l32_116, l32_117, l32_118, l32_119, l32_120, l32_121, l32_122, l32_123, l32_124, l32_125, l32_126, l32_192, l32_200, l32_255, l32_999, l32_1000, l32_1344, l32_2147483639, l32_2147483647, l64_0, l64_1, l64_99, l64_999, l64_24883200000, l64_746496000000, jI_add, jI_sub, jI_mul, jI_neg, jL_add, jL_sub, jL_mul, jL_neg, jL_toI, jI_toL, jI_eqT, jI_eqF, jI_ltT, jI_ltF, jI_leT, jI_leF, jL_eqT, jL_eqF, jL_ltT, jL_ltF, jL_leT, jL_leF, inR_T, inR_F, bZ_T, bZ_F, not_true_eq_false, not_false_eq_true, jI_clamp, nI_j, bs_p, wl_p, u2_p, u3_p, u4_p, u5_p, zl_p, zr_p, mn_p, ms_p, if_pos, if_neg, ite_true, ite_false, hr1, hq1, hr2, rt_k hR2, hq2, f1]
      · have e2 : Sp S x := Classical.byContradiction (fun z => q2 (n2.mpr z))
        refine ⟨1, w2, ?_, hs1.tr hs2, h2, Or.inr ⟨rfl, q3, e1, e2⟩⟩
        unfold f_X11_haveSprings
        simp (disch := omega) only [l32_0, l32_1, l32_2, l32_3, l32_4, l32_5, l32_6, l32_7, l32_8, l32_9, l32_10, l32_11, l32_12, l32_13, l32_14, l32_15, l32_16, l32_17, l32_18, l32_19, l32_20, l32_21, l32_22, l32_23, l32_24, l32_25, l32_26, l32_27, l32_28, l32_29, l32_30, l32_31, l32_32, l32_33, l32_34, l32_35, l32_36, l32_37, l32_38, l32_39, l32_40, l32_41, l32_42, l32_43, l32_44, l32_45, l32_46, l32_47, l32_48, l32_49, l32_50, l32_51, l32_52, l32_53, l32_54, l32_55, l32_56, l32_57, l32_58, l32_59, l32_60, l32_61, l32_62, l32_63, l32_64, l32_65, l32_66, l32_76, l32_86, l32_90, l32_92, l32_97, l32_98, l32_99, l32_100, l32_101, l32_102, l32_103, l32_104, l32_105, l32_106, l32_107, l32_108, l32_109, l32_110, l32_111, l32_112, l32_113, l32_114, l32_115, l32_116, l32_117, l32_118, l32_119, l32_120, l32_121, l32_122, l32_123, l32_124, l32_125, l32_126, l32_192, l32_200, l32_255, l32_999, l32_1000, l32_1344, l32_2147483639, l32_2147483647, l64_0, l64_1, l64_99, l64_999, l64_24883200000, l64_746496000000, jI_add, jI_sub, jI_mul, jI_neg, jL_add, jL_sub, jL_mul, jL_neg, jL_toI, jI_toL, jI_eqT, jI_eqF, jI_ltT, jI_ltF, jI_leT, jI_leF, jL_eqT, jL_eqF, jL_ltT, jL_ltF, jL_leT, jL_leF, inR_T, inR_F, bZ_T, bZ_F, not_true_eq_false, not_false_eq_true, jI_clamp, nI_j, bs_p, wl_p, u2_p, u3_p, u4_p, u5_p, zl_p, zr_p, mn_p, ms_p, if_pos, if_neg, ite_true, ite_false, hr1, hq1, hr2, rt_k hR2, hq2]
    · refine ⟨0, w2, ?_, hs1.tr hs2, h2, Or.inl ⟨rfl, fun z => q3 z.1⟩⟩
      unfold f_X11_haveSprings
      simp (disch := omega) only [l32_0, l32_1, l32_2, l32_3, l32_4, l32_5, l32_6, l32_7, l32_8, l32_9, l32_10, l32_11, l32_12, l32_13, l32_14, l32_15, l32_16, l32_17, l32_18, l32_19, l32_20, l32_21, l32_22, l32_23, l32_24, l32_25, l32_26, l32_27, l32_28, l32_29, l32_30, l32_31, l32_32, l32_33, l32_34, l32_35, l32_36, l32_37, l32_38, l32_39, l32_40, l32_41, l32_42, l32_43, l32_44, l32_45, l32_46, l32_47, l32_48, l32_49, l32_50, l32_51, l32_52, l32_53, l32_54, l32_55, l32_56, l32_57, l32_58, l32_59, l32_60, l32_61, l32_62, l32_63, l32_64, l32_65, l32_66, l32_76, l32_86, l32_90, l32_92, l32_97, l32_98, l32_99, l32_100, l32_101, l32_102, l32_103, l32_104, l32_105, l32_106, l32_107, l32_108, l32_109, l32_110, l32_111, l32_112, l32_113, l32_114, l32_115, l32_116, l32_117, l32_118, l32_119, l32_120, l32_121, l32_122, l32_123, l32_124, l32_125, l32_126, l32_192, l32_200, l32_255, l32_999, l32_1000, l32_1344, l32_2147483639, l32_2147483647, l64_0, l64_1, l64_99, l64_999, l64_24883200000, l64_746496000000, jI_add, jI_sub, jI_mul, jI_neg, jL_add, jL_sub, jL_mul, jL_neg, jL_toI, jI_toL, jI_eqT, jI_eqF, jI_ltT, jI_ltF, jI_leT, jI_leF, jL_eqT, jL_eqF, jL_ltT, jL_ltF, jL_leT, jL_leF, inR_T, inR_F, bZ_T, bZ_F, not_true_eq_false, not_false_eq_true, jI_clamp, nI_j, bs_p, wl_p, u2_p, u3_p, u4_p, u5_p, zl_p, zr_p, mn_p, ms_p, if_pos, if_neg, ite_true, ite_false, hr1, hq1, hr2, rt_k hR2, f1]
/-- the units that the new joint asks for -/
def due (S : Ab) (x y k : Int) : Int := if k = 2 then 24883200000 else -(24883200000 * S (6 + x) / S (6 + y))
theorem due_m {S : Ab} {x y : Int} (ty : tooth (S (6 + y))) : ∃ q, 24883200000 * S (6 + x) = S (6 + y) * q ∧ 24883200000 * S (6 + x) / S (6 + y) = q := by
  obtain ⟨s, hs⟩ := tooth_d ty
  have hb := tooth_b ty
  refine ⟨s * 207360000 * S (6 + x), ?_, ?_⟩
  · rw [← Int.mul_assoc, ← Int.mul_assoc, hs]; rfl
  · rw [show (24883200000 : Int) * S (6 + x) = S (6 + y) * (s * 207360000 * S (6 + x)) by rw [← Int.mul_assoc, ← Int.mul_assoc, hs]; rfl]
    exact Int.mul_ediv_cancel_left _ (by omega)
theorem Pot.join {S : Ab} {x y k : Int} (hG : Good S) (x0 : 0 ≤ x) (x1 : x < S 0) (y0 : 0 ≤ y) (y1 : y < S 0) (hxy : x ≠ y) (hk : k = 1 ∨ k = 2) (hd : TU S x y = 0 ∨ TU S x y = due S x y k) : ∃ P, Pot (pj S x y k) P := by
  have hg := hG.1
  obtain ⟨P, hP⟩ := hG.2.2.2.2.2.2
  have tx := (hG.2.1 x x0 (by omega)).1 x1
  have ty := (hG.2.1 y y0 (by omega)).1 y1
  have bx := tooth_b tx
  have byy := tooth_b ty
  have hI := tu_is hG x0 x1
  have px := (hP x x0 (by omega)).1
  have py := (hP y y0 (by omega)).1
  obtain ⟨q, hq, hq2⟩ := due_m (S := S) (x := x) ty
  have fin : ∀ P', (∀ a, 0 ≤ a → a < 10 → P' a ≠ 0) → (∀ a b, 0 ≤ a → a < 10 → 0 ≤ b → b < 10 → S (92 + 10 * a + b) ≠ 0 → Rl S P' a b) → (k = 2 → P' y = P' x) → (k = 1 → P' y * S (6 + y) = -(P' x * S (6 + x))) → ∃ P, Pot (pj S x y k) P := by
    intro P' f1 f2 f3 f4
    refine ⟨P', fun a a0 a1 => ⟨f1 a a0 a1, fun b b0 b1 => ?_⟩⟩
    unfold Rl
    rw [pj_j x0 (by omega) y0 (by omega) a0 a1 b0 b1, pj_lo (z := 6 + a) x0 y0 (by omega), pj_lo (z := 6 + b) x0 y0 (by omega)]
    by_cases z : (a = x ∧ b = y) ∨ (a = y ∧ b = x)
    · rw [if_pos z]
      rcases z with ⟨rfl, rfl⟩ | ⟨rfl, rfl⟩
      · exact ⟨f3, f4⟩
      · exact ⟨fun z => (f3 z).symm, fun z => by have := f4 z; omega⟩
    · rw [if_neg z]
      by_cases z2 : S (92 + 10 * a + b) = 0
      · rw [z2]; exact ⟨fun z => absurd z (by decide), fun z => absurd z (by decide)⟩
      · exact f2 a b a0 a1 b0 b1 z2
  by_cases hu : TU S x y = 0
  · have side : ∀ a b, 0 ≤ a → a < 10 → 0 ≤ b → b < 10 → S (92 + 10 * a + b) ≠ 0 → (TU S x a = 0 ↔ TU S x b = 0) := by
      intro a b a0 a1 b0 b1 hj
      have hs := (hG.2.2.2.1 a b a0 a1 b0 b1).1
      have ia := hI.iff a0 a1
      have ib := hI.iff b0 b1
      constructor
      · intro z
        refine Classical.byContradiction (fun z2 => ?_)
        exact (ia.mpr ((ib.mp z2).step b0 b1 a0 a1 (by rw [← hs]; exact hj))) z
      · intro z
        refine Classical.byContradiction (fun z2 => ?_)
        exact (ib.mpr ((ia.mp z2).step a0 a1 b0 b1 hj)) z
    have hd0 : TU S x x ≠ 0 := by rw [tu_d hG x0 x1]; decide
    have go : ∀ α β : Int, α ≠ 0 → β ≠ 0 → (k = 2 → P y * β = P x * α) → (k = 1 → P y * β * S (6 + y) = -(P x * α * S (6 + x))) → ∃ P, Pot (pj S x y k) P := by
      intro α β ha hb g1 g2
      refine fin (fun z => if TU S x z = 0 then P z * β else P z * α) (fun a a0 a1 => ?_) (fun a b a0 a1 b0 b1 hj => ?_) (fun z => ?_) (fun z => ?_)
      · show (if TU S x a = 0 then P a * β else P a * α) ≠ 0
        have := (hP a a0 a1).1
        split
        · exact Int.mul_ne_zero this hb
        · exact Int.mul_ne_zero this ha
      · have r := (hP a a0 a1).2 b b0 b1
        have hs := side a b a0 a1 b0 b1 hj
        show (_ → (if TU S x b = 0 then P b * β else P b * α) = (if TU S x a = 0 then P a * β else P a * α)) ∧ (_ → (if TU S x b = 0 then P b * β else P b * α) * S (6 + b) = -((if TU S x a = 0 then P a * β else P a * α) * S (6 + a)))
        by_cases z : TU S x a = 0
        · rw [if_pos z, if_pos (hs.mp z)]
          refine ⟨fun z => by rw [r.1 z], fun z => ?_⟩
          have r2 := r.2 z
          rw [Int.mul_right_comm, r2, Int.neg_mul, Int.mul_right_comm]
        · rw [if_neg z, if_neg (fun y => z (hs.mpr y))]
          refine ⟨fun z => by rw [r.1 z], fun z => ?_⟩
          have r2 := r.2 z
          rw [Int.mul_right_comm, r2, Int.neg_mul, Int.mul_right_comm]
      · show (if TU S x y = 0 then P y * β else P y * α) = (if TU S x x = 0 then P x * β else P x * α)
        rw [if_pos hu, if_neg hd0]; exact g1 z
      · show (if TU S x y = 0 then P y * β else P y * α) * _ = -((if TU S x x = 0 then P x * β else P x * α) * _)
        rw [if_pos hu, if_neg hd0]; exact g2 z
    rcases hk with rfl | rfl
    · refine go (-(P y * S (6 + y))) (P x * S (6 + x)) ?_ (Int.mul_ne_zero px (by omega)) (fun z => absurd z (by decide)) (fun _ => ?_)
      · have := Int.mul_ne_zero py (show S (6 + y) ≠ 0 by omega)
        omega
      · simp only [Int.mul_neg, Int.neg_mul, Int.neg_neg, Int.mul_assoc, Int.mul_comm, Int.mul_left_comm]
    · exact go (P y) (P x) py px (fun _ => Int.mul_comm _ _) (fun z => absurd z (by decide))
  · have hd := hd.resolve_left hu
    have hr : Reach S x y := (hI.iff y0 (by omega)).mp hu
    have hm := ((hI y y0 (by omega)).1 hr).2 P hP
    refine fin P (fun a a0 a1 => (hP a a0 a1).1) (fun a b a0 a1 b0 b1 _ => (hP a a0 a1).2 b b0 b1) (fun z => ?_) (fun z => ?_)
    · rw [hd] at hm
      unfold due at hm
      rw [if_pos z] at hm
      exact (Int.eq_of_mul_eq_mul_left (by decide) hm).symm
    · rw [hd] at hm
      unfold due at hm
      rw [if_neg (by omega), hq2] at hm
      refine Int.eq_of_mul_eq_mul_left (a := 24883200000) (by decide) ?_
      calc 24883200000 * (P y * S (6 + y)) = (24883200000 * P y) * S (6 + y) := (Int.mul_assoc _ _ _).symm
        _ = (-q * P x) * S (6 + y) := by rw [hm]
        _ = -((S (6 + y) * q) * P x) := by rw [Int.neg_mul, Int.neg_mul, Int.mul_right_comm, Int.mul_comm q]
        _ = -((24883200000 * S (6 + x)) * P x) := by rw [hq]
        _ = 24883200000 * -(P x * S (6 + x)) := by rw [Int.mul_neg, Int.mul_assoc, Int.mul_comm (S (6 + x))]
