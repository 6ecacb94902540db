/-! PLANETS AND JOINTS -/
theorem Good.plan {S : Ab} {g : Int} (hG : Good S) (g0 : 0 ≤ g) (g1 : g < S 0) (h : S 1 < 6) : Good (up (up S (86 + S 1) g) 1 (S 1 + 1)) := by
  obtain ⟨d1, g2, g3, g4, g5, g6, P, hP⟩ := hG
  have e : ∀ z, 0 ≤ z → z ≠ 1 → z ≠ 86 + S 1 → (up (up S (86 + S 1) g) 1 (S 1 + 1)) z = S z := fun z z0 z1 z2 => by rw [up_ne z1, up_ne z2]
  have ej2 : ∀ a b, 0 ≤ a → a < 10 → 0 ≤ b → b < 10 → (up (up S (86 + S 1) g) 1 (S 1 + 1)) (92 + 10 * a + b) = S (92 + 10 * a + b) := fun a b a0 a1 b0 b1 => e _ (by omega) (by omega) (by omega)
  refine ⟨?_, fun i i0 i1 => ?_, fun p p0 p1 => ?_, fun a b a0 a1 b0 b1 => ?_, ?_, ?_, P, fun a a0 a1 => ⟨(hP a a0 a1).1, fun b b0 b1 => ?_⟩⟩
  · rw [e 0 (by omega) (by omega) (by omega), up_eq, e 2 (by omega) (by omega) (by omega)]; omega
  · unfold Gg
    rw [e 0 (by omega) (by omega) (by omega), e (6 + i) (by omega) (by omega) (by omega), e (16 + i) (by omega) (by omega) (by omega), e (26 + i) (by omega) (by omega) (by omega), e (36 + i) (by omega) (by omega) (by omega), e (46 + i) (by omega) (by omega) (by omega), e (56 + i) (by omega) (by omega) (by omega), e (66 + i) (by omega) (by omega) (by omega), e (76 + i) (by omega) (by omega) (by omega)]
    exact g2 i i0 i1
  · rw [up_eq] at p1
    rw [e 0 (by omega) (by omega) (by omega)]
    by_cases z : p = S 1
    · rw [z, up_ne (by omega), up_eq]; exact ⟨g0, g1⟩
    · rw [e (86 + p) (by omega) (by omega) (by omega)]
      exact g3 p p0 (by omega)
  · unfold Gj
    rw [ej2 a b a0 a1 b0 b1, ej2 b a b0 b1 a0 a1, e 0 (by omega) (by omega) (by omega)]
    exact g4 a b a0 a1 b0 b1
  · rw [show jc (up (up S (86 + S 1) g) 1 (S 1 + 1)) = jc S from sm_congr (fun i h0 h1 => by rw [e _ (by omega) (by omega) (by omega)])]
    exact g5
  · rw [e 3 (by omega) (by omega) (by omega), e 4 (by omega) (by omega) (by omega), ← g6]
    exact sm_congr (fun i h0 h1 => e _ (by omega) (by omega) (by omega))
  · unfold Rl
    rw [ej2 a b a0 a1 b0 b1, e (6 + a) (by omega) (by omega) (by omega), e (6 + b) (by omega) (by omega) (by omega)]
    exact (hP a a0 a1).2 b b0 b1
theorem op_planet {S : Ab} (hG : Good S) {x : Int} (x1 : -2147483648 ≤ x) (x2 : x < 2147483648) : Op S [0, 2] (fun e => if e = 0 then 1 else 2) (fun w => f_X1_putPlanet w (jI x)) (fun w => f_X11_addsPlanet w (jI x)) := by
  have hg := hG.1
  by_cases q : 0 ≤ x ∧ x < S 0
  · by_cases q1 : S 1 = 6
    · refine ⟨.inl 2, ok_e (e := 2) (by decide), fun w h => ?_, fun w h => ?_⟩
      · refine ⟨jI (-3), w, ?_, CO.err (Sm.refl w) rfl h⟩
        unfold f_X1_putPlanet
        simp (disch := omega) only [l32_0, l32_1, l32_2, l32_3, l32_4, l32_5, l32_6, l32_7, l32_8, l32_9, l32_10, l32_11, l32_12, l32_13, l32_14, l32_15, l32_16, l32_17, l32_18, l32_19, l32_20, l32_21, l32_22, l32_23, l32_24, l32_25, l32_26, l32_27, l32_28, l32_29, l32_30, l32_31, l32_32, l32_33, l32_34, l32_35, l32_36, l32_37, l32_38, l32_39, l32_40, l32_41, l32_42, l32_43, l32_44, l32_45, l32_46, l32_47, l32_48, l32_49, l32_50, l32_51, l32_52, l32_53, l32_54, l32_55, l32_56, l32_57, l32_58, l32_59, l32_60, l32_61, l32_62, l32_63, l32_64, l32_65, l32_66, l32_76, l32_86, l32_90, l32_92, l32_97, l32_98, l32_99, l32_100, l32_101, l32_102, l32_103, l32_104, l32_105, l32_106, l32_107, l32_108, l32_109, l32_110, l32_111, l32_112, l32_113, l32_114, l32_115, l32_116, l32_117, l32_118, l32_119, l32_120, l32_121, l32_122, l32_123, l32_124, l32_125, l32_126, l32_192, l32_200, l32_255, l32_999, l32_1000, l32_1344, l32_2147483639, l32_2147483647, l64_0, l64_1, l64_99, l64_999, l64_24883200000, l64_746496000000, jI_add, jI_sub, jI_mul, jI_neg, jL_add, jL_sub, jL_mul, jL_neg, jL_toI, jI_toL, jI_eqT, jI_eqF, jI_ltT, jI_ltF, jI_leT, jI_leF, jL_eqT, jL_eqF, jL_ltT, jL_ltF, jL_leT, jL_leF, inR_T, inR_F, bZ_T, bZ_F, not_true_eq_false, not_false_eq_true, jI_clamp, nI_j, bs_p, wl_p, u2_p, u3_p, u4_p, u5_p, zl_p, zr_p, mn_p, ms_p, if_pos, if_neg, ite_true, ite_false, s_isGear h hG, c_p h]
      · refine ⟨jI 0, uI w 141 12 (jI 2), ?_, RO.err (Sm.refl w) rfl rfl⟩
        unfold f_X11_addsPlanet
        simp (disch := omega) only [l32_0, l32_1, l32_2, l32_3, l32_4, l32_5, l32_6, l32_7, l32_8, l32_9, l32_10, l32_11, l32_12, l32_13, l32_14, l32_15, l32_16, l32_17, l32_18, l32_19, l32_20, l32_21, l32_22, l32_23, l32_24, l32_25, l32_26, l32_27, l32_28, l32_29, l32_30, l32_31, l32_32, l32_33, l32_34, l32_35, l32_36, l32_37, l32_38, l32_39, l32_40, l32_41, l32_42, l32_43, l32_44, l32_45, l32_46, l32_47, l32_48, l32_49, l32_50, l32_51, l32_52, l32_53, l32_54, l32_55, l32_56, l32_57, l32_58, l32_59, l32_60, l32_61, l32_62, l32_63, l32_64, l32_65, l32_66, l32_76, l32_86, l32_90, l32_92, l32_97, l32_98, l32_99, l32_100, l32_101, l32_102, l32_103, l32_104, l32_105, l32_106, l32_107, l32_108, l32_109, l32_110, l32_111, l32_112, l32_113, l32_114, l32_115, l32_116, l32_117, l32_118, l32_119, l32_120, l32_121, l32_122, l32_123, l32_124, l32_125, l32_126, l32_192, l32_200, l32_255, l32_999, l32_1000, l32_1344, l32_2147483639, l32_2147483647, l64_0, l64_1, l64_99, l64_999, l64_24883200000, l64_746496000000, jI_add, jI_sub, jI_mul, jI_neg, jL_add, jL_sub, jL_mul, jL_neg, jL_toI, jI_toL, jI_eqT, jI_eqF, jI_ltT, jI_ltF, jI_leT, jI_leF, jL_eqT, jL_eqF, jL_ltT, jL_ltF, jL_leT, jL_leF, inR_T, inR_F, bZ_T, bZ_F, not_true_eq_false, not_false_eq_true, jI_clamp, nI_j, bs_p, wl_p, u2_p, u3_p, u4_p, u5_p, zl_p, zr_p, mn_p, ms_p, if_pos, if_neg, ite_true, ite_false, s_rIsGear h hG, s_at h, s_fails]
    · by_cases q2 : ∃ p, 0 ≤ p ∧ p < S 1 ∧ S (86 + p) = x
      · refine ⟨.inl 2, ok_e (e := 2) (by decide), fun w h => ?_, fun w h => ?_⟩
        · obtain ⟨r, hr, ⟨rfl, hx⟩ | ⟨rfl, hx⟩⟩ := s_carriesPlanet h hG q.1 (show x < 10 by omega)
          · exact absurd q2 hx
          · refine ⟨jI (-3), w, ?_, CO.err (Sm.refl w) rfl h⟩
            unfold f_X1_putPlanet
            simp (disch := omega) only [l32_0, l32_1, l32_2, l32_3, l32_4, l32_5, l32_6, l32_7, l32_8, l32_9, l32_10, l32_11, l32_12, l32_13, l32_14, l32_15, l32_16, l32_17, l32_18, l32_19, l32_20, l32_21, l32_22, l32_23, l32_24, l32_25, l32_26, l32_27, l32_28, l32_29, l32_30, l32_31, l32_32, l32_33, l32_34, l32_35, l32_36, l32_37, l32_38, l32_39, l32_40, l32_41, l32_42, l32_43, l32_44, l32_45, l32_46, l32_47, l32_48, l32_49, l32_50, l32_51, l32_52, l32_53, l32_54, l32_55, l32_56, l32_57, l32_58, l32_59, l32_60, l32_61, l32_62, l32_63, l32_64, l32_65, l32_66, l32_76, l32_86, l32_90, l32_92, l32_97, l32_98, l32_99, l32_100, l32_101, l32_102, l32_103, l32_104, l32_105, l32_106, l32_107, l32_108, l32_109, l32_110, l32_111, l32_112, l32_113, l32_114, l32_115, l32_116, l32_117, l32_118, l32_119, l32_120, l32_121, l32_122, l32_123, l32_124, l32_125, l32_126, l32_192, l32_200, l32_255, l32_999, l32_1000, l32_1344, l32_2147483639, l32_2147483647, l64_0, l64_1, l64_99, l64_999, l64_24883200000, l64_746496000000, jI_add, jI_sub, jI_mul, jI_neg, jL_add, jL_sub, jL_mul, jL_neg, jL_toI, jI_toL, jI_eqT, jI_eqF, jI_ltT, jI_ltF, jI_leT, jI_leF, jL_eqT, jL_eqF, jL_ltT, jL_ltF, jL_leT, jL_leF, inR_T, inR_F, bZ_T, bZ_F, not_true_eq_false, not_false_eq_true, jI_clamp, nI_j, bs_p, wl_p, u2_p, u3_p, u4_p, u5_p, zl_p, zr_p, mn_p, ms_p, if_pos, if_neg, ite_true, ite_false, s_isGear h hG, c_p h, hr]
        · obtain ⟨r, hr, hF⟩ := s_rPlanetOn h hG q.1 (show x < 10 by omega)
          have hb := hF.b
          have hne : r ≠ -1 := by
            rcases hF with hF | hF
            · omega
            · obtain ⟨i, i0, i1, i2⟩ := q2; exact absurd i2 (hF.2 i i0 i1)
          refine ⟨jI 0, uI w 141 12 (jI 2), ?_, RO.err (Sm.refl w) rfl rfl⟩
          unfold f_X11_addsPlanet
          simp (disch := omega) only [l32_0, l32_1, l32_2, l32_3, l32_4, l32_5, l32_6, l32_7, l32_8, l32_9, l32_10, l32_11, l32_12, l32_13, l32_14, l32_15, l32_16, l32_17, l32_18, l32_19, l32_20, l32_21, l32_22, l32_23, l32_24, l32_25, l32_26, l32_27, l32_28, l32_29, l32_30, l32_31, l32_32, l32_33, l32_34, l32_35, l32_36, l32_37, l32_38, l32_39, l32_40, l32_41, l32_42, l32_43, l32_44, l32_45, l32_46, l32_47, l32_48, l32_49, l32_50, l32_51, l32_52, l32_53, l32_54, l32_55, l32_56, l32_57, l32_58, l32_59, l32_60, l32_61, l32_62, l32_63, l32_64, l32_65, l32_66, l32_76, l32_86, l32_90, l32_92, l32_97, l32_98, l32_99, l32_100, l32_101, l32_102, l32_103, l32_104, l32_105, l32_106, l32_107, l32_108, l32_109, l32_110, l32_111, l32_112, l32_113, l32_114, l32_115, l32_116, l32_117, l32_118, l32_119, l32_120, l32_121, l32_122, l32_123, l32_124, l32_125, l32_126, l32_192, l32_200, l32_255, l32_999, l32_1000, l32_1344, l32_2147483639, l32_2147483647, l64_0, l64_1, l64_99, l64_999, l64_24883200000, l64_746496000000, jI_add, jI_sub, jI_mul, jI_neg, jL_add, jL_sub, jL_mul, jL_neg, jL_toI, jI_toL, jI_eqT, jI_eqF, jI_ltT, jI_ltF, jI_leT, jI_leF, jL_eqT, jL_eqF, jL_ltT, jL_ltF, jL_leT, jL_leF, inR_T, inR_F, bZ_T, bZ_F, not_true_eq_false, not_false_eq_true, jI_clamp, nI_j, bs_p, wl_p, u2_p, u3_p, u4_p, u5_p, zl_p, zr_p, mn_p, ms_p, if_pos, if_neg, ite_true, ite_false, s_rIsGear h hG, s_at h, hr, s_fails]
      · refine ⟨.inr (S 1, up (up S (86 + S 1) x) 1 (S 1 + 1)), ⟨by omega, by omega, hG.plan q.1 q.2 (by omega)⟩, fun w h => ?_, fun w h => ?_⟩
        · obtain ⟨r, hr, ⟨rfl, hx⟩ | ⟨rfl, hx⟩⟩ := s_carriesPlanet h hG q.1 (show x < 10 by omega)
          · refine ⟨jI (S 1), uI (uI w 11 (S 1).toNat (jI x)) 1 12 (jI (S 1 + 1)), ?_, CO.val ((Sm.wI w (by unfold KC; omega)).tr (Sm.wI _ (by unfold KC; omega))) rfl (h.put_c (by omega) (by omega)).put_p⟩
            unfold f_X1_putPlanet
            simp (disch := omega) only [l32_0, l32_1, l32_2, l32_3, l32_4, l32_5, l32_6, l32_7, l32_8, l32_9, l32_10, l32_11, l32_12, l32_13, l32_14, l32_15, l32_16, l32_17, l32_18, l32_19, l32_20, l32_21, l32_22, l32_23, l32_24, l32_25, l32_26, l32_27, l32_28, l32_29, l32_30, l32_31, l32_32, l32_33, l32_34, l32_35, l32_36, l32_37, l32_38, l32_39, l32_40, l32_41, l32_42, l32_43, l32_44, l32_45, l32_46, l32_47, l32_48, l32_49, l32_50, l32_51, l32_52, l32_53, l32_54, l32_55, l32_56, l32_57, l32_58, l32_59, l32_60, l32_61, l32_62, l32_63, l32_64, l32_65, l32_66, l32_76, l32_86, l32_90, l32_92, l32_97, l32_98, l32_99, l32_100, l32_101, l32_102, l32_103, l32_104, l32_105, l32_106, l32_107, l32_108, l32_109, l32_110, l32_111, l32_112, l32_113, l32_114, l32_115, l32_116, l32_117, l32_118, l32_119, l32_120, l32_121, l32_122, l32_123, l32_124, l32_125, l32_126, l32_192, l32_200, l32_255, l32_999, l32_1000, l32_1344, l32_2147483639, l32_2147483647, l64_0, l64_1, l64_99, l64_999, l64_24883200000, l64_746496000000, jI_add, jI_sub, jI_mul, jI_neg, jL_add, jL_sub, jL_mul, jL_neg, jL_toI, jI_toL, jI_eqT, jI_eqF, jI_ltT, jI_ltF, jI_leT, jI_leF, jL_eqT, jL_eqF, jL_ltT, jL_ltF, jL_leT, jL_leF, inR_T, inR_F, bZ_T, bZ_F, not_true_eq_false, not_false_eq_true, jI_clamp, nI_j, bs_p, wl_p, u2_p, u3_p, u4_p, u5_p, zl_p, zr_p, mn_p, ms_p, if_pos, if_neg, ite_true, ite_false, s_isGear h hG, c_p h, hr, gI_uI]
          · exact absurd hx q2
        · obtain ⟨r, hr, hF⟩ := s_rPlanetOn h hG q.1 (show x < 10 by omega)
          have hne : r = -1 := by
            rcases hF with hF | hF
            · exact absurd ⟨r, hF.1, hF.2.1, hF.2.2.1⟩ q2
            · exact hF.1
          subst hne
          refine ⟨jI (S 1), uI (uL (uL w 142 (86 + S 1).toNat (jL x)) 142 (1 : Int).toNat (jL (S 1 + 1))) 141 12 (jI 0), ?_, RO.val ((Sm.wL w (by unfold KM; omega)).tr (Sm.wL _ (by unfold KM; omega))) rfl ((h.put (by omega) (by omega)).put (by omega) (by omega))⟩
          unfold f_X11_addsPlanet
          simp (disch := omega) only [l32_0, l32_1, l32_2, l32_3, l32_4, l32_5, l32_6, l32_7, l32_8, l32_9, l32_10, l32_11, l32_12, l32_13, l32_14, l32_15, l32_16, l32_17, l32_18, l32_19, l32_20, l32_21, l32_22, l32_23, l32_24, l32_25, l32_26, l32_27, l32_28, l32_29, l32_30, l32_31, l32_32, l32_33, l32_34, l32_35, l32_36, l32_37, l32_38, l32_39, l32_40, l32_41, l32_42, l32_43, l32_44, l32_45, l32_46, l32_47, l32_48, l32_49, l32_50, l32_51, l32_52, l32_53, l32_54, l32_55, l32_56, l32_57, l32_58, l32_59, l32_60, l32_61, l32_62, l32_63, l32_64, l32_65, l32_66, l32_76, l32_86, l32_90, l32_92, l32_97, l32_98, l32_99, l32_100, l32_101, l32_102, l32_103, l32_104, l32_105, l32_106, l32_107, l32_108, l32_109, l32_110, l32_111, l32_112, l32_113, l32_114, l32_115, l32_116, l32_117, l32_118, l32_119, l32_120, l32_121, l32_122, l32_123, l32_124, l32_125, l32_126, l32_192, l32_200, l32_255, l32_999, l32_1000, l32_1344, l32_2147483639, l32_2147483647, l64_0, l64_1, l64_99, l64_999, l64_24883200000, l64_746496000000, jI_add, jI_sub, jI_mul, jI_neg, jL_add, jL_sub, jL_mul, jL_neg, jL_toI, jI_toL, jI_eqT, jI_eqF, jI_ltT, jI_ltF, jI_leT, jI_leF, jL_eqT, jL_eqF, jL_ltT, jL_ltF, jL_leT, jL_leF, inR_T, inR_F, bZ_T, bZ_F, not_true_eq_false, not_false_eq_true, jI_clamp, nI_j, bs_p, wl_p, u2_p, u3_p, u4_p, u5_p, zl_p, zr_p, mn_p, ms_p, if_pos, if_neg, ite_true, ite_false, s_rIsGear h hG, s_at h, hr, s_done, gL_uL, r_g h]
  · refine ⟨.inl 0, ok_e (e := 0) (by decide), fun w h => ?_, fun w h => ?_⟩
    · refine ⟨jI (-1), w, ?_, CO.err (Sm.refl w) rfl h⟩
      unfold f_X1_putPlanet
      simp (disch := omega) only [l32_0, l32_1, l32_2, l32_3, l32_4, l32_5, l32_6, l32_7, l32_8, l32_9, l32_10, l32_11, l32_12, l32_13, l32_14, l32_15, l32_16, l32_17, l32_18, l32_19, l32_20, l32_21, l32_22, l32_23, l32_24, l32_25, l32_26, l32_27, l32_28, l32_29, l32_30, l32_31, l32_32, l32_33, l32_34, l32_35, l32_36, l32_37, l32_38, l32_39, l32_40, l32_41, l32_42, l32_43, l32_44, l32_45, l32_46, l32_47, l32_48, l32_49, l32_50, l32_51, l32_52, l32_53, l32_54, l32_55, l32_56, l32_57, l32_58, l32_59, l32_60, l32_61, l32_62, l32_63, l32_64, l32_65, l32_66, l32_76, l32_86, l32_90, l32_92, l32_97, l32_98, l32_99, l32_100, l32_101, l32_102, l32_103, l32_104, l32_105, l32_106, l32_107, l32_108, l32_109, l32_110, l32_111, l32_112, l32_113, l32_114, l32_115, l32_116, l32_117, l32_118, l32_119, l32_120, l32_121, l32_122, l32_123, l32_124, l32_125, l32_126, l32_192, l32_200, l32_255, l32_999, l32_1000, l32_1344, l32_2147483639, l32_2147483647, l64_0, l64_1, l64_99, l64_999, l64_24883200000, l64_746496000000, jI_add, jI_sub, jI_mul, jI_neg, jL_add, jL_sub, jL_mul, jL_neg, jL_toI, jI_toL, jI_eqT, jI_eqF, jI_ltT, jI_ltF, jI_leT, jI_leF, jL_eqT, jL_eqF, jL_ltT, jL_ltF, jL_leT, jL_leF, inR_T, inR_F, bZ_T, bZ_F, not_true_eq_false, not_false_eq_true, jI_clamp, nI_j, bs_p, wl_p, u2_p, u3_p, u4_p, u5_p, zl_p, zr_p, mn_p, ms_p, if_pos, if_neg, ite_true, ite_false, s_isGear h hG]
    · refine ⟨jI 0, uI w 141 12 (jI 1), ?_, RO.err (Sm.refl w) rfl rfl⟩
      unfold f_X11_addsPlanet
      simp (disch := omega) only [l32_0, l32_1, l32_2, l32_3, l32_4, l32_5, l32_6, l32_7, l32_8, l32_9, l32_10, l32_11, l32_12, l32_13, l32_14, l32_15, l32_16, l32_17, l32_18, l32_19, l32_20, l32_21, l32_22, l32_23, l32_24, l32_25, l32_26, l32_27, l32_28, l32_29, l32_30, l32_31, l32_32, l32_33, l32_34, l32_35, l32_36, l32_37, l32_38, l32_39, l32_40, l32_41, l32_42, l32_43, l32_44, l32_45, l32_46, l32_47, l32_48, l32_49, l32_50, l32_51, l32_52, l32_53, l32_54, l32_55, l32_56, l32_57, l32_58, l32_59, l32_60, l32_61, l32_62, l32_63, l32_64, l32_65, l32_66, l32_76, l32_86, l32_90, l32_92, l32_97, l32_98, l32_99, l32_100, l32_101, l32_102, l32_103, l32_104, l32_105, l32_106, l32_107, l32_108, l32_109, l32_110, l32_111, l32_112, l32_113, l32_114, l32_115, l32_116, l32_117, l32_118, l32_119, l32_120, l32_121, l32_122, l32_123, l32_124, l32_125, l32_126, l32_192, l32_200, l32_255, l32_999, l32_1000, l32_1344, l32_2147483639, l32_2147483647, l64_0, l64_1, l64_99, l64_999, l64_24883200000, l64_746496000000, jI_add, jI_sub, jI_mul, jI_neg, jL_add, jL_sub, jL_mul, jL_neg, jL_toI, jI_toL, jI_eqT, jI_eqF, jI_ltT, jI_ltF, jI_leT, jI_leF, jL_eqT, jL_eqF, jL_ltT, jL_ltF, jL_leT, jL_leF, inR_T, inR_F, bZ_T, bZ_F, not_true_eq_false, not_false_eq_true, jI_clamp, nI_j, bs_p, wl_p, u2_p, u3_p, u4_p, u5_p, zl_p, zr_p, mn_p, ms_p, if_pos, if_neg, ite_true, ite_false, s_rIsGear h hG, s_fails]
/-- a joint's kind, put for both orders -/
def pj (S : Ab) (a b v : Int) : Ab := up (up S (92 + 10 * a + b) v) (92 + 10 * b + a) v
theorem pj_lo {S : Ab} {a b v z : Int} (a0 : 0 ≤ a) (b0 : 0 ≤ b) (hz : z < 92) : pj S a b v z = S z := by
  unfold pj; rw [up_ne (by omega), up_ne (by omega)]
theorem pj_j {S : Ab} {a b v x y : Int} (a0 : 0 ≤ a) (a1 : a < 10) (b0 : 0 ≤ b) (b1 : b < 10) (x0 : 0 ≤ x) (x1 : x < 10) (y0 : 0 ≤ y) (y1 : y < 10) : pj S a b v (92 + 10 * x + y) = if (x = a ∧ y = b) ∨ (x = b ∧ y = a) then v else S (92 + 10 * x + y) := by
  unfold pj up
  by_cases q1 : x = b ∧ y = a
  · rw [if_pos (by omega), if_pos (Or.inr q1)]
  · rw [if_neg (by omega)]
    by_cases q2 : x = a ∧ y = b
    · rw [if_pos (by omega), if_pos (Or.inl q2)]
    · rw [if_neg (by omega), if_neg (by omega)]
theorem jc_j {S : Ab} {k v : Int} (k0 : 0 ≤ k) (k1 : k < 100) : jc (up S (92 + k) v) = jc S + ((if v = 0 then 0 else 1) - (if S (92 + k) = 0 then 0 else 1)) := by
  unfold jc
  rw [sm_up (g := fun i => if up S (92 + k) v (92 + i) = 0 then 0 else 1) (h := fun i => if S (92 + i) = 0 then 0 else 1) (k := k) k0 k1 (fun i _ _ q => by show (if up S (92 + k) v (92 + i) = 0 then _ else _) = _; rw [up_ne (by omega)])]
  show _ + ((if up S (92 + k) v (92 + k) = 0 then 0 else 1) - _) = _
  rw [up_eq]
theorem jc_pj {S : Ab} {a b v : Int} (a0 : 0 ≤ a) (a1 : a < 10) (b0 : 0 ≤ b) (b1 : b < 10) (hab : a ≠ b) (hs : S (92 + 10 * a + b) = S (92 + 10 * b + a)) : jc (pj S a b v) = jc S + 2 * ((if v = 0 then 0 else 1) - (if S (92 + 10 * a + b) = 0 then 0 else 1)) := by
  unfold pj
  rw [show 92 + 10 * b + a = 92 + (10 * b + a) by omega, jc_j (by omega) (by omega), show 92 + 10 * a + b = 92 + (10 * a + b) by omega, jc_j (by omega) (by omega), up_ne (by omega)]
  rw [show 92 + 10 * a + b = 92 + (10 * a + b) by omega, show 92 + 10 * b + a = 92 + (10 * b + a) by omega] at hs
  rw [← hs]
  omega
theorem Good.joint {S : Ab} {a b v : Int} (hG : Good S) (a0 : 0 ≤ a) (a1 : a < S 0) (b0 : 0 ≤ b) (b1 : b < S 0) (hab : a ≠ b) (hv : v = 0 ∨ v = 1 ∨ v = 2) (hc : jc (pj S a b v) ≤ 30) (hP' : ∃ P, Pot (pj S a b v) P) : Good (pj S a b v) := by
  have hs := hG.1
  have hj := jc_pj (v := v) a0 (by omega) b0 (by omega) hab (hG.2.2.2.1 a b a0 (by omega) b0 (by omega)).1
  obtain ⟨d1, g2, g3, g4, g5, g6, -⟩ := hG
  have e : ∀ z, z < 92 → pj S a b v z = S z := fun z hz => pj_lo a0 b0 hz
  refine ⟨?_, fun i i0 i1 => ?_, fun p p0 p1 => ?_, fun x y x0 x1 y0 y1 => ?_, ⟨hc, ?_⟩, ?_, hP'⟩
  · rw [e 0 (by omega), e 1 (by omega), e 2 (by omega)]; exact d1
  · unfold Gg
    rw [e 0 (by omega), e (6 + i) (by omega), e (16 + i) (by omega), e (26 + i) (by omega), e (36 + i) (by omega), e (46 + i) (by omega), e (56 + i) (by omega), e (66 + i) (by omega), e (76 + i) (by omega)]
    exact g2 i i0 i1
  · rw [e 1 (by omega)] at p1
    rw [e 0 (by omega), e (86 + p) (by omega)]; exact g3 p p0 p1
  · unfold Gj
    rw [pj_j a0 (by omega) b0 (by omega) x0 x1 y0 y1, pj_j a0 (by omega) b0 (by omega) y0 y1 x0 x1, e 0 (by omega)]
    by_cases q : (x = a ∧ y = b) ∨ (x = b ∧ y = a)
    · rw [if_pos q, if_pos (by omega)]
      exact ⟨rfl, hv, fun _ => by omega⟩
    · rw [if_neg q, if_neg (by omega)]
      exact g4 x y x0 x1 y0 y1
  · rw [hj]; omega
  · rw [e 3 (by omega), e 4 (by omega), ← g6]
    exact sm_congr (fun i h0 h1 => e _ (by omega))
theorem s_putJoint {w : Wd} {a b v : Int} (a0 : 0 ≤ a) (a1 : a < 10) (b0 : 0 ≤ b) (b1 : b < 10) : f_X7_putJoint w (jI a) (jI b) (jI (jk v)) = some (uI (uI w 10 (a * 10 + b).toNat (jI (jk v))) 10 (b * 10 + a).toNat (jI (jk v))) := by
  unfold f_X7_putJoint
  simp (disch := omega) only [l32_0, l32_1, l32_2, l32_3, l32_4, l32_5, l32_6, l32_7, l32_8, l32_9, l32_10, l32_11, l32_12, l32_13, l32_14, l32_15, l32_16, l32_17, l32_18, l32_19, l32_20, l32_21, l32_22, l32_23, l32_24, l32_25, l32_26, l32_27, l32_28, l32_29, l32_30, l32_31, l32_32, l32_33, l32_34, l32_35, l32_36, l32_37, l32_38, l32_39, l32_40, l32_41, l32_42, l32_43, l32_44, l32_45, l32_46, l32_47, l32_48, l32_49, l32_50, l32_51, l32_52, l32_53, l32_54, l32_55, l32_56, l32_57, l32_58, l32_59, l32_60, l32_61, l32_62, l32_63, l32_64, l32_65, l32_66, l32_76, l32_86, l32_90, l32_92, l32_97, l32_98, l32_99, l32_100, l32_101, l32_102, l32_103, l32_104, l32_105, l32_106, l32_107, l32_108, l32_109, l32_110, l32_111, l32_112, l32_113, l32_114, l32_115, l32_116, l32_117, l32_118, l32_119, l32_120, l32_121, l32_122, l32_123, l32_124, l32_125, l32_126, l32_192, l32_200, l32_255, l32_999, l32_1000, l32_1344, l32_2147483639, l32_2147483647, l64_0, l64_1, l64_99, l64_999, l64_24883200000, l64_746496000000, jI_add, jI_sub, jI_mul, jI_neg, jL_add, jL_sub, jL_mul, jL_neg, jL_toI, jI_toL, jI_eqT, jI_eqF, jI_ltT, jI_ltF, jI_leT, jI_leF, jL_eqT, jL_eqF, jL_ltT, jL_ltF, jL_leT, jL_leF, inR_T, inR_F, bZ_T, bZ_F, not_true_eq_false, not_false_eq_true, jI_clamp, nI_j, bs_p, wl_p, u2_p, u3_p, u4_p, u5_p, zl_p, zr_p, mn_p, ms_p, if_pos, if_neg, ite_true, ite_false, jk_nar]
theorem RSt.joint {w : Wd} {S : Ab} {a b v : Int} (h : RSt w 142 0 S) (a0 : 0 ≤ a) (a1 : a < 10) (b0 : 0 ≤ b) (b1 : b < 10) : RSt (uL (uL w 142 (92 + 10 * a + b).toNat (jL v)) 142 (92 + 10 * b + a).toNat (jL v)) 142 0 (pj S a b v) :=
  (h.put (by omega) (by omega)).put (by omega) (by omega)
theorem op_cut {S : Ab} (hG : Good S) {x y : Int} (x1 : -2147483648 ≤ x) (x2 : x < 2147483648) (y1 : -2147483648 ≤ y) (y2 : y < 2147483648) : Op S [0, 4] (fun e => if e = 0 then 1 else 2) (fun w => f_X1_cut w (jI x) (jI y)) (fun w => f_X11_parts w (jI x) (jI y)) := by
  have hg := hG.1
  by_cases q : (0 ≤ x ∧ x < S 0) ∧ 0 ≤ y ∧ y < S 0
  · obtain ⟨qx, qy⟩ := q
    have hj := hG.2.2.2.1 x y qx.1 (by omega) qy.1 (by omega)
    have hj2 := hj.2.1
    have hk := jk_b (S (92 + 10 * x + y))
    by_cases q1 : S (92 + 10 * x + y) = 0
    · refine ⟨.inl 4, ok_e (e := 4) (by decide), fun w h => ?_, fun w h => ?_⟩
      · refine ⟨jI (-5), w, ?_, CO.err (Sm.refl w) rfl h⟩
        have hz : jk (S (92 + 10 * x + y)) = 0 := jk_0.mpr q1
        unfold f_X1_cut
        simp (disch := omega) only [l32_0, l32_1, l32_2, l32_3, l32_4, l32_5, l32_6, l32_7, l32_8, l32_9, l32_10, l32_11, l32_12, l32_13, l32_14, l32_15, l32_16, l32_17, l32_18, l32_19, l32_20, l32_21, l32_22, l32_23, l32_24, l32_25, l32_26, l32_27, l32_28, l32_29, l32_30, l32_31, l32_32, l32_33, l32_34, l32_35, l32_36, l32_37, l32_38, l32_39, l32_40, l32_41, l32_42, l32_43, l32_44, l32_45, l32_46, l32_47, l32_48, l32_49, l32_50, l32_51, l32_52, l32_53, l32_54, l32_55, l32_56, l32_57, l32_58, l32_59, l32_60, l32_61, l32_62, l32_63, l32_64, l32_65, l32_66, l32_76, l32_86, l32_90, l32_92, l32_97, l32_98, l32_99, l32_100, l32_101, l32_102, l32_103, l32_104, l32_105, l32_106, l32_107, l32_108, l32_109, l32_110, l32_111, l32_112, l32_113, l32_114, l32_115, l32_116, l32_117, l32_118, l32_119, l32_120, l32_121, l32_122, l32_123, l32_124, l32_125, l32_126, l32_192, l32_200, l32_255, l32_999, l32_1000, l32_1344, l32_2147483639, l32_2147483647, l64_0, l64_1, l64_99, l64_999, l64_24883200000, l64_746496000000, jI_add, jI_sub, jI_mul, jI_neg, jL_add, jL_sub, jL_mul, jL_neg, jL_toI, jI_toL, jI_eqT, jI_eqF, jI_ltT, jI_ltF, jI_leT, jI_leF, jL_eqT, jL_eqF, jL_ltT, jL_ltF, jL_leT, jL_leF, inR_T, inR_F, bZ_T, bZ_F, not_true_eq_false, not_false_eq_true, jI_clamp, nI_j, bs_p, wl_p, u2_p, u3_p, u4_p, u5_p, zl_p, zr_p, mn_p, ms_p, if_pos, if_neg, ite_true, ite_false, s_isGear h hG, s_jointOf h]
      · refine ⟨jI 0, uI w 141 12 (jI 2), ?_, RO.err (Sm.refl w) rfl rfl⟩
        unfold f_X11_parts
        simp (disch := omega) only [l32_0, l32_1, l32_2, l32_3, l32_4, l32_5, l32_6, l32_7, l32_8, l32_9, l32_10, l32_11, l32_12, l32_13, l32_14, l32_15, l32_16, l32_17, l32_18, l32_19, l32_20, l32_21, l32_22, l32_23, l32_24, l32_25, l32_26, l32_27, l32_28, l32_29, l32_30, l32_31, l32_32, l32_33, l32_34, l32_35, l32_36, l32_37, l32_38, l32_39, l32_40, l32_41, l32_42, l32_43, l32_44, l32_45, l32_46, l32_47, l32_48, l32_49, l32_50, l32_51, l32_52, l32_53, l32_54, l32_55, l32_56, l32_57, l32_58, l32_59, l32_60, l32_61, l32_62, l32_63, l32_64, l32_65, l32_66, l32_76, l32_86, l32_90, l32_92, l32_97, l32_98, l32_99, l32_100, l32_101, l32_102, l32_103, l32_104, l32_105, l32_106, l32_107, l32_108, l32_109, l32_110, l32_111, l32_112, l32_113, l32_114, l32_115, l32_116, l32_117, l32_118, l32_119, l32_120, l32_121, l32_122, l32_123, l32_124, l32_125, l32_126, l32_192, l32_200, l32_255, l32_999, l32_1000, l32_1344, l32_2147483639, l32_2147483647, l64_0, l64_1, l64_99, l64_999, l64_24883200000, l64_746496000000, jI_add, jI_sub, jI_mul, jI_neg, jL_add, jL_sub, jL_mul, jL_neg, jL_toI, jI_toL, jI_eqT, jI_eqF, jI_ltT, jI_ltF, jI_leT, jI_leF, jL_eqT, jL_eqF, jL_ltT, jL_ltF, jL_leT, jL_leF, inR_T, inR_F, bZ_T, bZ_F, not_true_eq_false, not_false_eq_true, jI_clamp, nI_j, bs_p, wl_p, u2_p, u3_p, u4_p, u5_p, zl_p, zr_p, mn_p, ms_p, if_pos, if_neg, ite_true, ite_false, s_rAreGears h hG, s_rJoint h, s_fails]
    · have hz : jk (S (92 + 10 * x + y)) ≠ 0 := fun z => q1 (jk_0.mp z)
      have hab := (hj.2.2 q1).1
      have hc := jc_pj (v := 0) qx.1 (by omega) qy.1 (by omega) hab hj.1
      rw [if_pos rfl, if_neg q1] at hc
      have hc0 := jc_lo (pj S x y 0)
      have h30 := hG.2.2.2.2.1
      have hG' : Good (pj S x y 0) := hG.joint qx.1 qx.2 qy.1 qy.2 hab (Or.inl rfl) (by omega) (by
        obtain ⟨P, hP⟩ := hG.2.2.2.2.2.2
        refine ⟨P, fun a a0 a1 => ⟨(hP a a0 a1).1, fun b b0 b1 => ?_⟩⟩
        unfold Rl
        rw [pj_j qx.1 (by omega) qy.1 (by omega) a0 a1 b0 b1, pj_lo (z := 6 + a) qx.1 qy.1 (by omega), pj_lo (z := 6 + b) qx.1 qy.1 (by omega)]
        split
        · exact ⟨fun z => absurd z (by decide), fun z => absurd z (by decide)⟩
        · exact (hP a a0 a1).2 b b0 b1)
      refine ⟨.inr (jc (pj S x y 0) / 2, pj S x y 0), ⟨by omega, by omega, hG'⟩, fun w h => ?_, fun w h => ?_⟩
      · have h2 := h.put_j (v := 0) qx.1 (show x < 10 by omega) qy.1 (show y < 10 by omega)
        have hp := s_putJoint (w := w) (v := 0) qx.1 (show x < 10 by omega) qy.1 (show y < 10 by omega)
        have hp : f_X7_putJoint w (jI x) (jI y) (jI 0) = _ := hp
        refine ⟨jI (jc (pj S x y 0) / 2), _, ?_, CO.val (((Sm.wI w (by unfold KC; omega)).tr (Sm.wI _ (by unfold KC; omega))).tr (Sm.wI _ (by unfold KC; omega))) rfl h2⟩
        unfold f_X1_cut
        simp (disch := omega) only [l32_0, l32_1, l32_2, l32_3, l32_4, l32_5, l32_6, l32_7, l32_8, l32_9, l32_10, l32_11, l32_12, l32_13, l32_14, l32_15, l32_16, l32_17, l32_18, l32_19, l32_20, l32_21, l32_22, l32_23, l32_24, l32_25, l32_26, l32_27, l32_28, l32_29, l32_30, l32_31, l32_32, l32_33, l32_34, l32_35, l32_36, l32_37, l32_38, l32_39, l32_40, l32_41, l32_42, l32_43, l32_44, l32_45, l32_46, l32_47, l32_48, l32_49, l32_50, l32_51, l32_52, l32_53, l32_54, l32_55, l32_56, l32_57, l32_58, l32_59, l32_60, l32_61, l32_62, l32_63, l32_64, l32_65, l32_66, l32_76, l32_86, l32_90, l32_92, l32_97, l32_98, l32_99, l32_100, l32_101, l32_102, l32_103, l32_104, l32_105, l32_106, l32_107, l32_108, l32_109, l32_110, l32_111, l32_112, l32_113, l32_114, l32_115, l32_116, l32_117, l32_118, l32_119, l32_120, l32_121, l32_122, l32_123, l32_124, l32_125, l32_126, l32_192, l32_200, l32_255, l32_999, l32_1000, l32_1344, l32_2147483639, l32_2147483647, l64_0, l64_1, l64_99, l64_999, l64_24883200000, l64_746496000000, jI_add, jI_sub, jI_mul, jI_neg, jL_add, jL_sub, jL_mul, jL_neg, jL_toI, jI_toL, jI_eqT, jI_eqF, jI_ltT, jI_ltF, jI_leT, jI_leF, jL_eqT, jL_eqF, jL_ltT, jL_ltF, jL_leT, jL_leF, inR_T, inR_F, bZ_T, bZ_F, not_true_eq_false, not_false_eq_true, jI_clamp, nI_j, bs_p, wl_p, u2_p, u3_p, u4_p, u5_p, zl_p, zr_p, mn_p, ms_p, if_pos, if_neg, ite_true, ite_false, s_isGear h hG, s_jointOf h, hp, gI_uI, c_m h, and_self]
        rw [show jc (up (up S (92 + 10 * x + y) 0) (92 + 10 * y + x) 0) / 2 = jc S / 2 - 1 by show jc (pj S x y 0) / 2 = _; omega, show jc (pj S x y 0) / 2 = jc S / 2 - 1 by omega]
      · have h2 := h.joint (v := 0) qx.1 (show x < 10 by omega) qy.1 (show y < 10 by omega)
        have e := s_rJoints h2 (fun k k0 k1 => hG'.j2 k k0 k1)
        refine ⟨jI (jc (pj S x y 0) / 2), _, ?_, RO.val ((Sm.wL w (by unfold KM; omega)).tr (Sm.wL _ (by unfold KM; omega))) rfl h2⟩
        unfold f_X11_parts
        simp (disch := omega) only [l32_0, l32_1, l32_2, l32_3, l32_4, l32_5, l32_6, l32_7, l32_8, l32_9, l32_10, l32_11, l32_12, l32_13, l32_14, l32_15, l32_16, l32_17, l32_18, l32_19, l32_20, l32_21, l32_22, l32_23, l32_24, l32_25, l32_26, l32_27, l32_28, l32_29, l32_30, l32_31, l32_32, l32_33, l32_34, l32_35, l32_36, l32_37, l32_38, l32_39, l32_40, l32_41, l32_42, l32_43, l32_44, l32_45, l32_46, l32_47, l32_48, l32_49, l32_50, l32_51, l32_52, l32_53, l32_54, l32_55, l32_56, l32_57, l32_58, l32_59, l32_60, l32_61, l32_62, l32_63, l32_64, l32_65, l32_66, l32_76, l32_86, l32_90, l32_92, l32_97, l32_98, l32_99, l32_100, l32_101, l32_102, l32_103, l32_104, l32_105, l32_106, l32_107, l32_108, l32_109, l32_110, l32_111, l32_112, l32_113, l32_114, l32_115, l32_116, l32_117, l32_118, l32_119, l32_120, l32_121, l32_122, l32_123, l32_124, l32_125, l32_126, l32_192, l32_200, l32_255, l32_999, l32_1000, l32_1344, l32_2147483639, l32_2147483647, l64_0, l64_1, l64_99, l64_999, l64_24883200000, l64_746496000000, jI_add, jI_sub, jI_mul, jI_neg, jL_add, jL_sub, jL_mul, jL_neg, jL_toI, jI_toL, jI_eqT, jI_eqF, jI_ltT, jI_ltF, jI_leT, jI_leF, jL_eqT, jL_eqF, jL_ltT, jL_ltF, jL_leT, jL_leF, inR_T, inR_F, bZ_T, bZ_F, not_true_eq_false, not_false_eq_true, jI_clamp, nI_j, bs_p, wl_p, u2_p, u3_p, u4_p, u5_p, zl_p, zr_p, mn_p, ms_p, if_pos, if_neg, ite_true, ite_false, s_rAreGears h hG, s_rJoint h, s_done, e]
  · refine ⟨.inl 0, ok_e (e := 0) (by decide), fun w h => ?_, fun w h => ?_⟩
    · refine ⟨jI (-1), w, ?_, CO.err (Sm.refl w) rfl h⟩
      unfold f_X1_cut
      by_cases qx : 0 ≤ x ∧ x < S 0
      · have qy : ¬ (0 ≤ y ∧ y < S 0) := fun z => q ⟨qx, z⟩
        simp (disch := omega) only [l32_0, l32_1, l32_2, l32_3, l32_4, l32_5, l32_6, l32_7, l32_8, l32_9, l32_10, l32_11, l32_12, l32_13, l32_14, l32_15, l32_16, l32_17, l32_18, l32_19, l32_20, l32_21, l32_22, l32_23, l32_24, l32_25, l32_26, l32_27, l32_28, l32_29, l32_30, l32_31, l32_32, l32_33, l32_34, l32_35, l32_36, l32_37, l32_38, l32_39, l32_40, l32_41, l32_42, l32_43, l32_44, l32_45, l32_46, l32_47, l32_48, l32_49, l32_50, l32_51, l32_52, l32_53, l32_54, l32_55, l32_56, l32_57, l32_58, l32_59, l32_60, l32_61, l32_62, l32_63, l32_64, l32_65, l32_66, l32_76, l32_86, l32_90, l32_92, l32_97, l32_98, l32_99, l32_100, l32_101, l32_102, l32_103, l32_104, l32_105, l32_106, l32_107, l32_108, l32_109, l32_110, l32_111, l32_112, l32_113, l32_114, l32_115, l32_116, l32_117, l32_118, l32_119, l32_120, l32_121, l32_122, l32_123, l32_124, l32_125, l32_126, l32_192, l32_200, l32_255, l32_999, l32_1000, l32_1344, l32_2147483639, l32_2147483647, l64_0, l64_1, l64_99, l64_999, l64_24883200000, l64_746496000000, jI_add, jI_sub, jI_mul, jI_neg, jL_add, jL_sub, jL_mul, jL_neg, jL_toI, jI_toL, jI_eqT, jI_eqF, jI_ltT, jI_ltF, jI_leT, jI_leF, jL_eqT, jL_eqF, jL_ltT, jL_ltF, jL_leT, jL_leF, inR_T, inR_F, bZ_T, bZ_F, not_true_eq_false, not_false_eq_true, jI_clamp, nI_j, bs_p, wl_p, u2_p, u3_p, u4_p, u5_p, zl_p, zr_p, mn_p, ms_p, if_pos, if_neg, ite_true, ite_false, s_isGear h hG]
      · simp (disch := omega) only [l32_0, l32_1, l32_2, l32_3, l32_4, l32_5, l32_6, l32_7, l32_8, l32_9, l32_10, l32_11, l32_12, l32_13, l32_14, l32_15, l32_16, l32_17, l32_18, l32_19, l32_20, l32_21, l32_22, l32_23, l32_24, l32_25, l32_26, l32_27, l32_28, l32_29, l32_30, l32_31, l32_32, l32_33, l32_34, l32_35, l32_36, l32_37, l32_38, l32_39, l32_40, l32_41, l32_42, l32_43, l32_44, l32_45, l32_46, l32_47, l32_48, l32_49, l32_50, l32_51, l32_52, l32_53, l32_54, l32_55, l32_56, l32_57, l32_58, l32_59, l32_60, l32_61, l32_62, l32_63, l32_64, l32_65, l32_66, l32_76, l32_86, l32_90, l32_92, l32_97, l32_98, l32_99, l32_100, l32_101, l32_102, l32_103, l32_104, l32_105, l32_106, l32_107, l32_108, l32_109, l32_110, l32_111, l32_112, l32_113, l32_114, l32_115, l32_116, l32_117, l32_118, l32_119, l32_120, l32_121, l32_122, l32_123, l32_124, l32_125, l32_126, l32_192, l32_200, l32_255, l32_999, l32_1000, l32_1344, l32_2147483639, l32_2147483647, l64_0, l64_1, l64_99, l64_999, l64_24883200000, l64_746496000000, jI_add, jI_sub, jI_mul, jI_neg, jL_add, jL_sub, jL_mul, jL_neg, jL_toI, jI_toL, jI_eqT, jI_eqF, jI_ltT, jI_ltF, jI_leT, jI_leF, jL_eqT, jL_eqF, jL_ltT, jL_ltF, jL_leT, jL_leF, inR_T, inR_F, bZ_T, bZ_F, not_true_eq_false, not_false_eq_true, jI_clamp, nI_j, bs_p, wl_p, u2_p, u3_p, u4_p, u5_p, zl_p, zr_p, mn_p, ms_p, if_pos, if_neg, ite_true, ite_false, s_isGear h hG]
    · refine ⟨jI 0, uI w 141 12 (jI 1), ?_, RO.err (Sm.refl w) rfl rfl⟩
      unfold f_X11_parts
      simp (disch := omega) only [l32_0, l32_1, l32_2, l32_3, l32_4, l32_5, l32_6, l32_7, l32_8, l32_9, l32_10, l32_11, l32_12, l32_13, l32_14, l32_15, l32_16, l32_17, l32_18, l32_19, l32_20, l32_21, l32_22, l32_23, l32_24, l32_25, l32_26, l32_27, l32_28, l32_29, l32_30, l32_31, l32_32, l32_33, l32_34, l32_35, l32_36, l32_37, l32_38, l32_39, l32_40, l32_41, l32_42, l32_43, l32_44, l32_45, l32_46, l32_47, l32_48, l32_49, l32_50, l32_51, l32_52, l32_53, l32_54, l32_55, l32_56, l32_57, l32_58, l32_59, l32_60, l32_61, l32_62, l32_63, l32_64, l32_65, l32_66, l32_76, l32_86, l32_90, l32_92, l32_97, l32_98, l32_99, l32_100, l32_101, l32_102, l32_103, l32_104, l32_105, l32_106, l32_107, l32_108, l32_109, l32_110, l32_111, l32_112, l32_113, l32_114, l32_115, l32_116, l32_117, l32_118, l32_119, l32_120, l32_121, l32_122, l32_123, l32_124, l32_125, l32_126, l32_192, l32_200, l32_255, l32_999, l32_1000, l32_1344, l32_2147483639, l32_2147483647, l64_0, l64_1, l64_99, l64_999, l64_24883200000, l64_746496000000, jI_add, jI_sub, jI_mul, jI_neg, jL_add, jL_sub, jL_mul, jL_neg, jL_toI, jI_toL, jI_eqT, jI_eqF, jI_ltT, jI_ltF, jI_leT, jI_leF, jL_eqT, jL_eqF, jL_ltT, jL_ltF, jL_leT, jL_leF, inR_T, inR_F, bZ_T, bZ_F, not_true_eq_false, not_false_eq_true, jI_clamp, nI_j, bs_p, wl_p, u2_p, u3_p, u4_p, u5_p, zl_p, zr_p, mn_p, ms_p, if_pos, if_neg, ite_true, ite_false, s_rAreGears h hG, s_fails]
