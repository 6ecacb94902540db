set_option maxHeartbeats 16000000 in
theorem op_join {S : Ab} (hG : Good S) {x y k : Int} (x1 : -2147483648 ≤ x) (x2 : x < 2147483648) (y1 : -2147483648 ≤ y) (y2 : y < 2147483648) (hk : k = 1 ∨ k = 2) : Op S [0, 1, 2, 3] (fun e => (e : Int) + 1) (fun w => f_X1_join w (jI x) (jI y) (jI (jk k))) (fun w => f_X11_joins w (jI x) (jI y) (jI k)) := by
  have hg := hG.1
  by_cases q : (0 ≤ x ∧ x < S 0) ∧ 0 ≤ y ∧ y < S 0
  · obtain ⟨qx, qy⟩ := q
    by_cases hxy : x = y
    · refine ⟨.inl 1, ok_e (e := 1) (by decide), fun w h => ?_, fun w h => ?_⟩
      · refine ⟨jI (-2), w, ?_, CO.err (Sm.refl w) rfl h⟩
        unfold f_X1_join
        simp (disch := omega) only [l32_0, l32_1, l32_2, l32_3, l32_4, l32_5, l32_6, l32_7, l32_8, l32_9, l32_10, l32_11, l32_12, l32_13, l32_14, l32_15, l32_16, l32_17, l32_18, l32_19, l32_20, l32_21, l32_22, l32_23, l32_24, l32_25, l32_26, l32_27, l32_28, l32_29, l32_30, l32_31, l32_32, l32_33, l32_34, l32_35, l32_36, l32_37, l32_38, l32_39, l32_40, l32_41, l32_42, l32_43, l32_44, l32_45, l32_46, l32_47, l32_48, l32_49, l32_50, l32_51, l32_52, l32_53, l32_54, l32_55, l32_56, l32_57, l32_58, l32_59, l32_60, l32_61, l32_62, l32_63, l32_64, l32_65, l32_66, l32_76, l32_86, l32_90, l32_92, l32_97, l32_98, l32_99, l32_100, l32_101, l32_102, l32_103, l32_104, l32_105, l32_106, l32_107, l32_108, l32_109, l32_110, l32_111, l32_112, l32_113, l32_114, l32_115, l32_116, l32_117, l32_118, l32_119, l32_120, l32_121, l32_122, l32_123, l32_124, l32_125, l32_126, l32_192, l32_200, l32_255, l32_999, l32_1000, l32_1344, l32_2147483639, l32_2147483647, l64_0, l64_1, l64_99, l64_999, l64_24883200000, l64_746496000000, jI_add, jI_sub, jI_mul, jI_neg, jL_add, jL_sub, jL_mul, jL_neg, jL_toI, jI_toL, jI_eqT, jI_eqF, jI_ltT, jI_ltF, jI_leT, jI_leF, jL_eqT, jL_eqF, jL_ltT, jL_ltF, jL_leT, jL_leF, inR_T, inR_F, bZ_T, bZ_F, not_true_eq_false, not_false_eq_true, jI_clamp, nI_j, bs_p, wl_p, u2_p, u3_p, u4_p, u5_p, zl_p, zr_p, mn_p, ms_p, if_pos, if_neg, ite_true, ite_false, s_isGear h hG]
      · refine ⟨jI 0, uI w 141 12 (jI 2), ?_, RO.err (Sm.refl w) rfl rfl⟩
        unfold f_X11_joins
        simp (disch := omega) only [l32_0, l32_1, l32_2, l32_3, l32_4, l32_5, l32_6, l32_7, l32_8, l32_9, l32_10, l32_11, l32_12, l32_13, l32_14, l32_15, l32_16, l32_17, l32_18, l32_19, l32_20, l32_21, l32_22, l32_23, l32_24, l32_25, l32_26, l32_27, l32_28, l32_29, l32_30, l32_31, l32_32, l32_33, l32_34, l32_35, l32_36, l32_37, l32_38, l32_39, l32_40, l32_41, l32_42, l32_43, l32_44, l32_45, l32_46, l32_47, l32_48, l32_49, l32_50, l32_51, l32_52, l32_53, l32_54, l32_55, l32_56, l32_57, l32_58, l32_59, l32_60, l32_61, l32_62, l32_63, l32_64, l32_65, l32_66, l32_76, l32_86, l32_90, l32_92, l32_97, l32_98, l32_99, l32_100, l32_101, l32_102, l32_103, l32_104, l32_105, l32_106, l32_107, l32_108, l32_109, l32_110, l32_111, l32_112, l32_113, l32_114, l32_115, l32_116, l32_117, l32_118, l32_119, l32_120, l32_121, l32_122, l32_123, l32_124, l32_125, l32_126, l32_192, l32_200, l32_255, l32_999, l32_1000, l32_1344, l32_2147483639, l32_2147483647, l64_0, l64_1, l64_99, l64_999, l64_24883200000, l64_746496000000, jI_add, jI_sub, jI_mul, jI_neg, jL_add, jL_sub, jL_mul, jL_neg, jL_toI, jI_toL, jI_eqT, jI_eqF, jI_ltT, jI_ltF, jI_leT, jI_leF, jL_eqT, jL_eqF, jL_ltT, jL_ltF, jL_leT, jL_leF, inR_T, inR_F, bZ_T, bZ_F, not_true_eq_false, not_false_eq_true, jI_clamp, nI_j, bs_p, wl_p, u2_p, u3_p, u4_p, u5_p, zl_p, zr_p, mn_p, ms_p, if_pos, if_neg, ite_true, ite_false, s_rAreGears h hG, s_fails]
    · have hj := hG.2.2.2.1 x y qx.1 (by omega) qy.1 (by omega)
      have hj2 := hj.2.1
      have hkk := jk_b (S (92 + 10 * x + y))
      have h30 := hG.2.2.2.2.1
      have j0 := jc_lo S
      have tx := tooth_b ((hG.2.1 x qx.1 (by omega)).1 qx.2)
      have ty' := (hG.2.1 y qy.1 (by omega)).1 qy.2
      have ty := tooth_b ty'
      have ub := tu_b hG qx.1 qx.2 y qy.1 (by omega)
      obtain ⟨qd, hqd, hqd2⟩ := due_m (S := S) (x := x) ty'
      have due2 : ∀ k, due S x y k = if k = 2 then 24883200000 else -qd := fun k => by unfold due; rw [hqd2]
      have dueb : -14929920000000000 ≤ due S x y k ∧ due S x y k ≤ 14929920000000000 := by
        rw [due2]
        have h1 : S (6 + y) * qd ≤ 24883200000 * 60 := by rw [← hqd]; omega
        have h2 : 0 ≤ S (6 + y) * qd := by rw [← hqd]; omega
        have h3 : 0 ≤ qd := Int.nonneg_of_mul_nonneg_right h2 (by omega)
        have h4 : 1 * qd ≤ S (6 + y) * qd := Int.mul_le_mul_of_nonneg_right (by omega) h3
        split <;> omega
      have gx : ∀ w, CSt w 1 S → f_X7_isGear w (jI x) = some (jI 1) := fun w h => by rw [s_isGear h hG x1 x2, bZ_pos qx]
      have gy : ∀ w, CSt w 1 S → f_X7_isGear w (jI y) = some (jI 1) := fun w h => by rw [s_isGear h hG y1 y2, bZ_pos qy]
      have ax : ∀ w, RSt w 142 0 S → f_X11_areGears w (jI x) (jI y) = some (jI 1) := fun w h => by rw [s_rAreGears h hG x1 x2 y1 y2, bZ_pos ⟨qx, qy⟩]
      have nxy : ¬ jI x = jI y := fun z => hxy ((iff_of_eq (jI_eq (by omega) (by omega) (by omega) (by omega))).mp z)
      -- what the class finds
      have cls : ∀ w, CSt w 1 S → ∃ w1 w2 m1 m2 r1 r2, f_X8_trace w (jI y) = some w1 ∧ f_X8_springGear w1 = some (jI r1) ∧ f_X8_trace w1 (jI x) = some w2 ∧ f_X8_springGear w2 = some (jI r2) ∧ Sm KC w w2 ∧ CSt w2 1 S ∧ CT w1 (TU S y) (ct (TU S y)) m1 ∧ CT w2 (TU S x) (ct (TU S x)) m2 ∧ (r1 = -1 ↔ ¬ Sp S y) ∧ (r2 = -1 ↔ ¬ Sp S x) ∧ (jI r1 = (-1 : Int32) ↔ r1 = -1) ∧ (jI r2 = (-1 : Int32) ↔ r2 = -1) := by
        intro w h
        obtain ⟨w1, m1, hr1, hs1, hC1, h1⟩ := s_trace hG h qy.1 qy.2
        obtain ⟨r1, hq1, hF1⟩ := s_springGear h1 hG hC1 (tu_b hG qy.1 qy.2)
        obtain ⟨w2, m2, hr2, hs2, hC2, h2⟩ := s_trace hG h1 qx.1 qx.2
        obtain ⟨r2, hq2, hF2⟩ := s_springGear h2 hG hC2 (tu_b hG qx.1 qx.2)
        have b1 := hF1.b
        have b2 := hF2.b
        exact ⟨w1, w2, m1, m2, r1, r2, hr1, hq1, hr2, hq2, (hs1.tr hs2).mono (fun k => KT_C), h2, hC1, hC2, hF1.none, hF2.none, by rw [m32_1]; exact iff_of_eq (jI_eq (by omega) (by omega) (by omega) (by omega)), by rw [m32_1]; exact iff_of_eq (jI_eq (by omega) (by omega) (by omega) (by omega))⟩
      by_cases c3 : S (92 + 10 * x + y) ≠ 0 ∨ 15 ≤ jc S / 2 ∨ HS S x y
      · refine ⟨.inl 2, ok_e (e := 2) (by decide), fun w h => ?_, fun w h => ?_⟩
        · obtain ⟨w1, w2, m1, m2, r1, r2, hr1, hq1, hr2, hq2, hs, h2, hC1, hC2, n1, n2, e1, e2⟩ := cls w h
          have sh := s_holds hC2 (tu_b hG qx.1 qx.2) (i := y) qy.1 (by omega)
          have sj := s_jointOf h2 (a := x) (b := y) qx.1 (by omega) qy.1 (by omega)
          refine ⟨(-3 : Int32), w2, j_bad (gx w h) (gy w h) nxy hr1 hq1 hr2 sh hq2 sj ?_, CO.err hs rfl h2⟩
          rcases c3 with c3 | c3 | c3
          · exact Or.inl (fun z => c3 (jk_0.mp ((iff_of_eq (jI_eq (by omega) (by omega) (by omega) (by omega))).mp z)))
          · refine Or.inr (Or.inl ?_)
            rw [c_m h2, l32_15, jI_le (by omega) (by omega) (by omega) (by omega)]; exact c3
          · refine Or.inr (Or.inr ⟨?_, fun z => n1.mp (e1.mp z) c3.2.1, fun z => n2.mp (e2.mp z) c3.2.2⟩)
            rw [bZ_neg (fun z => z c3.1)]; rfl
        · have J := s_rJoint h (a := x) (b := y) qx.1 (by omega) qy.1 (by omega)
          by_cases z0 : S (92 + 10 * x + y) = 0
          · have sj := s_rJoints h (fun k k0 k1 => hG.j2 k k0 k1)
            have c4 : jI (S (92 + 10 * x + y)) = 0 := by rw [z0]; rfl
            by_cases z2 : 15 ≤ jc S / 2
            · exact ⟨jI 0, uI w 141 12 (jI 3), jr_b2 (ax w h) nxy J c4 sj (by rw [show jc S / 2 = 15 by omega]; rfl), RO.err (Sm.refl w) rfl rfl⟩
            · have hs3 : HS S x y := by
                rcases c3 with c3 | c3 | c3
                · exact absurd z0 c3
                · exact absurd c3 z2
                · exact c3
              obtain ⟨r, w2, hr, hs, h2, ⟨rfl, hx⟩ | ⟨rfl, hx⟩⟩ := s_haveSprings hG h qx.1 qx.2 qy.1 qy.2
              · exact absurd hs3 hx
              · exact ⟨jI 0, uI w2 141 12 (jI 3), jr_b3 (ax w h) nxy J c4 sj (by rw [l32_15, jI_eq (by omega) (by omega) (by omega) (by omega)]; omega) hr (by decide +kernel), RO.err (hs.mono (fun k => KU_M)) (hs.1 141 (by unfold KU; omega)).1 rfl⟩
          · exact ⟨jI 0, uI w 141 12 (jI 3), jr_b1 (ax w h) nxy J (by rw [l32_0, jI_eq (by omega) (by omega) (by omega) (by omega)]; exact z0), RO.err (Sm.refl w) rfl rfl⟩
      · have z0 : S (92 + 10 * x + y) = 0 := Classical.byContradiction (fun z => c3 (Or.inl z))
        have z1 : jk (S (92 + 10 * x + y)) = 0 := jk_0.mpr z0
        have z2 : jc S / 2 < 15 := by
          have : ¬ 15 ≤ jc S / 2 := fun z => c3 (Or.inr (Or.inl z))
          omega
        have nh : ¬ HS S x y := fun z => c3 (Or.inr (Or.inr z))
        have kb := jk_b k
        by_cases c4 : TU S x y = 0 ∨ TU S x y = due S x y k
        · -- it is put
          have hc := jc_pj (v := k) qx.1 (by omega) qy.1 (by omega) hxy hj.1
          rw [if_neg (show k ≠ 0 by omega), if_pos z0] at hc
          have hG' : Good (pj S x y k) := hG.joint qx.1 qx.2 qy.1 qy.2 hxy (by omega) (by omega) (Pot.join hG qx.1 qx.2 qy.1 qy.2 hxy hk c4)
          have g0 : pj S x y k 0 = S 0 := pj_lo qx.1 qy.1 (by omega)
          have cl := ct_lo (TU (pj S x y k) x)
          have ch := ct_hi (TU (pj S x y k) x)
          refine ⟨.inr (ct (TU (pj S x y k) x), pj S x y k), ⟨cl, by omega, hG'⟩, fun w h => ?_, fun w h => ?_⟩
          · obtain ⟨w1, w2, m1, m2, r1, r2, hr1, hq1, hr2, hq2, hs, h2, hC1, hC2, n1, n2, e1, e2⟩ := cls w h
            have sh := s_holds hC2 (tu_b hG qx.1 qx.2) (i := y) qy.1 (by omega)
            have sj := s_jointOf h2 (a := x) (b := y) qx.1 (by omega) qy.1 (by omega)
            have sp := s_putJoint (w := w2) (v := k) qx.1 (show x < 10 by omega) qy.1 (show y < 10 by omega)
            have su := s_unitsBehind hG h2 (c := 24883200000) (k := k) qx.1 qx.2 qy.1 qy.2 (by omega) (by omega) (by omega)
            have su : f_X7_unitsBehind w2 (jL 24883200000) (jI x) (jI y) (jI (jk k)) = some (jL (due S x y k)) := su
            have h3 := h2.put_j (v := k) qx.1 (show x < 10 by omega) qy.1 (show y < 10 by omega)
            have h3 : CSt (uI (uI (uI w2 10 (x * 10 + y).toNat (jI (jk k))) 10 (y * 10 + x).toNat (jI (jk k))) 1 11 (jI (jc (pj S x y k) / 2))) 1 (pj S x y k) := h3
            rw [show jc (pj S x y k) / 2 = jc S / 2 + 1 by omega] at h3
            obtain ⟨w5, m5, hr5, hs5, hC5, h5⟩ := s_trace hG' h3 qx.1 (by rw [g0]; exact qx.2)
            refine ⟨jI (ct (TU (pj S x y k) x)), w5, ?_, CO.val ((((hs.tr (Sm.wI _ (by unfold KC; omega))).tr (Sm.wI _ (by unfold KC; omega))).tr (Sm.wI _ (by unfold KC; omega))).tr (hs5.mono (fun k => KT_C))) rfl h5⟩
            have e5 := hC5.2.1
            have e3 := hC2.1 y qy.1 (by omega)
            have k4 : jI (jk (S (92 + 10 * x + y))) = 0 := by rw [z1]; rfl
            have k5 : ¬ (15 : Int32) ≤ gI w2 1 11 := by rw [c_m h2, l32_15, jI_le (by omega) (by omega) (by omega) (by omega)]; omega
            have hr5' : f_X8_trace (uI (uI (uI w2 10 (x * 10 + y).toNat (jI (jk k))) 10 (y * 10 + x).toNat (jI (jk k))) 1 11 (gI (uI (uI w2 10 (x * 10 + y).toNat (jI (jk k))) 10 (y * 10 + x).toNat (jI (jk k))) 1 11 + (1 : Int32))) (jI x) = some w5 := by
              rw [gI_uI, if_neg (by omega), gI_uI, if_neg (by omega), c_m h2, l32_1, jI_add]; exact hr5
            rw [← e5]
            by_cases z3 : TU S x y = 0
            · refine j_put (gx w h) (gy w h) nxy hr1 hq1 hr2 sh hq2 sj k4 k5 (by rw [bZ_neg (fun z => z z3)]; rfl) ?_ sp hr5'
              by_cases z4 : r1 = -1
              · exact Or.inl (e1.mpr z4)
              · exact Or.inr (e2.mpr (n2.mpr (fun z => nh ⟨z3, Classical.byContradiction (fun z6 => z4 (n1.mpr z6)), z⟩)))
            · refine j_put2 (gx w h) (gy w h) nxy hr1 hq1 hr2 sh sj k4 k5 (by rw [bZ_pos z3]; decide +kernel) ?_ su ?_ sp hr5'
              · rw [inR_j (by omega) (by omega)]; omega
              · rw [jI_clamp (by omega) (by omega), e3, c4.resolve_left z3]
          · have sj := s_rJoints h (fun k k0 k1 => hG.j2 k k0 k1)
            obtain ⟨r, w2, hr, hs, h2, ⟨rfl, hx⟩ | ⟨rfl, hx⟩⟩ := s_haveSprings hG h qx.1 qx.2 qy.1 qy.2
            · obtain ⟨w3, hr3, hs3, hR3, h3⟩ := s_rTurns hG h2 qx.1 qx.2
              have h4 := h3.joint (v := k) qx.1 (show x < 10 by omega) qy.1 (show y < 10 by omega)
              obtain ⟨w5, hr5, hs5, hR5, h5⟩ := s_rTurns hG' h4 qx.1 (by rw [g0]; exact qx.2)
              have em := s_rMembers hR5
              have hs6 : Sm KM w w5 := ((((hs.tr hs3).mono (fun k => KU_M)).tr (Sm.wL _ (by unfold KM; omega))).tr (Sm.wL _ (by unfold KM; omega))).tr (hs5.mono (fun k => KU_M))
              have h141 : gI w5 141 = gI w 141 := ((hs5.1 141 (by unfold KU; omega)).1.trans (hs3.1 141 (by unfold KU; omega)).1).trans (hs.1 141 (by unfold KU; omega)).1
              refine ⟨jI (ct (TU (pj S x y k) x)), uI w5 141 12 (jI 0), ?_, RO.val hs6 h141 h5⟩
              have J := s_rJoint h (a := x) (b := y) qx.1 (by omega) qy.1 (by omega)
              have k4 : jI (S (92 + 10 * x + y)) = 0 := by rw [z0]; rfl
              have k5 : ¬ jI (jc S / 2) = (15 : Int32) := by rw [l32_15, jI_eq (by omega) (by omega) (by omega) (by omega)]; omega
              have iy : inR (jI y) 10 = true := by rw [inR_j (by omega) (by omega)]; omega
              have e1 : (jI y).toNatClampNeg = y.toNat := jI_clamp (by omega) (by omega)
              have i3 : inR ((6 : Int32) + jI x) 192 = true := by rw [l32_6, jI_add, inR_j (by omega) (by omega)]; omega
              have i4 : inR ((6 : Int32) + jI y) 192 = true := by rw [l32_6, jI_add, inR_j (by omega) (by omega)]; omega
              have g3 : gL w2 142 ((6 : Int32) + jI x).toNatClampNeg = jL (S (6 + x)) := by rw [l32_6, jI_add, jI_clamp (by omega) (by omega), r_g h2 _ (by omega) (by omega)]
              have g4 : gL w2 142 ((6 : Int32) + jI y).toNatClampNeg = jL (S (6 + y)) := by rw [l32_6, jI_add, jI_clamp (by omega) (by omega), r_g h2 _ (by omega) (by omega)]
              have g5 : ¬ gL w2 142 ((6 : Int32) + jI y).toNatClampNeg = 0 := by rw [g4, l64_0, jL_eq (by omega) (by omega) (by omega) (by omega)]; omega
              have e6 : ((-24883200000 : Int64) * gL w2 142 ((6 : Int32) + jI x).toNatClampNeg) / gL w2 142 ((6 : Int32) + jI y).toNatClampNeg = jL (due S x y 1) := by
                rw [g3, g4, show (-24883200000 : Int64) = jL (-24883200000) from rfl, jL_mul, jL_div (by omega) (by omega) (by omega) (by omega), due2, if_neg (by decide), Int.neg_mul, hqd, ← Int.mul_neg, Int.mul_tdiv_cancel_left _ (by omega)]
              have ixy : ((92 : Int32) + (10 : Int32) * jI x) + jI y = jI (92 + 10 * x + y) := by rw [l32_92, l32_10, jI_mul, jI_add, jI_add]
              have iyx : ((92 : Int32) + (10 : Int32) * jI y) + jI x = jI (92 + 10 * y + x) := by rw [l32_92, l32_10, jI_mul, jI_add, jI_add]
              have i1 : inR (((92 : Int32) + (10 : Int32) * jI x) + jI y) 192 = true := by rw [ixy, inR_j (by omega) (by omega)]; omega
              have i2 : inR (((92 : Int32) + (10 : Int32) * jI y) + jI x) 192 = true := by rw [iyx, inR_j (by omega) (by omega)]; omega
              have hr5' : f_X11_turns (uL (uL w3 142 (((92 : Int32) + (10 : Int32) * jI x) + jI y).toNatClampNeg (jI k).toInt64) 142 (((92 : Int32) + (10 : Int32) * jI y) + jI x).toNatClampNeg (jI k).toInt64) (jI x) = some w5 := by
                rw [ixy, iyx, jI_clamp (by omega) (by omega), jI_clamp (by omega) (by omega), jI_toL (by omega) (by omega)]; exact hr5
              have kn : gI w3 149 (jI y).toNatClampNeg = jI (bZ (TU S x y ≠ 0)) := by rw [e1]; exact rt_k hR3 y qy.1 (by omega)
              have un : gL w3 148 (jI y).toNatClampNeg = jL (TU S x y) := by rw [e1]; exact rt_u hR3 y qy.1 (by omega)
              rcases hk with rfl | rfl
              · refine jr_m (ax w h) nxy J k4 sj k5 hr rfl (by decide +kernel) i3 i4 g5 hr3 iy ?_ i1 i2 hr5' em
                rcases c4 with c4 | c4
                · exact Or.inl (by rw [kn, bZ_neg (fun z => z c4)]; rfl)
                · exact Or.inr (by rw [un, e6, c4])
              · refine jr_a (ax w h) nxy J k4 sj k5 hr rfl rfl hr3 iy ?_ i1 i2 hr5' em
                rcases c4 with c4 | c4
                · exact Or.inl (by rw [kn, bZ_neg (fun z => z c4)]; rfl)
                · exact Or.inr (by rw [un, c4, due2, if_pos rfl]; rfl)
            · exact absurd hx nh
        · -- it would not turn
          have z3 : TU S x y ≠ 0 := fun z => c4 (Or.inl z)
          have z6 : TU S x y ≠ due S x y k := fun z => c4 (Or.inr z)
          refine ⟨.inl 3, ok_e (e := 3) (by decide), fun w h => ?_, fun w h => ?_⟩
          · obtain ⟨w1, w2, m1, m2, r1, r2, hr1, hq1, hr2, hq2, hs, h2, hC1, hC2, n1, n2, e1, e2⟩ := cls w h
            have sh := s_holds hC2 (tu_b hG qx.1 qx.2) (i := y) qy.1 (by omega)
            have sj := s_jointOf h2 (a := x) (b := y) qx.1 (by omega) qy.1 (by omega)
            have su := s_unitsBehind hG h2 (c := 24883200000) (k := k) qx.1 qx.2 qy.1 qy.2 (by omega) (by omega) (by omega)
            have su : f_X7_unitsBehind w2 (jL 24883200000) (jI x) (jI y) (jI (jk k)) = some (jL (due S x y k)) := su
            have e3 := hC2.1 y qy.1 (by omega)
            have k4 : jI (jk (S (92 + 10 * x + y))) = 0 := by rw [z1]; rfl
            have k5 : ¬ (15 : Int32) ≤ gI w2 1 11 := by rw [c_m h2, l32_15, jI_le (by omega) (by omega) (by omega) (by omega)]; omega
            refine ⟨(-4 : Int32), w2, j_no (gx w h) (gy w h) nxy hr1 hq1 hr2 sh sj k4 k5 (by rw [bZ_pos z3]; decide +kernel) ?_ su ?_, CO.err hs rfl h2⟩
            · rw [inR_j (by omega) (by omega)]; omega
            · rw [jI_clamp (by omega) (by omega), e3, jL_eq (by omega) (by omega) (by omega) (by omega)]; exact z6
          · have sj := s_rJoints h (fun k k0 k1 => hG.j2 k k0 k1)
            obtain ⟨r, w2, hr, hs, h2, ⟨rfl, hx⟩ | ⟨rfl, hx⟩⟩ := s_haveSprings hG h qx.1 qx.2 qy.1 qy.2
            · obtain ⟨w3, hr3, hs3, hR3, h3⟩ := s_rTurns hG h2 qx.1 qx.2
              refine ⟨jI 0, uI w3 141 12 (jI 4), ?_, RO.err ((hs.tr hs3).mono (fun k => KU_M)) ((hs3.1 141 (by unfold KU; omega)).1.trans (hs.1 141 (by unfold KU; omega)).1) rfl⟩
              have J := s_rJoint h (a := x) (b := y) qx.1 (by omega) qy.1 (by omega)
              have k4 : jI (S (92 + 10 * x + y)) = 0 := by rw [z0]; rfl
              have k5 : ¬ jI (jc S / 2) = (15 : Int32) := by rw [l32_15, jI_eq (by omega) (by omega) (by omega) (by omega)]; omega
              have iy : inR (jI y) 10 = true := by rw [inR_j (by omega) (by omega)]; omega
              have e1 : (jI y).toNatClampNeg = y.toNat := jI_clamp (by omega) (by omega)
              have i3 : inR ((6 : Int32) + jI x) 192 = true := by rw [l32_6, jI_add, inR_j (by omega) (by omega)]; omega
              have i4 : inR ((6 : Int32) + jI y) 192 = true := by rw [l32_6, jI_add, inR_j (by omega) (by omega)]; omega
              have g3 : gL w2 142 ((6 : Int32) + jI x).toNatClampNeg = jL (S (6 + x)) := by rw [l32_6, jI_add, jI_clamp (by omega) (by omega), r_g h2 _ (by omega) (by omega)]
              have g4 : gL w2 142 ((6 : Int32) + jI y).toNatClampNeg = jL (S (6 + y)) := by rw [l32_6, jI_add, jI_clamp (by omega) (by omega), r_g h2 _ (by omega) (by omega)]
              have g5 : ¬ gL w2 142 ((6 : Int32) + jI y).toNatClampNeg = 0 := by rw [g4, l64_0, jL_eq (by omega) (by omega) (by omega) (by omega)]; omega
              have e6 : ((-24883200000 : Int64) * gL w2 142 ((6 : Int32) + jI x).toNatClampNeg) / gL w2 142 ((6 : Int32) + jI y).toNatClampNeg = jL (due S x y 1) := by
                rw [g3, g4, show (-24883200000 : Int64) = jL (-24883200000) from rfl, jL_mul, jL_div (by omega) (by omega) (by omega) (by omega), due2, if_neg (by decide), Int.neg_mul, hqd, ← Int.mul_neg, Int.mul_tdiv_cancel_left _ (by omega)]
              have kn : ¬ gI w3 149 (jI y).toNatClampNeg = 0 := by rw [e1, rt_k hR3 y qy.1 (by omega), bZ_pos z3]; decide +kernel
              have un : gL w3 148 (jI y).toNatClampNeg = jL (TU S x y) := by rw [e1]; exact rt_u hR3 y qy.1 (by omega)
              rcases hk with rfl | rfl
              · refine jr_mn (ax w h) nxy J k4 sj k5 hr rfl (by decide +kernel) i3 i4 g5 hr3 iy kn ?_
                rw [un, e6, jL_eq (by omega) (by omega) (by omega) (by omega)]; exact z6
              · refine jr_an (ax w h) nxy J k4 sj k5 hr rfl rfl hr3 iy kn ?_
                rw [un, show (24883200000 : Int64) = jL (due S x y 2) by rw [due2, if_pos rfl]; rfl, jL_eq (by omega) (by omega) (by omega) (by omega)]; exact z6
            · exact absurd hx nh
  · refine ⟨.inl 0, ok_e (e := 0) (by decide), fun w h => ?_, fun w h => ?_⟩
    · refine ⟨(-1 : Int32), w, ?_, CO.err (Sm.refl w) rfl h⟩
      by_cases qx : 0 ≤ x ∧ x < S 0
      · have qy : ¬ (0 ≤ y ∧ y < S 0) := fun z => q ⟨qx, z⟩
        exact j_g2 (by rw [s_isGear h hG x1 x2, bZ_pos qx]) (by rw [s_isGear h hG y1 y2, bZ_neg qy])
      · exact j_g1 (by rw [s_isGear h hG x1 x2, bZ_neg qx])
    · exact ⟨jI 0, uI w 141 12 (jI 1), jr_g (by rw [s_rAreGears h hG x1 x2 y1 y2, bZ_neg q]), RO.err (Sm.refl w) rfl rfl⟩
