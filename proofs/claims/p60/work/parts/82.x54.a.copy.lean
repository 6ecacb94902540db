/-! COPIES of the state, and the states before the latest changes -/
def Kb (b : Nat) (k : Nat) : Prop := b ≤ k ∧ k < b + 11
theorem Kb.no {b c : Nat} (hd : b + 11 ≤ c ∨ c + 11 ≤ b) {r : Nat} (hr : r < 11) : ¬ Kb b (c + r) := by unfold Kb; omega
theorem CSt.far {w v : Wd} {b c : Nat} {S : Ab} (h : CSt w c S) (hs : Sm (Kb b) w v) (hd : b + 11 ≤ c ∨ c + 11 ≤ b) : CSt v c S :=
  h.kept (fun r hr => hs.1 _ (Kb.no hd hr))
/-- a gear's numbers, copied -/
def cpW (w : Wd) (b0 b1 i : Nat) : Wd := uI (uI (uI (uI (uL (uI (uL (uI w (b0 + 1) i (gI w (b1 + 1) i)) (b0 + 2) i (gL w (b1 + 2) i)) (b0 + 3) i (gI w (b1 + 3) i)) (b0 + 4) i (gL w (b1 + 4) i)) (b0 + 5) i (gI w (b1 + 5) i)) (b0 + 6) i (gI w (b1 + 6) i)) (b0 + 7) i (gI w (b1 + 7) i)) (b0 + 8) i (gI w (b1 + 8) i)
def CP (w : Wd) (b : Nat) (S : Ab) (i : Int) : Prop := gI w (b + 1) i.toNat = jI (S (6 + i)) ∧ gL w (b + 2) i.toNat = jL (S (16 + i)) ∧ gI w (b + 3) i.toNat = jI (S (66 + i)) ∧ (S (66 + i) = 1 → gL w (b + 4) i.toNat = jL (S (76 + i))) ∧ gI w (b + 5) i.toNat = jI (S (56 + i)) ∧ gI w (b + 6) i.toNat = jI (S (26 + i)) ∧ gI w (b + 7) i.toNat = jI (S (36 + i)) ∧ gI w (b + 8) i.toNat = jI (S (46 + i))
theorem cpW_s (w : Wd) (b0 b1 i : Nat) : Sm (Kb b0) w (cpW w b0 b1 i) := by
  unfold cpW
  refine (((((((Sm.wI w ?_).tr (Sm.wL _ ?_)).tr (Sm.wI _ ?_)).tr (Sm.wL _ ?_)).tr (Sm.wI _ ?_)).tr (Sm.wI _ ?_)).tr (Sm.wI _ ?_)).tr (Sm.wI _ ?_) <;> (unfold Kb; omega)
theorem cpW_at {w : Wd} {b0 b1 i : Nat} {S : Ab} (hd : b0 + 11 ≤ b1 ∨ b1 + 11 ≤ b0) (h : CP w b1 S i) : CP (cpW w b0 b1 i) b0 S i := by
  obtain ⟨h1, h2, h3, h4, h5, h6, h7, h8⟩ := h
  rw [Int.toNat_natCast] at h1 h2 h3 h4 h5 h6 h7 h8
  unfold CP cpW
  rw [Int.toNat_natCast]
  refine ⟨?_, ?_, ?_, fun q => ?_, ?_, ?_, ?_, ?_⟩
  · simp (disch := omega) only [gI_uI, gI_uL, if_neg, if_pos, and_self, ite_true]; exact h1
  · simp (disch := omega) only [gL_uI, gL_uL, if_neg, if_pos, and_self, ite_true]; exact h2
  · simp (disch := omega) only [gI_uI, gI_uL, if_neg, if_pos, and_self, ite_true]; exact h3
  · simp (disch := omega) only [gL_uI, gL_uL, if_neg, if_pos, and_self, ite_true]; exact h4 q
  · simp (disch := omega) only [gI_uI, gI_uL, if_neg, if_pos, and_self, ite_true]; exact h5
  · simp (disch := omega) only [gI_uI, gI_uL, if_neg, if_pos, and_self, ite_true]; exact h6
  · simp (disch := omega) only [gI_uI, gI_uL, if_neg, if_pos, and_self, ite_true]; exact h7
  · simp (disch := omega) only [gI_uI, gI_uL, if_neg, if_pos, and_self, ite_true]; exact h8
theorem cpW_ne {w : Wd} {b0 b1 i : Nat} {S : Ab} {x : Int} (h0 : 0 ≤ x) (hx : x ≠ i) (h : CP w b0 S x) : CP (cpW w b0 b1 i) b0 S x := by
  obtain ⟨h1, h2, h3, h4, h5, h6, h7, h8⟩ := h
  unfold CP cpW
  refine ⟨?_, ?_, ?_, fun q => ?_, ?_, ?_, ?_, ?_⟩
  · simp (disch := omega) only [gI_uI, gI_uL, if_neg]; exact h1
  · simp (disch := omega) only [gL_uI, gL_uL, if_neg]; exact h2
  · simp (disch := omega) only [gI_uI, gI_uL, if_neg]; exact h3
  · simp (disch := omega) only [gL_uI, gL_uL, if_neg]; exact h4 q
  · simp (disch := omega) only [gI_uI, gI_uL, if_neg]; exact h5
  · simp (disch := omega) only [gI_uI, gI_uL, if_neg]; exact h6
  · simp (disch := omega) only [gI_uI, gI_uL, if_neg]; exact h7
  · simp (disch := omega) only [gI_uI, gI_uL, if_neg]; exact h8
theorem s_copy {w : Wd} {b0 b1 : Nat} {S : Ab} (hG : Good S) (h : CSt w b1 S) (hd : b0 + 11 ≤ b1 ∨ b1 + 11 ≤ b0) : ∃ w', f_X7_copyFrom w b0 b1 = some w' ∧ Sm (Kb b0) w w' ∧ CSt w' b0 S := by
  have hg := hG.1
  obtain ⟨r, hr, hP⟩ := lp (fun n (s : Int32 × Wd) => p_X7_copyFrom_2 b0 b1 n s.1 s.2)
    (fun i s => s.1 = jI i ∧ Sm (Kb b0) w s.2 ∧ ∀ x : Int, 0 ≤ x → x < i → CP s.2 b0 S x) 10
    (fun r => ∃ q, r = .inl q ∧ Sm (Kb b0) w q.2 ∧ ∀ x : Int, 0 ≤ x → x < 10 → CP q.2 b0 S x)
    (fun i n s hi hI => by
      obtain ⟨y, v⟩ := s
      obtain ⟨rfl, hs, hx⟩ := hI
      have hs : Sm (Kb b0) w v := hs
      have hc : CSt v b1 S := h.far hs hd
      have hp : CP v b1 S i := hc.1 i (by omega) (by omega)
      have k := hG.2.1 i (by omega) (by omega)
      obtain ⟨h1, h2, h3, h4, h5, h6, h7, h8⟩ := hp
      rw [Int.toNat_natCast] at h3 h5 h8
      have ka := k.2.2.2.1
      have kb := k.2.2.2.2.2.1
      have kc := k.2.2.2.2.2.2.1
      have n3 : vp_nar .boolean (gI v (b1 + 3) i) = gI v (b1 + 3) i := by rw [h3]; exact z_bool (by omega) (by omega) k.2.2.2.1
      have n5 : vp_nar .boolean (gI v (b1 + 5) i) = gI v (b1 + 5) i := by rw [h5]; exact z_bool (by omega) (by omega) k.2.2.2.2.2.1
      have n8 : vp_nar .boolean (gI v (b1 + 8) i) = gI v (b1 + 8) i := by rw [h8]; exact z_bool (by omega) (by omega) k.2.2.2.2.2.2.1
      refine Or.inl ⟨(jI ((i + 1 : Nat) : Int), cpW v b0 b1 i), ⟨rfl, hs.tr (cpW_s v b0 b1 i), fun x x0 x1 => ?_⟩, ?_⟩
      · by_cases z : x = i
        · rw [z]; exact cpW_at hd (hc.1 i (by omega) (by omega))
        · exact cpW_ne x0 z (hx x x0 (by omega))
      · show p_X7_copyFrom_2 b0 b1 (n + 1) (jI i) v = p_X7_copyFrom_2 b0 b1 n (jI ((i + 1 : Nat) : Int)) (cpW v b0 b1 i)
        unfold cpW
        rw [p_X7_copyFrom_2]
        simp (disch := omega) only [l32_0, l32_1, l32_2, l32_3, l32_4, l32_5, l32_6, l32_7, l32_8, l32_9, l32_10, l32_11, l32_12, l32_13, l32_14, l32_15, l32_16, l32_17, l32_18, l32_19, l32_20, l32_21, l32_22, l32_23, l32_24, l32_25, l32_26, l32_27, l32_28, l32_29, l32_30, l32_31, l32_32, l32_33, l32_34, l32_35, l32_36, l32_37, l32_38, l32_39, l32_40, l32_41, l32_42, l32_43, l32_44, l32_45, l32_46, l32_47, l32_48, l32_49, l32_50, l32_51, l32_52, l32_53, l32_54, l32_55, l32_56, l32_57, l32_58, l32_59, l32_60, l32_61, l32_62, l32_63, l32_64, l32_65, l32_66, l32_76, l32_86, l32_90, l32_92, l32_97, l32_98, l32_99, l32_100, l32_101, l32_102, l32_103, l32_104, l32_105, l32_106, l32_107, l32_108, l32_109, l32_110, l32_111, l32_112, l32_113, l32_114, l32_115, l32_116, l32_117, l32_118, l32_119, l32_120, l32_121, l32_122, l32_123, l32_124, l32_125, l32_126, l32_192, l32_200, l32_255, l32_999, l32_1000, l32_1344, l32_2147483639, l32_2147483647, l64_0, l64_1, l64_99, l64_999, l64_24883200000, l64_746496000000, jI_add, jI_sub, jI_mul, jI_neg, jL_add, jL_sub, jL_mul, jL_neg, jL_toI, jI_toL, jI_eqT, jI_eqF, jI_ltT, jI_ltF, jI_leT, jI_leF, jL_eqT, jL_eqF, jL_ltT, jL_ltF, jL_leT, jL_leF, inR_T, inR_F, bZ_T, bZ_F, not_true_eq_false, not_false_eq_true, jI_clamp, nI_j, bs_p, wl_p, u2_p, u3_p, u4_p, u5_p, zl_p, zr_p, mn_p, ms_p, if_pos, if_neg, ite_true, ite_false, Int.toNat_natCast, gI_uI, gI_uL, gL_uI, gL_uL, n3, n5, n8] <;> rfl)
    (fun n s hI => by
      obtain ⟨y, v⟩ := s
      obtain ⟨rfl, hs, hx⟩ := hI
      refine ⟨.inl (jI 10, v), ?_, _, rfl, hs, hx⟩
      show p_X7_copyFrom_2 b0 b1 (n + 1) (jI ((10 : Nat) : Int)) v = _
      rw [p_X7_copyFrom_2, show ((10 : Nat) : Int) = 10 from rfl]
      simp (disch := omega) only [l32_0, l32_1, l32_2, l32_3, l32_4, l32_5, l32_6, l32_7, l32_8, l32_9, l32_10, l32_11, l32_12, l32_13, l32_14, l32_15, l32_16, l32_17, l32_18, l32_19, l32_20, l32_21, l32_22, l32_23, l32_24, l32_25, l32_26, l32_27, l32_28, l32_29, l32_30, l32_31, l32_32, l32_33, l32_34, l32_35, l32_36, l32_37, l32_38, l32_39, l32_40, l32_41, l32_42, l32_43, l32_44, l32_45, l32_46, l32_47, l32_48, l32_49, l32_50, l32_51, l32_52, l32_53, l32_54, l32_55, l32_56, l32_57, l32_58, l32_59, l32_60, l32_61, l32_62, l32_63, l32_64, l32_65, l32_66, l32_76, l32_86, l32_90, l32_92, l32_97, l32_98, l32_99, l32_100, l32_101, l32_102, l32_103, l32_104, l32_105, l32_106, l32_107, l32_108, l32_109, l32_110, l32_111, l32_112, l32_113, l32_114, l32_115, l32_116, l32_117, l32_118, l32_119, l32_120, l32_121, l32_122, l32_123, l32_124, l32_125, l32_126, l32_192, l32_200, l32_255, l32_999, l32_1000, l32_1344, l32_2147483639, l32_2147483647, l64_0, l64_1, l64_99, l64_999, l64_24883200000, l64_746496000000, jI_add, jI_sub, jI_mul, jI_neg, jL_add, jL_sub, jL_mul, jL_neg, jL_toI, jI_toL, jI_eqT, jI_eqF, jI_ltT, jI_ltF, jI_leT, jI_leF, jL_eqT, jL_eqF, jL_ltT, jL_ltF, jL_leT, jL_leF, inR_T, inR_F, bZ_T, bZ_F, not_true_eq_false, not_false_eq_true, jI_clamp, nI_j, bs_p, wl_p, u2_p, u3_p, u4_p, u5_p, zl_p, zr_p, mn_p, ms_p, if_pos, if_neg, ite_true, ite_false]) 2000 0 (jI 0, w) (by omega) (by omega) ⟨rfl, Sm.refl w, fun x x0 x1 => by omega⟩
  obtain ⟨⟨y1, w1⟩, rfl, hs1, hx1⟩ := hP
  have hr : p_X7_copyFrom_2 b0 b1 2000 (jI 0) w = some (.inl (y1, w1)) := hr
  obtain ⟨r2, hr2, hP2⟩ := lp (fun n (s : Int32 × Wd) => p_X7_copyFrom_112 b0 b1 n s.1 s.2)
    (fun i s => s.1 = jI i ∧ Sm (Kb b0) w s.2 ∧ (∀ x : Int, 0 ≤ x → x < 10 → CP s.2 b0 S x) ∧ ∀ k : Int, 0 ≤ k → k < i → gI s.2 (b0 + 9) k.toNat = jI (jk (S (92 + k)))) 100
    (fun r => ∃ q, r = .inl q ∧ Sm (Kb b0) w q.2 ∧ (∀ x : Int, 0 ≤ x → x < 10 → CP q.2 b0 S x) ∧ ∀ k : Int, 0 ≤ k → k < 100 → gI q.2 (b0 + 9) k.toNat = jI (jk (S (92 + k))))
    (fun i n s hi hI => by
      obtain ⟨y, v⟩ := s
      obtain ⟨rfl, hs, hx, hk⟩ := hI
      have hs : Sm (Kb b0) w v := hs
      have hc : CSt v b1 S := h.far hs hd
      have e := hc.2.1 i (by omega) (by omega)
      rw [Int.toNat_natCast] at e
      refine Or.inl ⟨(jI ((i + 1 : Nat) : Int), uI v (b0 + 9) i (jI (jk (S (92 + i))))), ⟨rfl, hs.tr (Sm.wI v (by unfold Kb; omega)), fun x x0 x1 => ?_, fun k k0 k1 => ?_⟩, ?_⟩
      · obtain ⟨h1, h2, h3, h4, h5, h6, h7, h8⟩ := hx x x0 x1
        unfold CP
        refine ⟨?_, ?_, ?_, fun q => ?_, ?_, ?_, ?_, ?_⟩
        · rw [gI_uI, if_neg (by omega)]; exact h1
        · exact h2
        · rw [gI_uI, if_neg (by omega)]; exact h3
        · exact h4 q
        · rw [gI_uI, if_neg (by omega)]; exact h5
        · rw [gI_uI, if_neg (by omega)]; exact h6
        · rw [gI_uI, if_neg (by omega)]; exact h7
        · rw [gI_uI, if_neg (by omega)]; exact h8
      · show gI (uI v (b0 + 9) i (jI (jk (S (92 + i))))) (b0 + 9) k.toNat = _
        rw [gI_uI]
        by_cases z : k = i
        · rw [z, if_pos ⟨rfl, Int.toNat_natCast i⟩]
        · rw [if_neg (by omega)]; exact hk k k0 (by omega)
      · show p_X7_copyFrom_112 b0 b1 (n + 1) (jI i) v = p_X7_copyFrom_112 b0 b1 n (jI ((i + 1 : Nat) : Int)) (uI v (b0 + 9) i (jI (jk (S (92 + i)))))
        rw [p_X7_copyFrom_112]
        simp (disch := omega) only [l32_0, l32_1, l32_2, l32_3, l32_4, l32_5, l32_6, l32_7, l32_8, l32_9, l32_10, l32_11, l32_12, l32_13, l32_14, l32_15, l32_16, l32_17, l32_18, l32_19, l32_20, l32_21, l32_22, l32_23, l32_24, l32_25, l32_26, l32_27, l32_28, l32_29, l32_30, l32_31, l32_32, l32_33, l32_34, l32_35, l32_36, l32_37, l32_38, l32_39, l32_40, l32_41, l32_42, l32_43, l32_44, l32_45, l32_46, l32_47, l32_48, l32_49, l32_50, l32_51, l32_52, l32_53, l32_54, l32_55, l32_56, l32_57, l32_58, l32_59, l32_60, l32_61, l32_62, l32_63, l32_64, l32_65, l32_66, l32_76, l32_86, l32_90, l32_92, l32_97, l32_98, l32_99, l32_100, l32_101, l32_102, l32_103, l32_104, l32_105, l32_106, l32_107, l32_108, l32_109, l32_110, l32_111, l32_112, l32_113, l32_114, l32_115, l32_116, l32_117, l32_118, l32_119, l32_120, l32_121, l32_122, l32_123, l32_124, l32_125, l32_126, l32_192, l32_200, l32_255, l32_999, l32_1000, l32_1344, l32_2147483639, l32_2147483647, l64_0, l64_1, l64_99, l64_999, l64_24883200000, l64_746496000000, jI_add, jI_sub, jI_mul, jI_neg, jL_add, jL_sub, jL_mul, jL_neg, jL_toI, jI_toL, jI_eqT, jI_eqF, jI_ltT, jI_ltF, jI_leT, jI_leF, jL_eqT, jL_eqF, jL_ltT, jL_ltF, jL_leT, jL_leF, inR_T, inR_F, bZ_T, bZ_F, not_true_eq_false, not_false_eq_true, jI_clamp, nI_j, bs_p, wl_p, u2_p, u3_p, u4_p, u5_p, zl_p, zr_p, mn_p, ms_p, if_pos, if_neg, ite_true, ite_false, Int.toNat_natCast, e, jk_nar] <;> rfl)
    (fun n s hI => by
      obtain ⟨y, v⟩ := s
      obtain ⟨rfl, hs, hx, hk⟩ := hI
      refine ⟨.inl (jI 100, v), ?_, _, rfl, hs, hx, hk⟩
      show p_X7_copyFrom_112 b0 b1 (n + 1) (jI ((100 : Nat) : Int)) v = _
      rw [p_X7_copyFrom_112, show ((100 : Nat) : Int) = 100 from rfl]
      simp (disch := omega) only [l32_0, l32_1, l32_2, l32_3, l32_4, l32_5, l32_6, l32_7, l32_8, l32_9, l32_10, l32_11, l32_12, l32_13, l32_14, l32_15, l32_16, l32_17, l32_18, l32_19, l32_20, l32_21, l32_22, l32_23, l32_24, l32_25, l32_26, l32_27, l32_28, l32_29, l32_30, l32_31, l32_32, l32_33, l32_34, l32_35, l32_36, l32_37, l32_38, l32_39, l32_40, l32_41, l32_42, l32_43, l32_44, l32_45, l32_46, l32_47, l32_48, l32_49, l32_50, l32_51, l32_52, l32_53, l32_54, l32_55, l32_56, l32_57, l32_58, l32_59, l32_60, l32_61, l32_62, l32_63, l32_64, l32_65, l32_66, l32_76, l32_86, l32_90, l32_92, l32_97, l32_98, l32_99, l32_100, l32_101, l32_102, l32_103, l32_104, l32_105, l32_106, l32_107, l32_108, l32_109, l32_110, l32_111, l32_112, l32_113, l32_114, l32_115, l32_116, l32_117, l32_118, l32_119, l32_120, l32_121, l32_122, l32_123, l32_124, l32_125, l32_126, l32_192, l32_200, l32_255, l32_999, l32_1000, l32_1344, l32_2147483639, l32_2147483647, l64_0, l64_1, l64_99, l64_999, l64_24883200000, l64_746496000000, jI_add, jI_sub, jI_mul, jI_neg, jL_add, jL_sub, jL_mul, jL_neg, jL_toI, jI_toL, jI_eqT, jI_eqF, jI_ltT, jI_ltF, jI_leT, jI_leF, jL_eqT, jL_eqF, jL_ltT, jL_ltF, jL_leT, jL_leF, inR_T, inR_F, bZ_T, bZ_F, not_true_eq_false, not_false_eq_true, jI_clamp, nI_j, bs_p, wl_p, u2_p, u3_p, u4_p, u5_p, zl_p, zr_p, mn_p, ms_p, if_pos, if_neg, ite_true, ite_false]) 2000 0 (jI 0, w1) (by omega) (by omega) ⟨rfl, hs1, hx1, fun x x0 x1 => by omega⟩
  obtain ⟨⟨y2, w2⟩, rfl, hs2, hx2, hk2⟩ := hP2
  have hr2 : p_X7_copyFrom_112 b0 b1 2000 (jI 0) w1 = some (.inl (y2, w2)) := hr2
  obtain ⟨r3, hr3, hP3⟩ := lp (fun n (s : Int32 × Wd) => p_X7_copyFrom_138 b0 b1 n s.1 s.2)
    (fun i s => s.1 = jI i ∧ Sm (Kb b0) w s.2 ∧ (∀ k, k < 10 → gI s.2 (b0 + k) = gI w2 (b0 + k) ∧ gL s.2 (b0 + k) = gL w2 (b0 + k)) ∧ ∀ k : Int, 0 ≤ k → k < i → gI s.2 (b0 + 10) k.toNat = jI (S (86 + k))) 6
    (fun r => ∃ q, r = .inl q ∧ Sm (Kb b0) w q.2 ∧ (∀ k, k < 10 → gI q.2 (b0 + k) = gI w2 (b0 + k) ∧ gL q.2 (b0 + k) = gL w2 (b0 + k)) ∧ ∀ k : Int, 0 ≤ k → k < 6 → gI q.2 (b0 + 10) k.toNat = jI (S (86 + k)))
    (fun i n s hi hI => by
      obtain ⟨y, v⟩ := s
      obtain ⟨rfl, hs, hx, hk⟩ := hI
      have hs : Sm (Kb b0) w v := hs
      have hc : CSt v b1 S := h.far hs hd
      have e := hc.2.2.1 i (by omega) (by omega)
      rw [Int.toNat_natCast] at e
      refine Or.inl ⟨(jI ((i + 1 : Nat) : Int), uI v (b0 + 10) i (jI (S (86 + i)))), ⟨rfl, hs.tr (Sm.wI v (by unfold Kb; omega)), fun k hk9 => ?_, fun k k0 k1 => ?_⟩, ?_⟩
      · have h1 := hx k hk9
        refine ⟨?_, h1.2⟩
        rw [← h1.1]
        funext j
        show gI (uI v (b0 + 10) i (jI (S (86 + i)))) (b0 + k) j = gI v (b0 + k) j
        rw [gI_uI, if_neg (by omega)]
      · show gI (uI v (b0 + 10) i (jI (S (86 + i)))) (b0 + 10) k.toNat = _
        rw [gI_uI]
        by_cases z : k = i
        · rw [z, if_pos ⟨rfl, Int.toNat_natCast i⟩]
        · rw [if_neg (by omega)]; exact hk k k0 (by omega)
      · show p_X7_copyFrom_138 b0 b1 (n + 1) (jI i) v = p_X7_copyFrom_138 b0 b1 n (jI ((i + 1 : Nat) : Int)) (uI v (b0 + 10) i (jI (S (86 + i))))
        rw [p_X7_copyFrom_138]
        simp (disch := omega) only [l32_0, l32_1, l32_2, l32_3, l32_4, l32_5, l32_6, l32_7, l32_8, l32_9, l32_10, l32_11, l32_12, l32_13, l32_14, l32_15, l32_16, l32_17, l32_18, l32_19, l32_20, l32_21, l32_22, l32_23, l32_24, l32_25, l32_26, l32_27, l32_28, l32_29, l32_30, l32_31, l32_32, l32_33, l32_34, l32_35, l32_36, l32_37, l32_38, l32_39, l32_40, l32_41, l32_42, l32_43, l32_44, l32_45, l32_46, l32_47, l32_48, l32_49, l32_50, l32_51, l32_52, l32_53, l32_54, l32_55, l32_56, l32_57, l32_58, l32_59, l32_60, l32_61, l32_62, l32_63, l32_64, l32_65, l32_66, l32_76, l32_86, l32_90, l32_92, l32_97, l32_98, l32_99, l32_100, l32_101, l32_102, l32_103, l32_104, l32_105, l32_106, l32_107, l32_108, l32_109, l32_110, l32_111, l32_112, l32_113, l32_114, l32_115, l32_116, l32_117, l32_118, l32_119, l32_120, l32_121, l32_122, l32_123, l32_124, l32_125, l32_126, l32_192, l32_200, l32_255, l32_999, l32_1000, l32_1344, l32_2147483639, l32_2147483647, l64_0, l64_1, l64_99, l64_999, l64_24883200000, l64_746496000000, jI_add, jI_sub, jI_mul, jI_neg, jL_add, jL_sub, jL_mul, jL_neg, jL_toI, jI_toL, jI_eqT, jI_eqF, jI_ltT, jI_ltF, jI_leT, jI_leF, jL_eqT, jL_eqF, jL_ltT, jL_ltF, jL_leT, jL_leF, inR_T, inR_F, bZ_T, bZ_F, not_true_eq_false, not_false_eq_true, jI_clamp, nI_j, bs_p, wl_p, u2_p, u3_p, u4_p, u5_p, zl_p, zr_p, mn_p, ms_p, if_pos, if_neg, ite_true, ite_false, Int.toNat_natCast, e] <;> rfl)
    (fun n s hI => by
      obtain ⟨y, v⟩ := s
      obtain ⟨rfl, hs, hx, hk⟩ := hI
      refine ⟨.inl (jI 6, v), ?_, _, rfl, hs, hx, hk⟩
      show p_X7_copyFrom_138 b0 b1 (n + 1) (jI ((6 : Nat) : Int)) v = _
      rw [p_X7_copyFrom_138, show ((6 : Nat) : Int) = 6 from rfl]
      simp (disch := omega) only [l32_0, l32_1, l32_2, l32_3, l32_4, l32_5, l32_6, l32_7, l32_8, l32_9, l32_10, l32_11, l32_12, l32_13, l32_14, l32_15, l32_16, l32_17, l32_18, l32_19, l32_20, l32_21, l32_22, l32_23, l32_24, l32_25, l32_26, l32_27, l32_28, l32_29, l32_30, l32_31, l32_32, l32_33, l32_34, l32_35, l32_36, l32_37, l32_38, l32_39, l32_40, l32_41, l32_42, l32_43, l32_44, l32_45, l32_46, l32_47, l32_48, l32_49, l32_50, l32_51, l32_52, l32_53, l32_54, l32_55, l32_56, l32_57, l32_58, l32_59, l32_60, l32_61, l32_62, l32_63, l32_64, l32_65, l32_66, l32_76, l32_86, l32_90, l32_92, l32_97, l32_98, l32_99, l32_100, l32_101, l32_102, l32_103, l32_104, l32_105, l32_106, l32_107, l32_108, l32_109, l32_110, l32_111, l32_112, l32_113, l32_114, l32_115, l32_116, l32_117, l32_118, l32_119, l32_120, l32_121, l32_122, l32_123, l32_124, l32_125, l32_126, l32_192, l32_200, l32_255, l32_999, l32_1000, l32_1344, l32_2147483639, l32_2147483647, l64_0, l64_1, l64_99, l64_999, l64_24883200000, l64_746496000000, jI_add, jI_sub, jI_mul, jI_neg, jL_add, jL_sub, jL_mul, jL_neg, jL_toI, jI_toL, jI_eqT, jI_eqF, jI_ltT, jI_ltF, jI_leT, jI_leF, jL_eqT, jL_eqF, jL_ltT, jL_ltF, jL_leT, jL_leF, inR_T, inR_F, bZ_T, bZ_F, not_true_eq_false, not_false_eq_true, jI_clamp, nI_j, bs_p, wl_p, u2_p, u3_p, u4_p, u5_p, zl_p, zr_p, mn_p, ms_p, if_pos, if_neg, ite_true, ite_false]) 2000 0 (jI 0, w2) (by omega) (by omega) ⟨rfl, hs2, fun _ _ => ⟨rfl, rfl⟩, fun x x0 x1 => by omega⟩
  obtain ⟨⟨y3, w3⟩, rfl, hs3, hx3, hk3⟩ := hP3
  have hr3 : p_X7_copyFrom_138 b0 b1 2000 (jI 0) w2 = some (.inl (y3, w3)) := hr3
  have hs3 : Sm (Kb b0) w w3 := hs3
  have hc : CSt w3 b1 S := h.far hs3 hd
  obtain ⟨-, -, -, s0, s1, s2, s3, s4, s5, s6⟩ := hc
  have hz : (uI (uI (uI (uI (uI (uI (uI w3 b0 10 (jI (S 0))) b0 11 (jI (jc S / 2))) b0 12 (jI (S 1))) b0 13 (jI (S 2))) b0 14 (jI (S 3))) b0 15 (jI (S 4))) b0 16 (jI (S 5))) = (uI (uI (uI (uI (uI (uI (uI w3 b0 10 (jI (S 0))) b0 11 (jI (jc S / 2))) b0 12 (jI (S 1))) b0 13 (jI (S 2))) b0 14 (jI (S 3))) b0 15 (jI (S 4))) b0 16 (jI (S 5))) := rfl
  refine ⟨uI (uI (uI (uI (uI (uI (uI w3 b0 10 (jI (S 0))) b0 11 (jI (jc S / 2))) b0 12 (jI (S 1))) b0 13 (jI (S 2))) b0 14 (jI (S 3))) b0 15 (jI (S 4))) b0 16 (jI (S 5)), ?_, ?_, ?_⟩
  · unfold f_X7_copyFrom
    rw [l32_0, hr]
    simp (disch := omega) only [bs_p, wl_p, u2_p, u3_p, u4_p, u5_p, zl_p, zr_p, mn_p, ms_p, hr2, hr3, gI_uI, if_neg, s0, s1, s2, s3, s4, s5, s6]
  · exact ((((((hs3.tr (Sm.wI _ (by unfold Kb; omega))).tr (Sm.wI _ (by unfold Kb; omega))).tr (Sm.wI _ (by unfold Kb; omega))).tr (Sm.wI _ (by unfold Kb; omega))).tr (Sm.wI _ (by unfold Kb; omega))).tr (Sm.wI _ (by unfold Kb; omega))).tr (Sm.wI _ (by unfold Kb; omega))
  · refine ⟨fun x x0 x1 => ?_, fun k k0 k1 => ?_, fun i i0 i1 => ?_, ?_, ?_, ?_, ?_, ?_, ?_, ?_⟩
    · obtain ⟨h1, h2, h3, h4, h5, h6, h7, h8⟩ := hx2 x x0 x1
      have f := fun r (hr : r < 10) => hx3 r hr
      refine ⟨?_, ?_, ?_, fun q => ?_, ?_, ?_, ?_, ?_⟩
      · simp (disch := omega) only [gI_uI, if_neg]; rw [(f 1 (by decide)).1]; exact h1
      · simp (disch := omega) only [gL_uI]; rw [(f 2 (by decide)).2]; exact h2
      · simp (disch := omega) only [gI_uI, if_neg]; rw [(f 3 (by decide)).1]; exact h3
      · simp (disch := omega) only [gL_uI]; rw [(f 4 (by decide)).2]; exact h4 q
      · simp (disch := omega) only [gI_uI, if_neg]; rw [(f 5 (by decide)).1]; exact h5
      · simp (disch := omega) only [gI_uI, if_neg]; rw [(f 6 (by decide)).1]; exact h6
      · simp (disch := omega) only [gI_uI, if_neg]; rw [(f 7 (by decide)).1]; exact h7
      · simp (disch := omega) only [gI_uI, if_neg]; rw [(f 8 (by decide)).1]; exact h8
    · simp (disch := omega) only [gI_uI, if_neg]; rw [(hx3 9 (by decide)).1]; exact hk2 k k0 k1
    · simp (disch := omega) only [gI_uI, if_neg]; exact hk3 i i0 i1
    all_goals simp (disch := omega) only [gI_uI, if_neg, if_pos, and_self, ite_true]
/-! the reference's rows -/
def K1 (j : Nat) (k : Nat) : Prop := k = j
theorem s_rCopy {w : Wd} {k0 n0 k2 n2 : Nat} {a c : Int} {S : Ab} (h : RSt w k0 a S) (a0 : 0 ≤ a) (c0 : 0 ≤ c) (ha : a + 192 ≤ n0) (hc : c + 192 ≤ n2) (b0 : n0 ≤ 100000) (b2 : n2 ≤ 100000) (hk : k0 ≠ k2) :
    ∃ w', f_X11_copy w k0 n0 k2 n2 (jI a) (jI c) = some w' ∧ Sm (K1 k2) w w' ∧ RSt w' k2 c S ∧ ∀ z : Nat, ((z : Int) < c ∨ c + 192 ≤ z) → gL w' k2 z = gL w k2 z := by
  obtain ⟨r, hr, hP⟩ := lp (fun n (s : Int32 × Wd) => p_X11_copy_3 (jI a) n0 (jI c) n2 k2 k0 n s.1 s.2)
    (fun i s => s.1 = jI i ∧ Sm (K1 k2) w s.2 ∧ (∀ z : Int, 0 ≤ z → z < i → gL s.2 k2 (c + z).toNat = jL (S z)) ∧ ∀ z : Nat, ((z : Int) < c ∨ c + 192 ≤ z) → gL s.2 k2 z = gL w k2 z) 192
    (fun r => ∃ q, r = .inl q ∧ Sm (K1 k2) w q.2 ∧ (∀ z : Int, 0 ≤ z → z < 192 → gL q.2 k2 (c + z).toNat = jL (S z)) ∧ ∀ z : Nat, ((z : Int) < c ∨ c + 192 ≤ z) → gL q.2 k2 z = gL w k2 z)
    (fun i n s hi hI => by
      obtain ⟨y, v⟩ := s
      obtain ⟨rfl, hs, hx, hy⟩ := hI
      have hs : Sm (K1 k2) w v := hs
      have e : gL v k0 (a + i).toNat = jL (S i) := by
        rw [hs.lK (by unfold K1; exact hk)]; exact h i (by omega) (by omega)
      refine Or.inl ⟨(jI ((i + 1 : Nat) : Int), uL v k2 (c + i).toNat (jL (S i))), ⟨rfl, hs.tr (Sm.wL v rfl), fun z z0 z1 => ?_, fun z hz => ?_⟩, ?_⟩
      · show gL (uL v k2 (c + i).toNat (jL (S i))) k2 (c + z).toNat = _
        rw [gL_uL]
        by_cases q : z = i
        · rw [q, if_pos ⟨rfl, rfl⟩]
        · rw [if_neg (by omega)]; exact hx z z0 (by omega)
      · show gL (uL v k2 (c + i).toNat (jL (S i))) k2 z = _
        rw [gL_uL, if_neg (by omega)]; exact hy z hz
      · show p_X11_copy_3 (jI a) n0 (jI c) n2 k2 k0 (n + 1) (jI i) v = p_X11_copy_3 (jI a) n0 (jI c) n2 k2 k0 n (jI ((i + 1 : Nat) : Int)) (uL v k2 (c + i).toNat (jL (S i)))
        rw [p_X11_copy_3]
        simp (disch := omega) only [l32_0, l32_1, l32_2, l32_3, l32_4, l32_5, l32_6, l32_7, l32_8, l32_9, l32_10, l32_11, l32_12, l32_13, l32_14, l32_15, l32_16, l32_17, l32_18, l32_19, l32_20, l32_21, l32_22, l32_23, l32_24, l32_25, l32_26, l32_27, l32_28, l32_29, l32_30, l32_31, l32_32, l32_33, l32_34, l32_35, l32_36, l32_37, l32_38, l32_39, l32_40, l32_41, l32_42, l32_43, l32_44, l32_45, l32_46, l32_47, l32_48, l32_49, l32_50, l32_51, l32_52, l32_53, l32_54, l32_55, l32_56, l32_57, l32_58, l32_59, l32_60, l32_61, l32_62, l32_63, l32_64, l32_65, l32_66, l32_76, l32_86, l32_90, l32_92, l32_97, l32_98, l32_99, l32_100, l32_101, l32_102, l32_103, l32_104, l32_105, l32_106, l32_107, l32_108, l32_109, l32_110, l32_111, l32_112, l32_113, l32_114, l32_115, l32_116, l32_117, l32_118, l32_119, l32_120, l32_121, l32_122, l32_123, l32_124, l32_125, l32_126, l32_192, l32_200, l32_255, l32_999, l32_1000, l32_1344, l32_2147483639, l32_2147483647, l64_0, l64_1, l64_99, l64_999, l64_24883200000, l64_746496000000, jI_add, jI_sub, jI_mul, jI_neg, jL_add, jL_sub, jL_mul, jL_neg, jL_toI, jI_toL, jI_eqT, jI_eqF, jI_ltT, jI_ltF, jI_leT, jI_leF, jL_eqT, jL_eqF, jL_ltT, jL_ltF, jL_leT, jL_leF, inR_T, inR_F, bZ_T, bZ_F, not_true_eq_false, not_false_eq_true, jI_clamp, nI_j, bs_p, wl_p, u2_p, u3_p, u4_p, u5_p, zl_p, zr_p, mn_p, ms_p, if_pos, if_neg, ite_true, ite_false, e] <;> rfl)
    (fun n s hI => by
      obtain ⟨y, v⟩ := s
      obtain ⟨rfl, hs, hx, hy⟩ := hI
      refine ⟨.inl (jI 192, v), ?_, _, rfl, hs, hx, hy⟩
      show p_X11_copy_3 (jI a) n0 (jI c) n2 k2 k0 (n + 1) (jI ((192 : Nat) : Int)) v = _
      rw [p_X11_copy_3, show ((192 : Nat) : Int) = 192 from rfl]
      simp (disch := omega) only [l32_0, l32_1, l32_2, l32_3, l32_4, l32_5, l32_6, l32_7, l32_8, l32_9, l32_10, l32_11, l32_12, l32_13, l32_14, l32_15, l32_16, l32_17, l32_18, l32_19, l32_20, l32_21, l32_22, l32_23, l32_24, l32_25, l32_26, l32_27, l32_28, l32_29, l32_30, l32_31, l32_32, l32_33, l32_34, l32_35, l32_36, l32_37, l32_38, l32_39, l32_40, l32_41, l32_42, l32_43, l32_44, l32_45, l32_46, l32_47, l32_48, l32_49, l32_50, l32_51, l32_52, l32_53, l32_54, l32_55, l32_56, l32_57, l32_58, l32_59, l32_60, l32_61, l32_62, l32_63, l32_64, l32_65, l32_66, l32_76, l32_86, l32_90, l32_92, l32_97, l32_98, l32_99, l32_100, l32_101, l32_102, l32_103, l32_104, l32_105, l32_106, l32_107, l32_108, l32_109, l32_110, l32_111, l32_112, l32_113, l32_114, l32_115, l32_116, l32_117, l32_118, l32_119, l32_120, l32_121, l32_122, l32_123, l32_124, l32_125, l32_126, l32_192, l32_200, l32_255, l32_999, l32_1000, l32_1344, l32_2147483639, l32_2147483647, l64_0, l64_1, l64_99, l64_999, l64_24883200000, l64_746496000000, jI_add, jI_sub, jI_mul, jI_neg, jL_add, jL_sub, jL_mul, jL_neg, jL_toI, jI_toL, jI_eqT, jI_eqF, jI_ltT, jI_ltF, jI_leT, jI_leF, jL_eqT, jL_eqF, jL_ltT, jL_ltF, jL_leT, jL_leF, inR_T, inR_F, bZ_T, bZ_F, not_true_eq_false, not_false_eq_true, jI_clamp, nI_j, bs_p, wl_p, u2_p, u3_p, u4_p, u5_p, zl_p, zr_p, mn_p, ms_p, if_pos, if_neg, ite_true, ite_false]) 2000 0 (jI 0, w) (by omega) (by omega) ⟨rfl, Sm.refl w, fun z z0 z1 => by omega, fun _ _ => rfl⟩
  obtain ⟨⟨y, v⟩, rfl, hs, hx, hy⟩ := hP
  have hr : p_X11_copy_3 (jI a) n0 (jI c) n2 k2 k0 2000 (jI 0) w = some (.inl (y, v)) := hr
  refine ⟨v, ?_, hs, hx, hy⟩
  unfold f_X11_copy
  rw [l32_0, hr]
  rfl
theorem s_begin {w : Wd} {S : Ab} (h : RSt w 142 0 S) : ∃ w', f_X11_begin w = some w' ∧ Sm (K1 143) w w' ∧ RSt w' 143 0 S := by
  obtain ⟨w', h1, h2, h3, -⟩ := s_rCopy (k2 := 143) (n0 := 192) (n2 := 192) (c := 0) h (by decide) (by decide) (by decide) (by decide) (by decide) (by decide) (by decide)
  refine ⟨w', ?_, h2, h3⟩
  unfold f_X11_begin
  rw [l32_0, h1]
  rfl
