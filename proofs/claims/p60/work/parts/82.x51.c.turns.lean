/-! THE REFERENCE'S SEARCH -/
def KU (k : Nat) : Prop := k = 148 ∨ k = 149
def RT (w : Wd) (u : Ab) : Prop := ∀ x : Int, 0 ≤ x → x < 10 → gL w 148 x.toNat = jL (u x) ∧ gI w 149 x.toNat = jI (bZ (u x ≠ 0))
theorem rt_u {w : Wd} {u : Ab} (h : RT w u) (x : Int) (h0 : 0 ≤ x) (h1 : x < 10) : gL w 148 x.toNat = jL (u x) := (h x h0 h1).1
theorem rt_k {w : Wd} {u : Ab} (h : RT w u) (x : Int) (h0 : 0 ≤ x) (h1 : x < 10) : gI w 149 x.toNat = jI (bZ (u x ≠ 0)) := (h x h0 h1).2
theorem RSt.kept {w w' : Wd} {k : Nat} {o : Int} {S : Ab} (h : RSt w k o S) (e : gL w' k = gL w k) : RSt w' k o S := fun z h0 h1 => by rw [e]; exact h z h0 h1
theorem s_at {w : Wd} {S : Ab} (h : RSt w 142 0 S) {z : Int} (h0 : 0 ≤ z) (h1 : z < 192) : f_X11_at w (jI z) = some (jI (S z)) := by
  unfold f_X11_at
  simp (disch := omega) only [l32_0, l32_1, l32_2, l32_3, l32_4, l32_5, l32_6, l32_7, l32_8, l32_9, l32_10, l32_11, l32_12, l32_13, l32_14, l32_15, l32_16, l32_17, l32_18, l32_19, l32_20, l32_21, l32_22, l32_23, l32_24, l32_25, l32_26, l32_27, l32_28, l32_29, l32_30, l32_31, l32_32, l32_33, l32_34, l32_35, l32_36, l32_37, l32_38, l32_39, l32_40, l32_41, l32_42, l32_43, l32_44, l32_45, l32_46, l32_47, l32_48, l32_49, l32_50, l32_51, l32_52, l32_53, l32_54, l32_55, l32_56, l32_57, l32_58, l32_59, l32_60, l32_61, l32_62, l32_63, l32_64, l32_65, l32_66, l32_76, l32_86, l32_90, l32_92, l32_97, l32_98, l32_99, l32_100, l32_101, l32_102, l32_103, l32_104, l32_105, l32_106, l32_107, l32_108, l32_109, l32_110, l32_111, l32_112, l32_113, l32_114, l32_115, l32_116, l32_117, l32_118, l32_119, l32_120, l32_121, l32_122, l32_123, l32_124, l32_125, l32_126, l32_192, l32_200, l32_255, l32_999, l32_1000, l32_1344, l32_2147483639, l32_2147483647, l64_0, l64_1, l64_99, l64_999, l64_24883200000, l64_746496000000, jI_add, jI_sub, jI_mul, jI_neg, jL_add, jL_sub, jL_mul, jL_neg, jL_toI, jI_toL, jI_lt, jI_le, jI_eq, jL_lt, jL_le, jL_eq, inR_j, jI_clamp, nI_j, Option.bind_some, zc, u2, u3, u4, u5, wl, mo, if_pos, if_neg, ite_true, ite_false, r_g h]
theorem s_rJoint {w : Wd} {S : Ab} (h : RSt w 142 0 S) {a b : Int} (a0 : 0 ≤ a) (a1 : a < 10) (b0 : 0 ≤ b) (b1 : b < 10) : f_X11_jointOf w (jI a) (jI b) = some (jI (S (92 + 10 * a + b))) := by
  unfold f_X11_jointOf
  simp (disch := omega) only [l32_0, l32_1, l32_2, l32_3, l32_4, l32_5, l32_6, l32_7, l32_8, l32_9, l32_10, l32_11, l32_12, l32_13, l32_14, l32_15, l32_16, l32_17, l32_18, l32_19, l32_20, l32_21, l32_22, l32_23, l32_24, l32_25, l32_26, l32_27, l32_28, l32_29, l32_30, l32_31, l32_32, l32_33, l32_34, l32_35, l32_36, l32_37, l32_38, l32_39, l32_40, l32_41, l32_42, l32_43, l32_44, l32_45, l32_46, l32_47, l32_48, l32_49, l32_50, l32_51, l32_52, l32_53, l32_54, l32_55, l32_56, l32_57, l32_58, l32_59, l32_60, l32_61, l32_62, l32_63, l32_64, l32_65, l32_66, l32_76, l32_86, l32_90, l32_92, l32_97, l32_98, l32_99, l32_100, l32_101, l32_102, l32_103, l32_104, l32_105, l32_106, l32_107, l32_108, l32_109, l32_110, l32_111, l32_112, l32_113, l32_114, l32_115, l32_116, l32_117, l32_118, l32_119, l32_120, l32_121, l32_122, l32_123, l32_124, l32_125, l32_126, l32_192, l32_200, l32_255, l32_999, l32_1000, l32_1344, l32_2147483639, l32_2147483647, l64_0, l64_1, l64_99, l64_999, l64_24883200000, l64_746496000000, jI_add, jI_sub, jI_mul, jI_neg, jL_add, jL_sub, jL_mul, jL_neg, jL_toI, jI_toL, jI_lt, jI_le, jI_eq, jL_lt, jL_le, jL_eq, inR_j, jI_clamp, nI_j, Option.bind_some, zc, u2, u3, u4, u5, wl, mo, if_pos, if_neg, ite_true, ite_false, s_at h]
theorem RT.put {w : Wd} {u : Ab} {b v : Int} (h : RT w u) (b0 : 0 ≤ b) (b1 : b < 10) (hv : v ≠ 0) : RT (uI (uL w 148 b.toNat (jL v)) 149 b.toNat (jI 1)) (up u b v) := by
  intro x x0 x1
  rw [gL_uI, gL_uL, gI_uI, gI_uL]
  by_cases z : x = b
  · rw [z, if_pos ⟨rfl, rfl⟩, if_pos ⟨rfl, rfl⟩, up_eq, bZ_pos hv]; exact ⟨rfl, rfl⟩
  · rw [if_neg (by omega), if_neg (by omega), up_ne z]; exact h x x0 x1
theorem s_passes {w : Wd} {S u : Ab} {d a b : Int} (hG : Good S) (hR : RSt w 142 0 S) (h : RT w u) (hT : TI S d u) (a0 : 0 ≤ a) (a1 : a < 10) (b0 : 0 ≤ b) (b1 : b < 10) :
    ∃ r w' u', f_X11_passes w (jI a) (jI b) = some (jI r, w') ∧ Sm KU w w' ∧ RT w' u' ∧ TI S d u' ∧ (∀ x, u x ≠ 0 → u' x ≠ 0) ∧ ((r = 0 ∧ u' = u ∧ (u a ≠ 0 → S (92 + 10 * a + b) ≠ 0 → u b ≠ 0)) ∨ (r = 1 ∧ ct u' = ct u + 1)) := by
  have hj := hG.2.2.2.1 a b a0 a1 b0 b1
  have hg := hG.1
  unfold f_X11_passes
  by_cases q1 : u a = 0
  · refine ⟨0, w, u, ?_, Sm.refl w, h, hT, fun _ h => h, Or.inl ⟨rfl, rfl, fun z => absurd q1 z⟩⟩
    simp (disch := omega) only [l32_0, l32_1, l32_2, l32_3, l32_4, l32_5, l32_6, l32_7, l32_8, l32_9, l32_10, l32_11, l32_12, l32_13, l32_14, l32_15, l32_16, l32_17, l32_18, l32_19, l32_20, l32_21, l32_22, l32_23, l32_24, l32_25, l32_26, l32_27, l32_28, l32_29, l32_30, l32_31, l32_32, l32_33, l32_34, l32_35, l32_36, l32_37, l32_38, l32_39, l32_40, l32_41, l32_42, l32_43, l32_44, l32_45, l32_46, l32_47, l32_48, l32_49, l32_50, l32_51, l32_52, l32_53, l32_54, l32_55, l32_56, l32_57, l32_58, l32_59, l32_60, l32_61, l32_62, l32_63, l32_64, l32_65, l32_66, l32_76, l32_86, l32_90, l32_92, l32_97, l32_98, l32_99, l32_100, l32_101, l32_102, l32_103, l32_104, l32_105, l32_106, l32_107, l32_108, l32_109, l32_110, l32_111, l32_112, l32_113, l32_114, l32_115, l32_116, l32_117, l32_118, l32_119, l32_120, l32_121, l32_122, l32_123, l32_124, l32_125, l32_126, l32_192, l32_200, l32_255, l32_999, l32_1000, l32_1344, l32_2147483639, l32_2147483647, l64_0, l64_1, l64_99, l64_999, l64_24883200000, l64_746496000000, jI_add, jI_sub, jI_mul, jI_neg, jL_add, jL_sub, jL_mul, jL_neg, jL_toI, jI_toL, jI_lt, jI_le, jI_eq, jL_lt, jL_le, jL_eq, inR_j, jI_clamp, nI_j, Option.bind_some, zc, u2, u3, u4, u5, wl, mo, if_pos, if_neg, ite_true, ite_false, rt_k h, bZ_eq0]
  · by_cases q2 : u b = 0
    · by_cases q3 : S (92 + 10 * a + b) = 0
      · refine ⟨0, w, u, ?_, Sm.refl w, h, hT, fun _ h => h, Or.inl ⟨rfl, rfl, fun _ z => absurd q3 z⟩⟩
        simp (disch := omega) only [l32_0, l32_1, l32_2, l32_3, l32_4, l32_5, l32_6, l32_7, l32_8, l32_9, l32_10, l32_11, l32_12, l32_13, l32_14, l32_15, l32_16, l32_17, l32_18, l32_19, l32_20, l32_21, l32_22, l32_23, l32_24, l32_25, l32_26, l32_27, l32_28, l32_29, l32_30, l32_31, l32_32, l32_33, l32_34, l32_35, l32_36, l32_37, l32_38, l32_39, l32_40, l32_41, l32_42, l32_43, l32_44, l32_45, l32_46, l32_47, l32_48, l32_49, l32_50, l32_51, l32_52, l32_53, l32_54, l32_55, l32_56, l32_57, l32_58, l32_59, l32_60, l32_61, l32_62, l32_63, l32_64, l32_65, l32_66, l32_76, l32_86, l32_90, l32_92, l32_97, l32_98, l32_99, l32_100, l32_101, l32_102, l32_103, l32_104, l32_105, l32_106, l32_107, l32_108, l32_109, l32_110, l32_111, l32_112, l32_113, l32_114, l32_115, l32_116, l32_117, l32_118, l32_119, l32_120, l32_121, l32_122, l32_123, l32_124, l32_125, l32_126, l32_192, l32_200, l32_255, l32_999, l32_1000, l32_1344, l32_2147483639, l32_2147483647, l64_0, l64_1, l64_99, l64_999, l64_24883200000, l64_746496000000, jI_add, jI_sub, jI_mul, jI_neg, jL_add, jL_sub, jL_mul, jL_neg, jL_toI, jI_toL, jI_lt, jI_le, jI_eq, jL_lt, jL_le, jL_eq, inR_j, jI_clamp, nI_j, Option.bind_some, zc, u2, u3, u4, u5, wl, mo, if_pos, if_neg, ite_true, ite_false, rt_k h, bZ_eq0, s_rJoint hR]
      · obtain ⟨t1, t2, t3⟩ := hT.step hG a0 a1 b0 b1 q1 q2 q3
        have x := hT.2 a a0 a1 q1
        have c9 := ct_9 b0 b1 q2
        have ta := (hG.2.1 a a0 a1).1 x.1
        have tb := tooth_b ((hG.2.1 b b0 b1).1 (hj.2.2 q3).2.2)
        have hb := J_b (by omega) ta x.2.2.1
        have ta := tooth_b ta
        refine ⟨1, uI (uL w 148 b.toNat (jL (Bh S (u a) a b))) 149 b.toNat (jI 1), up u b (Bh S (u a) a b), ?_, (Sm.wL w (Or.inl rfl)).tr (Sm.wI _ (Or.inr rfl)), h.put b0 b1 t2, t1, fun x hx => ?_, Or.inr ⟨rfl, ct_up b0 b1 q2 t2⟩⟩
        · by_cases q4 : S (92 + 10 * a + b) = 2
          · have e1 : Bh S (u a) a b = u a := if_pos q4
            rw [e1]
            simp (disch := omega) only [l32_0, l32_1, l32_2, l32_3, l32_4, l32_5, l32_6, l32_7, l32_8, l32_9, l32_10, l32_11, l32_12, l32_13, l32_14, l32_15, l32_16, l32_17, l32_18, l32_19, l32_20, l32_21, l32_22, l32_23, l32_24, l32_25, l32_26, l32_27, l32_28, l32_29, l32_30, l32_31, l32_32, l32_33, l32_34, l32_35, l32_36, l32_37, l32_38, l32_39, l32_40, l32_41, l32_42, l32_43, l32_44, l32_45, l32_46, l32_47, l32_48, l32_49, l32_50, l32_51, l32_52, l32_53, l32_54, l32_55, l32_56, l32_57, l32_58, l32_59, l32_60, l32_61, l32_62, l32_63, l32_64, l32_65, l32_66, l32_76, l32_86, l32_90, l32_92, l32_97, l32_98, l32_99, l32_100, l32_101, l32_102, l32_103, l32_104, l32_105, l32_106, l32_107, l32_108, l32_109, l32_110, l32_111, l32_112, l32_113, l32_114, l32_115, l32_116, l32_117, l32_118, l32_119, l32_120, l32_121, l32_122, l32_123, l32_124, l32_125, l32_126, l32_192, l32_200, l32_255, l32_999, l32_1000, l32_1344, l32_2147483639, l32_2147483647, l64_0, l64_1, l64_99, l64_999, l64_24883200000, l64_746496000000, jI_add, jI_sub, jI_mul, jI_neg, jL_add, jL_sub, jL_mul, jL_neg, jL_toI, jI_toL, jI_lt, jI_le, jI_eq, jL_lt, jL_le, jL_eq, inR_j, jI_clamp, nI_j, Option.bind_some, zc, u2, u3, u4, u5, wl, mo, if_pos, if_neg, ite_true, ite_false, rt_k h, rt_u h, bZ_eq0, s_rJoint hR]
            rfl
          · obtain ⟨q, hq⟩ := t3 q4
            have e1 : Bh S (u a) a b = -q := by
              unfold Bh
              rw [if_neg q4, hq, Int.mul_ediv_cancel_left q (by omega)]
            have e2 : (-u a * S (6 + a)).tdiv (S (6 + b)) = -q := by
              rw [Int.neg_mul, hq, ← Int.mul_neg, Int.mul_tdiv_cancel_left _ (by omega)]
            have e3 : -u a * S (6 + a) = -(u a * S (6 + a)) := Int.neg_mul _ _
            have hj2 : S (92 + 10 * a + b) = 1 := by have := hj.2.1; omega
            rw [e1]
            simp (disch := omega) only [l32_0, l32_1, l32_2, l32_3, l32_4, l32_5, l32_6, l32_7, l32_8, l32_9, l32_10, l32_11, l32_12, l32_13, l32_14, l32_15, l32_16, l32_17, l32_18, l32_19, l32_20, l32_21, l32_22, l32_23, l32_24, l32_25, l32_26, l32_27, l32_28, l32_29, l32_30, l32_31, l32_32, l32_33, l32_34, l32_35, l32_36, l32_37, l32_38, l32_39, l32_40, l32_41, l32_42, l32_43, l32_44, l32_45, l32_46, l32_47, l32_48, l32_49, l32_50, l32_51, l32_52, l32_53, l32_54, l32_55, l32_56, l32_57, l32_58, l32_59, l32_60, l32_61, l32_62, l32_63, l32_64, l32_65, l32_66, l32_76, l32_86, l32_90, l32_92, l32_97, l32_98, l32_99, l32_100, l32_101, l32_102, l32_103, l32_104, l32_105, l32_106, l32_107, l32_108, l32_109, l32_110, l32_111, l32_112, l32_113, l32_114, l32_115, l32_116, l32_117, l32_118, l32_119, l32_120, l32_121, l32_122, l32_123, l32_124, l32_125, l32_126, l32_192, l32_200, l32_255, l32_999, l32_1000, l32_1344, l32_2147483639, l32_2147483647, l64_0, l64_1, l64_99, l64_999, l64_24883200000, l64_746496000000, jI_add, jI_sub, jI_mul, jI_neg, jL_add, jL_sub, jL_mul, jL_neg, jL_toI, jI_toL, jI_lt, jI_le, jI_eq, jL_lt, jL_le, jL_eq, inR_j, jI_clamp, nI_j, Option.bind_some, zc, u2, u3, u4, u5, wl, mo, if_pos, if_neg, ite_true, ite_false, rt_k h, rt_u h, bZ_eq0, s_rJoint hR, r_g hR, jL_div, e2]
            rfl
        · by_cases z : x = b
          · rw [z, up_eq]; exact t2
          · rw [up_ne z]; exact hx
    · refine ⟨0, w, u, ?_, Sm.refl w, h, hT, fun _ h => h, Or.inl ⟨rfl, rfl, fun _ _ => q2⟩⟩
      simp (disch := omega) only [l32_0, l32_1, l32_2, l32_3, l32_4, l32_5, l32_6, l32_7, l32_8, l32_9, l32_10, l32_11, l32_12, l32_13, l32_14, l32_15, l32_16, l32_17, l32_18, l32_19, l32_20, l32_21, l32_22, l32_23, l32_24, l32_25, l32_26, l32_27, l32_28, l32_29, l32_30, l32_31, l32_32, l32_33, l32_34, l32_35, l32_36, l32_37, l32_38, l32_39, l32_40, l32_41, l32_42, l32_43, l32_44, l32_45, l32_46, l32_47, l32_48, l32_49, l32_50, l32_51, l32_52, l32_53, l32_54, l32_55, l32_56, l32_57, l32_58, l32_59, l32_60, l32_61, l32_62, l32_63, l32_64, l32_65, l32_66, l32_76, l32_86, l32_90, l32_92, l32_97, l32_98, l32_99, l32_100, l32_101, l32_102, l32_103, l32_104, l32_105, l32_106, l32_107, l32_108, l32_109, l32_110, l32_111, l32_112, l32_113, l32_114, l32_115, l32_116, l32_117, l32_118, l32_119, l32_120, l32_121, l32_122, l32_123, l32_124, l32_125, l32_126, l32_192, l32_200, l32_255, l32_999, l32_1000, l32_1344, l32_2147483639, l32_2147483647, l64_0, l64_1, l64_99, l64_999, l64_24883200000, l64_746496000000, jI_add, jI_sub, jI_mul, jI_neg, jL_add, jL_sub, jL_mul, jL_neg, jL_toI, jI_toL, jI_lt, jI_le, jI_eq, jL_lt, jL_le, jL_eq, inR_j, jI_clamp, nI_j, Option.bind_some, zc, u2, u3, u4, u5, wl, mo, if_pos, if_neg, ite_true, ite_false, rt_k h, bZ_eq0]
theorem s_turns {w : Wd} {S : Ab} {d : Int} (hG : Good S) (h : RSt w 142 0 S) (d0 : 0 ≤ d) (d1 : d < S 0) :
    ∃ w', f_X11_turns w (jI d) = some w' ∧ Sm KU w w' ∧ ∃ u, RT w' u ∧ IsTr S d u ∧ ∀ x, 0 ≤ x → x < 10 → -14929920000000000 ≤ u x ∧ u x ≤ 14929920000000000 := by
  have hg := hG.1
  have keep : ∀ {w w' : Wd}, RSt w 142 0 S → Sm KU w w' → RSt w' 142 0 S := by
    intro w w' h hs
    exact h.kept (hs.1 142 (by unfold KU; omega)).2
  obtain ⟨r, hr, hP⟩ := lp (fun n (s : Int32 × Wd) => p_X11_turns_2 (jI d) n s.1 s.2) (fun i s => s.1 = jI i ∧ Sm KU w s.2 ∧ ∀ x : Int, 0 ≤ x → x < i → gL s.2 148 x.toNat = jL (up (fun _ => 0) d 24883200000 x) ∧ gI s.2 149 x.toNat = jI (bZ (up (fun _ => 0) d 24883200000 x ≠ 0))) 10 (fun r => ∃ q, r = .inl q ∧ Sm KU w q.2 ∧ RT q.2 (up (fun _ => 0) d 24883200000))
    (fun i n s hi hI => by
      obtain ⟨y, v⟩ := s
      obtain ⟨rfl, hs, hx⟩ := hI
      by_cases q : (i : Int) = d
      · refine Or.inl ⟨(jI ((i + 1 : Nat) : Int), uL (uI v 149 i (jI 1)) 148 i (jL 24883200000)), ⟨rfl, (hs.tr (Sm.wI v (Or.inr rfl))).tr (Sm.wL _ (Or.inl rfl)), fun x x0 x1 => ?_⟩, ?_⟩
        · show gL (uL (uI v 149 i (jI 1)) 148 i (jL 24883200000)) 148 x.toNat = _ ∧ gI (uL (uI v 149 i (jI 1)) 148 i (jL 24883200000)) 149 x.toNat = _
          rw [gL_uL, gI_uL, gI_uI]
          by_cases z : x = i
          · rw [z, Int.toNat_natCast, if_pos ⟨rfl, rfl⟩, if_pos ⟨rfl, rfl⟩, q, up_eq]; exact ⟨rfl, rfl⟩
          · rw [if_neg (by omega), if_neg (by omega)]; exact hx x x0 (by omega)
        · show p_X11_turns_2 (jI d) (n + 1) (jI i) v = p_X11_turns_2 (jI d) n (jI ((i + 1 : Nat) : Int)) (uL (uI v 149 i (jI 1)) 148 i (jL 24883200000))
          rw [p_X11_turns_2]
          simp (disch := omega) only [l32_0, l32_1, l32_2, l32_3, l32_4, l32_5, l32_6, l32_7, l32_8, l32_9, l32_10, l32_11, l32_12, l32_13, l32_14, l32_15, l32_16, l32_17, l32_18, l32_19, l32_20, l32_21, l32_22, l32_23, l32_24, l32_25, l32_26, l32_27, l32_28, l32_29, l32_30, l32_31, l32_32, l32_33, l32_34, l32_35, l32_36, l32_37, l32_38, l32_39, l32_40, l32_41, l32_42, l32_43, l32_44, l32_45, l32_46, l32_47, l32_48, l32_49, l32_50, l32_51, l32_52, l32_53, l32_54, l32_55, l32_56, l32_57, l32_58, l32_59, l32_60, l32_61, l32_62, l32_63, l32_64, l32_65, l32_66, l32_76, l32_86, l32_90, l32_92, l32_97, l32_98, l32_99, l32_100, l32_101, l32_102, l32_103, l32_104, l32_105, l32_106, l32_107, l32_108, l32_109, l32_110, l32_111, l32_112, l32_113, l32_114, l32_115, l32_116, l32_117, l32_118, l32_119, l32_120, l32_121, l32_122, l32_123, l32_124, l32_125, l32_126, l32_192, l32_200, l32_255, l32_999, l32_1000, l32_1344, l32_2147483639, l32_2147483647, l64_0, l64_1, l64_99, l64_999, l64_24883200000, l64_746496000000, jI_add, jI_sub, jI_mul, jI_neg, jL_add, jL_sub, jL_mul, jL_neg, jL_toI, jI_toL, jI_lt, jI_le, jI_eq, jL_lt, jL_le, jL_eq, inR_j, jI_clamp, nI_j, Option.bind_some, zc, u2, u3, u4, u5, wl, mo, if_pos, if_neg, ite_true, ite_false, Int.toNat_natCast]
          rfl
      · refine Or.inl ⟨(jI ((i + 1 : Nat) : Int), uL (uI v 149 i (jI 0)) 148 i (jL 0)), ⟨rfl, (hs.tr (Sm.wI v (Or.inr rfl))).tr (Sm.wL _ (Or.inl rfl)), fun x x0 x1 => ?_⟩, ?_⟩
        · show gL (uL (uI v 149 i (jI 0)) 148 i (jL 0)) 148 x.toNat = _ ∧ gI (uL (uI v 149 i (jI 0)) 148 i (jL 0)) 149 x.toNat = _
          rw [gL_uL, gI_uL, gI_uI]
          by_cases z : x = i
          · rw [z, Int.toNat_natCast, if_pos ⟨rfl, rfl⟩, if_pos ⟨rfl, rfl⟩, up_ne q]; exact ⟨rfl, rfl⟩
          · rw [if_neg (by omega), if_neg (by omega)]; exact hx x x0 (by omega)
        · show p_X11_turns_2 (jI d) (n + 1) (jI i) v = p_X11_turns_2 (jI d) n (jI ((i + 1 : Nat) : Int)) (uL (uI v 149 i (jI 0)) 148 i (jL 0))
          rw [p_X11_turns_2]
          simp (disch := omega) only [l32_0, l32_1, l32_2, l32_3, l32_4, l32_5, l32_6, l32_7, l32_8, l32_9, l32_10, l32_11, l32_12, l32_13, l32_14, l32_15, l32_16, l32_17, l32_18, l32_19, l32_20, l32_21, l32_22, l32_23, l32_24, l32_25, l32_26, l32_27, l32_28, l32_29, l32_30, l32_31, l32_32, l32_33, l32_34, l32_35, l32_36, l32_37, l32_38, l32_39, l32_40, l32_41, l32_42, l32_43, l32_44, l32_45, l32_46, l32_47, l32_48, l32_49, l32_50, l32_51, l32_52, l32_53, l32_54, l32_55, l32_56, l32_57, l32_58, l32_59, l32_60, l32_61, l32_62, l32_63, l32_64, l32_65, l32_66, l32_76, l32_86, l32_90, l32_92, l32_97, l32_98, l32_99, l32_100, l32_101, l32_102, l32_103, l32_104, l32_105, l32_106, l32_107, l32_108, l32_109, l32_110, l32_111, l32_112, l32_113, l32_114, l32_115, l32_116, l32_117, l32_118, l32_119, l32_120, l32_121, l32_122, l32_123, l32_124, l32_125, l32_126, l32_192, l32_200, l32_255, l32_999, l32_1000, l32_1344, l32_2147483639, l32_2147483647, l64_0, l64_1, l64_99, l64_999, l64_24883200000, l64_746496000000, jI_add, jI_sub, jI_mul, jI_neg, jL_add, jL_sub, jL_mul, jL_neg, jL_toI, jI_toL, jI_lt, jI_le, jI_eq, jL_lt, jL_le, jL_eq, inR_j, jI_clamp, nI_j, Option.bind_some, zc, u2, u3, u4, u5, wl, mo, if_pos, if_neg, ite_true, ite_false, Int.toNat_natCast]
          rfl)
    (fun n s hI => by
      obtain ⟨y, v⟩ := s
      obtain ⟨rfl, hs, hx⟩ := hI
      refine ⟨.inl (jI 10, v), ?_, (jI 10, v), rfl, hs, hx⟩
      show p_X11_turns_2 (jI d) (n + 1) (jI ((10 : Nat) : Int)) v = _
      rw [p_X11_turns_2]
      simp (disch := omega) only [l32_0, l32_1, l32_2, l32_3, l32_4, l32_5, l32_6, l32_7, l32_8, l32_9, l32_10, l32_11, l32_12, l32_13, l32_14, l32_15, l32_16, l32_17, l32_18, l32_19, l32_20, l32_21, l32_22, l32_23, l32_24, l32_25, l32_26, l32_27, l32_28, l32_29, l32_30, l32_31, l32_32, l32_33, l32_34, l32_35, l32_36, l32_37, l32_38, l32_39, l32_40, l32_41, l32_42, l32_43, l32_44, l32_45, l32_46, l32_47, l32_48, l32_49, l32_50, l32_51, l32_52, l32_53, l32_54, l32_55, l32_56, l32_57, l32_58, l32_59, l32_60, l32_61, l32_62, l32_63, l32_64, l32_65, l32_66, l32_76, l32_86, l32_90, l32_92, l32_97, l32_98, l32_99, l32_100, l32_101, l32_102, l32_103, l32_104, l32_105, l32_106, l32_107, l32_108, l32_109, l32_110, l32_111, l32_112, l32_113, l32_114, l32_115, l32_116, l32_117, l32_118, l32_119, l32_120, l32_121, l32_122, l32_123, l32_124, l32_125, l32_126, l32_192, l32_200, l32_255, l32_999, l32_1000, l32_1344, l32_2147483639, l32_2147483647, l64_0, l64_1, l64_99, l64_999, l64_24883200000, l64_746496000000, jI_add, jI_sub, jI_mul, jI_neg, jL_add, jL_sub, jL_mul, jL_neg, jL_toI, jI_toL, jI_lt, jI_le, jI_eq, jL_lt, jL_le, jL_eq, inR_j, jI_clamp, nI_j, Option.bind_some, zc, u2, u3, u4, u5, wl, mo, if_pos, if_neg, ite_true, ite_false]
      rfl) 2000 0 (jI 0, w) (by omega) (by omega) ⟨rfl, Sm.refl w, fun x x0 x1 => by omega⟩
  obtain ⟨q, rfl, hs2, hR2⟩ := hP
  obtain ⟨y1, w2⟩ := q
  have hr : p_X11_turns_2 (jI d) 2000 (jI 0) w = some (.inl (y1, w2)) := hr
  have hR2 : RT w2 (up (fun _ => 0) d 24883200000) := hR2
  have ct1 : ct (up (fun _ => 0) d 24883200000) = 1 := by
    rw [ct_up d0 (by omega) rfl (by decide)]; rfl
  have T0 : TI S d (up (fun _ => 0) d 24883200000) := by
    refine ⟨by rw [up_eq]; decide, fun x x0 x1 hx => ?_⟩
    by_cases z : x = d
    · subst z
      rw [up_eq, ct1]
      exact ⟨d1, Reach.refl S x, J_root _, fun P _ => rfl⟩
    · rw [up_ne z] at hx; exact absurd rfl hx
  -- one sweep
  have sweep : ∀ (v : Wd) (u : Ab), Sm KU w v → RT v u → TI S d u → ∃ m y v', p_X11_turns_58 2000 (jI 0) (jI 0) v = some (.inl (jI m, y, v')) ∧ Sm KU w v' ∧ ∃ u', RT v' u' ∧ TI S d u' ∧ ((m = 0 ∧ u' = u ∧ ∀ a b, 0 ≤ a → a < 10 → 0 ≤ b → b < 10 → u a ≠ 0 → S (92 + 10 * a + b) ≠ 0 → u b ≠ 0) ∨ (m = 1 ∧ ct u + 1 ≤ ct u')) := by
    intro v u hv hRv hTv
    obtain ⟨r, hr, hP⟩ := lp (fun n (s : Int32 × Int32 × Wd) => p_X11_turns_58 n s.1 s.2.1 s.2.2)
      (fun i s => s.2.1 = jI i ∧ Sm KU w s.2.2 ∧ ∃ m u', s.1 = jI m ∧ RT s.2.2 u' ∧ TI S d u' ∧ ((m = 0 ∧ u' = u ∧ ∀ k : Int, 0 ≤ k → k < i → u (k / 10) ≠ 0 → S (92 + 10 * (k / 10) + k % 10) ≠ 0 → u (k % 10) ≠ 0) ∨ (m = 1 ∧ ct u + 1 ≤ ct u'))) 100
      (fun r => ∃ m y v', r = .inl (jI m, y, v') ∧ Sm KU w v' ∧ ∃ u', RT v' u' ∧ TI S d u' ∧ ((m = 0 ∧ u' = u ∧ ∀ k : Int, 0 ≤ k → k < 100 → u (k / 10) ≠ 0 → S (92 + 10 * (k / 10) + k % 10) ≠ 0 → u (k % 10) ≠ 0) ∨ (m = 1 ∧ ct u + 1 ≤ ct u')))
      (fun i n s hi hI => by
        obtain ⟨y, x, v1⟩ := s
        obtain ⟨rfl, hs, m, u1, rfl, hR1, hT1, hm⟩ := hI
        have e0 : (i : Int).tdiv 10 = (i : Int) / 10 := Int.tdiv_eq_ediv_of_nonneg (by omega)
        have e1 : (i : Int) - (i : Int) / 10 * 10 = (i : Int) % 10 := by omega
        obtain ⟨r, v2, u2', hp, hs2, hR2, hT2, hmo, hc⟩ := s_passes (a := (i : Int) / 10) (b := (i : Int) % 10) hG (keep h hs) hR1 hT1 (by omega) (by omega) (by omega) (by omega)
        rcases hc with ⟨rfl, rfl, hc⟩ | ⟨rfl, hc⟩
        · refine Or.inl ⟨(jI m, jI ((i + 1 : Nat) : Int), v2), ⟨rfl, hs.tr hs2, m, u2', rfl, hR2, hT2, ?_⟩, ?_⟩
          · rcases hm with ⟨hm, rfl, hk⟩ | hm
            · refine Or.inl ⟨hm, rfl, fun k k0 k1 => ?_⟩
              by_cases z : k = i
              · rw [z]; exact hc
              · exact hk k k0 (by omega)
            · exact Or.inr hm
          · show p_X11_turns_58 (n + 1) (jI m) (jI i) v1 = p_X11_turns_58 n (jI m) (jI ((i + 1 : Nat) : Int)) v2
            rw [p_X11_turns_58]
            rcases hm with ⟨rfl, -⟩ | ⟨rfl, -⟩
            · simp (disch := omega) only [l32_0, l32_1, l32_2, l32_3, l32_4, l32_5, l32_6, l32_7, l32_8, l32_9, l32_10, l32_11, l32_12, l32_13, l32_14, l32_15, l32_16, l32_17, l32_18, l32_19, l32_20, l32_21, l32_22, l32_23, l32_24, l32_25, l32_26, l32_27, l32_28, l32_29, l32_30, l32_31, l32_32, l32_33, l32_34, l32_35, l32_36, l32_37, l32_38, l32_39, l32_40, l32_41, l32_42, l32_43, l32_44, l32_45, l32_46, l32_47, l32_48, l32_49, l32_50, l32_51, l32_52, l32_53, l32_54, l32_55, l32_56, l32_57, l32_58, l32_59, l32_60, l32_61, l32_62, l32_63, l32_64, l32_65, l32_66, l32_76, l32_86, l32_90, l32_92, l32_97, l32_98, l32_99, l32_100, l32_101, l32_102, l32_103, l32_104, l32_105, l32_106, l32_107, l32_108, l32_109, l32_110, l32_111, l32_112, l32_113, l32_114, l32_115, l32_116, l32_117, l32_118, l32_119, l32_120, l32_121, l32_122, l32_123, l32_124, l32_125, l32_126, l32_192, l32_200, l32_255, l32_999, l32_1000, l32_1344, l32_2147483639, l32_2147483647, l64_0, l64_1, l64_99, l64_999, l64_24883200000, l64_746496000000, jI_add, jI_sub, jI_mul, jI_neg, jL_add, jL_sub, jL_mul, jL_neg, jL_toI, jI_toL, jI_lt, jI_le, jI_eq, jL_lt, jL_le, jL_eq, inR_j, jI_clamp, nI_j, Option.bind_some, zc, u2, u3, u4, u5, wl, mo, if_pos, if_neg, ite_true, ite_false, jI_div, e0, e1, hp]
              rfl
            · simp (disch := omega) only [l32_0, l32_1, l32_2, l32_3, l32_4, l32_5, l32_6, l32_7, l32_8, l32_9, l32_10, l32_11, l32_12, l32_13, l32_14, l32_15, l32_16, l32_17, l32_18, l32_19, l32_20, l32_21, l32_22, l32_23, l32_24, l32_25, l32_26, l32_27, l32_28, l32_29, l32_30, l32_31, l32_32, l32_33, l32_34, l32_35, l32_36, l32_37, l32_38, l32_39, l32_40, l32_41, l32_42, l32_43, l32_44, l32_45, l32_46, l32_47, l32_48, l32_49, l32_50, l32_51, l32_52, l32_53, l32_54, l32_55, l32_56, l32_57, l32_58, l32_59, l32_60, l32_61, l32_62, l32_63, l32_64, l32_65, l32_66, l32_76, l32_86, l32_90, l32_92, l32_97, l32_98, l32_99, l32_100, l32_101, l32_102, l32_103, l32_104, l32_105, l32_106, l32_107, l32_108, l32_109, l32_110, l32_111, l32_112, l32_113, l32_114, l32_115, l32_116, l32_117, l32_118, l32_119, l32_120, l32_121, l32_122, l32_123, l32_124, l32_125, l32_126, l32_192, l32_200, l32_255, l32_999, l32_1000, l32_1344, l32_2147483639, l32_2147483647, l64_0, l64_1, l64_99, l64_999, l64_24883200000, l64_746496000000, jI_add, jI_sub, jI_mul, jI_neg, jL_add, jL_sub, jL_mul, jL_neg, jL_toI, jI_toL, jI_lt, jI_le, jI_eq, jL_lt, jL_le, jL_eq, inR_j, jI_clamp, nI_j, Option.bind_some, zc, u2, u3, u4, u5, wl, mo, if_pos, if_neg, ite_true, ite_false, jI_div, e0, e1, hp]
              rfl
        · refine Or.inl ⟨(jI 1, jI ((i + 1 : Nat) : Int), v2), ⟨rfl, hs.tr hs2, 1, u2', rfl, hR2, hT2, Or.inr ⟨rfl, ?_⟩⟩, ?_⟩
          · rcases hm with ⟨hm, rfl, hk⟩ | hm
            · omega
            · omega
          · show p_X11_turns_58 (n + 1) (jI m) (jI i) v1 = p_X11_turns_58 n (jI 1) (jI ((i + 1 : Nat) : Int)) v2
            rw [p_X11_turns_58]
            simp (disch := omega) only [l32_0, l32_1, l32_2, l32_3, l32_4, l32_5, l32_6, l32_7, l32_8, l32_9, l32_10, l32_11, l32_12, l32_13, l32_14, l32_15, l32_16, l32_17, l32_18, l32_19, l32_20, l32_21, l32_22, l32_23, l32_24, l32_25, l32_26, l32_27, l32_28, l32_29, l32_30, l32_31, l32_32, l32_33, l32_34, l32_35, l32_36, l32_37, l32_38, l32_39, l32_40, l32_41, l32_42, l32_43, l32_44, l32_45, l32_46, l32_47, l32_48, l32_49, l32_50, l32_51, l32_52, l32_53, l32_54, l32_55, l32_56, l32_57, l32_58, l32_59, l32_60, l32_61, l32_62, l32_63, l32_64, l32_65, l32_66, l32_76, l32_86, l32_90, l32_92, l32_97, l32_98, l32_99, l32_100, l32_101, l32_102, l32_103, l32_104, l32_105, l32_106, l32_107, l32_108, l32_109, l32_110, l32_111, l32_112, l32_113, l32_114, l32_115, l32_116, l32_117, l32_118, l32_119, l32_120, l32_121, l32_122, l32_123, l32_124, l32_125, l32_126, l32_192, l32_200, l32_255, l32_999, l32_1000, l32_1344, l32_2147483639, l32_2147483647, l64_0, l64_1, l64_99, l64_999, l64_24883200000, l64_746496000000, jI_add, jI_sub, jI_mul, jI_neg, jL_add, jL_sub, jL_mul, jL_neg, jL_toI, jI_toL, jI_lt, jI_le, jI_eq, jL_lt, jL_le, jL_eq, inR_j, jI_clamp, nI_j, Option.bind_some, zc, u2, u3, u4, u5, wl, mo, if_pos, if_neg, ite_true, ite_false, jI_div, e0, e1, hp]
            rfl)
      (fun n s hI => by
        obtain ⟨y, x, v1⟩ := s
        obtain ⟨rfl, hs, m, u1, rfl, hR1, hT1, hm⟩ := hI
        refine ⟨.inl (jI m, jI ((100 : Nat) : Int), v1), ?_, m, _, v1, rfl, hs, u1, hR1, hT1, hm⟩
        show p_X11_turns_58 (n + 1) (jI m) (jI ((100 : Nat) : Int)) v1 = _
        rw [p_X11_turns_58]
        simp (disch := omega) only [l32_0, l32_1, l32_2, l32_3, l32_4, l32_5, l32_6, l32_7, l32_8, l32_9, l32_10, l32_11, l32_12, l32_13, l32_14, l32_15, l32_16, l32_17, l32_18, l32_19, l32_20, l32_21, l32_22, l32_23, l32_24, l32_25, l32_26, l32_27, l32_28, l32_29, l32_30, l32_31, l32_32, l32_33, l32_34, l32_35, l32_36, l32_37, l32_38, l32_39, l32_40, l32_41, l32_42, l32_43, l32_44, l32_45, l32_46, l32_47, l32_48, l32_49, l32_50, l32_51, l32_52, l32_53, l32_54, l32_55, l32_56, l32_57, l32_58, l32_59, l32_60, l32_61, l32_62, l32_63, l32_64, l32_65, l32_66, l32_76, l32_86, l32_90, l32_92, l32_97, l32_98, l32_99, l32_100, l32_101, l32_102, l32_103, l32_104, l32_105, l32_106, l32_107, l32_108, l32_109, l32_110, l32_111, l32_112, l32_113, l32_114, l32_115, l32_116, l32_117, l32_118, l32_119, l32_120, l32_121, l32_122, l32_123, l32_124, l32_125, l32_126, l32_192, l32_200, l32_255, l32_999, l32_1000, l32_1344, l32_2147483639, l32_2147483647, l64_0, l64_1, l64_99, l64_999, l64_24883200000, l64_746496000000, jI_add, jI_sub, jI_mul, jI_neg, jL_add, jL_sub, jL_mul, jL_neg, jL_toI, jI_toL, jI_lt, jI_le, jI_eq, jL_lt, jL_le, jL_eq, inR_j, jI_clamp, nI_j, Option.bind_some, zc, u2, u3, u4, u5, wl, mo, if_pos, if_neg, ite_true, ite_false]) 2000 0 (jI 0, jI 0, v) (by omega) (by omega) ⟨rfl, hv, 0, u, rfl, hRv, hTv, Or.inl ⟨rfl, rfl, fun k k0 k1 => by omega⟩⟩
    obtain ⟨m, y, v', rfl, hs', u', hR', hT', hm⟩ := hP
    refine ⟨m, y, v', hr, hs', u', hR', hT', ?_⟩
    rcases hm with ⟨hm, hu, hk⟩ | hm
    · refine Or.inl ⟨hm, hu, fun a b a0 a1 b0 b1 => ?_⟩
      have := hk (a * 10 + b) (by omega) (by omega)
      rw [show (a * 10 + b) / 10 = a by omega, show (a * 10 + b) % 10 = b by omega] at this
      exact this
    · exact Or.inr hm
  obtain ⟨r4, hr4, hP4⟩ := lp (fun n (s : Int32 × Wd) => p_X11_turns_50 n s.1 s.2)
    (fun i s => Sm KU w s.2 ∧ ∃ u, RT s.2 u ∧ TI S d u ∧ ((s.1 = jI 1 ∧ (i : Int) + 1 ≤ ct u) ∨ (s.1 = jI 0 ∧ ∀ a b, 0 ≤ a → a < 10 → 0 ≤ b → b < 10 → u a ≠ 0 → S (92 + 10 * a + b) ≠ 0 → u b ≠ 0))) 11
    (fun r => ∃ q, r = .inl q ∧ Sm KU w q.2 ∧ ∃ u, RT q.2 u ∧ TI S d u ∧ ∀ a b, 0 ≤ a → a < 10 → 0 ≤ b → b < 10 → u a ≠ 0 → S (92 + 10 * a + b) ≠ 0 → u b ≠ 0)
    (fun i n s hi hI => by
      obtain ⟨y, v⟩ := s
      obtain ⟨hs, u, hRu, hTu, ⟨rfl, hm⟩ | ⟨rfl, hm⟩⟩ := hI
      · obtain ⟨m, y2, v', hr, hs', u', hR', hT', hm'⟩ := sweep v u hs hRu hTu
        refine Or.inl ⟨(jI m, v'), ⟨hs', u', hR', hT', ?_⟩, ?_⟩
        · rcases hm' with ⟨rfl, rfl, hk⟩ | ⟨rfl, hk⟩
          · exact Or.inr ⟨rfl, hk⟩
          · exact Or.inl ⟨rfl, by omega⟩
        · show p_X11_turns_50 (n + 1) (jI 1) v = p_X11_turns_50 n (jI m) v'
          rw [p_X11_turns_50]
          simp (disch := omega) only [l32_0, l32_1, l32_2, l32_3, l32_4, l32_5, l32_6, l32_7, l32_8, l32_9, l32_10, l32_11, l32_12, l32_13, l32_14, l32_15, l32_16, l32_17, l32_18, l32_19, l32_20, l32_21, l32_22, l32_23, l32_24, l32_25, l32_26, l32_27, l32_28, l32_29, l32_30, l32_31, l32_32, l32_33, l32_34, l32_35, l32_36, l32_37, l32_38, l32_39, l32_40, l32_41, l32_42, l32_43, l32_44, l32_45, l32_46, l32_47, l32_48, l32_49, l32_50, l32_51, l32_52, l32_53, l32_54, l32_55, l32_56, l32_57, l32_58, l32_59, l32_60, l32_61, l32_62, l32_63, l32_64, l32_65, l32_66, l32_76, l32_86, l32_90, l32_92, l32_97, l32_98, l32_99, l32_100, l32_101, l32_102, l32_103, l32_104, l32_105, l32_106, l32_107, l32_108, l32_109, l32_110, l32_111, l32_112, l32_113, l32_114, l32_115, l32_116, l32_117, l32_118, l32_119, l32_120, l32_121, l32_122, l32_123, l32_124, l32_125, l32_126, l32_192, l32_200, l32_255, l32_999, l32_1000, l32_1344, l32_2147483639, l32_2147483647, l64_0, l64_1, l64_99, l64_999, l64_24883200000, l64_746496000000, jI_add, jI_sub, jI_mul, jI_neg, jL_add, jL_sub, jL_mul, jL_neg, jL_toI, jI_toL, jI_lt, jI_le, jI_eq, jL_lt, jL_le, jL_eq, inR_j, jI_clamp, nI_j, Option.bind_some, zc, u2, u3, u4, u5, wl, mo, if_pos, if_neg, ite_true, ite_false, hr]
      · refine Or.inr ⟨.inl (jI 0, v), ?_, _, rfl, hs, u, hRu, hTu, hm⟩
        show p_X11_turns_50 (n + 1) (jI 0) v = _
        rw [p_X11_turns_50]
        simp (disch := omega) only [l32_0, l32_1, l32_2, l32_3, l32_4, l32_5, l32_6, l32_7, l32_8, l32_9, l32_10, l32_11, l32_12, l32_13, l32_14, l32_15, l32_16, l32_17, l32_18, l32_19, l32_20, l32_21, l32_22, l32_23, l32_24, l32_25, l32_26, l32_27, l32_28, l32_29, l32_30, l32_31, l32_32, l32_33, l32_34, l32_35, l32_36, l32_37, l32_38, l32_39, l32_40, l32_41, l32_42, l32_43, l32_44, l32_45, l32_46, l32_47, l32_48, l32_49, l32_50, l32_51, l32_52, l32_53, l32_54, l32_55, l32_56, l32_57, l32_58, l32_59, l32_60, l32_61, l32_62, l32_63, l32_64, l32_65, l32_66, l32_76, l32_86, l32_90, l32_92, l32_97, l32_98, l32_99, l32_100, l32_101, l32_102, l32_103, l32_104, l32_105, l32_106, l32_107, l32_108, l32_109, l32_110, l32_111, l32_112, l32_113, l32_114, l32_115, l32_116, l32_117, l32_118, l32_119, l32_120, l32_121, l32_122, l32_123, l32_124, l32_125, l32_126, l32_192, l32_200, l32_255, l32_999, l32_1000, l32_1344, l32_2147483639, l32_2147483647, l64_0, l64_1, l64_99, l64_999, l64_24883200000, l64_746496000000, jI_add, jI_sub, jI_mul, jI_neg, jL_add, jL_sub, jL_mul, jL_neg, jL_toI, jI_toL, jI_lt, jI_le, jI_eq, jL_lt, jL_le, jL_eq, inR_j, jI_clamp, nI_j, Option.bind_some, zc, u2, u3, u4, u5, wl, mo, if_pos, if_neg, ite_true, ite_false])
    (fun n s hI => by
      obtain ⟨y, v⟩ := s
      obtain ⟨hs, u, hRu, hTu, ⟨rfl, hm⟩ | ⟨rfl, hm⟩⟩ := hI
      · have := ct_hi u; omega
      · refine ⟨.inl (jI 0, v), ?_, _, rfl, hs, u, hRu, hTu, hm⟩
        show p_X11_turns_50 (n + 1) (jI 0) v = _
        rw [p_X11_turns_50]
        simp (disch := omega) only [l32_0, l32_1, l32_2, l32_3, l32_4, l32_5, l32_6, l32_7, l32_8, l32_9, l32_10, l32_11, l32_12, l32_13, l32_14, l32_15, l32_16, l32_17, l32_18, l32_19, l32_20, l32_21, l32_22, l32_23, l32_24, l32_25, l32_26, l32_27, l32_28, l32_29, l32_30, l32_31, l32_32, l32_33, l32_34, l32_35, l32_36, l32_37, l32_38, l32_39, l32_40, l32_41, l32_42, l32_43, l32_44, l32_45, l32_46, l32_47, l32_48, l32_49, l32_50, l32_51, l32_52, l32_53, l32_54, l32_55, l32_56, l32_57, l32_58, l32_59, l32_60, l32_61, l32_62, l32_63, l32_64, l32_65, l32_66, l32_76, l32_86, l32_90, l32_92, l32_97, l32_98, l32_99, l32_100, l32_101, l32_102, l32_103, l32_104, l32_105, l32_106, l32_107, l32_108, l32_109, l32_110, l32_111, l32_112, l32_113, l32_114, l32_115, l32_116, l32_117, l32_118, l32_119, l32_120, l32_121, l32_122, l32_123, l32_124, l32_125, l32_126, l32_192, l32_200, l32_255, l32_999, l32_1000, l32_1344, l32_2147483639, l32_2147483647, l64_0, l64_1, l64_99, l64_999, l64_24883200000, l64_746496000000, jI_add, jI_sub, jI_mul, jI_neg, jL_add, jL_sub, jL_mul, jL_neg, jL_toI, jI_toL, jI_lt, jI_le, jI_eq, jL_lt, jL_le, jL_eq, inR_j, jI_clamp, nI_j, Option.bind_some, zc, u2, u3, u4, u5, wl, mo, if_pos, if_neg, ite_true, ite_false]) 2000 0 (jI 1, w2) (by omega) (by omega) ⟨hs2, _, hR2, T0, Or.inl ⟨rfl, by rw [ct1]; decide⟩⟩
  obtain ⟨q4, rfl, hs4, u, hR4, hT4, hcl⟩ := hP4
  have hr4 : p_X11_turns_50 2000 (jI 1) w2 = some (.inl q4) := hr4
  refine ⟨q4.2, ?_, hs4, u, hR4, hT4.tr d0 (by omega) hcl, fun x x0 x1 => ?_⟩
  · unfold f_X11_turns
    simp (disch := omega) only [l32_0, l32_1, l32_2, l32_3, l32_4, l32_5, l32_6, l32_7, l32_8, l32_9, l32_10, l32_11, l32_12, l32_13, l32_14, l32_15, l32_16, l32_17, l32_18, l32_19, l32_20, l32_21, l32_22, l32_23, l32_24, l32_25, l32_26, l32_27, l32_28, l32_29, l32_30, l32_31, l32_32, l32_33, l32_34, l32_35, l32_36, l32_37, l32_38, l32_39, l32_40, l32_41, l32_42, l32_43, l32_44, l32_45, l32_46, l32_47, l32_48, l32_49, l32_50, l32_51, l32_52, l32_53, l32_54, l32_55, l32_56, l32_57, l32_58, l32_59, l32_60, l32_61, l32_62, l32_63, l32_64, l32_65, l32_66, l32_76, l32_86, l32_90, l32_92, l32_97, l32_98, l32_99, l32_100, l32_101, l32_102, l32_103, l32_104, l32_105, l32_106, l32_107, l32_108, l32_109, l32_110, l32_111, l32_112, l32_113, l32_114, l32_115, l32_116, l32_117, l32_118, l32_119, l32_120, l32_121, l32_122, l32_123, l32_124, l32_125, l32_126, l32_192, l32_200, l32_255, l32_999, l32_1000, l32_1344, l32_2147483639, l32_2147483647, l64_0, l64_1, l64_99, l64_999, l64_24883200000, l64_746496000000, jI_add, jI_sub, jI_mul, jI_neg, jL_add, jL_sub, jL_mul, jL_neg, jL_toI, jI_toL, jI_lt, jI_le, jI_eq, jL_lt, jL_le, jL_eq, inR_j, jI_clamp, nI_j, Option.bind_some, zc, u2, u3, u4, u5, wl, mo, if_pos, if_neg, ite_true, ite_false, hr, hr4]
  · by_cases z : u x = 0
    · rw [z]; omega
    · have hx := hT4.2 x x0 x1 z
      have := J_b (by have := ct_hi u; omega) ((hG.2.1 x x0 x1).1 hx.1) hx.2.2.1
      omega
