/-! THE CHANGES once more: none of them takes a gear away -/
def Mn (S : Ab) (o : Oc) : Prop := zc o (fun _ => True) (fun q => S 0 ≤ q.2 0)
def OpM (S : Ab) (es : List Nat) (cd : Nat → Int) (cf rf : Wd → Option (Int32 × Wd)) : Prop :=
  ∃ o : Oc, OK es o ∧ Mn S o ∧ (∀ w, CSt w 1 S → ∃ r w', cf w = some (r, w') ∧ CO w w' r S o) ∧ ∀ w, RSt w 142 0 S → ∃ r w', rf w = some (r, w') ∧ RO w w' r cd o
theorem opm_gear {S : Ab} (hG : Good S) {t : Int} (t1 : -2147483648 ≤ t) (t2 : t < 2147483648) : OpM S [1, 2] (fun e => (e : Int)) (fun w => f_X1_putGear w (jI t)) (fun w => f_X11_addsGear w (jI t)) := by
  have hg := hG.1
  by_cases q : tooth t
  · have hb := tooth_b q
    by_cases q2 : S 0 = 10
    · refine ⟨.inl 2, ok_e (e := 2) (by decide), trivial, fun w h => ?_, fun w h => ?_⟩
      · obtain ⟨r, hr, ⟨rfl, hx⟩ | ⟨rfl, hx⟩⟩ := s_tooth (w := w) t1 t2
        · exact absurd q hx
        · refine ⟨jI (-3), w, ?_, CO.err (Sm.refl w) rfl h⟩
          unfold f_X1_putGear
          simp (disch := omega) only [l32_0, l32_1, l32_2, l32_3, l32_4, l32_5, l32_6, l32_7, l32_8, l32_9, l32_10, l32_11, l32_12, l32_13, l32_14, l32_15, l32_16, l32_17, l32_18, l32_19, l32_20, l32_21, l32_22, l32_23, l32_24, l32_25, l32_26, l32_27, l32_28, l32_29, l32_30, l32_31, l32_32, l32_33, l32_34, l32_35, l32_36, l32_37, l32_38, l32_39, l32_40, l32_41, l32_42, l32_43, l32_44, l32_45, l32_46, l32_47, l32_48, l32_49, l32_50, l32_51, l32_52, l32_53, l32_54, l32_55, l32_56, l32_57, l32_58, l32_59, l32_60, l32_61, l32_62, l32_63, l32_64, l32_65, l32_66, l32_76, l32_86, l32_90, l32_92, l32_97, l32_98, l32_99, l32_100, l32_101, l32_102, l32_103, l32_104, l32_105, l32_106, l32_107, l32_108, l32_109, l32_110, l32_111, l32_112, l32_113, l32_114, l32_115, l32_116, l32_117, l32_118, l32_119, l32_120, l32_121, l32_122, l32_123, l32_124, l32_125, l32_126, l32_192, l32_200, l32_255, l32_999, l32_1000, l32_1344, l32_2147483639, l32_2147483647, l64_0, l64_1, l64_99, l64_999, l64_24883200000, l64_746496000000, jI_add, jI_sub, jI_mul, jI_neg, jL_add, jL_sub, jL_mul, jL_neg, jL_toI, jI_toL, jI_lt, jI_le, jI_eq, jL_lt, jL_le, jL_eq, inR_j, jI_clamp, nI_j, Option.bind_some, zc, u2, u3, u4, u5, wl, mo, if_pos, if_neg, ite_true, ite_false, hr, c_g h]
      · obtain ⟨r, hr, ⟨rfl, hx⟩ | ⟨rfl, hx⟩⟩ := s_rMayHave (w := w) t1 t2
        · exact absurd q hx
        · refine ⟨jI 0, uI w 141 12 (jI 2), ?_, RO.err (Sm.refl w) rfl rfl⟩
          unfold f_X11_addsGear
          simp (disch := omega) only [l32_0, l32_1, l32_2, l32_3, l32_4, l32_5, l32_6, l32_7, l32_8, l32_9, l32_10, l32_11, l32_12, l32_13, l32_14, l32_15, l32_16, l32_17, l32_18, l32_19, l32_20, l32_21, l32_22, l32_23, l32_24, l32_25, l32_26, l32_27, l32_28, l32_29, l32_30, l32_31, l32_32, l32_33, l32_34, l32_35, l32_36, l32_37, l32_38, l32_39, l32_40, l32_41, l32_42, l32_43, l32_44, l32_45, l32_46, l32_47, l32_48, l32_49, l32_50, l32_51, l32_52, l32_53, l32_54, l32_55, l32_56, l32_57, l32_58, l32_59, l32_60, l32_61, l32_62, l32_63, l32_64, l32_65, l32_66, l32_76, l32_86, l32_90, l32_92, l32_97, l32_98, l32_99, l32_100, l32_101, l32_102, l32_103, l32_104, l32_105, l32_106, l32_107, l32_108, l32_109, l32_110, l32_111, l32_112, l32_113, l32_114, l32_115, l32_116, l32_117, l32_118, l32_119, l32_120, l32_121, l32_122, l32_123, l32_124, l32_125, l32_126, l32_192, l32_200, l32_255, l32_999, l32_1000, l32_1344, l32_2147483639, l32_2147483647, l64_0, l64_1, l64_99, l64_999, l64_24883200000, l64_746496000000, jI_add, jI_sub, jI_mul, jI_neg, jL_add, jL_sub, jL_mul, jL_neg, jL_toI, jI_toL, jI_lt, jI_le, jI_eq, jL_lt, jL_le, jL_eq, inR_j, jI_clamp, nI_j, Option.bind_some, zc, u2, u3, u4, u5, wl, mo, if_pos, if_neg, ite_true, ite_false, hr, s_at h, s_fails]
    · refine ⟨.inr (S 0, up (up S (6 + S 0) t) 0 (S 0 + 1)), ⟨hg.1, by omega, hG.gear q (by omega)⟩, (by show S 0 ≤ _; simp only [up]; repeat' split <;> omega), fun w h => ?_, fun w h => ?_⟩
      · obtain ⟨r, hr, ⟨rfl, hx⟩ | ⟨rfl, hx⟩⟩ := s_tooth (w := w) t1 t2
        · exact absurd q hx
        · refine ⟨jI (S 0), uI (uI w 2 (S 0).toNat (jI t)) 1 10 (jI (S 0 + 1)), ?_, CO.val ((Sm.wI w (by unfold KC; omega)).tr (Sm.wI _ (by unfold KC; omega))) rfl (h.put_t (by omega) (by omega)).put_g⟩
          unfold f_X1_putGear
          simp (disch := omega) only [l32_0, l32_1, l32_2, l32_3, l32_4, l32_5, l32_6, l32_7, l32_8, l32_9, l32_10, l32_11, l32_12, l32_13, l32_14, l32_15, l32_16, l32_17, l32_18, l32_19, l32_20, l32_21, l32_22, l32_23, l32_24, l32_25, l32_26, l32_27, l32_28, l32_29, l32_30, l32_31, l32_32, l32_33, l32_34, l32_35, l32_36, l32_37, l32_38, l32_39, l32_40, l32_41, l32_42, l32_43, l32_44, l32_45, l32_46, l32_47, l32_48, l32_49, l32_50, l32_51, l32_52, l32_53, l32_54, l32_55, l32_56, l32_57, l32_58, l32_59, l32_60, l32_61, l32_62, l32_63, l32_64, l32_65, l32_66, l32_76, l32_86, l32_90, l32_92, l32_97, l32_98, l32_99, l32_100, l32_101, l32_102, l32_103, l32_104, l32_105, l32_106, l32_107, l32_108, l32_109, l32_110, l32_111, l32_112, l32_113, l32_114, l32_115, l32_116, l32_117, l32_118, l32_119, l32_120, l32_121, l32_122, l32_123, l32_124, l32_125, l32_126, l32_192, l32_200, l32_255, l32_999, l32_1000, l32_1344, l32_2147483639, l32_2147483647, l64_0, l64_1, l64_99, l64_999, l64_24883200000, l64_746496000000, jI_add, jI_sub, jI_mul, jI_neg, jL_add, jL_sub, jL_mul, jL_neg, jL_toI, jI_toL, jI_lt, jI_le, jI_eq, jL_lt, jL_le, jL_eq, inR_j, jI_clamp, nI_j, Option.bind_some, zc, u2, u3, u4, u5, wl, mo, if_pos, if_neg, ite_true, ite_false, hr, c_g h]
      · obtain ⟨r, hr, ⟨rfl, hx⟩ | ⟨rfl, hx⟩⟩ := s_rMayHave (w := w) t1 t2
        · exact absurd q hx
        · refine ⟨jI (S 0), uI (uL (uL w 142 (6 + S 0).toNat (jL t)) 142 (0 : Int).toNat (jL (S 0 + 1))) 141 12 (jI 0), ?_, RO.val ((Sm.wL w (by unfold KM; omega)).tr (Sm.wL _ (by unfold KM; omega))) rfl ((h.put (by omega) (by omega)).put (by omega) (by omega))⟩
          unfold f_X11_addsGear
          simp (disch := omega) only [l32_0, l32_1, l32_2, l32_3, l32_4, l32_5, l32_6, l32_7, l32_8, l32_9, l32_10, l32_11, l32_12, l32_13, l32_14, l32_15, l32_16, l32_17, l32_18, l32_19, l32_20, l32_21, l32_22, l32_23, l32_24, l32_25, l32_26, l32_27, l32_28, l32_29, l32_30, l32_31, l32_32, l32_33, l32_34, l32_35, l32_36, l32_37, l32_38, l32_39, l32_40, l32_41, l32_42, l32_43, l32_44, l32_45, l32_46, l32_47, l32_48, l32_49, l32_50, l32_51, l32_52, l32_53, l32_54, l32_55, l32_56, l32_57, l32_58, l32_59, l32_60, l32_61, l32_62, l32_63, l32_64, l32_65, l32_66, l32_76, l32_86, l32_90, l32_92, l32_97, l32_98, l32_99, l32_100, l32_101, l32_102, l32_103, l32_104, l32_105, l32_106, l32_107, l32_108, l32_109, l32_110, l32_111, l32_112, l32_113, l32_114, l32_115, l32_116, l32_117, l32_118, l32_119, l32_120, l32_121, l32_122, l32_123, l32_124, l32_125, l32_126, l32_192, l32_200, l32_255, l32_999, l32_1000, l32_1344, l32_2147483639, l32_2147483647, l64_0, l64_1, l64_99, l64_999, l64_24883200000, l64_746496000000, jI_add, jI_sub, jI_mul, jI_neg, jL_add, jL_sub, jL_mul, jL_neg, jL_toI, jI_toL, jI_lt, jI_le, jI_eq, jL_lt, jL_le, jL_eq, inR_j, jI_clamp, nI_j, Option.bind_some, zc, u2, u3, u4, u5, wl, mo, if_pos, if_neg, ite_true, ite_false, hr, s_at h, s_done, gL_uL, r_g h]
  · refine ⟨.inl 1, ok_e (e := 1) (by decide), trivial, fun w h => ?_, fun w h => ?_⟩
    · obtain ⟨r, hr, ⟨rfl, hx⟩ | ⟨rfl, hx⟩⟩ := s_tooth (w := w) t1 t2
      · refine ⟨jI (-2), w, ?_, CO.err (Sm.refl w) rfl h⟩
        unfold f_X1_putGear
        simp (disch := omega) only [l32_0, l32_1, l32_2, l32_3, l32_4, l32_5, l32_6, l32_7, l32_8, l32_9, l32_10, l32_11, l32_12, l32_13, l32_14, l32_15, l32_16, l32_17, l32_18, l32_19, l32_20, l32_21, l32_22, l32_23, l32_24, l32_25, l32_26, l32_27, l32_28, l32_29, l32_30, l32_31, l32_32, l32_33, l32_34, l32_35, l32_36, l32_37, l32_38, l32_39, l32_40, l32_41, l32_42, l32_43, l32_44, l32_45, l32_46, l32_47, l32_48, l32_49, l32_50, l32_51, l32_52, l32_53, l32_54, l32_55, l32_56, l32_57, l32_58, l32_59, l32_60, l32_61, l32_62, l32_63, l32_64, l32_65, l32_66, l32_76, l32_86, l32_90, l32_92, l32_97, l32_98, l32_99, l32_100, l32_101, l32_102, l32_103, l32_104, l32_105, l32_106, l32_107, l32_108, l32_109, l32_110, l32_111, l32_112, l32_113, l32_114, l32_115, l32_116, l32_117, l32_118, l32_119, l32_120, l32_121, l32_122, l32_123, l32_124, l32_125, l32_126, l32_192, l32_200, l32_255, l32_999, l32_1000, l32_1344, l32_2147483639, l32_2147483647, l64_0, l64_1, l64_99, l64_999, l64_24883200000, l64_746496000000, jI_add, jI_sub, jI_mul, jI_neg, jL_add, jL_sub, jL_mul, jL_neg, jL_toI, jI_toL, jI_lt, jI_le, jI_eq, jL_lt, jL_le, jL_eq, inR_j, jI_clamp, nI_j, Option.bind_some, zc, u2, u3, u4, u5, wl, mo, if_pos, if_neg, ite_true, ite_false, hr]
      · exact absurd hx q
    · obtain ⟨r, hr, ⟨rfl, hx⟩ | ⟨rfl, hx⟩⟩ := s_rMayHave (w := w) t1 t2
      · refine ⟨jI 0, uI w 141 12 (jI 1), ?_, RO.err (Sm.refl w) rfl rfl⟩
        unfold f_X11_addsGear
        simp (disch := omega) only [l32_0, l32_1, l32_2, l32_3, l32_4, l32_5, l32_6, l32_7, l32_8, l32_9, l32_10, l32_11, l32_12, l32_13, l32_14, l32_15, l32_16, l32_17, l32_18, l32_19, l32_20, l32_21, l32_22, l32_23, l32_24, l32_25, l32_26, l32_27, l32_28, l32_29, l32_30, l32_31, l32_32, l32_33, l32_34, l32_35, l32_36, l32_37, l32_38, l32_39, l32_40, l32_41, l32_42, l32_43, l32_44, l32_45, l32_46, l32_47, l32_48, l32_49, l32_50, l32_51, l32_52, l32_53, l32_54, l32_55, l32_56, l32_57, l32_58, l32_59, l32_60, l32_61, l32_62, l32_63, l32_64, l32_65, l32_66, l32_76, l32_86, l32_90, l32_92, l32_97, l32_98, l32_99, l32_100, l32_101, l32_102, l32_103, l32_104, l32_105, l32_106, l32_107, l32_108, l32_109, l32_110, l32_111, l32_112, l32_113, l32_114, l32_115, l32_116, l32_117, l32_118, l32_119, l32_120, l32_121, l32_122, l32_123, l32_124, l32_125, l32_126, l32_192, l32_200, l32_255, l32_999, l32_1000, l32_1344, l32_2147483639, l32_2147483647, l64_0, l64_1, l64_99, l64_999, l64_24883200000, l64_746496000000, jI_add, jI_sub, jI_mul, jI_neg, jL_add, jL_sub, jL_mul, jL_neg, jL_toI, jI_toL, jI_lt, jI_le, jI_eq, jL_lt, jL_le, jL_eq, inR_j, jI_clamp, nI_j, Option.bind_some, zc, u2, u3, u4, u5, wl, mo, if_pos, if_neg, ite_true, ite_false, hr, s_fails]
      · exact absurd hx q
theorem opm_buy {S : Ab} (hG : Good S) {x : Int} (x1 : -2147483648 ≤ x) (x2 : x < 2147483648) : OpM S [1, 2] (fun e => (e : Int)) (fun w => f_X1_addDrops w (jI x)) (fun w => f_X11_buys w (jI x)) := by
  have hg := hG.1
  by_cases q : 1 ≤ x ∧ x ≤ 50
  · by_cases q2 : S 2 + x ≤ 99
    · refine ⟨.inr (S 2 + x, up S 2 (S 2 + x)), ⟨by omega, by omega, hG.scal (by omega) q2⟩, (by show S 0 ≤ _; simp only [up]; repeat' split <;> omega), fun w h => ?_, fun w h => ?_⟩
      · refine ⟨jI (S 2 + x), uI w 1 13 (jI (S 2 + x)), ?_, CO.val (Sm.wI w (by unfold KC; omega)) rfl h.put_d⟩
        unfold f_X1_addDrops
        simp (disch := omega) only [l32_0, l32_1, l32_2, l32_3, l32_4, l32_5, l32_6, l32_7, l32_8, l32_9, l32_10, l32_11, l32_12, l32_13, l32_14, l32_15, l32_16, l32_17, l32_18, l32_19, l32_20, l32_21, l32_22, l32_23, l32_24, l32_25, l32_26, l32_27, l32_28, l32_29, l32_30, l32_31, l32_32, l32_33, l32_34, l32_35, l32_36, l32_37, l32_38, l32_39, l32_40, l32_41, l32_42, l32_43, l32_44, l32_45, l32_46, l32_47, l32_48, l32_49, l32_50, l32_51, l32_52, l32_53, l32_54, l32_55, l32_56, l32_57, l32_58, l32_59, l32_60, l32_61, l32_62, l32_63, l32_64, l32_65, l32_66, l32_76, l32_86, l32_90, l32_92, l32_97, l32_98, l32_99, l32_100, l32_101, l32_102, l32_103, l32_104, l32_105, l32_106, l32_107, l32_108, l32_109, l32_110, l32_111, l32_112, l32_113, l32_114, l32_115, l32_116, l32_117, l32_118, l32_119, l32_120, l32_121, l32_122, l32_123, l32_124, l32_125, l32_126, l32_192, l32_200, l32_255, l32_999, l32_1000, l32_1344, l32_2147483639, l32_2147483647, l64_0, l64_1, l64_99, l64_999, l64_24883200000, l64_746496000000, jI_add, jI_sub, jI_mul, jI_neg, jL_add, jL_sub, jL_mul, jL_neg, jL_toI, jI_toL, jI_lt, jI_le, jI_eq, jL_lt, jL_le, jL_eq, inR_j, jI_clamp, nI_j, Option.bind_some, zc, u2, u3, u4, u5, wl, mo, if_pos, if_neg, ite_true, ite_false, c_d h, gI_uI, and_self]
      · refine ⟨jI (S 2 + x), uI (uL w 142 (2 : Int).toNat (jL (S 2 + x))) 141 12 (jI 0), ?_, RO.val (Sm.wL w (by unfold KM; omega)) rfl (h.put (by omega) (by omega))⟩
        have h' : RSt (uL w 142 (2 : Int).toNat (jL (S 2 + x))) 142 0 (up S 2 (S 2 + x)) := h.put (by omega) (by omega)
        have e := s_at h' (z := 2) (by omega) (by omega)
        rw [up_eq] at e
        unfold f_X11_buys
        simp (disch := omega) only [l32_0, l32_1, l32_2, l32_3, l32_4, l32_5, l32_6, l32_7, l32_8, l32_9, l32_10, l32_11, l32_12, l32_13, l32_14, l32_15, l32_16, l32_17, l32_18, l32_19, l32_20, l32_21, l32_22, l32_23, l32_24, l32_25, l32_26, l32_27, l32_28, l32_29, l32_30, l32_31, l32_32, l32_33, l32_34, l32_35, l32_36, l32_37, l32_38, l32_39, l32_40, l32_41, l32_42, l32_43, l32_44, l32_45, l32_46, l32_47, l32_48, l32_49, l32_50, l32_51, l32_52, l32_53, l32_54, l32_55, l32_56, l32_57, l32_58, l32_59, l32_60, l32_61, l32_62, l32_63, l32_64, l32_65, l32_66, l32_76, l32_86, l32_90, l32_92, l32_97, l32_98, l32_99, l32_100, l32_101, l32_102, l32_103, l32_104, l32_105, l32_106, l32_107, l32_108, l32_109, l32_110, l32_111, l32_112, l32_113, l32_114, l32_115, l32_116, l32_117, l32_118, l32_119, l32_120, l32_121, l32_122, l32_123, l32_124, l32_125, l32_126, l32_192, l32_200, l32_255, l32_999, l32_1000, l32_1344, l32_2147483639, l32_2147483647, l64_0, l64_1, l64_99, l64_999, l64_24883200000, l64_746496000000, jI_add, jI_sub, jI_mul, jI_neg, jL_add, jL_sub, jL_mul, jL_neg, jL_toI, jI_toL, jI_lt, jI_le, jI_eq, jL_lt, jL_le, jL_eq, inR_j, jI_clamp, nI_j, Option.bind_some, zc, u2, u3, u4, u5, wl, mo, if_pos, if_neg, ite_true, ite_false, s_in, bZ_eq0, r_g h, s_done, e]
    · refine ⟨.inl 2, ok_e (e := 2) (by decide), trivial, fun w h => ?_, fun w h => ?_⟩
      · refine ⟨jI (-3), w, ?_, CO.err (Sm.refl w) rfl h⟩
        unfold f_X1_addDrops
        simp (disch := omega) only [l32_0, l32_1, l32_2, l32_3, l32_4, l32_5, l32_6, l32_7, l32_8, l32_9, l32_10, l32_11, l32_12, l32_13, l32_14, l32_15, l32_16, l32_17, l32_18, l32_19, l32_20, l32_21, l32_22, l32_23, l32_24, l32_25, l32_26, l32_27, l32_28, l32_29, l32_30, l32_31, l32_32, l32_33, l32_34, l32_35, l32_36, l32_37, l32_38, l32_39, l32_40, l32_41, l32_42, l32_43, l32_44, l32_45, l32_46, l32_47, l32_48, l32_49, l32_50, l32_51, l32_52, l32_53, l32_54, l32_55, l32_56, l32_57, l32_58, l32_59, l32_60, l32_61, l32_62, l32_63, l32_64, l32_65, l32_66, l32_76, l32_86, l32_90, l32_92, l32_97, l32_98, l32_99, l32_100, l32_101, l32_102, l32_103, l32_104, l32_105, l32_106, l32_107, l32_108, l32_109, l32_110, l32_111, l32_112, l32_113, l32_114, l32_115, l32_116, l32_117, l32_118, l32_119, l32_120, l32_121, l32_122, l32_123, l32_124, l32_125, l32_126, l32_192, l32_200, l32_255, l32_999, l32_1000, l32_1344, l32_2147483639, l32_2147483647, l64_0, l64_1, l64_99, l64_999, l64_24883200000, l64_746496000000, jI_add, jI_sub, jI_mul, jI_neg, jL_add, jL_sub, jL_mul, jL_neg, jL_toI, jI_toL, jI_lt, jI_le, jI_eq, jL_lt, jL_le, jL_eq, inR_j, jI_clamp, nI_j, Option.bind_some, zc, u2, u3, u4, u5, wl, mo, if_pos, if_neg, ite_true, ite_false, c_d h]
      · refine ⟨jI 0, uI w 141 12 (jI 2), ?_, RO.err (Sm.refl w) rfl rfl⟩
        unfold f_X11_buys
        simp (disch := omega) only [l32_0, l32_1, l32_2, l32_3, l32_4, l32_5, l32_6, l32_7, l32_8, l32_9, l32_10, l32_11, l32_12, l32_13, l32_14, l32_15, l32_16, l32_17, l32_18, l32_19, l32_20, l32_21, l32_22, l32_23, l32_24, l32_25, l32_26, l32_27, l32_28, l32_29, l32_30, l32_31, l32_32, l32_33, l32_34, l32_35, l32_36, l32_37, l32_38, l32_39, l32_40, l32_41, l32_42, l32_43, l32_44, l32_45, l32_46, l32_47, l32_48, l32_49, l32_50, l32_51, l32_52, l32_53, l32_54, l32_55, l32_56, l32_57, l32_58, l32_59, l32_60, l32_61, l32_62, l32_63, l32_64, l32_65, l32_66, l32_76, l32_86, l32_90, l32_92, l32_97, l32_98, l32_99, l32_100, l32_101, l32_102, l32_103, l32_104, l32_105, l32_106, l32_107, l32_108, l32_109, l32_110, l32_111, l32_112, l32_113, l32_114, l32_115, l32_116, l32_117, l32_118, l32_119, l32_120, l32_121, l32_122, l32_123, l32_124, l32_125, l32_126, l32_192, l32_200, l32_255, l32_999, l32_1000, l32_1344, l32_2147483639, l32_2147483647, l64_0, l64_1, l64_99, l64_999, l64_24883200000, l64_746496000000, jI_add, jI_sub, jI_mul, jI_neg, jL_add, jL_sub, jL_mul, jL_neg, jL_toI, jI_toL, jI_lt, jI_le, jI_eq, jL_lt, jL_le, jL_eq, inR_j, jI_clamp, nI_j, Option.bind_some, zc, u2, u3, u4, u5, wl, mo, if_pos, if_neg, ite_true, ite_false, s_in, bZ_eq0, r_g h, s_fails]
  · refine ⟨.inl 1, ok_e (e := 1) (by decide), trivial, fun w h => ?_, fun w h => ?_⟩
    · refine ⟨jI (-2), w, ?_, CO.err (Sm.refl w) rfl h⟩
      unfold f_X1_addDrops
      by_cases q2 : x < 1
      · simp (disch := omega) only [l32_0, l32_1, l32_2, l32_3, l32_4, l32_5, l32_6, l32_7, l32_8, l32_9, l32_10, l32_11, l32_12, l32_13, l32_14, l32_15, l32_16, l32_17, l32_18, l32_19, l32_20, l32_21, l32_22, l32_23, l32_24, l32_25, l32_26, l32_27, l32_28, l32_29, l32_30, l32_31, l32_32, l32_33, l32_34, l32_35, l32_36, l32_37, l32_38, l32_39, l32_40, l32_41, l32_42, l32_43, l32_44, l32_45, l32_46, l32_47, l32_48, l32_49, l32_50, l32_51, l32_52, l32_53, l32_54, l32_55, l32_56, l32_57, l32_58, l32_59, l32_60, l32_61, l32_62, l32_63, l32_64, l32_65, l32_66, l32_76, l32_86, l32_90, l32_92, l32_97, l32_98, l32_99, l32_100, l32_101, l32_102, l32_103, l32_104, l32_105, l32_106, l32_107, l32_108, l32_109, l32_110, l32_111, l32_112, l32_113, l32_114, l32_115, l32_116, l32_117, l32_118, l32_119, l32_120, l32_121, l32_122, l32_123, l32_124, l32_125, l32_126, l32_192, l32_200, l32_255, l32_999, l32_1000, l32_1344, l32_2147483639, l32_2147483647, l64_0, l64_1, l64_99, l64_999, l64_24883200000, l64_746496000000, jI_add, jI_sub, jI_mul, jI_neg, jL_add, jL_sub, jL_mul, jL_neg, jL_toI, jI_toL, jI_lt, jI_le, jI_eq, jL_lt, jL_le, jL_eq, inR_j, jI_clamp, nI_j, Option.bind_some, zc, u2, u3, u4, u5, wl, mo, if_pos, if_neg, ite_true, ite_false]
      · simp (disch := omega) only [l32_0, l32_1, l32_2, l32_3, l32_4, l32_5, l32_6, l32_7, l32_8, l32_9, l32_10, l32_11, l32_12, l32_13, l32_14, l32_15, l32_16, l32_17, l32_18, l32_19, l32_20, l32_21, l32_22, l32_23, l32_24, l32_25, l32_26, l32_27, l32_28, l32_29, l32_30, l32_31, l32_32, l32_33, l32_34, l32_35, l32_36, l32_37, l32_38, l32_39, l32_40, l32_41, l32_42, l32_43, l32_44, l32_45, l32_46, l32_47, l32_48, l32_49, l32_50, l32_51, l32_52, l32_53, l32_54, l32_55, l32_56, l32_57, l32_58, l32_59, l32_60, l32_61, l32_62, l32_63, l32_64, l32_65, l32_66, l32_76, l32_86, l32_90, l32_92, l32_97, l32_98, l32_99, l32_100, l32_101, l32_102, l32_103, l32_104, l32_105, l32_106, l32_107, l32_108, l32_109, l32_110, l32_111, l32_112, l32_113, l32_114, l32_115, l32_116, l32_117, l32_118, l32_119, l32_120, l32_121, l32_122, l32_123, l32_124, l32_125, l32_126, l32_192, l32_200, l32_255, l32_999, l32_1000, l32_1344, l32_2147483639, l32_2147483647, l64_0, l64_1, l64_99, l64_999, l64_24883200000, l64_746496000000, jI_add, jI_sub, jI_mul, jI_neg, jL_add, jL_sub, jL_mul, jL_neg, jL_toI, jI_toL, jI_lt, jI_le, jI_eq, jL_lt, jL_le, jL_eq, inR_j, jI_clamp, nI_j, Option.bind_some, zc, u2, u3, u4, u5, wl, mo, if_pos, if_neg, ite_true, ite_false]
    · refine ⟨jI 0, uI w 141 12 (jI 1), ?_, RO.err (Sm.refl w) rfl rfl⟩
      unfold f_X11_buys
      simp (disch := omega) only [l32_0, l32_1, l32_2, l32_3, l32_4, l32_5, l32_6, l32_7, l32_8, l32_9, l32_10, l32_11, l32_12, l32_13, l32_14, l32_15, l32_16, l32_17, l32_18, l32_19, l32_20, l32_21, l32_22, l32_23, l32_24, l32_25, l32_26, l32_27, l32_28, l32_29, l32_30, l32_31, l32_32, l32_33, l32_34, l32_35, l32_36, l32_37, l32_38, l32_39, l32_40, l32_41, l32_42, l32_43, l32_44, l32_45, l32_46, l32_47, l32_48, l32_49, l32_50, l32_51, l32_52, l32_53, l32_54, l32_55, l32_56, l32_57, l32_58, l32_59, l32_60, l32_61, l32_62, l32_63, l32_64, l32_65, l32_66, l32_76, l32_86, l32_90, l32_92, l32_97, l32_98, l32_99, l32_100, l32_101, l32_102, l32_103, l32_104, l32_105, l32_106, l32_107, l32_108, l32_109, l32_110, l32_111, l32_112, l32_113, l32_114, l32_115, l32_116, l32_117, l32_118, l32_119, l32_120, l32_121, l32_122, l32_123, l32_124, l32_125, l32_126, l32_192, l32_200, l32_255, l32_999, l32_1000, l32_1344, l32_2147483639, l32_2147483647, l64_0, l64_1, l64_99, l64_999, l64_24883200000, l64_746496000000, jI_add, jI_sub, jI_mul, jI_neg, jL_add, jL_sub, jL_mul, jL_neg, jL_toI, jI_toL, jI_lt, jI_le, jI_eq, jL_lt, jL_le, jL_eq, inR_j, jI_clamp, nI_j, Option.bind_some, zc, u2, u3, u4, u5, wl, mo, if_pos, if_neg, ite_true, ite_false, s_in, bZ_eq0, s_fails]
theorem opm_ratchet {S : Ab} (hG : Good S) {x b : Int} (x1 : -2147483648 ≤ x) (x2 : x < 2147483648) (hb : b = 0 ∨ b = 1) : OpM S [0] (fun e => (e : Int) + 1) (fun w => f_X1_putRatchet w (jI x) (jI b)) (fun w => f_X11_ratchets w (jI x) (jI b)) := by
  have hg := hG.1
  by_cases q : 0 ≤ x ∧ x < S 0
  · have k := hG.2.1 x q.1 (by omega)
    have k6 := k.2.2.2.2.2.1
    refine ⟨.inr (S (56 + x), up S (56 + x) b), ⟨by omega, by omega, hG.fld' ⟨q.1, by omega⟩ (by omega) ?_⟩, (by show S 0 ≤ _; simp only [up]; repeat' split <;> omega), fun w h => ?_, fun w h => ?_⟩
    · unfold Gg
      rw [up_eq, up_ne (x := 0) (by omega), up_ne (x := 6 + x) (by omega), up_ne (x := 16 + x) (by omega), up_ne (x := 26 + x) (by omega), up_ne (x := 36 + x) (by omega), up_ne (x := 46 + x) (by omega), up_ne (x := 66 + x) (by omega), up_ne (x := 76 + x) (by omega)]
      exact ⟨k.1, k.2.1, k.2.2.1, k.2.2.2.1, k.2.2.2.2.1, hb, k.2.2.2.2.2.2⟩
    · refine ⟨jI (S (56 + x)), uI w 6 x.toNat (jI b), ?_, CO.val (Sm.wI w (by unfold KC; omega)) rfl (h.put_r (by omega) (by omega))⟩
      have e : vp_nar .boolean (jI b) = jI b := z_bool (by omega) (by omega) hb
      unfold f_X1_putRatchet
      rcases k6 with k6 | k6 <;> (simp (disch := omega) only [l32_0, l32_1, l32_2, l32_3, l32_4, l32_5, l32_6, l32_7, l32_8, l32_9, l32_10, l32_11, l32_12, l32_13, l32_14, l32_15, l32_16, l32_17, l32_18, l32_19, l32_20, l32_21, l32_22, l32_23, l32_24, l32_25, l32_26, l32_27, l32_28, l32_29, l32_30, l32_31, l32_32, l32_33, l32_34, l32_35, l32_36, l32_37, l32_38, l32_39, l32_40, l32_41, l32_42, l32_43, l32_44, l32_45, l32_46, l32_47, l32_48, l32_49, l32_50, l32_51, l32_52, l32_53, l32_54, l32_55, l32_56, l32_57, l32_58, l32_59, l32_60, l32_61, l32_62, l32_63, l32_64, l32_65, l32_66, l32_76, l32_86, l32_90, l32_92, l32_97, l32_98, l32_99, l32_100, l32_101, l32_102, l32_103, l32_104, l32_105, l32_106, l32_107, l32_108, l32_109, l32_110, l32_111, l32_112, l32_113, l32_114, l32_115, l32_116, l32_117, l32_118, l32_119, l32_120, l32_121, l32_122, l32_123, l32_124, l32_125, l32_126, l32_192, l32_200, l32_255, l32_999, l32_1000, l32_1344, l32_2147483639, l32_2147483647, l64_0, l64_1, l64_99, l64_999, l64_24883200000, l64_746496000000, jI_add, jI_sub, jI_mul, jI_neg, jL_add, jL_sub, jL_mul, jL_neg, jL_toI, jI_toL, jI_lt, jI_le, jI_eq, jL_lt, jL_le, jL_eq, inR_j, jI_clamp, nI_j, Option.bind_some, zc, u2, u3, u4, u5, wl, mo, if_pos, if_neg, ite_true, ite_false, s_isGear h hG, bZ_eq0, c_r h, e, k6])
    · refine ⟨jI (S (56 + x)), uI (uL w 142 (56 + x).toNat (jL b)) 141 12 (jI 0), ?_, RO.val (Sm.wL w (by unfold KM; omega)) rfl (h.put (by omega) (by omega))⟩
      unfold f_X11_ratchets
      rcases hb with rfl | rfl <;> (simp (disch := omega) only [l32_0, l32_1, l32_2, l32_3, l32_4, l32_5, l32_6, l32_7, l32_8, l32_9, l32_10, l32_11, l32_12, l32_13, l32_14, l32_15, l32_16, l32_17, l32_18, l32_19, l32_20, l32_21, l32_22, l32_23, l32_24, l32_25, l32_26, l32_27, l32_28, l32_29, l32_30, l32_31, l32_32, l32_33, l32_34, l32_35, l32_36, l32_37, l32_38, l32_39, l32_40, l32_41, l32_42, l32_43, l32_44, l32_45, l32_46, l32_47, l32_48, l32_49, l32_50, l32_51, l32_52, l32_53, l32_54, l32_55, l32_56, l32_57, l32_58, l32_59, l32_60, l32_61, l32_62, l32_63, l32_64, l32_65, l32_66, l32_76, l32_86, l32_90, l32_92, l32_97, l32_98, l32_99, l32_100, l32_101, l32_102, l32_103, l32_104, l32_105, l32_106, l32_107, l32_108, l32_109, l32_110, l32_111, l32_112, l32_113, l32_114, l32_115, l32_116, l32_117, l32_118, l32_119, l32_120, l32_121, l32_122, l32_123, l32_124, l32_125, l32_126, l32_192, l32_200, l32_255, l32_999, l32_1000, l32_1344, l32_2147483639, l32_2147483647, l64_0, l64_1, l64_99, l64_999, l64_24883200000, l64_746496000000, jI_add, jI_sub, jI_mul, jI_neg, jL_add, jL_sub, jL_mul, jL_neg, jL_toI, jI_toL, jI_lt, jI_le, jI_eq, jL_lt, jL_le, jL_eq, inR_j, jI_clamp, nI_j, Option.bind_some, zc, u2, u3, u4, u5, wl, mo, if_pos, if_neg, ite_true, ite_false, s_rIsGear h hG, bZ_eq0, s_at h, s_done])
  · refine ⟨.inl 0, ok_e (e := 0) (by decide), trivial, fun w h => ?_, fun w h => ?_⟩
    · refine ⟨jI (-1), w, ?_, CO.err (Sm.refl w) rfl h⟩
      unfold f_X1_putRatchet
      simp (disch := omega) only [l32_0, l32_1, l32_2, l32_3, l32_4, l32_5, l32_6, l32_7, l32_8, l32_9, l32_10, l32_11, l32_12, l32_13, l32_14, l32_15, l32_16, l32_17, l32_18, l32_19, l32_20, l32_21, l32_22, l32_23, l32_24, l32_25, l32_26, l32_27, l32_28, l32_29, l32_30, l32_31, l32_32, l32_33, l32_34, l32_35, l32_36, l32_37, l32_38, l32_39, l32_40, l32_41, l32_42, l32_43, l32_44, l32_45, l32_46, l32_47, l32_48, l32_49, l32_50, l32_51, l32_52, l32_53, l32_54, l32_55, l32_56, l32_57, l32_58, l32_59, l32_60, l32_61, l32_62, l32_63, l32_64, l32_65, l32_66, l32_76, l32_86, l32_90, l32_92, l32_97, l32_98, l32_99, l32_100, l32_101, l32_102, l32_103, l32_104, l32_105, l32_106, l32_107, l32_108, l32_109, l32_110, l32_111, l32_112, l32_113, l32_114, l32_115, l32_116, l32_117, l32_118, l32_119, l32_120, l32_121, l32_122, l32_123, l32_124, l32_125, l32_126, l32_192, l32_200, l32_255, l32_999, l32_1000, l32_1344, l32_2147483639, l32_2147483647, l64_0, l64_1, l64_99, l64_999, l64_24883200000, l64_746496000000, jI_add, jI_sub, jI_mul, jI_neg, jL_add, jL_sub, jL_mul, jL_neg, jL_toI, jI_toL, jI_lt, jI_le, jI_eq, jL_lt, jL_le, jL_eq, inR_j, jI_clamp, nI_j, Option.bind_some, zc, u2, u3, u4, u5, wl, mo, if_pos, if_neg, ite_true, ite_false, s_isGear h hG, bZ_eq0]
    · refine ⟨jI 0, uI w 141 12 (jI 1), ?_, RO.err (Sm.refl w) rfl rfl⟩
      unfold f_X11_ratchets
      simp (disch := omega) only [l32_0, l32_1, l32_2, l32_3, l32_4, l32_5, l32_6, l32_7, l32_8, l32_9, l32_10, l32_11, l32_12, l32_13, l32_14, l32_15, l32_16, l32_17, l32_18, l32_19, l32_20, l32_21, l32_22, l32_23, l32_24, l32_25, l32_26, l32_27, l32_28, l32_29, l32_30, l32_31, l32_32, l32_33, l32_34, l32_35, l32_36, l32_37, l32_38, l32_39, l32_40, l32_41, l32_42, l32_43, l32_44, l32_45, l32_46, l32_47, l32_48, l32_49, l32_50, l32_51, l32_52, l32_53, l32_54, l32_55, l32_56, l32_57, l32_58, l32_59, l32_60, l32_61, l32_62, l32_63, l32_64, l32_65, l32_66, l32_76, l32_86, l32_90, l32_92, l32_97, l32_98, l32_99, l32_100, l32_101, l32_102, l32_103, l32_104, l32_105, l32_106, l32_107, l32_108, l32_109, l32_110, l32_111, l32_112, l32_113, l32_114, l32_115, l32_116, l32_117, l32_118, l32_119, l32_120, l32_121, l32_122, l32_123, l32_124, l32_125, l32_126, l32_192, l32_200, l32_255, l32_999, l32_1000, l32_1344, l32_2147483639, l32_2147483647, l64_0, l64_1, l64_99, l64_999, l64_24883200000, l64_746496000000, jI_add, jI_sub, jI_mul, jI_neg, jL_add, jL_sub, jL_mul, jL_neg, jL_toI, jI_toL, jI_lt, jI_le, jI_eq, jL_lt, jL_le, jL_eq, inR_j, jI_clamp, nI_j, Option.bind_some, zc, u2, u3, u4, u5, wl, mo, if_pos, if_neg, ite_true, ite_false, s_rIsGear h hG, bZ_eq0, s_fails]
theorem opm_reverse {S : Ab} (hG : Good S) {x : Int} (x1 : -2147483648 ≤ x) (x2 : x < 2147483648) : OpM S [0, 4] (fun e => if e = 0 then 1 else 2) (fun w => f_X1_turnRound w (jI x)) (fun w => f_X11_reverses w (jI x)) := by
  have hg := hG.1
  by_cases q : 0 ≤ x ∧ x < S 0
  · have k := hG.2.1 x q.1 (by omega)
    have k7 := k.2.2.2.2.2.2.1
    by_cases q2 : 0 < S (26 + x)
    · refine ⟨.inr (1 - S (46 + x), up S (46 + x) (1 - S (46 + x))), ⟨by omega, by omega, hG.fld' ⟨q.1, by omega⟩ (by omega) ?_⟩, (by show S 0 ≤ _; simp only [up]; repeat' split <;> omega), fun w h => ?_, fun w h => ?_⟩
      · unfold Gg
        rw [up_eq, up_ne (x := 0) (by omega), up_ne (x := 6 + x) (by omega), up_ne (x := 16 + x) (by omega), up_ne (x := 26 + x) (by omega), up_ne (x := 36 + x) (by omega), up_ne (x := 56 + x) (by omega), up_ne (x := 66 + x) (by omega), up_ne (x := 76 + x) (by omega)]
        exact ⟨k.1, k.2.1, k.2.2.1, k.2.2.2.1, k.2.2.2.2.1, k.2.2.2.2.2.1, by omega, k.2.2.2.2.2.2.2⟩
      · refine ⟨jI (1 - S (46 + x)), uI w 9 x.toNat (jI (1 - S (46 + x))), ?_, CO.val (Sm.wI w (by unfold KC; omega)) rfl (h.put_v (by omega) (by omega))⟩
        unfold f_X1_turnRound
        rcases k7 with k7 | k7
        · simp (disch := omega) only [l32_0, l32_1, l32_2, l32_3, l32_4, l32_5, l32_6, l32_7, l32_8, l32_9, l32_10, l32_11, l32_12, l32_13, l32_14, l32_15, l32_16, l32_17, l32_18, l32_19, l32_20, l32_21, l32_22, l32_23, l32_24, l32_25, l32_26, l32_27, l32_28, l32_29, l32_30, l32_31, l32_32, l32_33, l32_34, l32_35, l32_36, l32_37, l32_38, l32_39, l32_40, l32_41, l32_42, l32_43, l32_44, l32_45, l32_46, l32_47, l32_48, l32_49, l32_50, l32_51, l32_52, l32_53, l32_54, l32_55, l32_56, l32_57, l32_58, l32_59, l32_60, l32_61, l32_62, l32_63, l32_64, l32_65, l32_66, l32_76, l32_86, l32_90, l32_92, l32_97, l32_98, l32_99, l32_100, l32_101, l32_102, l32_103, l32_104, l32_105, l32_106, l32_107, l32_108, l32_109, l32_110, l32_111, l32_112, l32_113, l32_114, l32_115, l32_116, l32_117, l32_118, l32_119, l32_120, l32_121, l32_122, l32_123, l32_124, l32_125, l32_126, l32_192, l32_200, l32_255, l32_999, l32_1000, l32_1344, l32_2147483639, l32_2147483647, l64_0, l64_1, l64_99, l64_999, l64_24883200000, l64_746496000000, jI_add, jI_sub, jI_mul, jI_neg, jL_add, jL_sub, jL_mul, jL_neg, jL_toI, jI_toL, jI_lt, jI_le, jI_eq, jL_lt, jL_le, jL_eq, inR_j, jI_clamp, nI_j, Option.bind_some, zc, u2, u3, u4, u5, wl, mo, if_pos, if_neg, ite_true, ite_false, s_isGear h hG, s_hasSpring h hG, bZ_eq0, c_v h, k7, gI_uI, nar_b0, nar_b1, and_self] <;> rfl
        · simp (disch := omega) only [l32_0, l32_1, l32_2, l32_3, l32_4, l32_5, l32_6, l32_7, l32_8, l32_9, l32_10, l32_11, l32_12, l32_13, l32_14, l32_15, l32_16, l32_17, l32_18, l32_19, l32_20, l32_21, l32_22, l32_23, l32_24, l32_25, l32_26, l32_27, l32_28, l32_29, l32_30, l32_31, l32_32, l32_33, l32_34, l32_35, l32_36, l32_37, l32_38, l32_39, l32_40, l32_41, l32_42, l32_43, l32_44, l32_45, l32_46, l32_47, l32_48, l32_49, l32_50, l32_51, l32_52, l32_53, l32_54, l32_55, l32_56, l32_57, l32_58, l32_59, l32_60, l32_61, l32_62, l32_63, l32_64, l32_65, l32_66, l32_76, l32_86, l32_90, l32_92, l32_97, l32_98, l32_99, l32_100, l32_101, l32_102, l32_103, l32_104, l32_105, l32_106, l32_107, l32_108, l32_109, l32_110, l32_111, l32_112, l32_113, l32_114, l32_115, l32_116, l32_117, l32_118, l32_119, l32_120, l32_121, l32_122, l32_123, l32_124, l32_125, l32_126, l32_192, l32_200, l32_255, l32_999, l32_1000, l32_1344, l32_2147483639, l32_2147483647, l64_0, l64_1, l64_99, l64_999, l64_24883200000, l64_746496000000, jI_add, jI_sub, jI_mul, jI_neg, jL_add, jL_sub, jL_mul, jL_neg, jL_toI, jI_toL, jI_lt, jI_le, jI_eq, jL_lt, jL_le, jL_eq, inR_j, jI_clamp, nI_j, Option.bind_some, zc, u2, u3, u4, u5, wl, mo, if_pos, if_neg, ite_true, ite_false, s_isGear h hG, s_hasSpring h hG, bZ_eq0, c_v h, k7, gI_uI, nar_b0, nar_b1, and_self] <;> rfl
      · refine ⟨jI (1 - S (46 + x)), uI (uL w 142 (46 + x).toNat (jL (1 - S (46 + x)))) 141 12 (jI 0), ?_, RO.val (Sm.wL w (by unfold KM; omega)) rfl (h.put (by omega) (by omega))⟩
        have h' : RSt (uL w 142 (46 + x).toNat (jL (1 - S (46 + x)))) 142 0 (up S (46 + x) (1 - S (46 + x))) := h.put (by omega) (by omega)
        have e := s_at h' (z := 46 + x) (by omega) (by omega)
        rw [up_eq] at e
        unfold f_X11_reverses
        simp (disch := omega) only [l32_0, l32_1, l32_2, l32_3, l32_4, l32_5, l32_6, l32_7, l32_8, l32_9, l32_10, l32_11, l32_12, l32_13, l32_14, l32_15, l32_16, l32_17, l32_18, l32_19, l32_20, l32_21, l32_22, l32_23, l32_24, l32_25, l32_26, l32_27, l32_28, l32_29, l32_30, l32_31, l32_32, l32_33, l32_34, l32_35, l32_36, l32_37, l32_38, l32_39, l32_40, l32_41, l32_42, l32_43, l32_44, l32_45, l32_46, l32_47, l32_48, l32_49, l32_50, l32_51, l32_52, l32_53, l32_54, l32_55, l32_56, l32_57, l32_58, l32_59, l32_60, l32_61, l32_62, l32_63, l32_64, l32_65, l32_66, l32_76, l32_86, l32_90, l32_92, l32_97, l32_98, l32_99, l32_100, l32_101, l32_102, l32_103, l32_104, l32_105, l32_106, l32_107, l32_108, l32_109, l32_110, l32_111, l32_112, l32_113, l32_114, l32_115, l32_116, l32_117, l32_118, l32_119, l32_120, l32_121, l32_122, l32_123, l32_124, l32_125, l32_126, l32_192, l32_200, l32_255, l32_999, l32_1000, l32_1344, l32_2147483639, l32_2147483647, l64_0, l64_1, l64_99, l64_999, l64_24883200000, l64_746496000000, jI_add, jI_sub, jI_mul, jI_neg, jL_add, jL_sub, jL_mul, jL_neg, jL_toI, jI_toL, jI_lt, jI_le, jI_eq, jL_lt, jL_le, jL_eq, inR_j, jI_clamp, nI_j, Option.bind_some, zc, u2, u3, u4, u5, wl, mo, if_pos, if_neg, ite_true, ite_false, s_rIsGear h hG, s_rHasSpring h hG, bZ_eq0, r_g h, s_done, e]
    · refine ⟨.inl 4, ok_e (e := 4) (by decide), trivial, fun w h => ?_, fun w h => ?_⟩
      · refine ⟨jI (-5), w, ?_, CO.err (Sm.refl w) rfl h⟩
        unfold f_X1_turnRound
        simp (disch := omega) only [l32_0, l32_1, l32_2, l32_3, l32_4, l32_5, l32_6, l32_7, l32_8, l32_9, l32_10, l32_11, l32_12, l32_13, l32_14, l32_15, l32_16, l32_17, l32_18, l32_19, l32_20, l32_21, l32_22, l32_23, l32_24, l32_25, l32_26, l32_27, l32_28, l32_29, l32_30, l32_31, l32_32, l32_33, l32_34, l32_35, l32_36, l32_37, l32_38, l32_39, l32_40, l32_41, l32_42, l32_43, l32_44, l32_45, l32_46, l32_47, l32_48, l32_49, l32_50, l32_51, l32_52, l32_53, l32_54, l32_55, l32_56, l32_57, l32_58, l32_59, l32_60, l32_61, l32_62, l32_63, l32_64, l32_65, l32_66, l32_76, l32_86, l32_90, l32_92, l32_97, l32_98, l32_99, l32_100, l32_101, l32_102, l32_103, l32_104, l32_105, l32_106, l32_107, l32_108, l32_109, l32_110, l32_111, l32_112, l32_113, l32_114, l32_115, l32_116, l32_117, l32_118, l32_119, l32_120, l32_121, l32_122, l32_123, l32_124, l32_125, l32_126, l32_192, l32_200, l32_255, l32_999, l32_1000, l32_1344, l32_2147483639, l32_2147483647, l64_0, l64_1, l64_99, l64_999, l64_24883200000, l64_746496000000, jI_add, jI_sub, jI_mul, jI_neg, jL_add, jL_sub, jL_mul, jL_neg, jL_toI, jI_toL, jI_lt, jI_le, jI_eq, jL_lt, jL_le, jL_eq, inR_j, jI_clamp, nI_j, Option.bind_some, zc, u2, u3, u4, u5, wl, mo, if_pos, if_neg, ite_true, ite_false, s_isGear h hG, s_hasSpring h hG, bZ_eq0]
      · refine ⟨jI 0, uI w 141 12 (jI 2), ?_, RO.err (Sm.refl w) rfl rfl⟩
        unfold f_X11_reverses
        simp (disch := omega) only [l32_0, l32_1, l32_2, l32_3, l32_4, l32_5, l32_6, l32_7, l32_8, l32_9, l32_10, l32_11, l32_12, l32_13, l32_14, l32_15, l32_16, l32_17, l32_18, l32_19, l32_20, l32_21, l32_22, l32_23, l32_24, l32_25, l32_26, l32_27, l32_28, l32_29, l32_30, l32_31, l32_32, l32_33, l32_34, l32_35, l32_36, l32_37, l32_38, l32_39, l32_40, l32_41, l32_42, l32_43, l32_44, l32_45, l32_46, l32_47, l32_48, l32_49, l32_50, l32_51, l32_52, l32_53, l32_54, l32_55, l32_56, l32_57, l32_58, l32_59, l32_60, l32_61, l32_62, l32_63, l32_64, l32_65, l32_66, l32_76, l32_86, l32_90, l32_92, l32_97, l32_98, l32_99, l32_100, l32_101, l32_102, l32_103, l32_104, l32_105, l32_106, l32_107, l32_108, l32_109, l32_110, l32_111, l32_112, l32_113, l32_114, l32_115, l32_116, l32_117, l32_118, l32_119, l32_120, l32_121, l32_122, l32_123, l32_124, l32_125, l32_126, l32_192, l32_200, l32_255, l32_999, l32_1000, l32_1344, l32_2147483639, l32_2147483647, l64_0, l64_1, l64_99, l64_999, l64_24883200000, l64_746496000000, jI_add, jI_sub, jI_mul, jI_neg, jL_add, jL_sub, jL_mul, jL_neg, jL_toI, jI_toL, jI_lt, jI_le, jI_eq, jL_lt, jL_le, jL_eq, inR_j, jI_clamp, nI_j, Option.bind_some, zc, u2, u3, u4, u5, wl, mo, if_pos, if_neg, ite_true, ite_false, s_rIsGear h hG, s_rHasSpring h hG, bZ_eq0, s_fails]
  · refine ⟨.inl 0, ok_e (e := 0) (by decide), trivial, fun w h => ?_, fun w h => ?_⟩
    · refine ⟨jI (-1), w, ?_, CO.err (Sm.refl w) rfl h⟩
      unfold f_X1_turnRound
      simp (disch := omega) only [l32_0, l32_1, l32_2, l32_3, l32_4, l32_5, l32_6, l32_7, l32_8, l32_9, l32_10, l32_11, l32_12, l32_13, l32_14, l32_15, l32_16, l32_17, l32_18, l32_19, l32_20, l32_21, l32_22, l32_23, l32_24, l32_25, l32_26, l32_27, l32_28, l32_29, l32_30, l32_31, l32_32, l32_33, l32_34, l32_35, l32_36, l32_37, l32_38, l32_39, l32_40, l32_41, l32_42, l32_43, l32_44, l32_45, l32_46, l32_47, l32_48, l32_49, l32_50, l32_51, l32_52, l32_53, l32_54, l32_55, l32_56, l32_57, l32_58, l32_59, l32_60, l32_61, l32_62, l32_63, l32_64, l32_65, l32_66, l32_76, l32_86, l32_90, l32_92, l32_97, l32_98, l32_99, l32_100, l32_101, l32_102, l32_103, l32_104, l32_105, l32_106, l32_107, l32_108, l32_109, l32_110, l32_111, l32_112, l32_113, l32_114, l32_115, l32_116, l32_117, l32_118, l32_119, l32_120, l32_121, l32_122, l32_123, l32_124, l32_125, l32_126, l32_192, l32_200, l32_255, l32_999, l32_1000, l32_1344, l32_2147483639, l32_2147483647, l64_0, l64_1, l64_99, l64_999, l64_24883200000, l64_746496000000, jI_add, jI_sub, jI_mul, jI_neg, jL_add, jL_sub, jL_mul, jL_neg, jL_toI, jI_toL, jI_lt, jI_le, jI_eq, jL_lt, jL_le, jL_eq, inR_j, jI_clamp, nI_j, Option.bind_some, zc, u2, u3, u4, u5, wl, mo, if_pos, if_neg, ite_true, ite_false, s_isGear h hG, bZ_eq0]
    · refine ⟨jI 0, uI w 141 12 (jI 1), ?_, RO.err (Sm.refl w) rfl rfl⟩
      unfold f_X11_reverses
      simp (disch := omega) only [l32_0, l32_1, l32_2, l32_3, l32_4, l32_5, l32_6, l32_7, l32_8, l32_9, l32_10, l32_11, l32_12, l32_13, l32_14, l32_15, l32_16, l32_17, l32_18, l32_19, l32_20, l32_21, l32_22, l32_23, l32_24, l32_25, l32_26, l32_27, l32_28, l32_29, l32_30, l32_31, l32_32, l32_33, l32_34, l32_35, l32_36, l32_37, l32_38, l32_39, l32_40, l32_41, l32_42, l32_43, l32_44, l32_45, l32_46, l32_47, l32_48, l32_49, l32_50, l32_51, l32_52, l32_53, l32_54, l32_55, l32_56, l32_57, l32_58, l32_59, l32_60, l32_61, l32_62, l32_63, l32_64, l32_65, l32_66, l32_76, l32_86, l32_90, l32_92, l32_97, l32_98, l32_99, l32_100, l32_101, l32_102, l32_103, l32_104, l32_105, l32_106, l32_107, l32_108, l32_109, l32_110, l32_111, l32_112, l32_113, l32_114, l32_115, l32_116, l32_117, l32_118, l32_119, l32_120, l32_121, l32_122, l32_123, l32_124, l32_125, l32_126, l32_192, l32_200, l32_255, l32_999, l32_1000, l32_1344, l32_2147483639, l32_2147483647, l64_0, l64_1, l64_99, l64_999, l64_24883200000, l64_746496000000, jI_add, jI_sub, jI_mul, jI_neg, jL_add, jL_sub, jL_mul, jL_neg, jL_toI, jI_toL, jI_lt, jI_le, jI_eq, jL_lt, jL_le, jL_eq, inR_j, jI_clamp, nI_j, Option.bind_some, zc, u2, u3, u4, u5, wl, mo, if_pos, if_neg, ite_true, ite_false, s_rIsGear h hG, bZ_eq0, s_fails]
theorem opm_wind {S : Ab} (hG : Good S) {x a : Int} (x1 : -2147483648 ≤ x) (x2 : x < 2147483648) (a1 : -2147483648 ≤ a) (a2 : a < 2147483648) : OpM S [0, 1, 4, 2] (fun e => if e = 0 then 1 else if e = 1 then 2 else if e = 4 then 3 else 4) (fun w => f_X1_tighten w (jI x) (jI a)) (fun w => f_X11_winds w (jI x) (jI a)) := by
  have hg := hG.1
  by_cases q : 0 ≤ x ∧ x < S 0
  · have k := hG.2.1 x q.1 (by omega)
    have k8 := k.2.2.2.2.2.2.2
    by_cases q1 : 1 ≤ a ∧ a ≤ 200
    · by_cases q2 : 0 < S (26 + x)
      · by_cases q3 : S (36 + x) + a ≤ S (26 + x)
        · have hG' : Good (up (up S (36 + x) (S (36 + x) + a)) 3 (S 3 + a)) := by
            refine hG.of (by rw [up_ne (by omega), up_ne (by omega)]) (by rw [up_ne (by omega), up_ne (by omega)]) (by rw [up_ne (by omega), up_ne (by omega)]; omega) (fun i i0 i1 => by rw [up_ne (by omega), up_ne (by omega)]) (fun i i0 i1 => by rw [up_ne (by omega), up_ne (by omega)]) (fun i i0 i1 => by rw [up_ne (by omega), up_ne (by omega)]) (fun i i0 i1 => ?_) ?_
            · have k := hG.2.1 i i0 i1
              unfold Gg
              rw [up_ne (x := 0) (by omega), up_ne (x := 0) (by omega), up_ne (x := 6 + i) (by omega), up_ne (x := 6 + i) (by omega), up_ne (x := 16 + i) (by omega), up_ne (x := 16 + i) (by omega), up_ne (x := 26 + i) (by omega), up_ne (x := 26 + i) (by omega), up_ne (x := 46 + i) (by omega), up_ne (x := 46 + i) (by omega), up_ne (x := 56 + i) (by omega), up_ne (x := 56 + i) (by omega), up_ne (x := 66 + i) (by omega), up_ne (x := 66 + i) (by omega), up_ne (x := 76 + i) (by omega), up_ne (x := 76 + i) (by omega), up_ne (x := 36 + i) (by omega)]
              by_cases z : i = x
              · subst z
                rw [up_eq]
                exact ⟨k.1, k.2.1, k.2.2.1, k.2.2.2.1, k.2.2.2.2.1, k.2.2.2.2.2.1, k.2.2.2.2.2.2.1, k.2.2.2.2.2.2.2.1, by omega⟩
              · rw [up_ne (x := 36 + i) (by omega)]
                exact k
            · rw [up_eq, up_ne (x := 4) (by omega), up_ne (x := 4) (by omega)]
              have e := hG.2.2.2.2.2.1
              rw [sm_up (g := fun i => up (up S (36 + x) (S (36 + x) + a)) 3 (S 3 + a) (36 + i)) (h := fun i => S (36 + i)) (k := x) q.1 (by omega) (fun i i0 i1 i2 => by show up (up S (36 + x) (S (36 + x) + a)) 3 (S 3 + a) (36 + i) = S (36 + i); rw [up_ne (by omega), up_ne (by omega)]), e]
              show S 3 - S 4 + (up (up S (36 + x) (S (36 + x) + a)) 3 (S 3 + a) (36 + x) - S (36 + x)) = _
              rw [up_ne (by omega), up_eq]
              omega
          refine ⟨.inr (S (36 + x) + a, up (up S (36 + x) (S (36 + x) + a)) 3 (S 3 + a)), ⟨by omega, by omega, hG'⟩, (by show S 0 ≤ _; simp only [up]; repeat' split <;> omega), fun w h => ?_, fun w h => ?_⟩
          · refine ⟨jI (S (36 + x) + a), uI (uI w 8 x.toNat (jI (S (36 + x) + a))) 1 14 (jI (S 3 + a)), ?_, CO.val ((Sm.wI w (by unfold KC; omega)).tr (Sm.wI _ (by unfold KC; omega))) rfl (h.put_n (by omega) (by omega)).put_wd⟩
            unfold f_X1_tighten
            simp (disch := omega) only [l32_0, l32_1, l32_2, l32_3, l32_4, l32_5, l32_6, l32_7, l32_8, l32_9, l32_10, l32_11, l32_12, l32_13, l32_14, l32_15, l32_16, l32_17, l32_18, l32_19, l32_20, l32_21, l32_22, l32_23, l32_24, l32_25, l32_26, l32_27, l32_28, l32_29, l32_30, l32_31, l32_32, l32_33, l32_34, l32_35, l32_36, l32_37, l32_38, l32_39, l32_40, l32_41, l32_42, l32_43, l32_44, l32_45, l32_46, l32_47, l32_48, l32_49, l32_50, l32_51, l32_52, l32_53, l32_54, l32_55, l32_56, l32_57, l32_58, l32_59, l32_60, l32_61, l32_62, l32_63, l32_64, l32_65, l32_66, l32_76, l32_86, l32_90, l32_92, l32_97, l32_98, l32_99, l32_100, l32_101, l32_102, l32_103, l32_104, l32_105, l32_106, l32_107, l32_108, l32_109, l32_110, l32_111, l32_112, l32_113, l32_114, l32_115, l32_116, l32_117, l32_118, l32_119, l32_120, l32_121, l32_122, l32_123, l32_124, l32_125, l32_126, l32_192, l32_200, l32_255, l32_999, l32_1000, l32_1344, l32_2147483639, l32_2147483647, l64_0, l64_1, l64_99, l64_999, l64_24883200000, l64_746496000000, jI_add, jI_sub, jI_mul, jI_neg, jL_add, jL_sub, jL_mul, jL_neg, jL_toI, jI_toL, jI_lt, jI_le, jI_eq, jL_lt, jL_le, jL_eq, inR_j, jI_clamp, nI_j, Option.bind_some, zc, u2, u3, u4, u5, wl, mo, if_pos, if_neg, ite_true, ite_false, s_isGear h hG, s_hasSpring h hG, bZ_eq0, c_n h, c_s h, gI_uI, c_wd h]
          · have h' : RSt (uL w 142 (36 + x).toNat (jL (S (36 + x) + a))) 142 0 (up S (36 + x) (S (36 + x) + a)) := h.put (by omega) (by omega)
            have h2 : RSt (uL (uL w 142 (36 + x).toNat (jL (S (36 + x) + a))) 142 (3 : Int).toNat (jL (S 3 + a))) 142 0 (up (up S (36 + x) (S (36 + x) + a)) 3 (S 3 + a)) := h'.put (by omega) (by omega)
            have e := s_at h2 (z := 36 + x) (by omega) (by omega)
            rw [up_ne (by omega), up_eq] at e
            refine ⟨jI (S (36 + x) + a), uI (uL (uL w 142 (36 + x).toNat (jL (S (36 + x) + a))) 142 (3 : Int).toNat (jL (S 3 + a))) 141 12 (jI 0), ?_, RO.val ((Sm.wL w (by unfold KM; omega)).tr (Sm.wL _ (by unfold KM; omega))) rfl h2⟩
            unfold f_X11_winds
            simp (disch := omega) only [l32_0, l32_1, l32_2, l32_3, l32_4, l32_5, l32_6, l32_7, l32_8, l32_9, l32_10, l32_11, l32_12, l32_13, l32_14, l32_15, l32_16, l32_17, l32_18, l32_19, l32_20, l32_21, l32_22, l32_23, l32_24, l32_25, l32_26, l32_27, l32_28, l32_29, l32_30, l32_31, l32_32, l32_33, l32_34, l32_35, l32_36, l32_37, l32_38, l32_39, l32_40, l32_41, l32_42, l32_43, l32_44, l32_45, l32_46, l32_47, l32_48, l32_49, l32_50, l32_51, l32_52, l32_53, l32_54, l32_55, l32_56, l32_57, l32_58, l32_59, l32_60, l32_61, l32_62, l32_63, l32_64, l32_65, l32_66, l32_76, l32_86, l32_90, l32_92, l32_97, l32_98, l32_99, l32_100, l32_101, l32_102, l32_103, l32_104, l32_105, l32_106, l32_107, l32_108, l32_109, l32_110, l32_111, l32_112, l32_113, l32_114, l32_115, l32_116, l32_117, l32_118, l32_119, l32_120, l32_121, l32_122, l32_123, l32_124, l32_125, l32_126, l32_192, l32_200, l32_255, l32_999, l32_1000, l32_1344, l32_2147483639, l32_2147483647, l64_0, l64_1, l64_99, l64_999, l64_24883200000, l64_746496000000, jI_add, jI_sub, jI_mul, jI_neg, jL_add, jL_sub, jL_mul, jL_neg, jL_toI, jI_toL, jI_lt, jI_le, jI_eq, jL_lt, jL_le, jL_eq, inR_j, jI_clamp, nI_j, Option.bind_some, zc, u2, u3, u4, u5, wl, mo, if_pos, if_neg, ite_true, ite_false, s_rIsGear h hG, s_rHasSpring h hG, s_in, bZ_eq0, r_g h, s_done, e, gL_uL]
        · refine ⟨.inl 2, ok_e (e := 2) (by decide), trivial, fun w h => ?_, fun w h => ?_⟩
          · refine ⟨jI (-3), w, ?_, CO.err (Sm.refl w) rfl h⟩
            unfold f_X1_tighten
            simp (disch := omega) only [l32_0, l32_1, l32_2, l32_3, l32_4, l32_5, l32_6, l32_7, l32_8, l32_9, l32_10, l32_11, l32_12, l32_13, l32_14, l32_15, l32_16, l32_17, l32_18, l32_19, l32_20, l32_21, l32_22, l32_23, l32_24, l32_25, l32_26, l32_27, l32_28, l32_29, l32_30, l32_31, l32_32, l32_33, l32_34, l32_35, l32_36, l32_37, l32_38, l32_39, l32_40, l32_41, l32_42, l32_43, l32_44, l32_45, l32_46, l32_47, l32_48, l32_49, l32_50, l32_51, l32_52, l32_53, l32_54, l32_55, l32_56, l32_57, l32_58, l32_59, l32_60, l32_61, l32_62, l32_63, l32_64, l32_65, l32_66, l32_76, l32_86, l32_90, l32_92, l32_97, l32_98, l32_99, l32_100, l32_101, l32_102, l32_103, l32_104, l32_105, l32_106, l32_107, l32_108, l32_109, l32_110, l32_111, l32_112, l32_113, l32_114, l32_115, l32_116, l32_117, l32_118, l32_119, l32_120, l32_121, l32_122, l32_123, l32_124, l32_125, l32_126, l32_192, l32_200, l32_255, l32_999, l32_1000, l32_1344, l32_2147483639, l32_2147483647, l64_0, l64_1, l64_99, l64_999, l64_24883200000, l64_746496000000, jI_add, jI_sub, jI_mul, jI_neg, jL_add, jL_sub, jL_mul, jL_neg, jL_toI, jI_toL, jI_lt, jI_le, jI_eq, jL_lt, jL_le, jL_eq, inR_j, jI_clamp, nI_j, Option.bind_some, zc, u2, u3, u4, u5, wl, mo, if_pos, if_neg, ite_true, ite_false, s_isGear h hG, s_hasSpring h hG, bZ_eq0, c_n h, c_s h]
          · refine ⟨jI 0, uI w 141 12 (jI 4), ?_, RO.err (Sm.refl w) rfl rfl⟩
            unfold f_X11_winds
            simp (disch := omega) only [l32_0, l32_1, l32_2, l32_3, l32_4, l32_5, l32_6, l32_7, l32_8, l32_9, l32_10, l32_11, l32_12, l32_13, l32_14, l32_15, l32_16, l32_17, l32_18, l32_19, l32_20, l32_21, l32_22, l32_23, l32_24, l32_25, l32_26, l32_27, l32_28, l32_29, l32_30, l32_31, l32_32, l32_33, l32_34, l32_35, l32_36, l32_37, l32_38, l32_39, l32_40, l32_41, l32_42, l32_43, l32_44, l32_45, l32_46, l32_47, l32_48, l32_49, l32_50, l32_51, l32_52, l32_53, l32_54, l32_55, l32_56, l32_57, l32_58, l32_59, l32_60, l32_61, l32_62, l32_63, l32_64, l32_65, l32_66, l32_76, l32_86, l32_90, l32_92, l32_97, l32_98, l32_99, l32_100, l32_101, l32_102, l32_103, l32_104, l32_105, l32_106, l32_107, l32_108, l32_109, l32_110, l32_111, l32_112, l32_113, l32_114, l32_115, l32_116, l32_117, l32_118, l32_119, l32_120, l32_121, l32_122, l32_123, l32_124, l32_125, l32_126, l32_192, l32_200, l32_255, l32_999, l32_1000, l32_1344, l32_2147483639, l32_2147483647, l64_0, l64_1, l64_99, l64_999, l64_24883200000, l64_746496000000, jI_add, jI_sub, jI_mul, jI_neg, jL_add, jL_sub, jL_mul, jL_neg, jL_toI, jI_toL, jI_lt, jI_le, jI_eq, jL_lt, jL_le, jL_eq, inR_j, jI_clamp, nI_j, Option.bind_some, zc, u2, u3, u4, u5, wl, mo, if_pos, if_neg, ite_true, ite_false, s_rIsGear h hG, s_rHasSpring h hG, s_in, bZ_eq0, r_g h, s_fails]
      · refine ⟨.inl 4, ok_e (e := 4) (by decide), trivial, fun w h => ?_, fun w h => ?_⟩
        · refine ⟨jI (-5), w, ?_, CO.err (Sm.refl w) rfl h⟩
          unfold f_X1_tighten
          simp (disch := omega) only [l32_0, l32_1, l32_2, l32_3, l32_4, l32_5, l32_6, l32_7, l32_8, l32_9, l32_10, l32_11, l32_12, l32_13, l32_14, l32_15, l32_16, l32_17, l32_18, l32_19, l32_20, l32_21, l32_22, l32_23, l32_24, l32_25, l32_26, l32_27, l32_28, l32_29, l32_30, l32_31, l32_32, l32_33, l32_34, l32_35, l32_36, l32_37, l32_38, l32_39, l32_40, l32_41, l32_42, l32_43, l32_44, l32_45, l32_46, l32_47, l32_48, l32_49, l32_50, l32_51, l32_52, l32_53, l32_54, l32_55, l32_56, l32_57, l32_58, l32_59, l32_60, l32_61, l32_62, l32_63, l32_64, l32_65, l32_66, l32_76, l32_86, l32_90, l32_92, l32_97, l32_98, l32_99, l32_100, l32_101, l32_102, l32_103, l32_104, l32_105, l32_106, l32_107, l32_108, l32_109, l32_110, l32_111, l32_112, l32_113, l32_114, l32_115, l32_116, l32_117, l32_118, l32_119, l32_120, l32_121, l32_122, l32_123, l32_124, l32_125, l32_126, l32_192, l32_200, l32_255, l32_999, l32_1000, l32_1344, l32_2147483639, l32_2147483647, l64_0, l64_1, l64_99, l64_999, l64_24883200000, l64_746496000000, jI_add, jI_sub, jI_mul, jI_neg, jL_add, jL_sub, jL_mul, jL_neg, jL_toI, jI_toL, jI_lt, jI_le, jI_eq, jL_lt, jL_le, jL_eq, inR_j, jI_clamp, nI_j, Option.bind_some, zc, u2, u3, u4, u5, wl, mo, if_pos, if_neg, ite_true, ite_false, s_isGear h hG, s_hasSpring h hG, bZ_eq0]
        · refine ⟨jI 0, uI w 141 12 (jI 3), ?_, RO.err (Sm.refl w) rfl rfl⟩
          unfold f_X11_winds
          simp (disch := omega) only [l32_0, l32_1, l32_2, l32_3, l32_4, l32_5, l32_6, l32_7, l32_8, l32_9, l32_10, l32_11, l32_12, l32_13, l32_14, l32_15, l32_16, l32_17, l32_18, l32_19, l32_20, l32_21, l32_22, l32_23, l32_24, l32_25, l32_26, l32_27, l32_28, l32_29, l32_30, l32_31, l32_32, l32_33, l32_34, l32_35, l32_36, l32_37, l32_38, l32_39, l32_40, l32_41, l32_42, l32_43, l32_44, l32_45, l32_46, l32_47, l32_48, l32_49, l32_50, l32_51, l32_52, l32_53, l32_54, l32_55, l32_56, l32_57, l32_58, l32_59, l32_60, l32_61, l32_62, l32_63, l32_64, l32_65, l32_66, l32_76, l32_86, l32_90, l32_92, l32_97, l32_98, l32_99, l32_100, l32_101, l32_102, l32_103, l32_104, l32_105, l32_106, l32_107, l32_108, l32_109, l32_110, l32_111, l32_112, l32_113, l32_114, l32_115, l32_116, l32_117, l32_118, l32_119, l32_120, l32_121, l32_122, l32_123, l32_124, l32_125, l32_126, l32_192, l32_200, l32_255, l32_999, l32_1000, l32_1344, l32_2147483639, l32_2147483647, l64_0, l64_1, l64_99, l64_999, l64_24883200000, l64_746496000000, jI_add, jI_sub, jI_mul, jI_neg, jL_add, jL_sub, jL_mul, jL_neg, jL_toI, jI_toL, jI_lt, jI_le, jI_eq, jL_lt, jL_le, jL_eq, inR_j, jI_clamp, nI_j, Option.bind_some, zc, u2, u3, u4, u5, wl, mo, if_pos, if_neg, ite_true, ite_false, s_rIsGear h hG, s_rHasSpring h hG, s_in, bZ_eq0, s_fails]
    · refine ⟨.inl 1, ok_e (e := 1) (by decide), trivial, fun w h => ?_, fun w h => ?_⟩
      · refine ⟨jI (-2), w, ?_, CO.err (Sm.refl w) rfl h⟩
        unfold f_X1_tighten
        by_cases q2 : a < 1
        · simp (disch := omega) only [l32_0, l32_1, l32_2, l32_3, l32_4, l32_5, l32_6, l32_7, l32_8, l32_9, l32_10, l32_11, l32_12, l32_13, l32_14, l32_15, l32_16, l32_17, l32_18, l32_19, l32_20, l32_21, l32_22, l32_23, l32_24, l32_25, l32_26, l32_27, l32_28, l32_29, l32_30, l32_31, l32_32, l32_33, l32_34, l32_35, l32_36, l32_37, l32_38, l32_39, l32_40, l32_41, l32_42, l32_43, l32_44, l32_45, l32_46, l32_47, l32_48, l32_49, l32_50, l32_51, l32_52, l32_53, l32_54, l32_55, l32_56, l32_57, l32_58, l32_59, l32_60, l32_61, l32_62, l32_63, l32_64, l32_65, l32_66, l32_76, l32_86, l32_90, l32_92, l32_97, l32_98, l32_99, l32_100, l32_101, l32_102, l32_103, l32_104, l32_105, l32_106, l32_107, l32_108, l32_109, l32_110, l32_111, l32_112, l32_113, l32_114, l32_115, l32_116, l32_117, l32_118, l32_119, l32_120, l32_121, l32_122, l32_123, l32_124, l32_125, l32_126, l32_192, l32_200, l32_255, l32_999, l32_1000, l32_1344, l32_2147483639, l32_2147483647, l64_0, l64_1, l64_99, l64_999, l64_24883200000, l64_746496000000, jI_add, jI_sub, jI_mul, jI_neg, jL_add, jL_sub, jL_mul, jL_neg, jL_toI, jI_toL, jI_lt, jI_le, jI_eq, jL_lt, jL_le, jL_eq, inR_j, jI_clamp, nI_j, Option.bind_some, zc, u2, u3, u4, u5, wl, mo, if_pos, if_neg, ite_true, ite_false, s_isGear h hG, bZ_eq0]
        · simp (disch := omega) only [l32_0, l32_1, l32_2, l32_3, l32_4, l32_5, l32_6, l32_7, l32_8, l32_9, l32_10, l32_11, l32_12, l32_13, l32_14, l32_15, l32_16, l32_17, l32_18, l32_19, l32_20, l32_21, l32_22, l32_23, l32_24, l32_25, l32_26, l32_27, l32_28, l32_29, l32_30, l32_31, l32_32, l32_33, l32_34, l32_35, l32_36, l32_37, l32_38, l32_39, l32_40, l32_41, l32_42, l32_43, l32_44, l32_45, l32_46, l32_47, l32_48, l32_49, l32_50, l32_51, l32_52, l32_53, l32_54, l32_55, l32_56, l32_57, l32_58, l32_59, l32_60, l32_61, l32_62, l32_63, l32_64, l32_65, l32_66, l32_76, l32_86, l32_90, l32_92, l32_97, l32_98, l32_99, l32_100, l32_101, l32_102, l32_103, l32_104, l32_105, l32_106, l32_107, l32_108, l32_109, l32_110, l32_111, l32_112, l32_113, l32_114, l32_115, l32_116, l32_117, l32_118, l32_119, l32_120, l32_121, l32_122, l32_123, l32_124, l32_125, l32_126, l32_192, l32_200, l32_255, l32_999, l32_1000, l32_1344, l32_2147483639, l32_2147483647, l64_0, l64_1, l64_99, l64_999, l64_24883200000, l64_746496000000, jI_add, jI_sub, jI_mul, jI_neg, jL_add, jL_sub, jL_mul, jL_neg, jL_toI, jI_toL, jI_lt, jI_le, jI_eq, jL_lt, jL_le, jL_eq, inR_j, jI_clamp, nI_j, Option.bind_some, zc, u2, u3, u4, u5, wl, mo, if_pos, if_neg, ite_true, ite_false, s_isGear h hG, bZ_eq0]
      · refine ⟨jI 0, uI w 141 12 (jI 2), ?_, RO.err (Sm.refl w) rfl rfl⟩
        unfold f_X11_winds
        simp (disch := omega) only [l32_0, l32_1, l32_2, l32_3, l32_4, l32_5, l32_6, l32_7, l32_8, l32_9, l32_10, l32_11, l32_12, l32_13, l32_14, l32_15, l32_16, l32_17, l32_18, l32_19, l32_20, l32_21, l32_22, l32_23, l32_24, l32_25, l32_26, l32_27, l32_28, l32_29, l32_30, l32_31, l32_32, l32_33, l32_34, l32_35, l32_36, l32_37, l32_38, l32_39, l32_40, l32_41, l32_42, l32_43, l32_44, l32_45, l32_46, l32_47, l32_48, l32_49, l32_50, l32_51, l32_52, l32_53, l32_54, l32_55, l32_56, l32_57, l32_58, l32_59, l32_60, l32_61, l32_62, l32_63, l32_64, l32_65, l32_66, l32_76, l32_86, l32_90, l32_92, l32_97, l32_98, l32_99, l32_100, l32_101, l32_102, l32_103, l32_104, l32_105, l32_106, l32_107, l32_108, l32_109, l32_110, l32_111, l32_112, l32_113, l32_114, l32_115, l32_116, l32_117, l32_118, l32_119, l32_120, l32_121, l32_122, l32_123, l32_124, l32_125, l32_126, l32_192, l32_200, l32_255, l32_999, l32_1000, l32_1344, l32_2147483639, l32_2147483647, l64_0, l64_1, l64_99, l64_999, l64_24883200000, l64_746496000000, jI_add, jI_sub, jI_mul, jI_neg, jL_add, jL_sub, jL_mul, jL_neg, jL_toI, jI_toL, jI_lt, jI_le, jI_eq, jL_lt, jL_le, jL_eq, inR_j, jI_clamp, nI_j, Option.bind_some, zc, u2, u3, u4, u5, wl, mo, if_pos, if_neg, ite_true, ite_false, s_rIsGear h hG, s_in, bZ_eq0, s_fails]
  · refine ⟨.inl 0, ok_e (e := 0) (by decide), trivial, fun w h => ?_, fun w h => ?_⟩
    · refine ⟨jI (-1), w, ?_, CO.err (Sm.refl w) rfl h⟩
      unfold f_X1_tighten
      simp (disch := omega) only [l32_0, l32_1, l32_2, l32_3, l32_4, l32_5, l32_6, l32_7, l32_8, l32_9, l32_10, l32_11, l32_12, l32_13, l32_14, l32_15, l32_16, l32_17, l32_18, l32_19, l32_20, l32_21, l32_22, l32_23, l32_24, l32_25, l32_26, l32_27, l32_28, l32_29, l32_30, l32_31, l32_32, l32_33, l32_34, l32_35, l32_36, l32_37, l32_38, l32_39, l32_40, l32_41, l32_42, l32_43, l32_44, l32_45, l32_46, l32_47, l32_48, l32_49, l32_50, l32_51, l32_52, l32_53, l32_54, l32_55, l32_56, l32_57, l32_58, l32_59, l32_60, l32_61, l32_62, l32_63, l32_64, l32_65, l32_66, l32_76, l32_86, l32_90, l32_92, l32_97, l32_98, l32_99, l32_100, l32_101, l32_102, l32_103, l32_104, l32_105, l32_106, l32_107, l32_108, l32_109, l32_110, l32_111, l32_112, l32_113, l32_114, l32_115, l32_116, l32_117, l32_118, l32_119, l32_120, l32_121, l32_122, l32_123, l32_124, l32_125, l32_126, l32_192, l32_200, l32_255, l32_999, l32_1000, l32_1344, l32_2147483639, l32_2147483647, l64_0, l64_1, l64_99, l64_999, l64_24883200000, l64_746496000000, jI_add, jI_sub, jI_mul, jI_neg, jL_add, jL_sub, jL_mul, jL_neg, jL_toI, jI_toL, jI_lt, jI_le, jI_eq, jL_lt, jL_le, jL_eq, inR_j, jI_clamp, nI_j, Option.bind_some, zc, u2, u3, u4, u5, wl, mo, if_pos, if_neg, ite_true, ite_false, s_isGear h hG, bZ_eq0]
    · refine ⟨jI 0, uI w 141 12 (jI 1), ?_, RO.err (Sm.refl w) rfl rfl⟩
      unfold f_X11_winds
      simp (disch := omega) only [l32_0, l32_1, l32_2, l32_3, l32_4, l32_5, l32_6, l32_7, l32_8, l32_9, l32_10, l32_11, l32_12, l32_13, l32_14, l32_15, l32_16, l32_17, l32_18, l32_19, l32_20, l32_21, l32_22, l32_23, l32_24, l32_25, l32_26, l32_27, l32_28, l32_29, l32_30, l32_31, l32_32, l32_33, l32_34, l32_35, l32_36, l32_37, l32_38, l32_39, l32_40, l32_41, l32_42, l32_43, l32_44, l32_45, l32_46, l32_47, l32_48, l32_49, l32_50, l32_51, l32_52, l32_53, l32_54, l32_55, l32_56, l32_57, l32_58, l32_59, l32_60, l32_61, l32_62, l32_63, l32_64, l32_65, l32_66, l32_76, l32_86, l32_90, l32_92, l32_97, l32_98, l32_99, l32_100, l32_101, l32_102, l32_103, l32_104, l32_105, l32_106, l32_107, l32_108, l32_109, l32_110, l32_111, l32_112, l32_113, l32_114, l32_115, l32_116, l32_117, l32_118, l32_119, l32_120, l32_121, l32_122, l32_123, l32_124, l32_125, l32_126, l32_192, l32_200, l32_255, l32_999, l32_1000, l32_1344, l32_2147483639, l32_2147483647, l64_0, l64_1, l64_99, l64_999, l64_24883200000, l64_746496000000, jI_add, jI_sub, jI_mul, jI_neg, jL_add, jL_sub, jL_mul, jL_neg, jL_toI, jI_toL, jI_lt, jI_le, jI_eq, jL_lt, jL_le, jL_eq, inR_j, jI_clamp, nI_j, Option.bind_some, zc, u2, u3, u4, u5, wl, mo, if_pos, if_neg, ite_true, ite_false, s_rIsGear h hG, bZ_eq0, s_fails]
theorem opm_spring {S : Ab} (hG : Good S) {x a : Int} (x1 : -2147483648 ≤ x) (x2 : x < 2147483648) (a1 : -2147483648 ≤ a) (a2 : a < 2147483648) : OpM S [0, 1, 2] (fun e => (e : Int) + 1) (fun w => f_X1_putSpring w (jI x) (jI a)) (fun w => f_X11_sets w (jI x) (jI a)) := by
  have hg := hG.1
  by_cases q : 0 ≤ x ∧ x < S 0
  · have k := hG.2.1 x q.1 (by omega)
    by_cases q1 : 10 ≤ a ∧ a ≤ 200
    · by_cases q2 : ∃ i, 0 ≤ i ∧ i < 10 ∧ TU S x i ≠ 0 ∧ 0 < S (26 + i)
      · refine ⟨.inl 2, ok_e (e := 2) (by decide), trivial, fun w h => ?_, fun w h => ?_⟩
        · obtain ⟨w', m, hr, hs, hC, h'⟩ := s_trace hG h q.1 q.2
          obtain ⟨r, hr2, hF⟩ := s_springGear h' hG hC (tu_b hG q.1 q.2)
          have hb := hF.b
          have hne : r ≠ -1 := by
            rcases hF with hF | hF
            · omega
            · obtain ⟨i, i0, i1, i2⟩ := q2; exact absurd i2 (hF.2 i i0 i1)
          refine ⟨jI (-3), w', ?_, CO.err (hs.mono (fun k => KT_C)) rfl h'⟩
          unfold f_X1_putSpring
          simp (disch := omega) only [l32_0, l32_1, l32_2, l32_3, l32_4, l32_5, l32_6, l32_7, l32_8, l32_9, l32_10, l32_11, l32_12, l32_13, l32_14, l32_15, l32_16, l32_17, l32_18, l32_19, l32_20, l32_21, l32_22, l32_23, l32_24, l32_25, l32_26, l32_27, l32_28, l32_29, l32_30, l32_31, l32_32, l32_33, l32_34, l32_35, l32_36, l32_37, l32_38, l32_39, l32_40, l32_41, l32_42, l32_43, l32_44, l32_45, l32_46, l32_47, l32_48, l32_49, l32_50, l32_51, l32_52, l32_53, l32_54, l32_55, l32_56, l32_57, l32_58, l32_59, l32_60, l32_61, l32_62, l32_63, l32_64, l32_65, l32_66, l32_76, l32_86, l32_90, l32_92, l32_97, l32_98, l32_99, l32_100, l32_101, l32_102, l32_103, l32_104, l32_105, l32_106, l32_107, l32_108, l32_109, l32_110, l32_111, l32_112, l32_113, l32_114, l32_115, l32_116, l32_117, l32_118, l32_119, l32_120, l32_121, l32_122, l32_123, l32_124, l32_125, l32_126, l32_192, l32_200, l32_255, l32_999, l32_1000, l32_1344, l32_2147483639, l32_2147483647, l64_0, l64_1, l64_99, l64_999, l64_24883200000, l64_746496000000, jI_add, jI_sub, jI_mul, jI_neg, jL_add, jL_sub, jL_mul, jL_neg, jL_toI, jI_toL, jI_lt, jI_le, jI_eq, jL_lt, jL_le, jL_eq, inR_j, jI_clamp, nI_j, Option.bind_some, zc, u2, u3, u4, u5, wl, mo, if_pos, if_neg, ite_true, ite_false, s_isGear h hG, bZ_eq0, hr, hr2]
        · obtain ⟨w', hr, hs, hR, h'⟩ := s_rTurns hG h q.1 q.2
          obtain ⟨r, hr2, hF⟩ := s_rSpringIn h' hG hR
          have hb := hF.b
          have hne : r ≠ -1 := by
            rcases hF with hF | hF
            · omega
            · obtain ⟨i, i0, i1, i2⟩ := q2; exact absurd i2 (hF.2 i i0 i1)
          refine ⟨jI 0, uI w' 141 12 (jI 3), ?_, RO.err (hs.mono (fun k => KU_M)) (hs.1 141 (by unfold KU; omega)).1 rfl⟩
          unfold f_X11_sets
          simp (disch := omega) only [l32_0, l32_1, l32_2, l32_3, l32_4, l32_5, l32_6, l32_7, l32_8, l32_9, l32_10, l32_11, l32_12, l32_13, l32_14, l32_15, l32_16, l32_17, l32_18, l32_19, l32_20, l32_21, l32_22, l32_23, l32_24, l32_25, l32_26, l32_27, l32_28, l32_29, l32_30, l32_31, l32_32, l32_33, l32_34, l32_35, l32_36, l32_37, l32_38, l32_39, l32_40, l32_41, l32_42, l32_43, l32_44, l32_45, l32_46, l32_47, l32_48, l32_49, l32_50, l32_51, l32_52, l32_53, l32_54, l32_55, l32_56, l32_57, l32_58, l32_59, l32_60, l32_61, l32_62, l32_63, l32_64, l32_65, l32_66, l32_76, l32_86, l32_90, l32_92, l32_97, l32_98, l32_99, l32_100, l32_101, l32_102, l32_103, l32_104, l32_105, l32_106, l32_107, l32_108, l32_109, l32_110, l32_111, l32_112, l32_113, l32_114, l32_115, l32_116, l32_117, l32_118, l32_119, l32_120, l32_121, l32_122, l32_123, l32_124, l32_125, l32_126, l32_192, l32_200, l32_255, l32_999, l32_1000, l32_1344, l32_2147483639, l32_2147483647, l64_0, l64_1, l64_99, l64_999, l64_24883200000, l64_746496000000, jI_add, jI_sub, jI_mul, jI_neg, jL_add, jL_sub, jL_mul, jL_neg, jL_toI, jI_toL, jI_lt, jI_le, jI_eq, jL_lt, jL_le, jL_eq, inR_j, jI_clamp, nI_j, Option.bind_some, zc, u2, u3, u4, u5, wl, mo, if_pos, if_neg, ite_true, ite_false, s_rIsGear h hG, s_in, bZ_eq0, hr, hr2, s_fails]
      · have hz : S (26 + x) = 0 := by
          have h1 := k.2.2.2.2.2.2.2.1
          by_cases z : 0 < S (26 + x)
          · exact absurd ⟨x, q.1, by omega, by rw [tu_d hG q.1 q.2]; decide, z⟩ q2
          · omega
        have hG' : Good (up S (26 + x) a) := hG.fld' ⟨q.1, by omega⟩ (by omega) (by
          unfold Gg
          rw [up_eq, up_ne (x := 0) (by omega), up_ne (x := 6 + x) (by omega), up_ne (x := 16 + x) (by omega), up_ne (x := 36 + x) (by omega), up_ne (x := 46 + x) (by omega), up_ne (x := 56 + x) (by omega), up_ne (x := 66 + x) (by omega), up_ne (x := 76 + x) (by omega)]
          exact ⟨k.1, fun z => by omega, k.2.2.1, k.2.2.2.1, k.2.2.2.2.1, k.2.2.2.2.2.1, k.2.2.2.2.2.2.1, by omega, by have := k.2.2.2.2.2.2.2.2; omega⟩)
        have hsp : 0 ≤ spr (up S (26 + x) a) ∧ spr (up S (26 + x) a) ≤ 10 := by
          have h3 := sm_lo (g := fun i => if 0 < up S (26 + x) a (26 + i) then 1 else 0) (c := 0) (n := 10) (fun i _ _ => by split <;> decide)
          have h4 := sm_hi (g := fun i => if 0 < up S (26 + x) a (26 + i) then 1 else 0) (c := 1) (n := 10) (fun i _ _ => by split <;> decide)
          unfold spr
          omega
        refine ⟨.inr (spr (up S (26 + x) a), up S (26 + x) a), ⟨hsp.1, by omega, hG'⟩, (by show S 0 ≤ _; simp only [up]; repeat' split <;> omega), fun w h => ?_, fun w h => ?_⟩
        · obtain ⟨w', m, hr, hs, hC, h'⟩ := s_trace hG h q.1 q.2
          obtain ⟨r, hr2, hF⟩ := s_springGear h' hG hC (tu_b hG q.1 q.2)
          have hne : r = -1 := by
            rcases hF with hF | hF
            · exact absurd ⟨r, hF.1, hF.2.1, hF.2.2.1⟩ q2
            · exact hF.1
          subst hne
          have h2 : CSt (uI w' 7 x.toNat (jI a)) 1 (up S (26 + x) a) := h'.put_s (by omega) (by omega)
          refine ⟨jI (spr (up S (26 + x) a)), uI w' 7 x.toNat (jI a), ?_, CO.val ((hs.mono (fun k => KT_C)).tr (Sm.wI _ (by unfold KC; omega))) rfl h2⟩
          unfold f_X1_putSpring
          simp (disch := omega) only [l32_0, l32_1, l32_2, l32_3, l32_4, l32_5, l32_6, l32_7, l32_8, l32_9, l32_10, l32_11, l32_12, l32_13, l32_14, l32_15, l32_16, l32_17, l32_18, l32_19, l32_20, l32_21, l32_22, l32_23, l32_24, l32_25, l32_26, l32_27, l32_28, l32_29, l32_30, l32_31, l32_32, l32_33, l32_34, l32_35, l32_36, l32_37, l32_38, l32_39, l32_40, l32_41, l32_42, l32_43, l32_44, l32_45, l32_46, l32_47, l32_48, l32_49, l32_50, l32_51, l32_52, l32_53, l32_54, l32_55, l32_56, l32_57, l32_58, l32_59, l32_60, l32_61, l32_62, l32_63, l32_64, l32_65, l32_66, l32_76, l32_86, l32_90, l32_92, l32_97, l32_98, l32_99, l32_100, l32_101, l32_102, l32_103, l32_104, l32_105, l32_106, l32_107, l32_108, l32_109, l32_110, l32_111, l32_112, l32_113, l32_114, l32_115, l32_116, l32_117, l32_118, l32_119, l32_120, l32_121, l32_122, l32_123, l32_124, l32_125, l32_126, l32_192, l32_200, l32_255, l32_999, l32_1000, l32_1344, l32_2147483639, l32_2147483647, l64_0, l64_1, l64_99, l64_999, l64_24883200000, l64_746496000000, jI_add, jI_sub, jI_mul, jI_neg, jL_add, jL_sub, jL_mul, jL_neg, jL_toI, jI_toL, jI_lt, jI_le, jI_eq, jL_lt, jL_le, jL_eq, inR_j, jI_clamp, nI_j, Option.bind_some, zc, u2, u3, u4, u5, wl, mo, if_pos, if_neg, ite_true, ite_false, s_isGear h hG, bZ_eq0, hr, hr2, s_springs h2 hG']
        · obtain ⟨w', hr, hs, hR, h'⟩ := s_rTurns hG h q.1 q.2
          obtain ⟨r, hr2, hF⟩ := s_rSpringIn h' hG hR
          have hne : r = -1 := by
            rcases hF with hF | hF
            · exact absurd ⟨r, hF.1, hF.2.1, hF.2.2.1⟩ q2
            · exact hF.1
          subst hne
          have h2 : RSt (uL w' 142 (26 + x).toNat (jL a)) 142 0 (up S (26 + x) a) := h'.put (by omega) (by omega)
          have e := lpSum (p_X11_sets_67 (uL w' 142 (26 + x).toNat (jL a))) (fun i => if 0 < up S (26 + x) a (26 + i) then 1 else 0) 10 0
            (fun i n a' hi => by
              by_cases z : 0 < up S (26 + x) a (26 + (i : Int))
              · rw [p_X11_sets_67, if_pos z]
                simp (disch := omega) only [l32_0, l32_1, l32_2, l32_3, l32_4, l32_5, l32_6, l32_7, l32_8, l32_9, l32_10, l32_11, l32_12, l32_13, l32_14, l32_15, l32_16, l32_17, l32_18, l32_19, l32_20, l32_21, l32_22, l32_23, l32_24, l32_25, l32_26, l32_27, l32_28, l32_29, l32_30, l32_31, l32_32, l32_33, l32_34, l32_35, l32_36, l32_37, l32_38, l32_39, l32_40, l32_41, l32_42, l32_43, l32_44, l32_45, l32_46, l32_47, l32_48, l32_49, l32_50, l32_51, l32_52, l32_53, l32_54, l32_55, l32_56, l32_57, l32_58, l32_59, l32_60, l32_61, l32_62, l32_63, l32_64, l32_65, l32_66, l32_76, l32_86, l32_90, l32_92, l32_97, l32_98, l32_99, l32_100, l32_101, l32_102, l32_103, l32_104, l32_105, l32_106, l32_107, l32_108, l32_109, l32_110, l32_111, l32_112, l32_113, l32_114, l32_115, l32_116, l32_117, l32_118, l32_119, l32_120, l32_121, l32_122, l32_123, l32_124, l32_125, l32_126, l32_192, l32_200, l32_255, l32_999, l32_1000, l32_1344, l32_2147483639, l32_2147483647, l64_0, l64_1, l64_99, l64_999, l64_24883200000, l64_746496000000, jI_add, jI_sub, jI_mul, jI_neg, jL_add, jL_sub, jL_mul, jL_neg, jL_toI, jI_toL, jI_lt, jI_le, jI_eq, jL_lt, jL_le, jL_eq, inR_j, jI_clamp, nI_j, Option.bind_some, zc, u2, u3, u4, u5, wl, mo, if_pos, if_neg, ite_true, ite_false, s_rHasSpring h2 hG', bZ_eq0] <;> rfl
              · rw [p_X11_sets_67, if_neg z]
                simp (disch := omega) only [l32_0, l32_1, l32_2, l32_3, l32_4, l32_5, l32_6, l32_7, l32_8, l32_9, l32_10, l32_11, l32_12, l32_13, l32_14, l32_15, l32_16, l32_17, l32_18, l32_19, l32_20, l32_21, l32_22, l32_23, l32_24, l32_25, l32_26, l32_27, l32_28, l32_29, l32_30, l32_31, l32_32, l32_33, l32_34, l32_35, l32_36, l32_37, l32_38, l32_39, l32_40, l32_41, l32_42, l32_43, l32_44, l32_45, l32_46, l32_47, l32_48, l32_49, l32_50, l32_51, l32_52, l32_53, l32_54, l32_55, l32_56, l32_57, l32_58, l32_59, l32_60, l32_61, l32_62, l32_63, l32_64, l32_65, l32_66, l32_76, l32_86, l32_90, l32_92, l32_97, l32_98, l32_99, l32_100, l32_101, l32_102, l32_103, l32_104, l32_105, l32_106, l32_107, l32_108, l32_109, l32_110, l32_111, l32_112, l32_113, l32_114, l32_115, l32_116, l32_117, l32_118, l32_119, l32_120, l32_121, l32_122, l32_123, l32_124, l32_125, l32_126, l32_192, l32_200, l32_255, l32_999, l32_1000, l32_1344, l32_2147483639, l32_2147483647, l64_0, l64_1, l64_99, l64_999, l64_24883200000, l64_746496000000, jI_add, jI_sub, jI_mul, jI_neg, jL_add, jL_sub, jL_mul, jL_neg, jL_toI, jI_toL, jI_lt, jI_le, jI_eq, jL_lt, jL_le, jL_eq, inR_j, jI_clamp, nI_j, Option.bind_some, zc, u2, u3, u4, u5, wl, mo, if_pos, if_neg, ite_true, ite_false, s_rHasSpring h2 hG', bZ_eq0] <;> rfl)
            (fun n a' => by
              rw [p_X11_sets_67, show ((10 : Nat) : Int) = 10 from rfl]
              simp (disch := omega) only [l32_0, l32_1, l32_2, l32_3, l32_4, l32_5, l32_6, l32_7, l32_8, l32_9, l32_10, l32_11, l32_12, l32_13, l32_14, l32_15, l32_16, l32_17, l32_18, l32_19, l32_20, l32_21, l32_22, l32_23, l32_24, l32_25, l32_26, l32_27, l32_28, l32_29, l32_30, l32_31, l32_32, l32_33, l32_34, l32_35, l32_36, l32_37, l32_38, l32_39, l32_40, l32_41, l32_42, l32_43, l32_44, l32_45, l32_46, l32_47, l32_48, l32_49, l32_50, l32_51, l32_52, l32_53, l32_54, l32_55, l32_56, l32_57, l32_58, l32_59, l32_60, l32_61, l32_62, l32_63, l32_64, l32_65, l32_66, l32_76, l32_86, l32_90, l32_92, l32_97, l32_98, l32_99, l32_100, l32_101, l32_102, l32_103, l32_104, l32_105, l32_106, l32_107, l32_108, l32_109, l32_110, l32_111, l32_112, l32_113, l32_114, l32_115, l32_116, l32_117, l32_118, l32_119, l32_120, l32_121, l32_122, l32_123, l32_124, l32_125, l32_126, l32_192, l32_200, l32_255, l32_999, l32_1000, l32_1344, l32_2147483639, l32_2147483647, l64_0, l64_1, l64_99, l64_999, l64_24883200000, l64_746496000000, jI_add, jI_sub, jI_mul, jI_neg, jL_add, jL_sub, jL_mul, jL_neg, jL_toI, jI_toL, jI_lt, jI_le, jI_eq, jL_lt, jL_le, jL_eq, inR_j, jI_clamp, nI_j, Option.bind_some, zc, u2, u3, u4, u5, wl, mo, if_pos, if_neg, ite_true, ite_false]) 2000 (by omega)
          rw [Int.zero_add] at e
          have e : p_X11_sets_67 (uL w' 142 (26 + x).toNat (jL a)) 2000 (jI 0) (jI 0) = some (.inl (jI (spr (up S (26 + x) a)), jI 10)) := e
          refine ⟨jI (spr (up S (26 + x) a)), uI (uL w' 142 (26 + x).toNat (jL a)) 141 12 (jI 0), ?_, RO.val ((hs.mono (fun k => KU_M)).tr (Sm.wL _ (by unfold KM; omega))) (hs.1 141 (by unfold KU; omega)).1 h2⟩
          unfold f_X11_sets
          simp (disch := omega) only [l32_0, l32_1, l32_2, l32_3, l32_4, l32_5, l32_6, l32_7, l32_8, l32_9, l32_10, l32_11, l32_12, l32_13, l32_14, l32_15, l32_16, l32_17, l32_18, l32_19, l32_20, l32_21, l32_22, l32_23, l32_24, l32_25, l32_26, l32_27, l32_28, l32_29, l32_30, l32_31, l32_32, l32_33, l32_34, l32_35, l32_36, l32_37, l32_38, l32_39, l32_40, l32_41, l32_42, l32_43, l32_44, l32_45, l32_46, l32_47, l32_48, l32_49, l32_50, l32_51, l32_52, l32_53, l32_54, l32_55, l32_56, l32_57, l32_58, l32_59, l32_60, l32_61, l32_62, l32_63, l32_64, l32_65, l32_66, l32_76, l32_86, l32_90, l32_92, l32_97, l32_98, l32_99, l32_100, l32_101, l32_102, l32_103, l32_104, l32_105, l32_106, l32_107, l32_108, l32_109, l32_110, l32_111, l32_112, l32_113, l32_114, l32_115, l32_116, l32_117, l32_118, l32_119, l32_120, l32_121, l32_122, l32_123, l32_124, l32_125, l32_126, l32_192, l32_200, l32_255, l32_999, l32_1000, l32_1344, l32_2147483639, l32_2147483647, l64_0, l64_1, l64_99, l64_999, l64_24883200000, l64_746496000000, jI_add, jI_sub, jI_mul, jI_neg, jL_add, jL_sub, jL_mul, jL_neg, jL_toI, jI_toL, jI_lt, jI_le, jI_eq, jL_lt, jL_le, jL_eq, inR_j, jI_clamp, nI_j, Option.bind_some, zc, u2, u3, u4, u5, wl, mo, if_pos, if_neg, ite_true, ite_false, s_rIsGear h hG, s_in, bZ_eq0, hr, hr2, s_done, e]
    · refine ⟨.inl 1, ok_e (e := 1) (by decide), trivial, fun w h => ?_, fun w h => ?_⟩
      · refine ⟨jI (-2), w, ?_, CO.err (Sm.refl w) rfl h⟩
        unfold f_X1_putSpring
        by_cases q2 : a < 10
        · simp (disch := omega) only [l32_0, l32_1, l32_2, l32_3, l32_4, l32_5, l32_6, l32_7, l32_8, l32_9, l32_10, l32_11, l32_12, l32_13, l32_14, l32_15, l32_16, l32_17, l32_18, l32_19, l32_20, l32_21, l32_22, l32_23, l32_24, l32_25, l32_26, l32_27, l32_28, l32_29, l32_30, l32_31, l32_32, l32_33, l32_34, l32_35, l32_36, l32_37, l32_38, l32_39, l32_40, l32_41, l32_42, l32_43, l32_44, l32_45, l32_46, l32_47, l32_48, l32_49, l32_50, l32_51, l32_52, l32_53, l32_54, l32_55, l32_56, l32_57, l32_58, l32_59, l32_60, l32_61, l32_62, l32_63, l32_64, l32_65, l32_66, l32_76, l32_86, l32_90, l32_92, l32_97, l32_98, l32_99, l32_100, l32_101, l32_102, l32_103, l32_104, l32_105, l32_106, l32_107, l32_108, l32_109, l32_110, l32_111, l32_112, l32_113, l32_114, l32_115, l32_116, l32_117, l32_118, l32_119, l32_120, l32_121, l32_122, l32_123, l32_124, l32_125, l32_126, l32_192, l32_200, l32_255, l32_999, l32_1000, l32_1344, l32_2147483639, l32_2147483647, l64_0, l64_1, l64_99, l64_999, l64_24883200000, l64_746496000000, jI_add, jI_sub, jI_mul, jI_neg, jL_add, jL_sub, jL_mul, jL_neg, jL_toI, jI_toL, jI_lt, jI_le, jI_eq, jL_lt, jL_le, jL_eq, inR_j, jI_clamp, nI_j, Option.bind_some, zc, u2, u3, u4, u5, wl, mo, if_pos, if_neg, ite_true, ite_false, s_isGear h hG, bZ_eq0]
        · simp (disch := omega) only [l32_0, l32_1, l32_2, l32_3, l32_4, l32_5, l32_6, l32_7, l32_8, l32_9, l32_10, l32_11, l32_12, l32_13, l32_14, l32_15, l32_16, l32_17, l32_18, l32_19, l32_20, l32_21, l32_22, l32_23, l32_24, l32_25, l32_26, l32_27, l32_28, l32_29, l32_30, l32_31, l32_32, l32_33, l32_34, l32_35, l32_36, l32_37, l32_38, l32_39, l32_40, l32_41, l32_42, l32_43, l32_44, l32_45, l32_46, l32_47, l32_48, l32_49, l32_50, l32_51, l32_52, l32_53, l32_54, l32_55, l32_56, l32_57, l32_58, l32_59, l32_60, l32_61, l32_62, l32_63, l32_64, l32_65, l32_66, l32_76, l32_86, l32_90, l32_92, l32_97, l32_98, l32_99, l32_100, l32_101, l32_102, l32_103, l32_104, l32_105, l32_106, l32_107, l32_108, l32_109, l32_110, l32_111, l32_112, l32_113, l32_114, l32_115, l32_116, l32_117, l32_118, l32_119, l32_120, l32_121, l32_122, l32_123, l32_124, l32_125, l32_126, l32_192, l32_200, l32_255, l32_999, l32_1000, l32_1344, l32_2147483639, l32_2147483647, l64_0, l64_1, l64_99, l64_999, l64_24883200000, l64_746496000000, jI_add, jI_sub, jI_mul, jI_neg, jL_add, jL_sub, jL_mul, jL_neg, jL_toI, jI_toL, jI_lt, jI_le, jI_eq, jL_lt, jL_le, jL_eq, inR_j, jI_clamp, nI_j, Option.bind_some, zc, u2, u3, u4, u5, wl, mo, if_pos, if_neg, ite_true, ite_false, s_isGear h hG, bZ_eq0]
      · refine ⟨jI 0, uI w 141 12 (jI 2), ?_, RO.err (Sm.refl w) rfl rfl⟩
        unfold f_X11_sets
        simp (disch := omega) only [l32_0, l32_1, l32_2, l32_3, l32_4, l32_5, l32_6, l32_7, l32_8, l32_9, l32_10, l32_11, l32_12, l32_13, l32_14, l32_15, l32_16, l32_17, l32_18, l32_19, l32_20, l32_21, l32_22, l32_23, l32_24, l32_25, l32_26, l32_27, l32_28, l32_29, l32_30, l32_31, l32_32, l32_33, l32_34, l32_35, l32_36, l32_37, l32_38, l32_39, l32_40, l32_41, l32_42, l32_43, l32_44, l32_45, l32_46, l32_47, l32_48, l32_49, l32_50, l32_51, l32_52, l32_53, l32_54, l32_55, l32_56, l32_57, l32_58, l32_59, l32_60, l32_61, l32_62, l32_63, l32_64, l32_65, l32_66, l32_76, l32_86, l32_90, l32_92, l32_97, l32_98, l32_99, l32_100, l32_101, l32_102, l32_103, l32_104, l32_105, l32_106, l32_107, l32_108, l32_109, l32_110, l32_111, l32_112, l32_113, l32_114, l32_115, l32_116, l32_117, l32_118, l32_119, l32_120, l32_121, l32_122, l32_123, l32_124, l32_125, l32_126, l32_192, l32_200, l32_255, l32_999, l32_1000, l32_1344, l32_2147483639, l32_2147483647, l64_0, l64_1, l64_99, l64_999, l64_24883200000, l64_746496000000, jI_add, jI_sub, jI_mul, jI_neg, jL_add, jL_sub, jL_mul, jL_neg, jL_toI, jI_toL, jI_lt, jI_le, jI_eq, jL_lt, jL_le, jL_eq, inR_j, jI_clamp, nI_j, Option.bind_some, zc, u2, u3, u4, u5, wl, mo, if_pos, if_neg, ite_true, ite_false, s_rIsGear h hG, s_in, bZ_eq0, s_fails]
  · refine ⟨.inl 0, ok_e (e := 0) (by decide), trivial, fun w h => ?_, fun w h => ?_⟩
    · refine ⟨jI (-1), w, ?_, CO.err (Sm.refl w) rfl h⟩
      unfold f_X1_putSpring
      simp (disch := omega) only [l32_0, l32_1, l32_2, l32_3, l32_4, l32_5, l32_6, l32_7, l32_8, l32_9, l32_10, l32_11, l32_12, l32_13, l32_14, l32_15, l32_16, l32_17, l32_18, l32_19, l32_20, l32_21, l32_22, l32_23, l32_24, l32_25, l32_26, l32_27, l32_28, l32_29, l32_30, l32_31, l32_32, l32_33, l32_34, l32_35, l32_36, l32_37, l32_38, l32_39, l32_40, l32_41, l32_42, l32_43, l32_44, l32_45, l32_46, l32_47, l32_48, l32_49, l32_50, l32_51, l32_52, l32_53, l32_54, l32_55, l32_56, l32_57, l32_58, l32_59, l32_60, l32_61, l32_62, l32_63, l32_64, l32_65, l32_66, l32_76, l32_86, l32_90, l32_92, l32_97, l32_98, l32_99, l32_100, l32_101, l32_102, l32_103, l32_104, l32_105, l32_106, l32_107, l32_108, l32_109, l32_110, l32_111, l32_112, l32_113, l32_114, l32_115, l32_116, l32_117, l32_118, l32_119, l32_120, l32_121, l32_122, l32_123, l32_124, l32_125, l32_126, l32_192, l32_200, l32_255, l32_999, l32_1000, l32_1344, l32_2147483639, l32_2147483647, l64_0, l64_1, l64_99, l64_999, l64_24883200000, l64_746496000000, jI_add, jI_sub, jI_mul, jI_neg, jL_add, jL_sub, jL_mul, jL_neg, jL_toI, jI_toL, jI_lt, jI_le, jI_eq, jL_lt, jL_le, jL_eq, inR_j, jI_clamp, nI_j, Option.bind_some, zc, u2, u3, u4, u5, wl, mo, if_pos, if_neg, ite_true, ite_false, s_isGear h hG, bZ_eq0]
    · refine ⟨jI 0, uI w 141 12 (jI 1), ?_, RO.err (Sm.refl w) rfl rfl⟩
      unfold f_X11_sets
      simp (disch := omega) only [l32_0, l32_1, l32_2, l32_3, l32_4, l32_5, l32_6, l32_7, l32_8, l32_9, l32_10, l32_11, l32_12, l32_13, l32_14, l32_15, l32_16, l32_17, l32_18, l32_19, l32_20, l32_21, l32_22, l32_23, l32_24, l32_25, l32_26, l32_27, l32_28, l32_29, l32_30, l32_31, l32_32, l32_33, l32_34, l32_35, l32_36, l32_37, l32_38, l32_39, l32_40, l32_41, l32_42, l32_43, l32_44, l32_45, l32_46, l32_47, l32_48, l32_49, l32_50, l32_51, l32_52, l32_53, l32_54, l32_55, l32_56, l32_57, l32_58, l32_59, l32_60, l32_61, l32_62, l32_63, l32_64, l32_65, l32_66, l32_76, l32_86, l32_90, l32_92, l32_97, l32_98, l32_99, l32_100, l32_101, l32_102, l32_103, l32_104, l32_105, l32_106, l32_107, l32_108, l32_109, l32_110, l32_111, l32_112, l32_113, l32_114, l32_115, l32_116, l32_117, l32_118, l32_119, l32_120, l32_121, l32_122, l32_123, l32_124, l32_125, l32_126, l32_192, l32_200, l32_255, l32_999, l32_1000, l32_1344, l32_2147483639, l32_2147483647, l64_0, l64_1, l64_99, l64_999, l64_24883200000, l64_746496000000, jI_add, jI_sub, jI_mul, jI_neg, jL_add, jL_sub, jL_mul, jL_neg, jL_toI, jI_toL, jI_lt, jI_le, jI_eq, jL_lt, jL_le, jL_eq, inR_j, jI_clamp, nI_j, Option.bind_some, zc, u2, u3, u4, u5, wl, mo, if_pos, if_neg, ite_true, ite_false, s_rIsGear h hG, bZ_eq0, s_fails]

theorem opm_oil {S : Ab} (hG : Good S) {x : Int} (x1 : -2147483648 ≤ x) (x2 : x < 2147483648) : OpM S [0, 2, 3] (fun e => if e = 0 then 1 else if e = 2 then 2 else 3) (fun w => f_X1_putOil w (jI x)) (fun w => f_X11_oils w (jI x)) := by
  have hg := hG.1
  by_cases q : 0 ≤ x ∧ x < S 0
  · have k := hG.2.1 x q.1 (by omega)
    have k4 := k.2.2.2.1
    by_cases q1 : S (66 + x) = 1
    · refine ⟨.inl 2, ok_e (e := 2) (by decide), trivial, fun w h => ?_, fun w h => ?_⟩
      · refine ⟨jI (-3), w, ?_, CO.err (Sm.refl w) rfl h⟩
        unfold f_X1_putOil
        simp (disch := omega) only [l32_0, l32_1, l32_2, l32_3, l32_4, l32_5, l32_6, l32_7, l32_8, l32_9, l32_10, l32_11, l32_12, l32_13, l32_14, l32_15, l32_16, l32_17, l32_18, l32_19, l32_20, l32_21, l32_22, l32_23, l32_24, l32_25, l32_26, l32_27, l32_28, l32_29, l32_30, l32_31, l32_32, l32_33, l32_34, l32_35, l32_36, l32_37, l32_38, l32_39, l32_40, l32_41, l32_42, l32_43, l32_44, l32_45, l32_46, l32_47, l32_48, l32_49, l32_50, l32_51, l32_52, l32_53, l32_54, l32_55, l32_56, l32_57, l32_58, l32_59, l32_60, l32_61, l32_62, l32_63, l32_64, l32_65, l32_66, l32_76, l32_86, l32_90, l32_92, l32_97, l32_98, l32_99, l32_100, l32_101, l32_102, l32_103, l32_104, l32_105, l32_106, l32_107, l32_108, l32_109, l32_110, l32_111, l32_112, l32_113, l32_114, l32_115, l32_116, l32_117, l32_118, l32_119, l32_120, l32_121, l32_122, l32_123, l32_124, l32_125, l32_126, l32_192, l32_200, l32_255, l32_999, l32_1000, l32_1344, l32_2147483639, l32_2147483647, l64_0, l64_1, l64_99, l64_999, l64_24883200000, l64_746496000000, jI_add, jI_sub, jI_mul, jI_neg, jL_add, jL_sub, jL_mul, jL_neg, jL_toI, jI_toL, jI_eqT, jI_eqF, jI_ltT, jI_ltF, jI_leT, jI_leF, jL_eqT, jL_eqF, jL_ltT, jL_ltF, jL_leT, jL_leF, inR_T, inR_F, bZ_T, bZ_F, not_true_eq_false, not_false_eq_true, jI_clamp, nI_j, bs_p, wl_p, u2_p, u3_p, u4_p, u5_p, zl_p, zr_p, mn_p, ms_p, if_pos, if_neg, ite_true, ite_false, s_isGear h hG, c_o h]
      · refine ⟨jI 0, uI w 141 12 (jI 2), ?_, RO.err (Sm.refl w) rfl rfl⟩
        unfold f_X11_oils
        simp (disch := omega) only [l32_0, l32_1, l32_2, l32_3, l32_4, l32_5, l32_6, l32_7, l32_8, l32_9, l32_10, l32_11, l32_12, l32_13, l32_14, l32_15, l32_16, l32_17, l32_18, l32_19, l32_20, l32_21, l32_22, l32_23, l32_24, l32_25, l32_26, l32_27, l32_28, l32_29, l32_30, l32_31, l32_32, l32_33, l32_34, l32_35, l32_36, l32_37, l32_38, l32_39, l32_40, l32_41, l32_42, l32_43, l32_44, l32_45, l32_46, l32_47, l32_48, l32_49, l32_50, l32_51, l32_52, l32_53, l32_54, l32_55, l32_56, l32_57, l32_58, l32_59, l32_60, l32_61, l32_62, l32_63, l32_64, l32_65, l32_66, l32_76, l32_86, l32_90, l32_92, l32_97, l32_98, l32_99, l32_100, l32_101, l32_102, l32_103, l32_104, l32_105, l32_106, l32_107, l32_108, l32_109, l32_110, l32_111, l32_112, l32_113, l32_114, l32_115, l32_116, l32_117, l32_118, l32_119, l32_120, l32_121, l32_122, l32_123, l32_124, l32_125, l32_126, l32_192, l32_200, l32_255, l32_999, l32_1000, l32_1344, l32_2147483639, l32_2147483647, l64_0, l64_1, l64_99, l64_999, l64_24883200000, l64_746496000000, jI_add, jI_sub, jI_mul, jI_neg, jL_add, jL_sub, jL_mul, jL_neg, jL_toI, jI_toL, jI_eqT, jI_eqF, jI_ltT, jI_ltF, jI_leT, jI_leF, jL_eqT, jL_eqF, jL_ltT, jL_ltF, jL_leT, jL_leF, inR_T, inR_F, bZ_T, bZ_F, not_true_eq_false, not_false_eq_true, jI_clamp, nI_j, bs_p, wl_p, u2_p, u3_p, u4_p, u5_p, zl_p, zr_p, mn_p, ms_p, if_pos, if_neg, ite_true, ite_false, s_rIsGear h hG, r_g h, s_fails]
    · by_cases q2 : S 2 = 0
      · refine ⟨.inl 3, ok_e (e := 3) (by decide), trivial, fun w h => ?_, fun w h => ?_⟩
        · refine ⟨jI (-4), w, ?_, CO.err (Sm.refl w) rfl h⟩
          unfold f_X1_putOil
          simp (disch := omega) only [l32_0, l32_1, l32_2, l32_3, l32_4, l32_5, l32_6, l32_7, l32_8, l32_9, l32_10, l32_11, l32_12, l32_13, l32_14, l32_15, l32_16, l32_17, l32_18, l32_19, l32_20, l32_21, l32_22, l32_23, l32_24, l32_25, l32_26, l32_27, l32_28, l32_29, l32_30, l32_31, l32_32, l32_33, l32_34, l32_35, l32_36, l32_37, l32_38, l32_39, l32_40, l32_41, l32_42, l32_43, l32_44, l32_45, l32_46, l32_47, l32_48, l32_49, l32_50, l32_51, l32_52, l32_53, l32_54, l32_55, l32_56, l32_57, l32_58, l32_59, l32_60, l32_61, l32_62, l32_63, l32_64, l32_65, l32_66, l32_76, l32_86, l32_90, l32_92, l32_97, l32_98, l32_99, l32_100, l32_101, l32_102, l32_103, l32_104, l32_105, l32_106, l32_107, l32_108, l32_109, l32_110, l32_111, l32_112, l32_113, l32_114, l32_115, l32_116, l32_117, l32_118, l32_119, l32_120, l32_121, l32_122, l32_123, l32_124, l32_125, l32_126, l32_192, l32_200, l32_255, l32_999, l32_1000, l32_1344, l32_2147483639, l32_2147483647, l64_0, l64_1, l64_99, l64_999, l64_24883200000, l64_746496000000, jI_add, jI_sub, jI_mul, jI_neg, jL_add, jL_sub, jL_mul, jL_neg, jL_toI, jI_toL, jI_eqT, jI_eqF, jI_ltT, jI_ltF, jI_leT, jI_leF, jL_eqT, jL_eqF, jL_ltT, jL_ltF, jL_leT, jL_leF, inR_T, inR_F, bZ_T, bZ_F, not_true_eq_false, not_false_eq_true, jI_clamp, nI_j, bs_p, wl_p, u2_p, u3_p, u4_p, u5_p, zl_p, zr_p, mn_p, ms_p, if_pos, if_neg, ite_true, ite_false, s_isGear h hG, c_o h, c_d h]
        · refine ⟨jI 0, uI w 141 12 (jI 3), ?_, RO.err (Sm.refl w) rfl rfl⟩
          unfold f_X11_oils
          simp (disch := omega) only [l32_0, l32_1, l32_2, l32_3, l32_4, l32_5, l32_6, l32_7, l32_8, l32_9, l32_10, l32_11, l32_12, l32_13, l32_14, l32_15, l32_16, l32_17, l32_18, l32_19, l32_20, l32_21, l32_22, l32_23, l32_24, l32_25, l32_26, l32_27, l32_28, l32_29, l32_30, l32_31, l32_32, l32_33, l32_34, l32_35, l32_36, l32_37, l32_38, l32_39, l32_40, l32_41, l32_42, l32_43, l32_44, l32_45, l32_46, l32_47, l32_48, l32_49, l32_50, l32_51, l32_52, l32_53, l32_54, l32_55, l32_56, l32_57, l32_58, l32_59, l32_60, l32_61, l32_62, l32_63, l32_64, l32_65, l32_66, l32_76, l32_86, l32_90, l32_92, l32_97, l32_98, l32_99, l32_100, l32_101, l32_102, l32_103, l32_104, l32_105, l32_106, l32_107, l32_108, l32_109, l32_110, l32_111, l32_112, l32_113, l32_114, l32_115, l32_116, l32_117, l32_118, l32_119, l32_120, l32_121, l32_122, l32_123, l32_124, l32_125, l32_126, l32_192, l32_200, l32_255, l32_999, l32_1000, l32_1344, l32_2147483639, l32_2147483647, l64_0, l64_1, l64_99, l64_999, l64_24883200000, l64_746496000000, jI_add, jI_sub, jI_mul, jI_neg, jL_add, jL_sub, jL_mul, jL_neg, jL_toI, jI_toL, jI_eqT, jI_eqF, jI_ltT, jI_ltF, jI_leT, jI_leF, jL_eqT, jL_eqF, jL_ltT, jL_ltF, jL_leT, jL_leF, inR_T, inR_F, bZ_T, bZ_F, not_true_eq_false, not_false_eq_true, jI_clamp, nI_j, bs_p, wl_p, u2_p, u3_p, u4_p, u5_p, zl_p, zr_p, mn_p, ms_p, if_pos, if_neg, ite_true, ite_false, s_rIsGear h hG, r_g h, s_fails]
      · have hG' : Good (up (up (up S (76 + x) 0) (66 + x) 1) 2 (S 2 - 1)) := hG.oil q q2
        refine ⟨.inr (S 2 - 1, up (up (up S (76 + x) 0) (66 + x) 1) 2 (S 2 - 1)), ⟨by omega, by omega, hG'⟩, (by show S 0 ≤ _; simp only [up]; repeat' split <;> omega), fun w h => ?_, fun w h => ?_⟩
        · refine ⟨jI (S 2 - 1), uI (uL (uI w 4 x.toNat (jI 1)) 5 x.toNat (jL 0)) 1 13 (jI (S 2 - 1)), ?_, CO.val (((Sm.wI w (by unfold KC; omega)).tr (Sm.wL _ (by unfold KC; omega))).tr (Sm.wI _ (by unfold KC; omega))) rfl ?_⟩
          · unfold f_X1_putOil
            simp (disch := omega) only [l32_0, l32_1, l32_2, l32_3, l32_4, l32_5, l32_6, l32_7, l32_8, l32_9, l32_10, l32_11, l32_12, l32_13, l32_14, l32_15, l32_16, l32_17, l32_18, l32_19, l32_20, l32_21, l32_22, l32_23, l32_24, l32_25, l32_26, l32_27, l32_28, l32_29, l32_30, l32_31, l32_32, l32_33, l32_34, l32_35, l32_36, l32_37, l32_38, l32_39, l32_40, l32_41, l32_42, l32_43, l32_44, l32_45, l32_46, l32_47, l32_48, l32_49, l32_50, l32_51, l32_52, l32_53, l32_54, l32_55, l32_56, l32_57, l32_58, l32_59, l32_60, l32_61, l32_62, l32_63, l32_64, l32_65, l32_66, l32_76, l32_86, l32_90, l32_92, l32_97, l32_98, l32_99, l32_100, l32_101, l32_102, l32_103, l32_104, l32_105, l32_106, l32_107, l32_108, l32_109, l32_110, l32_111, l32_112, l32_113, l32_114, l32_115, l32_116, l32_117, l32_118, l32_119, l32_120, l32_121, l32_122, l32_123, l32_124, l32_125, l32_126, l32_192, l32_200, l32_255, l32_999, l32_1000, l32_1344, l32_2147483639, l32_2147483647, l64_0, l64_1, l64_99, l64_999, l64_24883200000, l64_746496000000, jI_add, jI_sub, jI_mul, jI_neg, jL_add, jL_sub, jL_mul, jL_neg, jL_toI, jI_toL, jI_eqT, jI_eqF, jI_ltT, jI_ltF, jI_leT, jI_leF, jL_eqT, jL_eqF, jL_ltT, jL_ltF, jL_leT, jL_leF, inR_T, inR_F, bZ_T, bZ_F, not_true_eq_false, not_false_eq_true, jI_clamp, nI_j, bs_p, wl_p, u2_p, u3_p, u4_p, u5_p, zl_p, zr_p, mn_p, ms_p, if_pos, if_neg, ite_true, ite_false, s_isGear h hG, c_o h, c_d h, nar_b1, gI_uI, gI_uL, and_self]
          · exact (h.oil q.1 (by omega)).put_d
        · have h1 := h.oil q.1 (show x < 10 by omega)
          have h2 : RSt (uL (uL (uL w 142 (66 + x).toNat (jL 1)) 142 (76 + x).toNat (jL 0)) 142 (2 : Int).toNat (jL (S 2 - 1))) 142 0 (up (up (up S (76 + x) 0) (66 + x) 1) 2 (S 2 - 1)) := h1.put (by omega) (by omega)
          have e := s_at h2 (z := 2) (by omega) (by omega)
          rw [up_eq] at e
          refine ⟨jI (S 2 - 1), uI (uL (uL (uL w 142 (66 + x).toNat (jL 1)) 142 (76 + x).toNat (jL 0)) 142 (2 : Int).toNat (jL (S 2 - 1))) 141 12 (jI 0), ?_, RO.val (((Sm.wL w (by unfold KM; omega)).tr (Sm.wL _ (by unfold KM; omega))).tr (Sm.wL _ (by unfold KM; omega))) rfl h2⟩
          unfold f_X11_oils
          simp (disch := omega) only [l32_0, l32_1, l32_2, l32_3, l32_4, l32_5, l32_6, l32_7, l32_8, l32_9, l32_10, l32_11, l32_12, l32_13, l32_14, l32_15, l32_16, l32_17, l32_18, l32_19, l32_20, l32_21, l32_22, l32_23, l32_24, l32_25, l32_26, l32_27, l32_28, l32_29, l32_30, l32_31, l32_32, l32_33, l32_34, l32_35, l32_36, l32_37, l32_38, l32_39, l32_40, l32_41, l32_42, l32_43, l32_44, l32_45, l32_46, l32_47, l32_48, l32_49, l32_50, l32_51, l32_52, l32_53, l32_54, l32_55, l32_56, l32_57, l32_58, l32_59, l32_60, l32_61, l32_62, l32_63, l32_64, l32_65, l32_66, l32_76, l32_86, l32_90, l32_92, l32_97, l32_98, l32_99, l32_100, l32_101, l32_102, l32_103, l32_104, l32_105, l32_106, l32_107, l32_108, l32_109, l32_110, l32_111, l32_112, l32_113, l32_114, l32_115, l32_116, l32_117, l32_118, l32_119, l32_120, l32_121, l32_122, l32_123, l32_124, l32_125, l32_126, l32_192, l32_200, l32_255, l32_999, l32_1000, l32_1344, l32_2147483639, l32_2147483647, l64_0, l64_1, l64_99, l64_999, l64_24883200000, l64_746496000000, jI_add, jI_sub, jI_mul, jI_neg, jL_add, jL_sub, jL_mul, jL_neg, jL_toI, jI_toL, jI_eqT, jI_eqF, jI_ltT, jI_ltF, jI_leT, jI_leF, jL_eqT, jL_eqF, jL_ltT, jL_ltF, jL_leT, jL_leF, inR_T, inR_F, bZ_T, bZ_F, not_true_eq_false, not_false_eq_true, jI_clamp, nI_j, bs_p, wl_p, u2_p, u3_p, u4_p, u5_p, zl_p, zr_p, mn_p, ms_p, if_pos, if_neg, ite_true, ite_false, s_rIsGear h hG, r_g h, gL_uL, s_done, e]
  · refine ⟨.inl 0, ok_e (e := 0) (by decide), trivial, fun w h => ?_, fun w h => ?_⟩
    · refine ⟨jI (-1), w, ?_, CO.err (Sm.refl w) rfl h⟩
      unfold f_X1_putOil
      simp (disch := omega) only [l32_0, l32_1, l32_2, l32_3, l32_4, l32_5, l32_6, l32_7, l32_8, l32_9, l32_10, l32_11, l32_12, l32_13, l32_14, l32_15, l32_16, l32_17, l32_18, l32_19, l32_20, l32_21, l32_22, l32_23, l32_24, l32_25, l32_26, l32_27, l32_28, l32_29, l32_30, l32_31, l32_32, l32_33, l32_34, l32_35, l32_36, l32_37, l32_38, l32_39, l32_40, l32_41, l32_42, l32_43, l32_44, l32_45, l32_46, l32_47, l32_48, l32_49, l32_50, l32_51, l32_52, l32_53, l32_54, l32_55, l32_56, l32_57, l32_58, l32_59, l32_60, l32_61, l32_62, l32_63, l32_64, l32_65, l32_66, l32_76, l32_86, l32_90, l32_92, l32_97, l32_98, l32_99, l32_100, l32_101, l32_102, l32_103, l32_104, l32_105, l32_106, l32_107, l32_108, l32_109, l32_110, l32_111, l32_112, l32_113, l32_114, l32_115, l32_116, l32_117, l32_118, l32_119, l32_120, l32_121, l32_122, l32_123, l32_124, l32_125, l32_126, l32_192, l32_200, l32_255, l32_999, l32_1000, l32_1344, l32_2147483639, l32_2147483647, l64_0, l64_1, l64_99, l64_999, l64_24883200000, l64_746496000000, jI_add, jI_sub, jI_mul, jI_neg, jL_add, jL_sub, jL_mul, jL_neg, jL_toI, jI_toL, jI_eqT, jI_eqF, jI_ltT, jI_ltF, jI_leT, jI_leF, jL_eqT, jL_eqF, jL_ltT, jL_ltF, jL_leT, jL_leF, inR_T, inR_F, bZ_T, bZ_F, not_true_eq_false, not_false_eq_true, jI_clamp, nI_j, bs_p, wl_p, u2_p, u3_p, u4_p, u5_p, zl_p, zr_p, mn_p, ms_p, if_pos, if_neg, ite_true, ite_false, s_isGear h hG]
    · refine ⟨jI 0, uI w 141 12 (jI 1), ?_, RO.err (Sm.refl w) rfl rfl⟩
      unfold f_X11_oils
      simp (disch := omega) only [l32_0, l32_1, l32_2, l32_3, l32_4, l32_5, l32_6, l32_7, l32_8, l32_9, l32_10, l32_11, l32_12, l32_13, l32_14, l32_15, l32_16, l32_17, l32_18, l32_19, l32_20, l32_21, l32_22, l32_23, l32_24, l32_25, l32_26, l32_27, l32_28, l32_29, l32_30, l32_31, l32_32, l32_33, l32_34, l32_35, l32_36, l32_37, l32_38, l32_39, l32_40, l32_41, l32_42, l32_43, l32_44, l32_45, l32_46, l32_47, l32_48, l32_49, l32_50, l32_51, l32_52, l32_53, l32_54, l32_55, l32_56, l32_57, l32_58, l32_59, l32_60, l32_61, l32_62, l32_63, l32_64, l32_65, l32_66, l32_76, l32_86, l32_90, l32_92, l32_97, l32_98, l32_99, l32_100, l32_101, l32_102, l32_103, l32_104, l32_105, l32_106, l32_107, l32_108, l32_109, l32_110, l32_111, l32_112, l32_113, l32_114, l32_115, l32_116, l32_117, l32_118, l32_119, l32_120, l32_121, l32_122, l32_123, l32_124, l32_125, l32_126, l32_192, l32_200, l32_255, l32_999, l32_1000, l32_1344, l32_2147483639, l32_2147483647, l64_0, l64_1, l64_99, l64_999, l64_24883200000, l64_746496000000, jI_add, jI_sub, jI_mul, jI_neg, jL_add, jL_sub, jL_mul, jL_neg, jL_toI, jI_toL, jI_eqT, jI_eqF, jI_ltT, jI_ltF, jI_leT, jI_leF, jL_eqT, jL_eqF, jL_ltT, jL_ltF, jL_leT, jL_leF, inR_T, inR_F, bZ_T, bZ_F, not_true_eq_false, not_false_eq_true, jI_clamp, nI_j, bs_p, wl_p, u2_p, u3_p, u4_p, u5_p, zl_p, zr_p, mn_p, ms_p, if_pos, if_neg, ite_true, ite_false, s_rIsGear h hG, s_fails]

theorem opm_planet {S : Ab} (hG : Good S) {x : Int} (x1 : -2147483648 ≤ x) (x2 : x < 2147483648) : OpM S [0, 2] (fun e => if e = 0 then 1 else 2) (fun w => f_X1_putPlanet w (jI x)) (fun w => f_X11_addsPlanet w (jI x)) := by
  have hg := hG.1
  by_cases q : 0 ≤ x ∧ x < S 0
  · by_cases q1 : S 1 = 6
    · refine ⟨.inl 2, ok_e (e := 2) (by decide), trivial, fun w h => ?_, fun w h => ?_⟩
      · refine ⟨jI (-3), w, ?_, CO.err (Sm.refl w) rfl h⟩
        unfold f_X1_putPlanet
        simp (disch := omega) only [l32_0, l32_1, l32_2, l32_3, l32_4, l32_5, l32_6, l32_7, l32_8, l32_9, l32_10, l32_11, l32_12, l32_13, l32_14, l32_15, l32_16, l32_17, l32_18, l32_19, l32_20, l32_21, l32_22, l32_23, l32_24, l32_25, l32_26, l32_27, l32_28, l32_29, l32_30, l32_31, l32_32, l32_33, l32_34, l32_35, l32_36, l32_37, l32_38, l32_39, l32_40, l32_41, l32_42, l32_43, l32_44, l32_45, l32_46, l32_47, l32_48, l32_49, l32_50, l32_51, l32_52, l32_53, l32_54, l32_55, l32_56, l32_57, l32_58, l32_59, l32_60, l32_61, l32_62, l32_63, l32_64, l32_65, l32_66, l32_76, l32_86, l32_90, l32_92, l32_97, l32_98, l32_99, l32_100, l32_101, l32_102, l32_103, l32_104, l32_105, l32_106, l32_107, l32_108, l32_109, l32_110, l32_111, l32_112, l32_113, l32_114, l32_115, l32_116, l32_117, l32_118, l32_119, l32_120, l32_121, l32_122, l32_123, l32_124, l32_125, l32_126, l32_192, l32_200, l32_255, l32_999, l32_1000, l32_1344, l32_2147483639, l32_2147483647, l64_0, l64_1, l64_99, l64_999, l64_24883200000, l64_746496000000, jI_add, jI_sub, jI_mul, jI_neg, jL_add, jL_sub, jL_mul, jL_neg, jL_toI, jI_toL, jI_eqT, jI_eqF, jI_ltT, jI_ltF, jI_leT, jI_leF, jL_eqT, jL_eqF, jL_ltT, jL_ltF, jL_leT, jL_leF, inR_T, inR_F, bZ_T, bZ_F, not_true_eq_false, not_false_eq_true, jI_clamp, nI_j, bs_p, wl_p, u2_p, u3_p, u4_p, u5_p, zl_p, zr_p, mn_p, ms_p, if_pos, if_neg, ite_true, ite_false, s_isGear h hG, c_p h]
      · refine ⟨jI 0, uI w 141 12 (jI 2), ?_, RO.err (Sm.refl w) rfl rfl⟩
        unfold f_X11_addsPlanet
        simp (disch := omega) only [l32_0, l32_1, l32_2, l32_3, l32_4, l32_5, l32_6, l32_7, l32_8, l32_9, l32_10, l32_11, l32_12, l32_13, l32_14, l32_15, l32_16, l32_17, l32_18, l32_19, l32_20, l32_21, l32_22, l32_23, l32_24, l32_25, l32_26, l32_27, l32_28, l32_29, l32_30, l32_31, l32_32, l32_33, l32_34, l32_35, l32_36, l32_37, l32_38, l32_39, l32_40, l32_41, l32_42, l32_43, l32_44, l32_45, l32_46, l32_47, l32_48, l32_49, l32_50, l32_51, l32_52, l32_53, l32_54, l32_55, l32_56, l32_57, l32_58, l32_59, l32_60, l32_61, l32_62, l32_63, l32_64, l32_65, l32_66, l32_76, l32_86, l32_90, l32_92, l32_97, l32_98, l32_99, l32_100, l32_101, l32_102, l32_103, l32_104, l32_105, l32_106, l32_107, l32_108, l32_109, l32_110, l32_111, l32_112, l32_113, l32_114, l32_115, l32_116, l32_117, l32_118, l32_119, l32_120, l32_121, l32_122, l32_123, l32_124, l32_125, l32_126, l32_192, l32_200, l32_255, l32_999, l32_1000, l32_1344, l32_2147483639, l32_2147483647, l64_0, l64_1, l64_99, l64_999, l64_24883200000, l64_746496000000, jI_add, jI_sub, jI_mul, jI_neg, jL_add, jL_sub, jL_mul, jL_neg, jL_toI, jI_toL, jI_eqT, jI_eqF, jI_ltT, jI_ltF, jI_leT, jI_leF, jL_eqT, jL_eqF, jL_ltT, jL_ltF, jL_leT, jL_leF, inR_T, inR_F, bZ_T, bZ_F, not_true_eq_false, not_false_eq_true, jI_clamp, nI_j, bs_p, wl_p, u2_p, u3_p, u4_p, u5_p, zl_p, zr_p, mn_p, ms_p, if_pos, if_neg, ite_true, ite_false, s_rIsGear h hG, s_at h, s_fails]
    · by_cases q2 : ∃ p, 0 ≤ p ∧ p < S 1 ∧ S (86 + p) = x
      · refine ⟨.inl 2, ok_e (e := 2) (by decide), trivial, fun w h => ?_, fun w h => ?_⟩
        · obtain ⟨r, hr, ⟨rfl, hx⟩ | ⟨rfl, hx⟩⟩ := s_carriesPlanet h hG q.1 (show x < 10 by omega)
          · exact absurd q2 hx
          · refine ⟨jI (-3), w, ?_, CO.err (Sm.refl w) rfl h⟩
            unfold f_X1_putPlanet
            simp (disch := omega) only [l32_0, l32_1, l32_2, l32_3, l32_4, l32_5, l32_6, l32_7, l32_8, l32_9, l32_10, l32_11, l32_12, l32_13, l32_14, l32_15, l32_16, l32_17, l32_18, l32_19, l32_20, l32_21, l32_22, l32_23, l32_24, l32_25, l32_26, l32_27, l32_28, l32_29, l32_30, l32_31, l32_32, l32_33, l32_34, l32_35, l32_36, l32_37, l32_38, l32_39, l32_40, l32_41, l32_42, l32_43, l32_44, l32_45, l32_46, l32_47, l32_48, l32_49, l32_50, l32_51, l32_52, l32_53, l32_54, l32_55, l32_56, l32_57, l32_58, l32_59, l32_60, l32_61, l32_62, l32_63, l32_64, l32_65, l32_66, l32_76, l32_86, l32_90, l32_92, l32_97, l32_98, l32_99, l32_100, l32_101, l32_102, l32_103, l32_104, l32_105, l32_106, l32_107, l32_108, l32_109, l32_110, l32_111, l32_112, l32_113, l32_114, l32_115, l32_116, l32_117, l32_118, l32_119, l32_120, l32_121, l32_122, l32_123, l32_124, l32_125, l32_126, l32_192, l32_200, l32_255, l32_999, l32_1000, l32_1344, l32_2147483639, l32_2147483647, l64_0, l64_1, l64_99, l64_999, l64_24883200000, l64_746496000000, jI_add, jI_sub, jI_mul, jI_neg, jL_add, jL_sub, jL_mul, jL_neg, jL_toI, jI_toL, jI_eqT, jI_eqF, jI_ltT, jI_ltF, jI_leT, jI_leF, jL_eqT, jL_eqF, jL_ltT, jL_ltF, jL_leT, jL_leF, inR_T, inR_F, bZ_T, bZ_F, not_true_eq_false, not_false_eq_true, jI_clamp, nI_j, bs_p, wl_p, u2_p, u3_p, u4_p, u5_p, zl_p, zr_p, mn_p, ms_p, if_pos, if_neg, ite_true, ite_false, s_isGear h hG, c_p h, hr]
        · obtain ⟨r, hr, hF⟩ := s_rPlanetOn h hG q.1 (show x < 10 by omega)
          have hb := hF.b
          have hne : r ≠ -1 := by
            rcases hF with hF | hF
            · omega
            · obtain ⟨i, i0, i1, i2⟩ := q2; exact absurd i2 (hF.2 i i0 i1)
          refine ⟨jI 0, uI w 141 12 (jI 2), ?_, RO.err (Sm.refl w) rfl rfl⟩
          unfold f_X11_addsPlanet
          simp (disch := omega) only [l32_0, l32_1, l32_2, l32_3, l32_4, l32_5, l32_6, l32_7, l32_8, l32_9, l32_10, l32_11, l32_12, l32_13, l32_14, l32_15, l32_16, l32_17, l32_18, l32_19, l32_20, l32_21, l32_22, l32_23, l32_24, l32_25, l32_26, l32_27, l32_28, l32_29, l32_30, l32_31, l32_32, l32_33, l32_34, l32_35, l32_36, l32_37, l32_38, l32_39, l32_40, l32_41, l32_42, l32_43, l32_44, l32_45, l32_46, l32_47, l32_48, l32_49, l32_50, l32_51, l32_52, l32_53, l32_54, l32_55, l32_56, l32_57, l32_58, l32_59, l32_60, l32_61, l32_62, l32_63, l32_64, l32_65, l32_66, l32_76, l32_86, l32_90, l32_92, l32_97, l32_98, l32_99, l32_100, l32_101, l32_102, l32_103, l32_104, l32_105, l32_106, l32_107, l32_108, l32_109, l32_110, l32_111, l32_112, l32_113, l32_114, l32_115, l32_116, l32_117, l32_118, l32_119, l32_120, l32_121, l32_122, l32_123, l32_124, l32_125, l32_126, l32_192, l32_200, l32_255, l32_999, l32_1000, l32_1344, l32_2147483639, l32_2147483647, l64_0, l64_1, l64_99, l64_999, l64_24883200000, l64_746496000000, jI_add, jI_sub, jI_mul, jI_neg, jL_add, jL_sub, jL_mul, jL_neg, jL_toI, jI_toL, jI_eqT, jI_eqF, jI_ltT, jI_ltF, jI_leT, jI_leF, jL_eqT, jL_eqF, jL_ltT, jL_ltF, jL_leT, jL_leF, inR_T, inR_F, bZ_T, bZ_F, not_true_eq_false, not_false_eq_true, jI_clamp, nI_j, bs_p, wl_p, u2_p, u3_p, u4_p, u5_p, zl_p, zr_p, mn_p, ms_p, if_pos, if_neg, ite_true, ite_false, s_rIsGear h hG, s_at h, hr, s_fails]
      · refine ⟨.inr (S 1, up (up S (86 + S 1) x) 1 (S 1 + 1)), ⟨by omega, by omega, hG.plan q.1 q.2 (by omega)⟩, (by show S 0 ≤ _; simp only [up]; repeat' split <;> omega), fun w h => ?_, fun w h => ?_⟩
        · obtain ⟨r, hr, ⟨rfl, hx⟩ | ⟨rfl, hx⟩⟩ := s_carriesPlanet h hG q.1 (show x < 10 by omega)
          · refine ⟨jI (S 1), uI (uI w 11 (S 1).toNat (jI x)) 1 12 (jI (S 1 + 1)), ?_, CO.val ((Sm.wI w (by unfold KC; omega)).tr (Sm.wI _ (by unfold KC; omega))) rfl (h.put_c (by omega) (by omega)).put_p⟩
            unfold f_X1_putPlanet
            simp (disch := omega) only [l32_0, l32_1, l32_2, l32_3, l32_4, l32_5, l32_6, l32_7, l32_8, l32_9, l32_10, l32_11, l32_12, l32_13, l32_14, l32_15, l32_16, l32_17, l32_18, l32_19, l32_20, l32_21, l32_22, l32_23, l32_24, l32_25, l32_26, l32_27, l32_28, l32_29, l32_30, l32_31, l32_32, l32_33, l32_34, l32_35, l32_36, l32_37, l32_38, l32_39, l32_40, l32_41, l32_42, l32_43, l32_44, l32_45, l32_46, l32_47, l32_48, l32_49, l32_50, l32_51, l32_52, l32_53, l32_54, l32_55, l32_56, l32_57, l32_58, l32_59, l32_60, l32_61, l32_62, l32_63, l32_64, l32_65, l32_66, l32_76, l32_86, l32_90, l32_92, l32_97, l32_98, l32_99, l32_100, l32_101, l32_102, l32_103, l32_104, l32_105, l32_106, l32_107, l32_108, l32_109, l32_110, l32_111, l32_112, l32_113, l32_114, l32_115, l32_116, l32_117, l32_118, l32_119, l32_120, l32_121, l32_122, l32_123, l32_124, l32_125, l32_126, l32_192, l32_200, l32_255, l32_999, l32_1000, l32_1344, l32_2147483639, l32_2147483647, l64_0, l64_1, l64_99, l64_999, l64_24883200000, l64_746496000000, jI_add, jI_sub, jI_mul, jI_neg, jL_add, jL_sub, jL_mul, jL_neg, jL_toI, jI_toL, jI_eqT, jI_eqF, jI_ltT, jI_ltF, jI_leT, jI_leF, jL_eqT, jL_eqF, jL_ltT, jL_ltF, jL_leT, jL_leF, inR_T, inR_F, bZ_T, bZ_F, not_true_eq_false, not_false_eq_true, jI_clamp, nI_j, bs_p, wl_p, u2_p, u3_p, u4_p, u5_p, zl_p, zr_p, mn_p, ms_p, if_pos, if_neg, ite_true, ite_false, s_isGear h hG, c_p h, hr, gI_uI]
          · exact absurd hx q2
        · obtain ⟨r, hr, hF⟩ := s_rPlanetOn h hG q.1 (show x < 10 by omega)
          have hne : r = -1 := by
            rcases hF with hF | hF
            · exact absurd ⟨r, hF.1, hF.2.1, hF.2.2.1⟩ q2
            · exact hF.1
          subst hne
          refine ⟨jI (S 1), uI (uL (uL w 142 (86 + S 1).toNat (jL x)) 142 (1 : Int).toNat (jL (S 1 + 1))) 141 12 (jI 0), ?_, RO.val ((Sm.wL w (by unfold KM; omega)).tr (Sm.wL _ (by unfold KM; omega))) rfl ((h.put (by omega) (by omega)).put (by omega) (by omega))⟩
          unfold f_X11_addsPlanet
          simp (disch := omega) only [l32_0, l32_1, l32_2, l32_3, l32_4, l32_5, l32_6, l32_7, l32_8, l32_9, l32_10, l32_11, l32_12, l32_13, l32_14, l32_15, l32_16, l32_17, l32_18, l32_19, l32_20, l32_21, l32_22, l32_23, l32_24, l32_25, l32_26, l32_27, l32_28, l32_29, l32_30, l32_31, l32_32, l32_33, l32_34, l32_35, l32_36, l32_37, l32_38, l32_39, l32_40, l32_41, l32_42, l32_43, l32_44, l32_45, l32_46, l32_47, l32_48, l32_49, l32_50, l32_51, l32_52, l32_53, l32_54, l32_55, l32_56, l32_57, l32_58, l32_59, l32_60, l32_61, l32_62, l32_63, l32_64, l32_65, l32_66, l32_76, l32_86, l32_90, l32_92, l32_97, l32_98, l32_99, l32_100, l32_101, l32_102, l32_103, l32_104, l32_105, l32_106, l32_107, l32_108, l32_109, l32_110, l32_111, l32_112, l32_113, l32_114, l32_115, l32_116, l32_117, l32_118, l32_119, l32_120, l32_121, l32_122, l32_123, l32_124, l32_125, l32_126, l32_192, l32_200, l32_255, l32_999, l32_1000, l32_1344, l32_2147483639, l32_2147483647, l64_0, l64_1, l64_99, l64_999, l64_24883200000, l64_746496000000, jI_add, jI_sub, jI_mul, jI_neg, jL_add, jL_sub, jL_mul, jL_neg, jL_toI, jI_toL, jI_eqT, jI_eqF, jI_ltT, jI_ltF, jI_leT, jI_leF, jL_eqT, jL_eqF, jL_ltT, jL_ltF, jL_leT, jL_leF, inR_T, inR_F, bZ_T, bZ_F, not_true_eq_false, not_false_eq_true, jI_clamp, nI_j, bs_p, wl_p, u2_p, u3_p, u4_p, u5_p, zl_p, zr_p, mn_p, ms_p, if_pos, if_neg, ite_true, ite_false, s_rIsGear h hG, s_at h, hr, s_done, gL_uL, r_g h]
  · refine ⟨.inl 0, ok_e (e := 0) (by decide), trivial, fun w h => ?_, fun w h => ?_⟩
    · refine ⟨jI (-1), w, ?_, CO.err (Sm.refl w) rfl h⟩
      unfold f_X1_putPlanet
      simp (disch := omega) only [l32_0, l32_1, l32_2, l32_3, l32_4, l32_5, l32_6, l32_7, l32_8, l32_9, l32_10, l32_11, l32_12, l32_13, l32_14, l32_15, l32_16, l32_17, l32_18, l32_19, l32_20, l32_21, l32_22, l32_23, l32_24, l32_25, l32_26, l32_27, l32_28, l32_29, l32_30, l32_31, l32_32, l32_33, l32_34, l32_35, l32_36, l32_37, l32_38, l32_39, l32_40, l32_41, l32_42, l32_43, l32_44, l32_45, l32_46, l32_47, l32_48, l32_49, l32_50, l32_51, l32_52, l32_53, l32_54, l32_55, l32_56, l32_57, l32_58, l32_59, l32_60, l32_61, l32_62, l32_63, l32_64, l32_65, l32_66, l32_76, l32_86, l32_90, l32_92, l32_97, l32_98, l32_99, l32_100, l32_101, l32_102, l32_103, l32_104, l32_105, l32_106, l32_107, l32_108, l32_109, l32_110, l32_111, l32_112, l32_113, l32_114, l32_115, l32_116, l32_117, l32_118, l32_119, l32_120, l32_121, l32_122, l32_123, l32_124, l32_125, l32_126, l32_192, l32_200, l32_255, l32_999, l32_1000, l32_1344, l32_2147483639, l32_2147483647, l64_0, l64_1, l64_99, l64_999, l64_24883200000, l64_746496000000, jI_add, jI_sub, jI_mul, jI_neg, jL_add, jL_sub, jL_mul, jL_neg, jL_toI, jI_toL, jI_eqT, jI_eqF, jI_ltT, jI_ltF, jI_leT, jI_leF, jL_eqT, jL_eqF, jL_ltT, jL_ltF, jL_leT, jL_leF, inR_T, inR_F, bZ_T, bZ_F, not_true_eq_false, not_false_eq_true, jI_clamp, nI_j, bs_p, wl_p, u2_p, u3_p, u4_p, u5_p, zl_p, zr_p, mn_p, ms_p, if_pos, if_neg, ite_true, ite_false, s_isGear h hG]
    · refine ⟨jI 0, uI w 141 12 (jI 1), ?_, RO.err (Sm.refl w) rfl rfl⟩
      unfold f_X11_addsPlanet
      simp (disch := omega) only [l32_0, l32_1, l32_2, l32_3, l32_4, l32_5, l32_6, l32_7, l32_8, l32_9, l32_10, l32_11, l32_12, l32_13, l32_14, l32_15, l32_16, l32_17, l32_18, l32_19, l32_20, l32_21, l32_22, l32_23, l32_24, l32_25, l32_26, l32_27, l32_28, l32_29, l32_30, l32_31, l32_32, l32_33, l32_34, l32_35, l32_36, l32_37, l32_38, l32_39, l32_40, l32_41, l32_42, l32_43, l32_44, l32_45, l32_46, l32_47, l32_48, l32_49, l32_50, l32_51, l32_52, l32_53, l32_54, l32_55, l32_56, l32_57, l32_58, l32_59, l32_60, l32_61, l32_62, l32_63, l32_64, l32_65, l32_66, l32_76, l32_86, l32_90, l32_92, l32_97, l32_98, l32_99, l32_100, l32_101, l32_102, l32_103, l32_104, l32_105, l32_106, l32_107, l32_108, l32_109, l32_110, l32_111, l32_112, l32_113, l32_114, l32_115, l32_116, l32_117, l32_118, l32_119, l32_120, l32_121, l32_122, l32_123, l32_124, l32_125, l32_126, l32_192, l32_200, l32_255, l32_999, l32_1000, l32_1344, l32_2147483639, l32_2147483647, l64_0, l64_1, l64_99, l64_999, l64_24883200000, l64_746496000000, jI_add, jI_sub, jI_mul, jI_neg, jL_add, jL_sub, jL_mul, jL_neg, jL_toI, jI_toL, jI_eqT, jI_eqF, jI_ltT, jI_ltF, jI_leT, jI_leF, jL_eqT, jL_eqF, jL_ltT, jL_ltF, jL_leT, jL_leF, inR_T, inR_F, bZ_T, bZ_F, not_true_eq_false, not_false_eq_true, jI_clamp, nI_j, bs_p, wl_p, u2_p, u3_p, u4_p, u5_p, zl_p, zr_p, mn_p, ms_p, if_pos, if_neg, ite_true, ite_false, s_rIsGear h hG, s_fails]
theorem opm_cut {S : Ab} (hG : Good S) {x y : Int} (x1 : -2147483648 ≤ x) (x2 : x < 2147483648) (y1 : -2147483648 ≤ y) (y2 : y < 2147483648) : OpM S [0, 4] (fun e => if e = 0 then 1 else 2) (fun w => f_X1_cut w (jI x) (jI y)) (fun w => f_X11_parts w (jI x) (jI y)) := by
  have hg := hG.1
  by_cases q : (0 ≤ x ∧ x < S 0) ∧ 0 ≤ y ∧ y < S 0
  · obtain ⟨qx, qy⟩ := q
    have hj := hG.2.2.2.1 x y qx.1 (by omega) qy.1 (by omega)
    have hj2 := hj.2.1
    have hk := jk_b (S (92 + 10 * x + y))
    by_cases q1 : S (92 + 10 * x + y) = 0
    · refine ⟨.inl 4, ok_e (e := 4) (by decide), trivial, fun w h => ?_, fun w h => ?_⟩
      · refine ⟨jI (-5), w, ?_, CO.err (Sm.refl w) rfl h⟩
        have hz : jk (S (92 + 10 * x + y)) = 0 := jk_0.mpr q1
        unfold f_X1_cut
        simp (disch := omega) only [l32_0, l32_1, l32_2, l32_3, l32_4, l32_5, l32_6, l32_7, l32_8, l32_9, l32_10, l32_11, l32_12, l32_13, l32_14, l32_15, l32_16, l32_17, l32_18, l32_19, l32_20, l32_21, l32_22, l32_23, l32_24, l32_25, l32_26, l32_27, l32_28, l32_29, l32_30, l32_31, l32_32, l32_33, l32_34, l32_35, l32_36, l32_37, l32_38, l32_39, l32_40, l32_41, l32_42, l32_43, l32_44, l32_45, l32_46, l32_47, l32_48, l32_49, l32_50, l32_51, l32_52, l32_53, l32_54, l32_55, l32_56, l32_57, l32_58, l32_59, l32_60, l32_61, l32_62, l32_63, l32_64, l32_65, l32_66, l32_76, l32_86, l32_90, l32_92, l32_97, l32_98, l32_99, l32_100, l32_101, l32_102, l32_103, l32_104, l32_105, l32_106, l32_107, l32_108, l32_109, l32_110, l32_111, l32_112, l32_113, l32_114, l32_115, l32_116, l32_117, l32_118, l32_119, l32_120, l32_121, l32_122, l32_123, l32_124, l32_125, l32_126, l32_192, l32_200, l32_255, l32_999, l32_1000, l32_1344, l32_2147483639, l32_2147483647, l64_0, l64_1, l64_99, l64_999, l64_24883200000, l64_746496000000, jI_add, jI_sub, jI_mul, jI_neg, jL_add, jL_sub, jL_mul, jL_neg, jL_toI, jI_toL, jI_eqT, jI_eqF, jI_ltT, jI_ltF, jI_leT, jI_leF, jL_eqT, jL_eqF, jL_ltT, jL_ltF, jL_leT, jL_leF, inR_T, inR_F, bZ_T, bZ_F, not_true_eq_false, not_false_eq_true, jI_clamp, nI_j, bs_p, wl_p, u2_p, u3_p, u4_p, u5_p, zl_p, zr_p, mn_p, ms_p, if_pos, if_neg, ite_true, ite_false, s_isGear h hG, s_jointOf h]
      · refine ⟨jI 0, uI w 141 12 (jI 2), ?_, RO.err (Sm.refl w) rfl rfl⟩
        unfold f_X11_parts
        simp (disch := omega) only [l32_0, l32_1, l32_2, l32_3, l32_4, l32_5, l32_6, l32_7, l32_8, l32_9, l32_10, l32_11, l32_12, l32_13, l32_14, l32_15, l32_16, l32_17, l32_18, l32_19, l32_20, l32_21, l32_22, l32_23, l32_24, l32_25, l32_26, l32_27, l32_28, l32_29, l32_30, l32_31, l32_32, l32_33, l32_34, l32_35, l32_36, l32_37, l32_38, l32_39, l32_40, l32_41, l32_42, l32_43, l32_44, l32_45, l32_46, l32_47, l32_48, l32_49, l32_50, l32_51, l32_52, l32_53, l32_54, l32_55, l32_56, l32_57, l32_58, l32_59, l32_60, l32_61, l32_62, l32_63, l32_64, l32_65, l32_66, l32_76, l32_86, l32_90, l32_92, l32_97, l32_98, l32_99, l32_100, l32_101, l32_102, l32_103, l32_104, l32_105, l32_106, l32_107, l32_108, l32_109, l32_110, l32_111, l32_112, l32_113, l32_114, l32_115, l32_116, l32_117, l32_118, l32_119, l32_120, l32_121, l32_122, l32_123, l32_124, l32_125, l32_126, l32_192, l32_200, l32_255, l32_999, l32_1000, l32_1344, l32_2147483639, l32_2147483647, l64_0, l64_1, l64_99, l64_999, l64_24883200000, l64_746496000000, jI_add, jI_sub, jI_mul, jI_neg, jL_add, jL_sub, jL_mul, jL_neg, jL_toI, jI_toL, jI_eqT, jI_eqF, jI_ltT, jI_ltF, jI_leT, jI_leF, jL_eqT, jL_eqF, jL_ltT, jL_ltF, jL_leT, jL_leF, inR_T, inR_F, bZ_T, bZ_F, not_true_eq_false, not_false_eq_true, jI_clamp, nI_j, bs_p, wl_p, u2_p, u3_p, u4_p, u5_p, zl_p, zr_p, mn_p, ms_p, if_pos, if_neg, ite_true, ite_false, s_rAreGears h hG, s_rJoint h, s_fails]
    · have hz : jk (S (92 + 10 * x + y)) ≠ 0 := fun z => q1 (jk_0.mp z)
      have hab := (hj.2.2 q1).1
      have hc := jc_pj (v := 0) qx.1 (by omega) qy.1 (by omega) hab hj.1
      rw [if_pos rfl, if_neg q1] at hc
      have hc0 := jc_lo (pj S x y 0)
      have h30 := hG.2.2.2.2.1
      have hG' : Good (pj S x y 0) := hG.joint qx.1 qx.2 qy.1 qy.2 hab (Or.inl rfl) (by omega) (by
        obtain ⟨P, hP⟩ := hG.2.2.2.2.2.2
        refine ⟨P, fun a a0 a1 => ⟨(hP a a0 a1).1, fun b b0 b1 => ?_⟩⟩
        unfold Rl
        rw [pj_j qx.1 (by omega) qy.1 (by omega) a0 a1 b0 b1, pj_lo (z := 6 + a) qx.1 qy.1 (by omega), pj_lo (z := 6 + b) qx.1 qy.1 (by omega)]
        split
        · exact ⟨fun z => absurd z (by decide), fun z => absurd z (by decide)⟩
        · exact (hP a a0 a1).2 b b0 b1)
      refine ⟨.inr (jc (pj S x y 0) / 2, pj S x y 0), ⟨by omega, by omega, hG'⟩, (by show S 0 ≤ _; simp only [pj, up]; repeat' split <;> omega), fun w h => ?_, fun w h => ?_⟩
      · have h2 := h.put_j (v := 0) qx.1 (show x < 10 by omega) qy.1 (show y < 10 by omega)
        have hp := s_putJoint (w := w) (v := 0) qx.1 (show x < 10 by omega) qy.1 (show y < 10 by omega)
        have hp : f_X7_putJoint w (jI x) (jI y) (jI 0) = _ := hp
        refine ⟨jI (jc (pj S x y 0) / 2), _, ?_, CO.val (((Sm.wI w (by unfold KC; omega)).tr (Sm.wI _ (by unfold KC; omega))).tr (Sm.wI _ (by unfold KC; omega))) rfl h2⟩
        unfold f_X1_cut
        simp (disch := omega) only [l32_0, l32_1, l32_2, l32_3, l32_4, l32_5, l32_6, l32_7, l32_8, l32_9, l32_10, l32_11, l32_12, l32_13, l32_14, l32_15, l32_16, l32_17, l32_18, l32_19, l32_20, l32_21, l32_22, l32_23, l32_24, l32_25, l32_26, l32_27, l32_28, l32_29, l32_30, l32_31, l32_32, l32_33, l32_34, l32_35, l32_36, l32_37, l32_38, l32_39, l32_40, l32_41, l32_42, l32_43, l32_44, l32_45, l32_46, l32_47, l32_48, l32_49, l32_50, l32_51, l32_52, l32_53, l32_54, l32_55, l32_56, l32_57, l32_58, l32_59, l32_60, l32_61, l32_62, l32_63, l32_64, l32_65, l32_66, l32_76, l32_86, l32_90, l32_92, l32_97, l32_98, l32_99, l32_100, l32_101, l32_102, l32_103, l32_104, l32_105, l32_106, l32_107, l32_108, l32_109, l32_110, l32_111, l32_112, l32_113, l32_114, l32_115, l32_116, l32_117, l32_118, l32_119, l32_120, l32_121, l32_122, l32_123, l32_124, l32_125, l32_126, l32_192, l32_200, l32_255, l32_999, l32_1000, l32_1344, l32_2147483639, l32_2147483647, l64_0, l64_1, l64_99, l64_999, l64_24883200000, l64_746496000000, jI_add, jI_sub, jI_mul, jI_neg, jL_add, jL_sub, jL_mul, jL_neg, jL_toI, jI_toL, jI_eqT, jI_eqF, jI_ltT, jI_ltF, jI_leT, jI_leF, jL_eqT, jL_eqF, jL_ltT, jL_ltF, jL_leT, jL_leF, inR_T, inR_F, bZ_T, bZ_F, not_true_eq_false, not_false_eq_true, jI_clamp, nI_j, bs_p, wl_p, u2_p, u3_p, u4_p, u5_p, zl_p, zr_p, mn_p, ms_p, if_pos, if_neg, ite_true, ite_false, s_isGear h hG, s_jointOf h, hp, gI_uI, c_m h, and_self]
        rw [show jc (up (up S (92 + 10 * x + y) 0) (92 + 10 * y + x) 0) / 2 = jc S / 2 - 1 by show jc (pj S x y 0) / 2 = _; omega, show jc (pj S x y 0) / 2 = jc S / 2 - 1 by omega]
      · have h2 := h.joint (v := 0) qx.1 (show x < 10 by omega) qy.1 (show y < 10 by omega)
        have e := s_rJoints h2 (fun k k0 k1 => hG'.j2 k k0 k1)
        refine ⟨jI (jc (pj S x y 0) / 2), _, ?_, RO.val ((Sm.wL w (by unfold KM; omega)).tr (Sm.wL _ (by unfold KM; omega))) rfl h2⟩
        unfold f_X11_parts
        simp (disch := omega) only [l32_0, l32_1, l32_2, l32_3, l32_4, l32_5, l32_6, l32_7, l32_8, l32_9, l32_10, l32_11, l32_12, l32_13, l32_14, l32_15, l32_16, l32_17, l32_18, l32_19, l32_20, l32_21, l32_22, l32_23, l32_24, l32_25, l32_26, l32_27, l32_28, l32_29, l32_30, l32_31, l32_32, l32_33, l32_34, l32_35, l32_36, l32_37, l32_38, l32_39, l32_40, l32_41, l32_42, l32_43, l32_44, l32_45, l32_46, l32_47, l32_48, l32_49, l32_50, l32_51, l32_52, l32_53, l32_54, l32_55, l32_56, l32_57, l32_58, l32_59, l32_60, l32_61, l32_62, l32_63, l32_64, l32_65, l32_66, l32_76, l32_86, l32_90, l32_92, l32_97, l32_98, l32_99, l32_100, l32_101, l32_102, l32_103, l32_104, l32_105, l32_106, l32_107, l32_108, l32_109, l32_110, l32_111, l32_112, l32_113, l32_114, l32_115, l32_116, l32_117, l32_118, l32_119, l32_120, l32_121, l32_122, l32_123, l32_124, l32_125, l32_126, l32_192, l32_200, l32_255, l32_999, l32_1000, l32_1344, l32_2147483639, l32_2147483647, l64_0, l64_1, l64_99, l64_999, l64_24883200000, l64_746496000000, jI_add, jI_sub, jI_mul, jI_neg, jL_add, jL_sub, jL_mul, jL_neg, jL_toI, jI_toL, jI_eqT, jI_eqF, jI_ltT, jI_ltF, jI_leT, jI_leF, jL_eqT, jL_eqF, jL_ltT, jL_ltF, jL_leT, jL_leF, inR_T, inR_F, bZ_T, bZ_F, not_true_eq_false, not_false_eq_true, jI_clamp, nI_j, bs_p, wl_p, u2_p, u3_p, u4_p, u5_p, zl_p, zr_p, mn_p, ms_p, if_pos, if_neg, ite_true, ite_false, s_rAreGears h hG, s_rJoint h, s_done, e]
  · refine ⟨.inl 0, ok_e (e := 0) (by decide), trivial, fun w h => ?_, fun w h => ?_⟩
    · refine ⟨jI (-1), w, ?_, CO.err (Sm.refl w) rfl h⟩
      unfold f_X1_cut
      by_cases qx : 0 ≤ x ∧ x < S 0
      · have qy : ¬ (0 ≤ y ∧ y < S 0) := fun z => q ⟨qx, z⟩
        simp (disch := omega) only [l32_0, l32_1, l32_2, l32_3, l32_4, l32_5, l32_6, l32_7, l32_8, l32_9, l32_10, l32_11, l32_12, l32_13, l32_14, l32_15, l32_16, l32_17, l32_18, l32_19, l32_20, l32_21, l32_22, l32_23, l32_24, l32_25, l32_26, l32_27, l32_28, l32_29, l32_30, l32_31, l32_32, l32_33, l32_34, l32_35, l32_36, l32_37, l32_38, l32_39, l32_40, l32_41, l32_42, l32_43, l32_44, l32_45, l32_46, l32_47, l32_48, l32_49, l32_50, l32_51, l32_52, l32_53, l32_54, l32_55, l32_56, l32_57, l32_58, l32_59, l32_60, l32_61, l32_62, l32_63, l32_64, l32_65, l32_66, l32_76, l32_86, l32_90, l32_92, l32_97, l32_98, l32_99, l32_100, l32_101, l32_102, l32_103, l32_104, l32_105, l32_106, l32_107, l32_108, l32_109, l32_110, l32_111, l32_112, l32_113, l32_114, l32_115, l32_116, l32_117, l32_118, l32_119, l32_120, l32_121, l32_122, l32_123, l32_124, l32_125, l32_126, l32_192, l32_200, l32_255, l32_999, l32_1000, l32_1344, l32_2147483639, l32_2147483647, l64_0, l64_1, l64_99, l64_999, l64_24883200000, l64_746496000000, jI_add, jI_sub, jI_mul, jI_neg, jL_add, jL_sub, jL_mul, jL_neg, jL_toI, jI_toL, jI_eqT, jI_eqF, jI_ltT, jI_ltF, jI_leT, jI_leF, jL_eqT, jL_eqF, jL_ltT, jL_ltF, jL_leT, jL_leF, inR_T, inR_F, bZ_T, bZ_F, not_true_eq_false, not_false_eq_true, jI_clamp, nI_j, bs_p, wl_p, u2_p, u3_p, u4_p, u5_p, zl_p, zr_p, mn_p, ms_p, if_pos, if_neg, ite_true, ite_false, s_isGear h hG]
      · simp (disch := omega) only [l32_0, l32_1, l32_2, l32_3, l32_4, l32_5, l32_6, l32_7, l32_8, l32_9, l32_10, l32_11, l32_12, l32_13, l32_14, l32_15, l32_16, l32_17, l32_18, l32_19, l32_20, l32_21, l32_22, l32_23, l32_24, l32_25, l32_26, l32_27, l32_28, l32_29, l32_30, l32_31, l32_32, l32_33, l32_34, l32_35, l32_36, l32_37, l32_38, l32_39, l32_40, l32_41, l32_42, l32_43, l32_44, l32_45, l32_46, l32_47, l32_48, l32_49, l32_50, l32_51, l32_52, l32_53, l32_54, l32_55, l32_56, l32_57, l32_58, l32_59, l32_60, l32_61, l32_62, l32_63, l32_64, l32_65, l32_66, l32_76, l32_86, l32_90, l32_92, l32_97, l32_98, l32_99, l32_100, l32_101, l32_102, l32_103, l32_104, l32_105, l32_106, l32_107, l32_108, l32_109, l32_110, l32_111, l32_112, l32_113, l32_114, l32_115, l32_116, l32_117, l32_118, l32_119, l32_120, l32_121, l32_122, l32_123, l32_124, l32_125, l32_126, l32_192, l32_200, l32_255, l32_999, l32_1000, l32_1344, l32_2147483639, l32_2147483647, l64_0, l64_1, l64_99, l64_999, l64_24883200000, l64_746496000000, jI_add, jI_sub, jI_mul, jI_neg, jL_add, jL_sub, jL_mul, jL_neg, jL_toI, jI_toL, jI_eqT, jI_eqF, jI_ltT, jI_ltF, jI_leT, jI_leF, jL_eqT, jL_eqF, jL_ltT, jL_ltF, jL_leT, jL_leF, inR_T, inR_F, bZ_T, bZ_F, not_true_eq_false, not_false_eq_true, jI_clamp, nI_j, bs_p, wl_p, u2_p, u3_p, u4_p, u5_p, zl_p, zr_p, mn_p, ms_p, if_pos, if_neg, ite_true, ite_false, s_isGear h hG]
    · refine ⟨jI 0, uI w 141 12 (jI 1), ?_, RO.err (Sm.refl w) rfl rfl⟩
      unfold f_X11_parts
      simp (disch := omega) only [l32_0, l32_1, l32_2, l32_3, l32_4, l32_5, l32_6, l32_7, l32_8, l32_9, l32_10, l32_11, l32_12, l32_13, l32_14, l32_15, l32_16, l32_17, l32_18, l32_19, l32_20, l32_21, l32_22, l32_23, l32_24, l32_25, l32_26, l32_27, l32_28, l32_29, l32_30, l32_31, l32_32, l32_33, l32_34, l32_35, l32_36, l32_37, l32_38, l32_39, l32_40, l32_41, l32_42, l32_43, l32_44, l32_45, l32_46, l32_47, l32_48, l32_49, l32_50, l32_51, l32_52, l32_53, l32_54, l32_55, l32_56, l32_57, l32_58, l32_59, l32_60, l32_61, l32_62, l32_63, l32_64, l32_65, l32_66, l32_76, l32_86, l32_90, l32_92, l32_97, l32_98, l32_99, l32_100, l32_101, l32_102, l32_103, l32_104, l32_105, l32_106, l32_107, l32_108, l32_109, l32_110, l32_111, l32_112, l32_113, l32_114, l32_115, l32_116, l32_117, l32_118, l32_119, l32_120, l32_121, l32_122, l32_123, l32_124, l32_125, l32_126, l32_192, l32_200, l32_255, l32_999, l32_1000, l32_1344, l32_2147483639, l32_2147483647, l64_0, l64_1, l64_99, l64_999, l64_24883200000, l64_746496000000, jI_add, jI_sub, jI_mul, jI_neg, jL_add, jL_sub, jL_mul, jL_neg, jL_toI, jI_toL, jI_eqT, jI_eqF, jI_ltT, jI_ltF, jI_leT, jI_leF, jL_eqT, jL_eqF, jL_ltT, jL_ltF, jL_leT, jL_leF, inR_T, inR_F, bZ_T, bZ_F, not_true_eq_false, not_false_eq_true, jI_clamp, nI_j, bs_p, wl_p, u2_p, u3_p, u4_p, u5_p, zl_p, zr_p, mn_p, ms_p, if_pos, if_neg, ite_true, ite_false, s_rAreGears h hG, s_fails]

set_option maxHeartbeats 16000000 in
theorem opm_join {S : Ab} (hG : Good S) {x y k : Int} (x1 : -2147483648 ≤ x) (x2 : x < 2147483648) (y1 : -2147483648 ≤ y) (y2 : y < 2147483648) (hk : k = 1 ∨ k = 2) : OpM S [0, 1, 2, 3] (fun e => (e : Int) + 1) (fun w => f_X1_join w (jI x) (jI y) (jI (jk k))) (fun w => f_X11_joins w (jI x) (jI y) (jI k)) := by
  have hg := hG.1
  by_cases q : (0 ≤ x ∧ x < S 0) ∧ 0 ≤ y ∧ y < S 0
  · obtain ⟨qx, qy⟩ := q
    by_cases hxy : x = y
    · refine ⟨.inl 1, ok_e (e := 1) (by decide), trivial, fun w h => ?_, fun w h => ?_⟩
      · refine ⟨jI (-2), w, ?_, CO.err (Sm.refl w) rfl h⟩
        unfold f_X1_join
        simp (disch := omega) only [l32_0, l32_1, l32_2, l32_3, l32_4, l32_5, l32_6, l32_7, l32_8, l32_9, l32_10, l32_11, l32_12, l32_13, l32_14, l32_15, l32_16, l32_17, l32_18, l32_19, l32_20, l32_21, l32_22, l32_23, l32_24, l32_25, l32_26, l32_27, l32_28, l32_29, l32_30, l32_31, l32_32, l32_33, l32_34, l32_35, l32_36, l32_37, l32_38, l32_39, l32_40, l32_41, l32_42, l32_43, l32_44, l32_45, l32_46, l32_47, l32_48, l32_49, l32_50, l32_51, l32_52, l32_53, l32_54, l32_55, l32_56, l32_57, l32_58, l32_59, l32_60, l32_61, l32_62, l32_63, l32_64, l32_65, l32_66, l32_76, l32_86, l32_90, l32_92, l32_97, l32_98, l32_99, l32_100, l32_101, l32_102, l32_103, l32_104, l32_105, l32_106, l32_107, l32_108, l32_109, l32_110, l32_111, l32_112, l32_113, l32_114, l32_115, l32_116, l32_117, l32_118, l32_119, l32_120, l32_121, l32_122, l32_123, l32_124, l32_125, l32_126, l32_192, l32_200, l32_255, l32_999, l32_1000, l32_1344, l32_2147483639, l32_2147483647, l64_0, l64_1, l64_99, l64_999, l64_24883200000, l64_746496000000, jI_add, jI_sub, jI_mul, jI_neg, jL_add, jL_sub, jL_mul, jL_neg, jL_toI, jI_toL, jI_eqT, jI_eqF, jI_ltT, jI_ltF, jI_leT, jI_leF, jL_eqT, jL_eqF, jL_ltT, jL_ltF, jL_leT, jL_leF, inR_T, inR_F, bZ_T, bZ_F, not_true_eq_false, not_false_eq_true, jI_clamp, nI_j, bs_p, wl_p, u2_p, u3_p, u4_p, u5_p, zl_p, zr_p, mn_p, ms_p, if_pos, if_neg, ite_true, ite_false, s_isGear h hG]
      · refine ⟨jI 0, uI w 141 12 (jI 2), ?_, RO.err (Sm.refl w) rfl rfl⟩
        unfold f_X11_joins
        simp (disch := omega) only [l32_0, l32_1, l32_2, l32_3, l32_4, l32_5, l32_6, l32_7, l32_8, l32_9, l32_10, l32_11, l32_12, l32_13, l32_14, l32_15, l32_16, l32_17, l32_18, l32_19, l32_20, l32_21, l32_22, l32_23, l32_24, l32_25, l32_26, l32_27, l32_28, l32_29, l32_30, l32_31, l32_32, l32_33, l32_34, l32_35, l32_36, l32_37, l32_38, l32_39, l32_40, l32_41, l32_42, l32_43, l32_44, l32_45, l32_46, l32_47, l32_48, l32_49, l32_50, l32_51, l32_52, l32_53, l32_54, l32_55, l32_56, l32_57, l32_58, l32_59, l32_60, l32_61, l32_62, l32_63, l32_64, l32_65, l32_66, l32_76, l32_86, l32_90, l32_92, l32_97, l32_98, l32_99, l32_100, l32_101, l32_102, l32_103, l32_104, l32_105, l32_106, l32_107, l32_108, l32_109, l32_110, l32_111, l32_112, l32_113, l32_114, l32_115, l32_116, l32_117, l32_118, l32_119, l32_120, l32_121, l32_122, l32_123, l32_124, l32_125, l32_126, l32_192, l32_200, l32_255, l32_999, l32_1000, l32_1344, l32_2147483639, l32_2147483647, l64_0, l64_1, l64_99, l64_999, l64_24883200000, l64_746496000000, jI_add, jI_sub, jI_mul, jI_neg, jL_add, jL_sub, jL_mul, jL_neg, jL_toI, jI_toL, jI_eqT, jI_eqF, jI_ltT, jI_ltF, jI_leT, jI_leF, jL_eqT, jL_eqF, jL_ltT, jL_ltF, jL_leT, jL_leF, inR_T, inR_F, bZ_T, bZ_F, not_true_eq_false, not_false_eq_true, jI_clamp, nI_j, bs_p, wl_p, u2_p, u3_p, u4_p, u5_p, zl_p, zr_p, mn_p, ms_p, if_pos, if_neg, ite_true, ite_false, s_rAreGears h hG, s_fails]
    · have hj := hG.2.2.2.1 x y qx.1 (by omega) qy.1 (by omega)
      have hj2 := hj.2.1
      have hkk := jk_b (S (92 + 10 * x + y))
      have h30 := hG.2.2.2.2.1
      have j0 := jc_lo S
      have tx := tooth_b ((hG.2.1 x qx.1 (by omega)).1 qx.2)
      have ty' := (hG.2.1 y qy.1 (by omega)).1 qy.2
      have ty := tooth_b ty'
      have ub := tu_b hG qx.1 qx.2 y qy.1 (by omega)
      obtain ⟨qd, hqd, hqd2⟩ := due_m (S := S) (x := x) ty'
      have due2 : ∀ k, due S x y k = if k = 2 then 24883200000 else -qd := fun k => by unfold due; rw [hqd2]
      have dueb : -14929920000000000 ≤ due S x y k ∧ due S x y k ≤ 14929920000000000 := by
        rw [due2]
        have h1 : S (6 + y) * qd ≤ 24883200000 * 60 := by rw [← hqd]; omega
        have h2 : 0 ≤ S (6 + y) * qd := by rw [← hqd]; omega
        have h3 : 0 ≤ qd := Int.nonneg_of_mul_nonneg_right h2 (by omega)
        have h4 : 1 * qd ≤ S (6 + y) * qd := Int.mul_le_mul_of_nonneg_right (by omega) h3
        split <;> omega
      have gx : ∀ w, CSt w 1 S → f_X7_isGear w (jI x) = some (jI 1) := fun w h => by rw [s_isGear h hG x1 x2, bZ_pos qx]
      have gy : ∀ w, CSt w 1 S → f_X7_isGear w (jI y) = some (jI 1) := fun w h => by rw [s_isGear h hG y1 y2, bZ_pos qy]
      have ax : ∀ w, RSt w 142 0 S → f_X11_areGears w (jI x) (jI y) = some (jI 1) := fun w h => by rw [s_rAreGears h hG x1 x2 y1 y2, bZ_pos ⟨qx, qy⟩]
      have nxy : ¬ jI x = jI y := fun z => hxy ((iff_of_eq (jI_eq (by omega) (by omega) (by omega) (by omega))).mp z)
      -- what the class finds
      have cls : ∀ w, CSt w 1 S → ∃ w1 w2 m1 m2 r1 r2, f_X8_trace w (jI y) = some w1 ∧ f_X8_springGear w1 = some (jI r1) ∧ f_X8_trace w1 (jI x) = some w2 ∧ f_X8_springGear w2 = some (jI r2) ∧ Sm KC w w2 ∧ CSt w2 1 S ∧ CT w1 (TU S y) (ct (TU S y)) m1 ∧ CT w2 (TU S x) (ct (TU S x)) m2 ∧ (r1 = -1 ↔ ¬ Sp S y) ∧ (r2 = -1 ↔ ¬ Sp S x) ∧ (jI r1 = (-1 : Int32) ↔ r1 = -1) ∧ (jI r2 = (-1 : Int32) ↔ r2 = -1) := by
        intro w h
        obtain ⟨w1, m1, hr1, hs1, hC1, h1⟩ := s_trace hG h qy.1 qy.2
        obtain ⟨r1, hq1, hF1⟩ := s_springGear h1 hG hC1 (tu_b hG qy.1 qy.2)
        obtain ⟨w2, m2, hr2, hs2, hC2, h2⟩ := s_trace hG h1 qx.1 qx.2
        obtain ⟨r2, hq2, hF2⟩ := s_springGear h2 hG hC2 (tu_b hG qx.1 qx.2)
        have b1 := hF1.b
        have b2 := hF2.b
        exact ⟨w1, w2, m1, m2, r1, r2, hr1, hq1, hr2, hq2, (hs1.tr hs2).mono (fun k => KT_C), h2, hC1, hC2, hF1.none, hF2.none, by rw [m32_1]; exact iff_of_eq (jI_eq (by omega) (by omega) (by omega) (by omega)), by rw [m32_1]; exact iff_of_eq (jI_eq (by omega) (by omega) (by omega) (by omega))⟩
      by_cases c3 : S (92 + 10 * x + y) ≠ 0 ∨ 15 ≤ jc S / 2 ∨ HS S x y
      · refine ⟨.inl 2, ok_e (e := 2) (by decide), trivial, fun w h => ?_, fun w h => ?_⟩
        · obtain ⟨w1, w2, m1, m2, r1, r2, hr1, hq1, hr2, hq2, hs, h2, hC1, hC2, n1, n2, e1, e2⟩ := cls w h
          have sh := s_holds hC2 (tu_b hG qx.1 qx.2) (i := y) qy.1 (by omega)
          have sj := s_jointOf h2 (a := x) (b := y) qx.1 (by omega) qy.1 (by omega)
          refine ⟨(-3 : Int32), w2, j_bad (gx w h) (gy w h) nxy hr1 hq1 hr2 sh hq2 sj ?_, CO.err hs rfl h2⟩
          rcases c3 with c3 | c3 | c3
          · exact Or.inl (fun z => c3 (jk_0.mp ((iff_of_eq (jI_eq (by omega) (by omega) (by omega) (by omega))).mp z)))
          · refine Or.inr (Or.inl ?_)
            rw [c_m h2, l32_15, jI_le (by omega) (by omega) (by omega) (by omega)]; exact c3
          · refine Or.inr (Or.inr ⟨?_, fun z => n1.mp (e1.mp z) c3.2.1, fun z => n2.mp (e2.mp z) c3.2.2⟩)
            rw [bZ_neg (fun z => z c3.1)]; rfl
        · have J := s_rJoint h (a := x) (b := y) qx.1 (by omega) qy.1 (by omega)
          by_cases z0 : S (92 + 10 * x + y) = 0
          · have sj := s_rJoints h (fun k k0 k1 => hG.j2 k k0 k1)
            have c4 : jI (S (92 + 10 * x + y)) = 0 := by rw [z0]; rfl
            by_cases z2 : 15 ≤ jc S / 2
            · exact ⟨jI 0, uI w 141 12 (jI 3), jr_b2 (ax w h) nxy J c4 sj (by rw [show jc S / 2 = 15 by omega]; rfl), RO.err (Sm.refl w) rfl rfl⟩
            · have hs3 : HS S x y := by
                rcases c3 with c3 | c3 | c3
                · exact absurd z0 c3
                · exact absurd c3 z2
                · exact c3
              obtain ⟨r, w2, hr, hs, h2, ⟨rfl, hx⟩ | ⟨rfl, hx⟩⟩ := s_haveSprings hG h qx.1 qx.2 qy.1 qy.2
              · exact absurd hs3 hx
              · exact ⟨jI 0, uI w2 141 12 (jI 3), jr_b3 (ax w h) nxy J c4 sj (by rw [l32_15, jI_eq (by omega) (by omega) (by omega) (by omega)]; omega) hr (by decide +kernel), RO.err (hs.mono (fun k => KU_M)) (hs.1 141 (by unfold KU; omega)).1 rfl⟩
          · exact ⟨jI 0, uI w 141 12 (jI 3), jr_b1 (ax w h) nxy J (by rw [l32_0, jI_eq (by omega) (by omega) (by omega) (by omega)]; exact z0), RO.err (Sm.refl w) rfl rfl⟩
      · have z0 : S (92 + 10 * x + y) = 0 := Classical.byContradiction (fun z => c3 (Or.inl z))
        have z1 : jk (S (92 + 10 * x + y)) = 0 := jk_0.mpr z0
        have z2 : jc S / 2 < 15 := by
          have : ¬ 15 ≤ jc S / 2 := fun z => c3 (Or.inr (Or.inl z))
          omega
        have nh : ¬ HS S x y := fun z => c3 (Or.inr (Or.inr z))
        have kb := jk_b k
        by_cases c4 : TU S x y = 0 ∨ TU S x y = due S x y k
        · -- it is put
          have hc := jc_pj (v := k) qx.1 (by omega) qy.1 (by omega) hxy hj.1
          rw [if_neg (show k ≠ 0 by omega), if_pos z0] at hc
          have hG' : Good (pj S x y k) := hG.joint qx.1 qx.2 qy.1 qy.2 hxy (by omega) (by omega) (Pot.join hG qx.1 qx.2 qy.1 qy.2 hxy hk c4)
          have g0 : pj S x y k 0 = S 0 := pj_lo qx.1 qy.1 (by omega)
          have cl := ct_lo (TU (pj S x y k) x)
          have ch := ct_hi (TU (pj S x y k) x)
          refine ⟨.inr (ct (TU (pj S x y k) x), pj S x y k), ⟨cl, by omega, hG'⟩, (by show S 0 ≤ _; simp only [pj, up]; repeat' split <;> omega), fun w h => ?_, fun w h => ?_⟩
          · obtain ⟨w1, w2, m1, m2, r1, r2, hr1, hq1, hr2, hq2, hs, h2, hC1, hC2, n1, n2, e1, e2⟩ := cls w h
            have sh := s_holds hC2 (tu_b hG qx.1 qx.2) (i := y) qy.1 (by omega)
            have sj := s_jointOf h2 (a := x) (b := y) qx.1 (by omega) qy.1 (by omega)
            have sp := s_putJoint (w := w2) (v := k) qx.1 (show x < 10 by omega) qy.1 (show y < 10 by omega)
            have su := s_unitsBehind hG h2 (c := 24883200000) (k := k) qx.1 qx.2 qy.1 qy.2 (by omega) (by omega) (by omega)
            have su : f_X7_unitsBehind w2 (jL 24883200000) (jI x) (jI y) (jI (jk k)) = some (jL (due S x y k)) := su
            have h3 := h2.put_j (v := k) qx.1 (show x < 10 by omega) qy.1 (show y < 10 by omega)
            have h3 : CSt (uI (uI (uI w2 10 (x * 10 + y).toNat (jI (jk k))) 10 (y * 10 + x).toNat (jI (jk k))) 1 11 (jI (jc (pj S x y k) / 2))) 1 (pj S x y k) := h3
            rw [show jc (pj S x y k) / 2 = jc S / 2 + 1 by omega] at h3
            obtain ⟨w5, m5, hr5, hs5, hC5, h5⟩ := s_trace hG' h3 qx.1 (by rw [g0]; exact qx.2)
            refine ⟨jI (ct (TU (pj S x y k) x)), w5, ?_, CO.val ((((hs.tr (Sm.wI _ (by unfold KC; omega))).tr (Sm.wI _ (by unfold KC; omega))).tr (Sm.wI _ (by unfold KC; omega))).tr (hs5.mono (fun k => KT_C))) rfl h5⟩
            have e5 := hC5.2.1
            have e3 := hC2.1 y qy.1 (by omega)
            have k4 : jI (jk (S (92 + 10 * x + y))) = 0 := by rw [z1]; rfl
            have k5 : ¬ (15 : Int32) ≤ gI w2 1 11 := by rw [c_m h2, l32_15, jI_le (by omega) (by omega) (by omega) (by omega)]; omega
            have hr5' : f_X8_trace (uI (uI (uI w2 10 (x * 10 + y).toNat (jI (jk k))) 10 (y * 10 + x).toNat (jI (jk k))) 1 11 (gI (uI (uI w2 10 (x * 10 + y).toNat (jI (jk k))) 10 (y * 10 + x).toNat (jI (jk k))) 1 11 + (1 : Int32))) (jI x) = some w5 := by
              rw [gI_uI, if_neg (by omega), gI_uI, if_neg (by omega), c_m h2, l32_1, jI_add]; exact hr5
            rw [← e5]
            by_cases z3 : TU S x y = 0
            · refine j_put (gx w h) (gy w h) nxy hr1 hq1 hr2 sh hq2 sj k4 k5 (by rw [bZ_neg (fun z => z z3)]; rfl) ?_ sp hr5'
              by_cases z4 : r1 = -1
              · exact Or.inl (e1.mpr z4)
              · exact Or.inr (e2.mpr (n2.mpr (fun z => nh ⟨z3, Classical.byContradiction (fun z6 => z4 (n1.mpr z6)), z⟩)))
            · refine j_put2 (gx w h) (gy w h) nxy hr1 hq1 hr2 sh sj k4 k5 (by rw [bZ_pos z3]; decide +kernel) ?_ su ?_ sp hr5'
              · rw [inR_j (by omega) (by omega)]; omega
              · rw [jI_clamp (by omega) (by omega), e3, c4.resolve_left z3]
          · have sj := s_rJoints h (fun k k0 k1 => hG.j2 k k0 k1)
            obtain ⟨r, w2, hr, hs, h2, ⟨rfl, hx⟩ | ⟨rfl, hx⟩⟩ := s_haveSprings hG h qx.1 qx.2 qy.1 qy.2
            · obtain ⟨w3, hr3, hs3, hR3, h3⟩ := s_rTurns hG h2 qx.1 qx.2
              have h4 := h3.joint (v := k) qx.1 (show x < 10 by omega) qy.1 (show y < 10 by omega)
              obtain ⟨w5, hr5, hs5, hR5, h5⟩ := s_rTurns hG' h4 qx.1 (by rw [g0]; exact qx.2)
              have em := s_rMembers hR5
              have hs6 : Sm KM w w5 := ((((hs.tr hs3).mono (fun k => KU_M)).tr (Sm.wL _ (by unfold KM; omega))).tr (Sm.wL _ (by unfold KM; omega))).tr (hs5.mono (fun k => KU_M))
              have h141 : gI w5 141 = gI w 141 := ((hs5.1 141 (by unfold KU; omega)).1.trans (hs3.1 141 (by unfold KU; omega)).1).trans (hs.1 141 (by unfold KU; omega)).1
              refine ⟨jI (ct (TU (pj S x y k) x)), uI w5 141 12 (jI 0), ?_, RO.val hs6 h141 h5⟩
              have J := s_rJoint h (a := x) (b := y) qx.1 (by omega) qy.1 (by omega)
              have k4 : jI (S (92 + 10 * x + y)) = 0 := by rw [z0]; rfl
              have k5 : ¬ jI (jc S / 2) = (15 : Int32) := by rw [l32_15, jI_eq (by omega) (by omega) (by omega) (by omega)]; omega
              have iy : inR (jI y) 10 = true := by rw [inR_j (by omega) (by omega)]; omega
              have e1 : (jI y).toNatClampNeg = y.toNat := jI_clamp (by omega) (by omega)
              have i3 : inR ((6 : Int32) + jI x) 192 = true := by rw [l32_6, jI_add, inR_j (by omega) (by omega)]; omega
              have i4 : inR ((6 : Int32) + jI y) 192 = true := by rw [l32_6, jI_add, inR_j (by omega) (by omega)]; omega
              have g3 : gL w2 142 ((6 : Int32) + jI x).toNatClampNeg = jL (S (6 + x)) := by rw [l32_6, jI_add, jI_clamp (by omega) (by omega), r_g h2 _ (by omega) (by omega)]
              have g4 : gL w2 142 ((6 : Int32) + jI y).toNatClampNeg = jL (S (6 + y)) := by rw [l32_6, jI_add, jI_clamp (by omega) (by omega), r_g h2 _ (by omega) (by omega)]
              have g5 : ¬ gL w2 142 ((6 : Int32) + jI y).toNatClampNeg = 0 := by rw [g4, l64_0, jL_eq (by omega) (by omega) (by omega) (by omega)]; omega
              have e6 : ((-24883200000 : Int64) * gL w2 142 ((6 : Int32) + jI x).toNatClampNeg) / gL w2 142 ((6 : Int32) + jI y).toNatClampNeg = jL (due S x y 1) := by
                rw [g3, g4, show (-24883200000 : Int64) = jL (-24883200000) from rfl, jL_mul, jL_div (by omega) (by omega) (by omega) (by omega), due2, if_neg (by decide), Int.neg_mul, hqd, ← Int.mul_neg, Int.mul_tdiv_cancel_left _ (by omega)]
              have ixy : ((92 : Int32) + (10 : Int32) * jI x) + jI y = jI (92 + 10 * x + y) := by rw [l32_92, l32_10, jI_mul, jI_add, jI_add]
              have iyx : ((92 : Int32) + (10 : Int32) * jI y) + jI x = jI (92 + 10 * y + x) := by rw [l32_92, l32_10, jI_mul, jI_add, jI_add]
              have i1 : inR (((92 : Int32) + (10 : Int32) * jI x) + jI y) 192 = true := by rw [ixy, inR_j (by omega) (by omega)]; omega
              have i2 : inR (((92 : Int32) + (10 : Int32) * jI y) + jI x) 192 = true := by rw [iyx, inR_j (by omega) (by omega)]; omega
              have hr5' : f_X11_turns (uL (uL w3 142 (((92 : Int32) + (10 : Int32) * jI x) + jI y).toNatClampNeg (jI k).toInt64) 142 (((92 : Int32) + (10 : Int32) * jI y) + jI x).toNatClampNeg (jI k).toInt64) (jI x) = some w5 := by
                rw [ixy, iyx, jI_clamp (by omega) (by omega), jI_clamp (by omega) (by omega), jI_toL (by omega) (by omega)]; exact hr5
              have kn : gI w3 149 (jI y).toNatClampNeg = jI (bZ (TU S x y ≠ 0)) := by rw [e1]; exact rt_k hR3 y qy.1 (by omega)
              have un : gL w3 148 (jI y).toNatClampNeg = jL (TU S x y) := by rw [e1]; exact rt_u hR3 y qy.1 (by omega)
              rcases hk with rfl | rfl
              · refine jr_m (ax w h) nxy J k4 sj k5 hr rfl (by decide +kernel) i3 i4 g5 hr3 iy ?_ i1 i2 hr5' em
                rcases c4 with c4 | c4
                · exact Or.inl (by rw [kn, bZ_neg (fun z => z c4)]; rfl)
                · exact Or.inr (by rw [un, e6, c4])
              · refine jr_a (ax w h) nxy J k4 sj k5 hr rfl rfl hr3 iy ?_ i1 i2 hr5' em
                rcases c4 with c4 | c4
                · exact Or.inl (by rw [kn, bZ_neg (fun z => z c4)]; rfl)
                · exact Or.inr (by rw [un, c4, due2, if_pos rfl]; rfl)
            · exact absurd hx nh
        · -- it would not turn
          have z3 : TU S x y ≠ 0 := fun z => c4 (Or.inl z)
          have z6 : TU S x y ≠ due S x y k := fun z => c4 (Or.inr z)
          refine ⟨.inl 3, ok_e (e := 3) (by decide), trivial, fun w h => ?_, fun w h => ?_⟩
          · obtain ⟨w1, w2, m1, m2, r1, r2, hr1, hq1, hr2, hq2, hs, h2, hC1, hC2, n1, n2, e1, e2⟩ := cls w h
            have sh := s_holds hC2 (tu_b hG qx.1 qx.2) (i := y) qy.1 (by omega)
            have sj := s_jointOf h2 (a := x) (b := y) qx.1 (by omega) qy.1 (by omega)
            have su := s_unitsBehind hG h2 (c := 24883200000) (k := k) qx.1 qx.2 qy.1 qy.2 (by omega) (by omega) (by omega)
            have su : f_X7_unitsBehind w2 (jL 24883200000) (jI x) (jI y) (jI (jk k)) = some (jL (due S x y k)) := su
            have e3 := hC2.1 y qy.1 (by omega)
            have k4 : jI (jk (S (92 + 10 * x + y))) = 0 := by rw [z1]; rfl
            have k5 : ¬ (15 : Int32) ≤ gI w2 1 11 := by rw [c_m h2, l32_15, jI_le (by omega) (by omega) (by omega) (by omega)]; omega
            refine ⟨(-4 : Int32), w2, j_no (gx w h) (gy w h) nxy hr1 hq1 hr2 sh sj k4 k5 (by rw [bZ_pos z3]; decide +kernel) ?_ su ?_, CO.err hs rfl h2⟩
            · rw [inR_j (by omega) (by omega)]; omega
            · rw [jI_clamp (by omega) (by omega), e3, jL_eq (by omega) (by omega) (by omega) (by omega)]; exact z6
          · have sj := s_rJoints h (fun k k0 k1 => hG.j2 k k0 k1)
            obtain ⟨r, w2, hr, hs, h2, ⟨rfl, hx⟩ | ⟨rfl, hx⟩⟩ := s_haveSprings hG h qx.1 qx.2 qy.1 qy.2
            · obtain ⟨w3, hr3, hs3, hR3, h3⟩ := s_rTurns hG h2 qx.1 qx.2
              refine ⟨jI 0, uI w3 141 12 (jI 4), ?_, RO.err ((hs.tr hs3).mono (fun k => KU_M)) ((hs3.1 141 (by unfold KU; omega)).1.trans (hs.1 141 (by unfold KU; omega)).1) rfl⟩
              have J := s_rJoint h (a := x) (b := y) qx.1 (by omega) qy.1 (by omega)
              have k4 : jI (S (92 + 10 * x + y)) = 0 := by rw [z0]; rfl
              have k5 : ¬ jI (jc S / 2) = (15 : Int32) := by rw [l32_15, jI_eq (by omega) (by omega) (by omega) (by omega)]; omega
              have iy : inR (jI y) 10 = true := by rw [inR_j (by omega) (by omega)]; omega
              have e1 : (jI y).toNatClampNeg = y.toNat := jI_clamp (by omega) (by omega)
              have i3 : inR ((6 : Int32) + jI x) 192 = true := by rw [l32_6, jI_add, inR_j (by omega) (by omega)]; omega
              have i4 : inR ((6 : Int32) + jI y) 192 = true := by rw [l32_6, jI_add, inR_j (by omega) (by omega)]; omega
              have g3 : gL w2 142 ((6 : Int32) + jI x).toNatClampNeg = jL (S (6 + x)) := by rw [l32_6, jI_add, jI_clamp (by omega) (by omega), r_g h2 _ (by omega) (by omega)]
              have g4 : gL w2 142 ((6 : Int32) + jI y).toNatClampNeg = jL (S (6 + y)) := by rw [l32_6, jI_add, jI_clamp (by omega) (by omega), r_g h2 _ (by omega) (by omega)]
              have g5 : ¬ gL w2 142 ((6 : Int32) + jI y).toNatClampNeg = 0 := by rw [g4, l64_0, jL_eq (by omega) (by omega) (by omega) (by omega)]; omega
              have e6 : ((-24883200000 : Int64) * gL w2 142 ((6 : Int32) + jI x).toNatClampNeg) / gL w2 142 ((6 : Int32) + jI y).toNatClampNeg = jL (due S x y 1) := by
                rw [g3, g4, show (-24883200000 : Int64) = jL (-24883200000) from rfl, jL_mul, jL_div (by omega) (by omega) (by omega) (by omega), due2, if_neg (by decide), Int.neg_mul, hqd, ← Int.mul_neg, Int.mul_tdiv_cancel_left _ (by omega)]
              have kn : ¬ gI w3 149 (jI y).toNatClampNeg = 0 := by rw [e1, rt_k hR3 y qy.1 (by omega), bZ_pos z3]; decide +kernel
              have un : gL w3 148 (jI y).toNatClampNeg = jL (TU S x y) := by rw [e1]; exact rt_u hR3 y qy.1 (by omega)
              rcases hk with rfl | rfl
              · refine jr_mn (ax w h) nxy J k4 sj k5 hr rfl (by decide +kernel) i3 i4 g5 hr3 iy kn ?_
                rw [un, e6, jL_eq (by omega) (by omega) (by omega) (by omega)]; exact z6
              · refine jr_an (ax w h) nxy J k4 sj k5 hr rfl rfl hr3 iy kn ?_
                rw [un, show (24883200000 : Int64) = jL (due S x y 2) by rw [due2, if_pos rfl]; rfl, jL_eq (by omega) (by omega) (by omega) (by omega)]; exact z6
            · exact absurd hx nh
  · refine ⟨.inl 0, ok_e (e := 0) (by decide), trivial, fun w h => ?_, fun w h => ?_⟩
    · refine ⟨(-1 : Int32), w, ?_, CO.err (Sm.refl w) rfl h⟩
      by_cases qx : 0 ≤ x ∧ x < S 0
      · have qy : ¬ (0 ≤ y ∧ y < S 0) := fun z => q ⟨qx, z⟩
        exact j_g2 (by rw [s_isGear h hG x1 x2, bZ_pos qx]) (by rw [s_isGear h hG y1 y2, bZ_neg qy])
      · exact j_g1 (by rw [s_isGear h hG x1 x2, bZ_neg qx])
    · exact ⟨jI 0, uI w 141 12 (jI 1), jr_g (by rw [s_rAreGears h hG x1 x2 y1 y2, bZ_neg q]), RO.err (Sm.refl w) rfl rfl⟩

set_option maxHeartbeats 16000000 in
theorem opm_release {S : Ab} (hG : Good S) {x a : Int} (x1 : -2147483648 ≤ x) (x2 : x < 2147483648) (a1 : -2147483648 ≤ a) (a2 : a < 2147483648) : OpM S [0, 1, 4, 3] (fun e => if e = 0 then 1 else if e = 1 then 2 else if e = 4 then 3 else 4) (fun w => f_X1_letGo w (jI x) (jI a)) (fun w => f_X11_releases w (jI x) (jI a)) := by
  have hg := hG.1
  have cg : ∀ w, CSt w 1 S → 0 ≤ x ∧ x < S 0 → f_X7_isGear w (jI x) = some (jI 1) := fun w h q => by rw [s_isGear h hG x1 x2, bZ_pos q]
  have rg : ∀ w, RSt w 142 0 S → 0 ≤ x ∧ x < S 0 → f_X11_isGear w (jI x) = some (jI 1) := fun w h q => by rw [s_rIsGear h hG x1 x2, bZ_pos q]
  have ri : ∀ w, 1 ≤ a ∧ a ≤ 50 → f_X11_in w (jI a) (1 : Int32) (50 : Int32) = some (jI 1) := fun w q => by rw [l32_1, l32_50, s_in w a1 a2 (by omega) (by omega) (by omega) (by omega), bZ_pos q]
  have k1 : 1 ≤ a ∧ a ≤ 50 → ¬ jI a < (1 : Int32) := fun q => by rw [l32_1, jI_lt (by omega) (by omega) (by omega) (by omega)]; omega
  have k2 : 1 ≤ a ∧ a ≤ 50 → jI a ≤ (50 : Int32) := fun q => by rw [l32_50, jI_le (by omega) (by omega) (by omega) (by omega)]; omega
  by_cases q : 0 ≤ x ∧ x < S 0
  · by_cases q1 : 1 ≤ a ∧ a ≤ 50
    · by_cases q2 : 0 < S (26 + x)
      · by_cases q3 : Blk S (TU S x) x
        · refine ⟨.inl 3, ok_e (e := 3) (by decide), trivial, fun w h => ?_, fun w h => ?_⟩
          · obtain ⟨w', m, hr, hs, hC, h'⟩ := s_trace hG h q.1 q.2
            obtain ⟨r, hr2, ⟨rfl, hx⟩ | ⟨rfl, hx⟩⟩ := s_isBlocked h' hG hC (tu_b hG q.1 q.2) (tu_out hG q.1 q.2) q.1 (show x < 10 by omega)
            · exact absurd q3 hx
            · exact ⟨(-4 : Int32), w', lg_4 (cg w h q) (k1 q1) (k2 q1) (by rw [s_hasSpring h hG q.1 (by omega), bZ_pos q2]) hr hr2, CO.err (hs.mono (fun k => KT_C)) rfl h'⟩
          · obtain ⟨w', u, hr, hs, hR, hI, hb⟩ := s_rRubs hG h q.1 q.2
            have e := hI.uniq hG.2.2.2.2.2.2 q.1 (show x < 10 by omega) (tu_is hG q.1 q.2)
            have hR := hR.congr e
            have h' := h.kept (hs.1 142 (by unfold KU; omega)).2
            obtain ⟨r, hr2, ⟨rfl, hx⟩ | ⟨rfl, hx⟩⟩ := s_rHindered h' hG hR (tu_b hG q.1 q.2) q.1 (show x < 10 by omega)
            · exact absurd q3 hx
            · exact ⟨jI 0, uI w' 141 12 (jI 4), rl_4 (rg w h q) (ri w q1) (by rw [s_rHasSpring h hG q.1 (by omega), bZ_pos q2]) hr hr2, RO.err (hs.mono (fun k => KU_M)) (hs.1 141 (by unfold KU; omega)).1 rfl⟩
        · have fb := dg_b S (TU S x)
          have fp := ct_pos (u := TU S x) q.1 (show x < 10 by omega) (by rw [tu_d hG q.1 q.2]; decide)
          have kx := hG.2.1 x q.1 (by omega)
          have k7 := kx.2.2.2.2.2.2.1
          have k9 := kx.2.2.2.2.2.2.2
          have dv0 : 0 ≤ S (36 + x) / dg S (TU S x) := Int.ediv_nonneg (by omega) (by omega)
          have dv1 : dg S (TU S x) * (S (36 + x) / dg S (TU S x)) ≤ S (36 + x) := Int.mul_ediv_self_le (by omega)
          have dv2 : S (36 + x) / dg S (TU S x) ≤ S (36 + x) := Int.ediv_le_self _ (by omega)
          generalize hL : S (36 + x) / dg S (TU S x) = L at dv0 dv1 dv2
          obtain ⟨c, hc⟩ : ∃ c, c = if L < a then L else a := ⟨_, rfl⟩
          have cb : 0 ≤ c ∧ c ≤ 50 ∧ c ≤ L := by rw [hc]; split <;> omega
          have cf : dg S (TU S x) * c ≤ S (36 + x) := Int.le_trans (Int.mul_le_mul_of_nonneg_left cb.2.2 (by omega)) dv1
          have cf0 : 0 ≤ dg S (TU S x) * c := Int.mul_nonneg (by omega) cb.1
          have hG' : Good (rn S x c) := hG.rel q.1 q.2 cb.1 cb.2.1 cf fb.1
          refine ⟨.inr (c, rn S x c), ⟨cb.1, by omega, hG'⟩, (show S 0 ≤ rn S x c 0 by rw [rn_lo (by omega) (by omega), ru_o (by omega) (by omega) (by omega)]; exact Int.le_refl _), fun w h => ?_, fun w h => ?_⟩
          · obtain ⟨w', m, hr, hs, hC, h'⟩ := s_trace hG h q.1 q.2
            obtain ⟨r, hr2, ⟨rfl, hx⟩ | ⟨rfl, hx⟩⟩ := s_isBlocked h' hG hC (tu_b hG q.1 q.2) (tu_out hG q.1 q.2) q.1 (show x < 10 by omega)
            · have hd := s_drag h' hG hC (tu_b hG q.1 q.2) (tu_out hG q.1 q.2)
              have hm : (if jI L < jI a then jI L else jI a) = jI c := by
                rw [hc]
                by_cases z : L < a
                · rw [if_pos z, if_pos (by rw [jI_lt (by omega) (by omega) (by omega) (by omega)]; exact z)]
                · rw [if_neg z, if_neg (by rw [jI_lt (by omega) (by omega) (by omega) (by omega)]; exact z)]
              have ix : inR (jI x) 10 = true := by rw [inR_j (by omega) (by omega)]; omega
              have ex : (jI x).toNatClampNeg = x.toNat := jI_clamp (by omega) (by omega)
              have hq : f_X4_quotient (gI w' 8 (jI x).toNatClampNeg).toInt64 (jI (dg S (TU S x))).toInt64 = some (jL L) := by
                rw [ex, c_n h' x q.1 (by omega), jI_toL (by omega) (by omega), jI_toL (by omega) (by omega), s_quot (by omega) (by omega) (by omega) (by omega), hL]
              by_cases z : c = 0
              · subst z
                exact ⟨jI 0, w', lg_z (cg w h q) (k1 q1) (k2 q1) (by rw [s_hasSpring h hG q.1 (by omega), bZ_pos q2]) hr hr2 hd ix hq (by rw [jL_toI]; exact hm) (by decide +kernel), CO.val (hs.mono (fun k => KT_C)) rfl (h'.congr (rn_0 hG))⟩
              · have u0 : CSt (uI (uI (uI w' 8 x.toNat (jI (S (36 + x) - dg S (TU S x) * c))) 1 15 (jI (S 4 + dg S (TU S x) * c))) 1 16 (jI (S 5 + 1))) 1 (ru S x c) := by
                  have := ((h'.put_n (v := S (36 + x) - dg S (TU S x) * c) q.1 (show x < 10 by omega)).put_tk (v := S 4 + dg S (TU S x) * c)).put_rl (v := S 5 + 1)
                  unfold ru
                  rw [if_pos (show 0 < c by omega)]
                  exact this
                obtain ⟨w2, hw2⟩ : ∃ w2, w2 = uI (uI (uI w' 8 x.toNat (jI (S (36 + x) - dg S (TU S x) * c))) 1 15 (jI (S 4 + dg S (TU S x) * c))) 1 16 (jI (S 5 + 1)) := ⟨_, rfl⟩
                rw [← hw2] at u0
                have hC2 : CT w2 (TU S x) (ct (TU S x)) m := by
                  rw [hw2]
                  obtain ⟨c1, c2, c3⟩ := hC
                  exact ⟨fun y y0 y1 => c1 y y0 y1, by rw [gI_uI, if_neg (by omega), gI_uI, if_neg (by omega), gI_uI, if_neg (by omega)]; exact c2, fun k k0 k1 => by rw [gI_uI, if_neg (by omega), gI_uI, if_neg (by omega), gI_uI, if_neg (by omega)]; exact c3 k k0 k1⟩
                have r0 : ru S x c 0 = S 0 := ru_o (by omega) (by omega) (by omega)
                obtain ⟨w3, hr3, hs3, h3⟩ := s_turnTrain (c := c) (e := er S x c) (rg1 (c := c) hG q.1 (show x < 10 by omega)) (by rw [r0]; omega) u0 hC2 (tu_b hG q.1 q.2) (fun y y0 y1 y2 => tu_out hG q.1 q.2 y y0 y1 (by rw [r0] at y2; exact y2)) cb.1 cb.2.1 (er_c S x c)
                have t0 : t1 (ru S x c) (TU S x) c (er S x c) 0 = S 0 := by rw [t1_o (by omega) (by omega), r0]
                obtain ⟨w4, hr4, hs4, h4⟩ := s_dry (rg2 (c := c) hG q.1 q.2 cb.1 cb.2.1) (fun i i0 i1 i2 => by
                  rw [t0] at i0
                  rw [t1_o (z := 66 + i) (by omega) (by omega)] at i2
                  rw [t1_w (by omega) i1, if_neg (fun z => z.1 (tu_out hG q.1 q.2 i (by omega) i1 i0))]
                  exact ((rg1 (x := x) (c := c) hG q.1 (by omega) i (by omega) i1).2.2 i2).2) (by rw [t0]; omega) h3
                have hsa : Sm KC w' w2 := by rw [hw2]; exact ((Sm.wI w' (by unfold KC; omega)).tr (Sm.wI _ (by unfold KC; omega))).tr (Sm.wI _ (by unfold KC; omega))
                refine ⟨jI c, w4, lg_p (cg w h q) (k1 q1) (k2 q1) (by rw [s_hasSpring h hG q.1 (by omega), bZ_pos q2]) hr hr2 hd ix hq (by rw [jL_toI]; exact hm) ?_ (w2 := w2) ?_ ?_ hr4, CO.val ((((hs.mono (fun k => KT_C)).tr hsa).tr (hs3.mono (fun k hk => by unfold KA at hk; unfold KC; omega))).tr (hs4.mono (fun k hk => by unfold KD at hk; unfold KC; omega))) rfl h4⟩
                · rw [l32_0, jI_le (by omega) (by omega) (by omega) (by omega)]; omega
                · rw [hw2, ex, c_n h' x q.1 (by omega), jI_mul, jI_sub, gI_uI, if_neg (by omega), c_tk h', jI_add, gI_uI, if_neg (by omega), gI_uI, if_neg (by omega), c_rl h', l32_1, jI_add]
                · have v9 : gI w2 9 (jI x).toNatClampNeg = jI (S (46 + x)) := by
                    rw [ex, hw2, gI_uI, if_neg (by omega), gI_uI, if_neg (by omega), gI_uI, if_neg (by omega), c_v h' x q.1 (by omega)]
                  rcases k7 with k7 | k7
                  · rw [show er S x c = c by unfold er; rw [k7, if_neg (by decide)]] at hr3
                    exact Or.inl ⟨by rw [v9, k7]; rfl, hr3⟩
                  · rw [show er S x c = -c by unfold er; rw [k7, if_pos rfl], ← jI_neg] at hr3
                    exact Or.inr ⟨by rw [v9, k7]; decide +kernel, hr3⟩
            · exact absurd hx q3
          · obtain ⟨w', u, hr, hs, hR, hI, hb⟩ := s_rRubs hG h q.1 q.2
            have e := hI.uniq hG.2.2.2.2.2.2 q.1 (show x < 10 by omega) (tu_is hG q.1 q.2)
            have hR := hR.congr e
            have h' := h.kept (hs.1 142 (by unfold KU; omega)).2
            have edg : dg S u = dg S (TU S x) := by
              unfold dg
              rw [ct_congr (u := u) (v := TU S x) (fun y y0 y1 => by rw [e y y0 y1]), sm_congr (g := fun i => if u i ≠ 0 ∧ S (66 + i) = 0 then 1 else 0) (h := fun i => if TU S x i ≠ 0 ∧ S (66 + i) = 0 then 1 else 0) (fun i i0 i1 => by show (if u i ≠ 0 ∧ _ then _ else _) = _; rw [e i i0 i1])]
            rw [edg] at hr
            obtain ⟨r, hr2, ⟨rfl, hx⟩ | ⟨rfl, hx⟩⟩ := s_rHindered h' hG hR (tu_b hG q.1 q.2) q.1 (show x < 10 by omega)
            · obtain ⟨w2, hr3, hs3, h3⟩ := s_rTurnsBy (x := x) (c := c) (e := er S x c) (fun i i0 i1 => ⟨(hG.2.1 i i0 i1).2.2.1, (hG.2.1 i i0 i1).2.2.2.1⟩) h' hR (tu_b hG q.1 q.2) cb.1 cb.2.1 q.1 (by omega) k7 rfl
              have e36 : gL w2 142 (36 + x).toNat = jL (S (36 + x)) := by rw [r_g h3 _ (by omega) (by omega), t1_o (by omega) (by omega)]
              have e4 : gL w2 142 (4 : Int).toNat = jL (S 4) := by rw [r_g h3 _ (by omega) (by omega), t1_o (by omega) (by omega)]
              have e5 : gL w2 142 (5 : Int).toNat = jL (S 5) := by rw [r_g h3 _ (by omega) (by omega), t1_o (by omega) (by omega)]
              have h4 := RSt.rel (f := dg S (TU S x) * c) (d := if 0 < c then 1 else 0) q.1 (show x < 10 by omega) h3
              obtain ⟨w4, hr4, hs4, h5⟩ := s_rDries (rg2 (c := c) hG q.1 q.2 cb.1 cb.2.1) h4
              have hs6 : Sm KM w w4 := (((((hs.mono (fun k => KU_M)).tr (hs3.mono (fun k hk => by unfold KG at hk; unfold KM; omega))).tr (Sm.wL _ (by unfold KM; omega))).tr (Sm.wL _ (by unfold KM; omega))).tr (Sm.wL _ (by unfold KM; omega))).tr (hs4.mono (fun k hk => by unfold KG at hk; unfold KM; omega))
              have h141 : gI w4 141 = gI w 141 := ((hs4.1 141 (by unfold KG; omega)).1.trans (hs3.1 141 (by unfold KG; omega)).1).trans (hs.1 141 (by unfold KU; omega)).1
              have et : (S (36 + x)).tdiv (dg S (TU S x)) = L := by rw [Int.tdiv_eq_ediv_of_nonneg (by omega)]; exact hL
              have i36 : ((36 : Int32) + jI x) = jI (36 + x) := by rw [l32_36, jI_add]
              have c36 : ((36 : Int32) + jI x).toNatClampNeg = (36 + x).toNat := by rw [i36, jI_clamp (by omega) (by omega)]
              have ed : jI (S (36 + x)) / jI (dg S (TU S x)) = jI L := by rw [jI_div (by omega) (by omega) (by omega) (by omega), et]
              have c4 : ((4 : Int32)).toNatClampNeg = (4 : Int).toNat := rfl
              have c5 : ((5 : Int32)).toNatClampNeg = (5 : Int).toNat := rfl
              have em : (jI (dg S (TU S x)) * jI c).toInt64 = jL (dg S (TU S x) * c) := by rw [jI_mul, jI_toL (by omega) (by omega)]
              refine ⟨jI c, uI w4 141 12 (jI 0), rl_p (rg w h q) (ri w q1) (by rw [s_rHasSpring h hG q.1 (by omega), bZ_pos q2]) hr hr2 (by rw [i36]; exact s_at h' (by omega) (by omega)) ?_ ?_ (by rw [jI_toL (by omega) (by omega)]; exact hr3) (by rw [i36, inR_j (by omega) (by omega)]; omega) rfl (d := jL (if 0 < c then 1 else 0)) ?_ ?_, RO.val hs6 h141 h5⟩
              · rw [l32_0, jI_eq (by omega) (by omega) (by omega) (by omega)]; omega
              · rw [ed]
                by_cases z : L ≤ a
                · refine Or.inl ⟨by rw [jI_le (by omega) (by omega) (by omega) (by omega)]; exact z, ?_⟩
                  rw [show c = L by rw [hc]; split <;> omega]
                · refine Or.inr ⟨by rw [jI_le (by omega) (by omega) (by omega) (by omega)]; exact z, ?_⟩
                  rw [show c = a by rw [hc]; split <;> omega]
              · rw [l32_0, jI_le (by omega) (by omega) (by omega) (by omega)]
                by_cases z : 0 < c
                · exact Or.inr ⟨by omega, by rw [if_pos z]; rfl⟩
                · exact Or.inl ⟨by omega, by rw [if_neg z]; rfl⟩
              · rw [c36, e36, em, jL_sub, c4, gL_uL, if_neg (by omega), e4, jL_add, c5, gL_uL, if_neg (by omega), gL_uL, if_neg (by omega), e5, jL_add]
                exact hr4
            · exact absurd hx q3
      · refine ⟨.inl 4, ok_e (e := 4) (by decide), trivial, fun w h => ?_, fun w h => ?_⟩
        · exact ⟨(-5 : Int32), w, lg_5 (cg w h q) (k1 q1) (k2 q1) (by rw [s_hasSpring h hG q.1 (by omega), bZ_neg q2]), CO.err (Sm.refl w) rfl h⟩
        · exact ⟨jI 0, uI w 141 12 (jI 3), rl_3 (rg w h q) (ri w q1) (by rw [s_rHasSpring h hG q.1 (by omega), bZ_neg q2]), RO.err (Sm.refl w) rfl rfl⟩
    · refine ⟨.inl 1, ok_e (e := 1) (by decide), trivial, fun w h => ?_, fun w h => ?_⟩
      · refine ⟨(-2 : Int32), w, lg_1 (cg w h q) ?_, CO.err (Sm.refl w) rfl h⟩
        rw [l32_1, l32_50, jI_lt (by omega) (by omega) (by omega) (by omega), jI_le (by omega) (by omega) (by omega) (by omega)]
        omega
      · exact ⟨jI 0, uI w 141 12 (jI 2), rl_1 (rg w h q) (by rw [l32_1, l32_50, s_in w a1 a2 (by omega) (by omega) (by omega) (by omega), bZ_neg q1]), RO.err (Sm.refl w) rfl rfl⟩
  · refine ⟨.inl 0, ok_e (e := 0) (by decide), trivial, fun w h => ?_, fun w h => ?_⟩
    · exact ⟨(-1 : Int32), w, lg_0 (by rw [s_isGear h hG x1 x2, bZ_neg q]), CO.err (Sm.refl w) rfl h⟩
    · exact ⟨jI 0, uI w 141 12 (jI 1), rl_0 (by rw [s_rIsGear h hG x1 x2, bZ_neg q]), RO.err (Sm.refl w) rfl rfl⟩

