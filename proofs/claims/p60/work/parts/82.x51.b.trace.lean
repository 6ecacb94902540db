/-! THE CLASS'S SEARCH -/
def KT (k : Nat) : Prop := k = 124 ∨ k = 125 ∨ k = 126
def CT (w : Wd) (u : Ab) (sz : Int) (m : Ab) : Prop := (∀ x : Int, 0 ≤ x → x < 10 → gL w 125 x.toNat = jL (u x)) ∧ gI w 124 2 = jI sz ∧ ∀ k : Int, 0 ≤ k → k < sz → gI w 126 k.toNat = jI (m k)
theorem s_reach {w : Wd} {u m : Ab} {sz g v : Int} (h : CT w u sz m) (hs : 0 ≤ sz) (hs9 : sz < 10) (g0 : 0 ≤ g) (g1 : g < 10) :
    ∃ w', f_X8_reach w (jI g) (jL v) = some w' ∧ Sm KT w w' ∧ CT w' (up u g v) (sz + 1) (up m sz g) := by
  obtain ⟨h1, h2, h3⟩ := h
  refine ⟨uI (uI (uL w 125 g.toNat (jL v)) 126 sz.toNat (jI g)) 124 2 (jI (sz + 1)), ?_, ?_, ?_, ?_, ?_⟩
  · unfold f_X8_reach
    simp (disch := omega) only [l32_0, l32_1, l32_2, l32_3, l32_4, l32_5, l32_6, l32_7, l32_8, l32_9, l32_10, l32_11, l32_12, l32_13, l32_14, l32_15, l32_16, l32_17, l32_18, l32_19, l32_20, l32_21, l32_22, l32_23, l32_24, l32_25, l32_26, l32_27, l32_28, l32_29, l32_30, l32_31, l32_32, l32_33, l32_34, l32_35, l32_36, l32_37, l32_38, l32_39, l32_40, l32_41, l32_42, l32_43, l32_44, l32_45, l32_46, l32_47, l32_48, l32_49, l32_50, l32_51, l32_52, l32_53, l32_54, l32_55, l32_56, l32_57, l32_58, l32_59, l32_60, l32_61, l32_62, l32_63, l32_64, l32_65, l32_66, l32_76, l32_86, l32_90, l32_92, l32_97, l32_98, l32_99, l32_100, l32_101, l32_102, l32_103, l32_104, l32_105, l32_106, l32_107, l32_108, l32_109, l32_110, l32_111, l32_112, l32_113, l32_114, l32_115, l32_116, l32_117, l32_118, l32_119, l32_120, l32_121, l32_122, l32_123, l32_124, l32_125, l32_126, l32_192, l32_200, l32_255, l32_999, l32_1000, l32_1344, l32_2147483639, l32_2147483647, l64_0, l64_1, l64_99, l64_999, l64_24883200000, l64_746496000000, jI_add, jI_sub, jI_mul, jI_neg, jL_add, jL_sub, jL_mul, jL_neg, jL_toI, jI_toL, jI_lt, jI_le, jI_eq, jL_lt, jL_le, jL_eq, inR_j, jI_clamp, nI_j, Option.bind_some, zc, u2, u3, u4, u5, wl, mo, if_pos, if_neg, ite_true, ite_false, gI_uL, gI_uI, h2]
  · exact ((Sm.wL w (Or.inr (Or.inl rfl))).tr (Sm.wI _ (Or.inr (Or.inr rfl)))).tr (Sm.wI _ (Or.inl rfl))
  · intro x x0 x1
    rw [gL_uI, gL_uI, gL_uL]
    by_cases z : x = g
    · rw [z, if_pos ⟨rfl, rfl⟩, up_eq]
    · rw [if_neg (by omega), up_ne z, h1 x x0 x1]
  · rw [gI_uI, if_pos ⟨rfl, rfl⟩]
  · intro k k0 k1
    rw [gI_uI, if_neg (by omega), gI_uI]
    by_cases z : k = sz
    · rw [z, if_pos ⟨rfl, rfl⟩, up_eq]
    · rw [if_neg (by omega), up_ne z, gI_uL, h3 k k0 (by omega)]
theorem s_jointOf {w : Wd} {S : Ab} (h : CSt w 1 S) {a b : Int} (a0 : 0 ≤ a) (a1 : a < 10) (b0 : 0 ≤ b) (b1 : b < 10) : f_X7_jointOf w (jI a) (jI b) = some (jI (jk (S (92 + 10 * a + b)))) := by
  unfold f_X7_jointOf
  simp (disch := omega) only [l32_0, l32_1, l32_2, l32_3, l32_4, l32_5, l32_6, l32_7, l32_8, l32_9, l32_10, l32_11, l32_12, l32_13, l32_14, l32_15, l32_16, l32_17, l32_18, l32_19, l32_20, l32_21, l32_22, l32_23, l32_24, l32_25, l32_26, l32_27, l32_28, l32_29, l32_30, l32_31, l32_32, l32_33, l32_34, l32_35, l32_36, l32_37, l32_38, l32_39, l32_40, l32_41, l32_42, l32_43, l32_44, l32_45, l32_46, l32_47, l32_48, l32_49, l32_50, l32_51, l32_52, l32_53, l32_54, l32_55, l32_56, l32_57, l32_58, l32_59, l32_60, l32_61, l32_62, l32_63, l32_64, l32_65, l32_66, l32_76, l32_86, l32_90, l32_92, l32_97, l32_98, l32_99, l32_100, l32_101, l32_102, l32_103, l32_104, l32_105, l32_106, l32_107, l32_108, l32_109, l32_110, l32_111, l32_112, l32_113, l32_114, l32_115, l32_116, l32_117, l32_118, l32_119, l32_120, l32_121, l32_122, l32_123, l32_124, l32_125, l32_126, l32_192, l32_200, l32_255, l32_999, l32_1000, l32_1344, l32_2147483639, l32_2147483647, l64_0, l64_1, l64_99, l64_999, l64_24883200000, l64_746496000000, jI_add, jI_sub, jI_mul, jI_neg, jL_add, jL_sub, jL_mul, jL_neg, jL_toI, jI_toL, jI_lt, jI_le, jI_eq, jL_lt, jL_le, jL_eq, inR_j, jI_clamp, nI_j, Option.bind_some, zc, u2, u3, u4, u5, wl, mo, if_pos, if_neg, ite_true, ite_false, c_jt h, jk_nar]
theorem s_unitsBehind {w : Wd} {S : Ab} (hG : Good S) (h : CSt w 1 S) {a b c : Int} (a0 : 0 ≤ a) (a1 : a < S 0) (b0 : 0 ≤ b) (b1 : b < S 0) (c1 : -14929920000000000 ≤ c * S (6 + a)) (c2 : c * S (6 + a) ≤ 14929920000000000) {k : Int} (hk : k = 0 ∨ k = 1 ∨ k = 2) :
    f_X7_unitsBehind w (jL c) (jI a) (jI b) (jI (jk k)) = some (jL (if k = 2 then c else -(c * S (6 + a) / S (6 + b)))) := by
  have hg := hG.1
  have ta := tooth_b ((hG.2.1 a a0 (by omega)).1 a1)
  have tb := tooth_b ((hG.2.1 b b0 (by omega)).1 b1)
  have hj := jk_b k
  have e1 : jk k = 97 ↔ k = 2 := by rcases hk with rfl | rfl | rfl <;> decide
  unfold f_X7_unitsBehind
  by_cases q : k = 2
  · rw [if_pos q, e1.mpr q, if_pos (show jI 97 = 97 from rfl)]
  · have q2 : jk k ≠ 97 := fun z => q (e1.mp z)
    rw [if_neg q]
    simp (disch := omega) only [l32_0, l32_1, l32_2, l32_3, l32_4, l32_5, l32_6, l32_7, l32_8, l32_9, l32_10, l32_11, l32_12, l32_13, l32_14, l32_15, l32_16, l32_17, l32_18, l32_19, l32_20, l32_21, l32_22, l32_23, l32_24, l32_25, l32_26, l32_27, l32_28, l32_29, l32_30, l32_31, l32_32, l32_33, l32_34, l32_35, l32_36, l32_37, l32_38, l32_39, l32_40, l32_41, l32_42, l32_43, l32_44, l32_45, l32_46, l32_47, l32_48, l32_49, l32_50, l32_51, l32_52, l32_53, l32_54, l32_55, l32_56, l32_57, l32_58, l32_59, l32_60, l32_61, l32_62, l32_63, l32_64, l32_65, l32_66, l32_76, l32_86, l32_90, l32_92, l32_97, l32_98, l32_99, l32_100, l32_101, l32_102, l32_103, l32_104, l32_105, l32_106, l32_107, l32_108, l32_109, l32_110, l32_111, l32_112, l32_113, l32_114, l32_115, l32_116, l32_117, l32_118, l32_119, l32_120, l32_121, l32_122, l32_123, l32_124, l32_125, l32_126, l32_192, l32_200, l32_255, l32_999, l32_1000, l32_1344, l32_2147483639, l32_2147483647, l64_0, l64_1, l64_99, l64_999, l64_24883200000, l64_746496000000, jI_add, jI_sub, jI_mul, jI_neg, jL_add, jL_sub, jL_mul, jL_neg, jL_toI, jI_toL, jI_lt, jI_le, jI_eq, jL_lt, jL_le, jL_eq, inR_j, jI_clamp, nI_j, Option.bind_some, zc, u2, u3, u4, u5, wl, mo, if_pos, if_neg, ite_true, ite_false, c_t h, s_quot]
theorem s_trace0 {w : Wd} {S : Ab} {d : Int} (hG : Good S) (h : CSt w 1 S) (d0 : 0 ≤ d) (d1 : d < S 0) :
    ∃ w', f_X8_trace w (jI d) = some w' ∧ Sm KT w w' ∧ ∃ u m, CT w' u (ct u) m ∧ IsTr S d u ∧ ∀ x, 0 ≤ x → x < 10 → -14929920000000000 ≤ u x ∧ u x ≤ 14929920000000000 := by
  have hg := hG.1
  have keep : ∀ {w w' : Wd}, CSt w 1 S → Sm KT w w' → CSt w' 1 S := by
    intro w w' h hs
    exact h.kept (fun r hr => hs.1 _ (by unfold KT; omega))
  -- the row of units is emptied
  obtain ⟨r, hr, hP⟩ := lp (fun n (s : Int32 × Wd) => p_X8_trace_2 n s.1 s.2) (fun i s => s.1 = jI i ∧ Sm KT w s.2 ∧ ∀ x : Int, 0 ≤ x → x < i → gL s.2 125 x.toNat = jL 0) 10 (fun r => ∃ q, r = .inl q ∧ Sm KT w q.2 ∧ ∀ x : Int, 0 ≤ x → x < 10 → gL q.2 125 x.toNat = jL 0)
    (fun i n s hi hI => by
      obtain ⟨y, v⟩ := s
      obtain ⟨rfl, hs, hx⟩ := hI
      refine Or.inl ⟨(jI ((i + 1 : Nat) : Int), uL v 125 i (jL 0)), ⟨rfl, hs.tr (Sm.wL v (Or.inr (Or.inl rfl))), fun x x0 x1 => ?_⟩, ?_⟩
      · show gL (uL v 125 i (jL 0)) 125 x.toNat = jL 0
        rw [gL_uL]
        by_cases z : x.toNat = i
        · rw [if_pos ⟨rfl, z⟩]
        · rw [if_neg (fun q => z q.2)]; exact hx x x0 (by omega)
      · show p_X8_trace_2 (n + 1) (jI i) v = p_X8_trace_2 n (jI ((i + 1 : Nat) : Int)) (uL v 125 i (jL 0))
        rw [p_X8_trace_2]
        simp (disch := omega) only [l32_0, l32_1, l32_2, l32_3, l32_4, l32_5, l32_6, l32_7, l32_8, l32_9, l32_10, l32_11, l32_12, l32_13, l32_14, l32_15, l32_16, l32_17, l32_18, l32_19, l32_20, l32_21, l32_22, l32_23, l32_24, l32_25, l32_26, l32_27, l32_28, l32_29, l32_30, l32_31, l32_32, l32_33, l32_34, l32_35, l32_36, l32_37, l32_38, l32_39, l32_40, l32_41, l32_42, l32_43, l32_44, l32_45, l32_46, l32_47, l32_48, l32_49, l32_50, l32_51, l32_52, l32_53, l32_54, l32_55, l32_56, l32_57, l32_58, l32_59, l32_60, l32_61, l32_62, l32_63, l32_64, l32_65, l32_66, l32_76, l32_86, l32_90, l32_92, l32_97, l32_98, l32_99, l32_100, l32_101, l32_102, l32_103, l32_104, l32_105, l32_106, l32_107, l32_108, l32_109, l32_110, l32_111, l32_112, l32_113, l32_114, l32_115, l32_116, l32_117, l32_118, l32_119, l32_120, l32_121, l32_122, l32_123, l32_124, l32_125, l32_126, l32_192, l32_200, l32_255, l32_999, l32_1000, l32_1344, l32_2147483639, l32_2147483647, l64_0, l64_1, l64_99, l64_999, l64_24883200000, l64_746496000000, jI_add, jI_sub, jI_mul, jI_neg, jL_add, jL_sub, jL_mul, jL_neg, jL_toI, jI_toL, jI_lt, jI_le, jI_eq, jL_lt, jL_le, jL_eq, inR_j, jI_clamp, nI_j, Option.bind_some, zc, u2, u3, u4, u5, wl, mo, if_pos, if_neg, ite_true, ite_false, Int.toNat_natCast]
        rfl)
    (fun n s hI => by
      obtain ⟨y, v⟩ := s
      obtain ⟨rfl, hs, hx⟩ := hI
      refine ⟨.inl (jI 10, v), ?_, (jI 10, v), rfl, hs, hx⟩
      show p_X8_trace_2 (n + 1) (jI ((10 : Nat) : Int)) v = _
      rw [p_X8_trace_2]
      simp (disch := omega) only [l32_0, l32_1, l32_2, l32_3, l32_4, l32_5, l32_6, l32_7, l32_8, l32_9, l32_10, l32_11, l32_12, l32_13, l32_14, l32_15, l32_16, l32_17, l32_18, l32_19, l32_20, l32_21, l32_22, l32_23, l32_24, l32_25, l32_26, l32_27, l32_28, l32_29, l32_30, l32_31, l32_32, l32_33, l32_34, l32_35, l32_36, l32_37, l32_38, l32_39, l32_40, l32_41, l32_42, l32_43, l32_44, l32_45, l32_46, l32_47, l32_48, l32_49, l32_50, l32_51, l32_52, l32_53, l32_54, l32_55, l32_56, l32_57, l32_58, l32_59, l32_60, l32_61, l32_62, l32_63, l32_64, l32_65, l32_66, l32_76, l32_86, l32_90, l32_92, l32_97, l32_98, l32_99, l32_100, l32_101, l32_102, l32_103, l32_104, l32_105, l32_106, l32_107, l32_108, l32_109, l32_110, l32_111, l32_112, l32_113, l32_114, l32_115, l32_116, l32_117, l32_118, l32_119, l32_120, l32_121, l32_122, l32_123, l32_124, l32_125, l32_126, l32_192, l32_200, l32_255, l32_999, l32_1000, l32_1344, l32_2147483639, l32_2147483647, l64_0, l64_1, l64_99, l64_999, l64_24883200000, l64_746496000000, jI_add, jI_sub, jI_mul, jI_neg, jL_add, jL_sub, jL_mul, jL_neg, jL_toI, jI_toL, jI_lt, jI_le, jI_eq, jL_lt, jL_le, jL_eq, inR_j, jI_clamp, nI_j, Option.bind_some, zc, u2, u3, u4, u5, wl, mo, if_pos, if_neg, ite_true, ite_false]
      rfl) 2000 0 (jI 0, w) (by omega) (by omega) ⟨rfl, Sm.refl w, fun x x0 x1 => by omega⟩
  obtain ⟨q, rfl, hs2, hz⟩ := hP
  obtain ⟨y1, w2⟩ := q
  have hr : p_X8_trace_2 2000 (jI 0) w = some (.inl (y1, w2)) := hr
  -- the first gear
  have hC0 : CT (uI w2 124 2 (jI 0)) (fun _ => 0) 0 (fun _ => 0) := by
    refine ⟨fun x x0 x1 => ?_, ?_, fun k k0 k1 => by omega⟩
    · rw [gL_uI]; exact hz x x0 x1
    · rw [gI_uI, if_pos ⟨rfl, rfl⟩]
  obtain ⟨w3, hr3, hs3, hC3⟩ := s_reach (v := 24883200000) hC0 (by decide) (by decide) d0 (by omega)
  have hs3 : Sm KT w w3 := hs2.tr ((Sm.wI _ (Or.inl rfl)).tr hs3)
  have ct1 : ct (up (fun _ => 0) d 24883200000) = 1 := by
    rw [ct_up d0 (by omega) rfl (by decide)]; rfl
  have T0 : TI S d (up (fun _ => 0) d 24883200000) := by
    refine ⟨by rw [up_eq]; decide, fun x x0 x1 hx => ?_⟩
    by_cases z : x = d
    · subst z
      rw [up_eq, ct1]
      exact ⟨d1, Reach.refl S x, J_root _, fun P _ => rfl⟩
    · rw [up_ne z] at hx; exact absurd rfl hx
  -- the search
  obtain ⟨r4, hr4, hP4⟩ := lp (fun n (s : Int32 × Wd) => p_X8_trace_36 n s.1 s.2)
    (fun i s => s.1 = jI i ∧ Sm KT w s.2 ∧ ∃ u m, CT s.2 u (ct u) m ∧ TI S d u ∧ (i : Int) ≤ ct u ∧ (∀ k : Int, 0 ≤ k → k < ct u → 0 ≤ m k ∧ m k < 10 ∧ u (m k) ≠ 0) ∧ (∀ x, 0 ≤ x → x < 10 → u x ≠ 0 → ∃ k : Int, 0 ≤ k ∧ k < ct u ∧ m k = x) ∧ ∀ k : Int, 0 ≤ k → k < i → ∀ b, 0 ≤ b → b < 10 → S (92 + 10 * m k + b) ≠ 0 → u b ≠ 0) 10
    (fun r => ∃ q, r = .inl q ∧ Sm KT w q.2 ∧ ∃ u m, CT q.2 u (ct u) m ∧ TI S d u ∧ ∀ a b, 0 ≤ a → a < 10 → 0 ≤ b → b < 10 → u a ≠ 0 → S (92 + 10 * a + b) ≠ 0 → u b ≠ 0)
    (fun i n s hi hI => by
      obtain ⟨y, v⟩ := s
      obtain ⟨rfl, hs, u, m, hC, hT, hic, hm1, hm2, hcl⟩ := hI
      have c10 := ct_hi u
      obtain ⟨e1, e2, e3⟩ := hC
      by_cases hlt : (i : Int) < ct u
      · -- a gear's neighbours
        obtain ⟨g0, g1, gu⟩ := hm1 i (by omega) hlt
        have gS := (hT.2 (m i) g0 g1 gu).1
        obtain ⟨r5, hr5, hP5⟩ := lp (fun n (s : Int32 × Wd) => p_X8_trace_61 (jI (m i)) n s.1 s.2)
          (fun j s => s.1 = jI j ∧ Sm KT w s.2 ∧ ∃ ux mx, CT s.2 ux (ct ux) mx ∧ TI S d ux ∧ ct u ≤ ct ux ∧ (∀ k : Int, 0 ≤ k → k < ct u → mx k = m k) ∧ (∀ x, u x ≠ 0 → ux x ≠ 0) ∧ (∀ k : Int, 0 ≤ k → k < ct ux → 0 ≤ mx k ∧ mx k < 10 ∧ ux (mx k) ≠ 0) ∧ (∀ x, 0 ≤ x → x < 10 → ux x ≠ 0 → ∃ k : Int, 0 ≤ k ∧ k < ct ux ∧ mx k = x) ∧ ∀ b : Int, 0 ≤ b → b < j → S (92 + 10 * m i + b) ≠ 0 → ux b ≠ 0) (S 0).toNat
          (fun r => ∃ q, r = .inl q ∧ Sm KT w q.2 ∧ ∃ ux mx, CT q.2 ux (ct ux) mx ∧ TI S d ux ∧ ct u ≤ ct ux ∧ (∀ k : Int, 0 ≤ k → k < ct u → mx k = m k) ∧ (∀ x, u x ≠ 0 → ux x ≠ 0) ∧ (∀ k : Int, 0 ≤ k → k < ct ux → 0 ≤ mx k ∧ mx k < 10 ∧ ux (mx k) ≠ 0) ∧ (∀ x, 0 ≤ x → x < 10 → ux x ≠ 0 → ∃ k : Int, 0 ≤ k ∧ k < ct ux ∧ mx k = x) ∧ ∀ b, 0 ≤ b → b < S 0 → S (92 + 10 * m i + b) ≠ 0 → ux b ≠ 0)
          (fun j n s hj hI => by
            obtain ⟨y, v⟩ := s
            obtain ⟨rfl, hs, ux, mx, hC, hT2, l1, l2, l3, l4, l5, l6⟩ := hI
            have hc := keep h hs
            have hC' := hC
            obtain ⟨f1, f2, f3⟩ := hC
            have jj := jk_b (S (92 + 10 * m i + j))
            have sj := s_jointOf hc g0 g1 (b := j) (by omega) (by omega)
            have d2 := hG.2.2.2.1 (m i) j g0 g1 (by omega) (by omega)
            by_cases q : S (92 + 10 * m i + j) = 0
            · refine Or.inl ⟨(jI ((j + 1 : Nat) : Int), v), ⟨rfl, hs, ux, mx, hC', hT2, l1, l2, l3, l4, l5, fun b b0 b1 => ?_⟩, ?_⟩
              · by_cases z : b = j
                · rw [z]; exact fun z2 => absurd q z2
                · exact l6 b b0 (by omega)
              · show p_X8_trace_61 (jI (m i)) (n + 1) (jI j) v = p_X8_trace_61 (jI (m i)) n (jI ((j + 1 : Nat) : Int)) v
                have q2 : jk (S (92 + 10 * m i + j)) = 0 := jk_0.mpr q
                rw [p_X8_trace_61]
                simp (disch := omega) only [l32_0, l32_1, l32_2, l32_3, l32_4, l32_5, l32_6, l32_7, l32_8, l32_9, l32_10, l32_11, l32_12, l32_13, l32_14, l32_15, l32_16, l32_17, l32_18, l32_19, l32_20, l32_21, l32_22, l32_23, l32_24, l32_25, l32_26, l32_27, l32_28, l32_29, l32_30, l32_31, l32_32, l32_33, l32_34, l32_35, l32_36, l32_37, l32_38, l32_39, l32_40, l32_41, l32_42, l32_43, l32_44, l32_45, l32_46, l32_47, l32_48, l32_49, l32_50, l32_51, l32_52, l32_53, l32_54, l32_55, l32_56, l32_57, l32_58, l32_59, l32_60, l32_61, l32_62, l32_63, l32_64, l32_65, l32_66, l32_76, l32_86, l32_90, l32_92, l32_97, l32_98, l32_99, l32_100, l32_101, l32_102, l32_103, l32_104, l32_105, l32_106, l32_107, l32_108, l32_109, l32_110, l32_111, l32_112, l32_113, l32_114, l32_115, l32_116, l32_117, l32_118, l32_119, l32_120, l32_121, l32_122, l32_123, l32_124, l32_125, l32_126, l32_192, l32_200, l32_255, l32_999, l32_1000, l32_1344, l32_2147483639, l32_2147483647, l64_0, l64_1, l64_99, l64_999, l64_24883200000, l64_746496000000, jI_add, jI_sub, jI_mul, jI_neg, jL_add, jL_sub, jL_mul, jL_neg, jL_toI, jI_toL, jI_lt, jI_le, jI_eq, jL_lt, jL_le, jL_eq, inR_j, jI_clamp, nI_j, Option.bind_some, zc, u2, u3, u4, u5, wl, mo, if_pos, if_neg, ite_true, ite_false, c_g hc, sj]
                rfl
            · have q2 : jk (S (92 + 10 * m i + j)) ≠ 0 := fun z => q (jk_0.mp z)
              by_cases q3 : ux j = 0
              · -- a new gear
                have hst := hT2.step hG g0 g1 (b := j) (by omega) (by omega) (l3 _ gu) q3 q
                have hb := hT2.2 (m i) g0 g1 (l3 _ gu)
                have c9 := ct_9 (x := j) (by omega) (by omega) q3
                have c0 := ct_lo ux
                have hJb := J_b (by omega) ((hG.2.1 (m i) g0 g1).1 gS) hb.2.2.1
                have sb := s_unitsBehind hG hc g0 gS (b := j) (by omega) (d2.2.2 q).2.2 hJb.2.2.1 hJb.2.2.2 d2.2.1
                obtain ⟨v6, hr6, hs6, hC6⟩ := s_reach (g := j) (v := Bh S (ux (m i)) (m i) j) hC' c0 (by omega) (by omega) (by omega)
                have cu := ct_up (u := ux) (x := j) (by omega) (by omega) q3 hst.2.1
                refine Or.inl ⟨(jI ((j + 1 : Nat) : Int), v6), ⟨rfl, hs.tr hs6, up ux j (Bh S (ux (m i)) (m i) j), up mx (ct ux) j, by rw [cu]; exact hC6, hst.1, by omega, fun k k0 k1 => by rw [up_ne (by omega)]; exact l2 k k0 k1, fun x hx => ?_, fun k k0 k1 => ?_, fun x x0 x1 hx => ?_, fun b b0 b1 hb2 => ?_⟩, ?_⟩
                · by_cases z : x = j
                  · rw [z, up_eq]; exact hst.2.1
                  · rw [up_ne z]; exact l3 x hx
                · by_cases z : k = ct ux
                  · rw [z, up_eq]; exact ⟨by omega, by omega, by rw [up_eq]; exact hst.2.1⟩
                  · rw [up_ne z]
                    obtain ⟨t1, t2, t3⟩ := l4 k k0 (by omega)
                    refine ⟨t1, t2, ?_⟩
                    by_cases z2 : mx k = j
                    · rw [z2, up_eq]; exact hst.2.1
                    · rw [up_ne z2]; exact t3
                · by_cases z : x = j
                  · exact ⟨ct ux, by omega, by omega, by rw [up_eq, z]⟩
                  · rw [up_ne z] at hx
                    obtain ⟨k, k0, k1, k2⟩ := l5 x x0 x1 hx
                    exact ⟨k, k0, by omega, by rw [up_ne (by omega)]; exact k2⟩
                · by_cases z : b = j
                  · rw [z, up_eq]; exact hst.2.1
                  · rw [up_ne z]; exact l6 b b0 (by omega) hb2
                · show p_X8_trace_61 (jI (m i)) (n + 1) (jI j) v = p_X8_trace_61 (jI (m i)) n (jI ((j + 1 : Nat) : Int)) v6
                  have sb2 : f_X7_unitsBehind v (jL (ux (m i))) (jI (m i)) (jI j) (jI (jk (S (92 + 10 * m i + j)))) = some (jL (Bh S (ux (m i)) (m i) j)) := sb
                  rw [p_X8_trace_61]
                  simp (disch := omega) only [l32_0, l32_1, l32_2, l32_3, l32_4, l32_5, l32_6, l32_7, l32_8, l32_9, l32_10, l32_11, l32_12, l32_13, l32_14, l32_15, l32_16, l32_17, l32_18, l32_19, l32_20, l32_21, l32_22, l32_23, l32_24, l32_25, l32_26, l32_27, l32_28, l32_29, l32_30, l32_31, l32_32, l32_33, l32_34, l32_35, l32_36, l32_37, l32_38, l32_39, l32_40, l32_41, l32_42, l32_43, l32_44, l32_45, l32_46, l32_47, l32_48, l32_49, l32_50, l32_51, l32_52, l32_53, l32_54, l32_55, l32_56, l32_57, l32_58, l32_59, l32_60, l32_61, l32_62, l32_63, l32_64, l32_65, l32_66, l32_76, l32_86, l32_90, l32_92, l32_97, l32_98, l32_99, l32_100, l32_101, l32_102, l32_103, l32_104, l32_105, l32_106, l32_107, l32_108, l32_109, l32_110, l32_111, l32_112, l32_113, l32_114, l32_115, l32_116, l32_117, l32_118, l32_119, l32_120, l32_121, l32_122, l32_123, l32_124, l32_125, l32_126, l32_192, l32_200, l32_255, l32_999, l32_1000, l32_1344, l32_2147483639, l32_2147483647, l64_0, l64_1, l64_99, l64_999, l64_24883200000, l64_746496000000, jI_add, jI_sub, jI_mul, jI_neg, jL_add, jL_sub, jL_mul, jL_neg, jL_toI, jI_toL, jI_lt, jI_le, jI_eq, jL_lt, jL_le, jL_eq, inR_j, jI_clamp, nI_j, Option.bind_some, zc, u2, u3, u4, u5, wl, mo, if_pos, if_neg, ite_true, ite_false, c_g hc, sj, f1, sb2, hr6]
                  rfl
              · have f4 := J_b (by have := ct_hi ux; omega) ((hG.2.1 j (by omega) (by omega)).1 (hT2.2 j (by omega) (by omega) q3).1) (hT2.2 j (by omega) (by omega) q3).2.2.1
                refine Or.inl ⟨(jI ((j + 1 : Nat) : Int), v), ⟨rfl, hs, ux, mx, hC', hT2, l1, l2, l3, l4, l5, fun b b0 b1 => ?_⟩, ?_⟩
                · by_cases z : b = j
                  · rw [z]; exact fun _ => q3
                  · exact l6 b b0 (by omega)
                · show p_X8_trace_61 (jI (m i)) (n + 1) (jI j) v = p_X8_trace_61 (jI (m i)) n (jI ((j + 1 : Nat) : Int)) v
                  rw [p_X8_trace_61]
                  simp (disch := omega) only [l32_0, l32_1, l32_2, l32_3, l32_4, l32_5, l32_6, l32_7, l32_8, l32_9, l32_10, l32_11, l32_12, l32_13, l32_14, l32_15, l32_16, l32_17, l32_18, l32_19, l32_20, l32_21, l32_22, l32_23, l32_24, l32_25, l32_26, l32_27, l32_28, l32_29, l32_30, l32_31, l32_32, l32_33, l32_34, l32_35, l32_36, l32_37, l32_38, l32_39, l32_40, l32_41, l32_42, l32_43, l32_44, l32_45, l32_46, l32_47, l32_48, l32_49, l32_50, l32_51, l32_52, l32_53, l32_54, l32_55, l32_56, l32_57, l32_58, l32_59, l32_60, l32_61, l32_62, l32_63, l32_64, l32_65, l32_66, l32_76, l32_86, l32_90, l32_92, l32_97, l32_98, l32_99, l32_100, l32_101, l32_102, l32_103, l32_104, l32_105, l32_106, l32_107, l32_108, l32_109, l32_110, l32_111, l32_112, l32_113, l32_114, l32_115, l32_116, l32_117, l32_118, l32_119, l32_120, l32_121, l32_122, l32_123, l32_124, l32_125, l32_126, l32_192, l32_200, l32_255, l32_999, l32_1000, l32_1344, l32_2147483639, l32_2147483647, l64_0, l64_1, l64_99, l64_999, l64_24883200000, l64_746496000000, jI_add, jI_sub, jI_mul, jI_neg, jL_add, jL_sub, jL_mul, jL_neg, jL_toI, jI_toL, jI_lt, jI_le, jI_eq, jL_lt, jL_le, jL_eq, inR_j, jI_clamp, nI_j, Option.bind_some, zc, u2, u3, u4, u5, wl, mo, if_pos, if_neg, ite_true, ite_false, c_g hc, sj, f1]
                  rfl)
          (fun n s hI => by
            obtain ⟨y, v⟩ := s
            obtain ⟨rfl, hs, ux, mx, hC, hT2, l1, l2, l3, l4, l5, l6⟩ := hI
            have hc := keep h hs
            refine ⟨.inl (jI (S 0), v), ?_, _, rfl, hs, ux, mx, hC, hT2, l1, l2, l3, l4, l5, fun b b0 b1 => l6 b b0 (by omega)⟩
            show p_X8_trace_61 (jI (m i)) (n + 1) (jI ((S 0).toNat : Int)) v = _
            rw [p_X8_trace_61, show ((S 0).toNat : Int) = S 0 by omega]
            simp (disch := omega) only [l32_0, l32_1, l32_2, l32_3, l32_4, l32_5, l32_6, l32_7, l32_8, l32_9, l32_10, l32_11, l32_12, l32_13, l32_14, l32_15, l32_16, l32_17, l32_18, l32_19, l32_20, l32_21, l32_22, l32_23, l32_24, l32_25, l32_26, l32_27, l32_28, l32_29, l32_30, l32_31, l32_32, l32_33, l32_34, l32_35, l32_36, l32_37, l32_38, l32_39, l32_40, l32_41, l32_42, l32_43, l32_44, l32_45, l32_46, l32_47, l32_48, l32_49, l32_50, l32_51, l32_52, l32_53, l32_54, l32_55, l32_56, l32_57, l32_58, l32_59, l32_60, l32_61, l32_62, l32_63, l32_64, l32_65, l32_66, l32_76, l32_86, l32_90, l32_92, l32_97, l32_98, l32_99, l32_100, l32_101, l32_102, l32_103, l32_104, l32_105, l32_106, l32_107, l32_108, l32_109, l32_110, l32_111, l32_112, l32_113, l32_114, l32_115, l32_116, l32_117, l32_118, l32_119, l32_120, l32_121, l32_122, l32_123, l32_124, l32_125, l32_126, l32_192, l32_200, l32_255, l32_999, l32_1000, l32_1344, l32_2147483639, l32_2147483647, l64_0, l64_1, l64_99, l64_999, l64_24883200000, l64_746496000000, jI_add, jI_sub, jI_mul, jI_neg, jL_add, jL_sub, jL_mul, jL_neg, jL_toI, jI_toL, jI_lt, jI_le, jI_eq, jL_lt, jL_le, jL_eq, inR_j, jI_clamp, nI_j, Option.bind_some, zc, u2, u3, u4, u5, wl, mo, if_pos, if_neg, ite_true, ite_false, c_g hc])
          2000 0 (jI 0, v) (by omega) (by omega) ⟨rfl, hs, u, m, ⟨e1, e2, e3⟩, hT, Int.le_refl _, fun _ _ _ => rfl, fun _ h => h, hm1, hm2, fun b b0 b1 => by omega⟩
        obtain ⟨q, rfl, hs5, ux, mx, hC2, hT2, l1, l2, l3, l4, l5, l6⟩ := hP5
        have hr5 : p_X8_trace_61 (jI (m i)) 2000 (jI 0) v = some (.inl q) := hr5
        refine Or.inl ⟨(jI ((i + 1 : Nat) : Int), q.2), ⟨rfl, hs5, ux, mx, hC2, hT2, by omega, l4, l5, fun k k0 k1 b b0 b1 hb => ?_⟩, ?_⟩
        · by_cases z : k = i
          · rw [z, l2 i (by omega) hlt] at hb
            have := (hG.2.2.2.1 (m i) b g0 g1 b0 b1).2.2 hb
            exact l6 b b0 this.2.2 hb
          · rw [l2 k k0 (by omega)] at hb
            exact l3 b (hcl k k0 (by omega) b b0 b1 hb)
        · show p_X8_trace_36 (n + 1) (jI i) v = p_X8_trace_36 n (jI ((i + 1 : Nat) : Int)) q.2
          have e4 := e3 i (by omega) hlt
          rw [p_X8_trace_36]
          simp (disch := omega) only [l32_0, l32_1, l32_2, l32_3, l32_4, l32_5, l32_6, l32_7, l32_8, l32_9, l32_10, l32_11, l32_12, l32_13, l32_14, l32_15, l32_16, l32_17, l32_18, l32_19, l32_20, l32_21, l32_22, l32_23, l32_24, l32_25, l32_26, l32_27, l32_28, l32_29, l32_30, l32_31, l32_32, l32_33, l32_34, l32_35, l32_36, l32_37, l32_38, l32_39, l32_40, l32_41, l32_42, l32_43, l32_44, l32_45, l32_46, l32_47, l32_48, l32_49, l32_50, l32_51, l32_52, l32_53, l32_54, l32_55, l32_56, l32_57, l32_58, l32_59, l32_60, l32_61, l32_62, l32_63, l32_64, l32_65, l32_66, l32_76, l32_86, l32_90, l32_92, l32_97, l32_98, l32_99, l32_100, l32_101, l32_102, l32_103, l32_104, l32_105, l32_106, l32_107, l32_108, l32_109, l32_110, l32_111, l32_112, l32_113, l32_114, l32_115, l32_116, l32_117, l32_118, l32_119, l32_120, l32_121, l32_122, l32_123, l32_124, l32_125, l32_126, l32_192, l32_200, l32_255, l32_999, l32_1000, l32_1344, l32_2147483639, l32_2147483647, l64_0, l64_1, l64_99, l64_999, l64_24883200000, l64_746496000000, jI_add, jI_sub, jI_mul, jI_neg, jL_add, jL_sub, jL_mul, jL_neg, jL_toI, jI_toL, jI_lt, jI_le, jI_eq, jL_lt, jL_le, jL_eq, inR_j, jI_clamp, nI_j, Option.bind_some, zc, u2, u3, u4, u5, wl, mo, if_pos, if_neg, ite_true, ite_false, e2, e4, hr5]
          rfl
      · refine Or.inr ⟨.inl (jI i, v), ?_, _, rfl, hs, u, m, ⟨e1, e2, e3⟩, hT, fun a b a0 a1 b0 b1 ha hab => ?_⟩
        · show p_X8_trace_36 (n + 1) (jI i) v = _
          rw [p_X8_trace_36]
          simp (disch := omega) only [l32_0, l32_1, l32_2, l32_3, l32_4, l32_5, l32_6, l32_7, l32_8, l32_9, l32_10, l32_11, l32_12, l32_13, l32_14, l32_15, l32_16, l32_17, l32_18, l32_19, l32_20, l32_21, l32_22, l32_23, l32_24, l32_25, l32_26, l32_27, l32_28, l32_29, l32_30, l32_31, l32_32, l32_33, l32_34, l32_35, l32_36, l32_37, l32_38, l32_39, l32_40, l32_41, l32_42, l32_43, l32_44, l32_45, l32_46, l32_47, l32_48, l32_49, l32_50, l32_51, l32_52, l32_53, l32_54, l32_55, l32_56, l32_57, l32_58, l32_59, l32_60, l32_61, l32_62, l32_63, l32_64, l32_65, l32_66, l32_76, l32_86, l32_90, l32_92, l32_97, l32_98, l32_99, l32_100, l32_101, l32_102, l32_103, l32_104, l32_105, l32_106, l32_107, l32_108, l32_109, l32_110, l32_111, l32_112, l32_113, l32_114, l32_115, l32_116, l32_117, l32_118, l32_119, l32_120, l32_121, l32_122, l32_123, l32_124, l32_125, l32_126, l32_192, l32_200, l32_255, l32_999, l32_1000, l32_1344, l32_2147483639, l32_2147483647, l64_0, l64_1, l64_99, l64_999, l64_24883200000, l64_746496000000, jI_add, jI_sub, jI_mul, jI_neg, jL_add, jL_sub, jL_mul, jL_neg, jL_toI, jI_toL, jI_lt, jI_le, jI_eq, jL_lt, jL_le, jL_eq, inR_j, jI_clamp, nI_j, Option.bind_some, zc, u2, u3, u4, u5, wl, mo, if_pos, if_neg, ite_true, ite_false, e2]
        · obtain ⟨k, k0, k1, rfl⟩ := hm2 a a0 a1 ha
          exact hcl k k0 (by omega) b b0 b1 hab)
    (fun n s hI => by
      obtain ⟨y, v⟩ := s
      obtain ⟨rfl, hs, u, m, ⟨e1, e2, e3⟩, hT, hic, hm1, hm2, hcl⟩ := hI
      have c10 := ct_hi u
      refine ⟨.inl (jI ((10 : Nat) : Int), v), ?_, _, rfl, hs, u, m, ⟨e1, e2, e3⟩, hT, fun a b a0 a1 b0 b1 ha hab => ?_⟩
      · show p_X8_trace_36 (n + 1) (jI ((10 : Nat) : Int)) v = _
        rw [p_X8_trace_36]
        simp (disch := omega) only [l32_0, l32_1, l32_2, l32_3, l32_4, l32_5, l32_6, l32_7, l32_8, l32_9, l32_10, l32_11, l32_12, l32_13, l32_14, l32_15, l32_16, l32_17, l32_18, l32_19, l32_20, l32_21, l32_22, l32_23, l32_24, l32_25, l32_26, l32_27, l32_28, l32_29, l32_30, l32_31, l32_32, l32_33, l32_34, l32_35, l32_36, l32_37, l32_38, l32_39, l32_40, l32_41, l32_42, l32_43, l32_44, l32_45, l32_46, l32_47, l32_48, l32_49, l32_50, l32_51, l32_52, l32_53, l32_54, l32_55, l32_56, l32_57, l32_58, l32_59, l32_60, l32_61, l32_62, l32_63, l32_64, l32_65, l32_66, l32_76, l32_86, l32_90, l32_92, l32_97, l32_98, l32_99, l32_100, l32_101, l32_102, l32_103, l32_104, l32_105, l32_106, l32_107, l32_108, l32_109, l32_110, l32_111, l32_112, l32_113, l32_114, l32_115, l32_116, l32_117, l32_118, l32_119, l32_120, l32_121, l32_122, l32_123, l32_124, l32_125, l32_126, l32_192, l32_200, l32_255, l32_999, l32_1000, l32_1344, l32_2147483639, l32_2147483647, l64_0, l64_1, l64_99, l64_999, l64_24883200000, l64_746496000000, jI_add, jI_sub, jI_mul, jI_neg, jL_add, jL_sub, jL_mul, jL_neg, jL_toI, jI_toL, jI_lt, jI_le, jI_eq, jL_lt, jL_le, jL_eq, inR_j, jI_clamp, nI_j, Option.bind_some, zc, u2, u3, u4, u5, wl, mo, if_pos, if_neg, ite_true, ite_false, e2]
      · obtain ⟨k, k0, k1, rfl⟩ := hm2 a a0 a1 ha
        exact hcl k k0 (by omega) b b0 b1 hab)
    2000 0 (jI 0, w3) (by omega) (by omega)
    ⟨rfl, hs3, up (fun _ => 0) d 24883200000, up (fun _ => 0) 0 d, by rw [ct1]; exact hC3, T0, by rw [ct1]; decide, fun k k0 k1 => by
      rw [ct1] at k1
      rw [show k = 0 by omega, up_eq, up_eq]
      exact ⟨d0, by omega, by decide⟩, fun x x0 x1 hx => ⟨0, by decide, by rw [ct1]; decide, by
      rw [up_eq]
      by_cases z : x = d
      · exact z.symm
      · rw [up_ne z] at hx; exact absurd rfl hx⟩, fun k k0 k1 => by omega⟩
  obtain ⟨q4, rfl, hs4, u, m, hC4, hT4, hcl⟩ := hP4
  have hr4 : p_X8_trace_36 2000 (jI 0) w3 = some (.inl q4) := hr4
  have hr3 : f_X8_reach (uI w2 124 2 (jI 0)) (jI d) (jL 24883200000) = some w3 := hr3
  refine ⟨q4.2, ?_, hs4, u, m, hC4, hT4.tr d0 (by omega) hcl, fun x x0 x1 => ?_⟩
  · unfold f_X8_trace
    simp (disch := omega) only [l32_0, l32_1, l32_2, l32_3, l32_4, l32_5, l32_6, l32_7, l32_8, l32_9, l32_10, l32_11, l32_12, l32_13, l32_14, l32_15, l32_16, l32_17, l32_18, l32_19, l32_20, l32_21, l32_22, l32_23, l32_24, l32_25, l32_26, l32_27, l32_28, l32_29, l32_30, l32_31, l32_32, l32_33, l32_34, l32_35, l32_36, l32_37, l32_38, l32_39, l32_40, l32_41, l32_42, l32_43, l32_44, l32_45, l32_46, l32_47, l32_48, l32_49, l32_50, l32_51, l32_52, l32_53, l32_54, l32_55, l32_56, l32_57, l32_58, l32_59, l32_60, l32_61, l32_62, l32_63, l32_64, l32_65, l32_66, l32_76, l32_86, l32_90, l32_92, l32_97, l32_98, l32_99, l32_100, l32_101, l32_102, l32_103, l32_104, l32_105, l32_106, l32_107, l32_108, l32_109, l32_110, l32_111, l32_112, l32_113, l32_114, l32_115, l32_116, l32_117, l32_118, l32_119, l32_120, l32_121, l32_122, l32_123, l32_124, l32_125, l32_126, l32_192, l32_200, l32_255, l32_999, l32_1000, l32_1344, l32_2147483639, l32_2147483647, l64_0, l64_1, l64_99, l64_999, l64_24883200000, l64_746496000000, jI_add, jI_sub, jI_mul, jI_neg, jL_add, jL_sub, jL_mul, jL_neg, jL_toI, jI_toL, jI_lt, jI_le, jI_eq, jL_lt, jL_le, jL_eq, inR_j, jI_clamp, nI_j, Option.bind_some, zc, u2, u3, u4, u5, wl, mo, if_pos, if_neg, ite_true, ite_false, hr, hr3, hr4]
  · by_cases z : u x = 0
    · rw [z]; omega
    · have hx := hT4.2 x x0 x1 z
      have := J_b (by have := ct_hi u; omega) ((hG.2.1 x x0 x1).1 hx.1) hx.2.2.1
      omega
