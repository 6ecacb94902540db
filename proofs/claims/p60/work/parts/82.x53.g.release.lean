/-! A RELEASE -/
theorem ct_pos {u : Ab} {x : Int} (h0 : 0 ≤ x) (h1 : x < 10) (hu : u x ≠ 0) : 1 ≤ ct u := by
  have e := ct_up (u := up u x 0) (x := x) (v := u x) h0 h1 (up_eq _ _ _) hu
  have e2 : ct (up (up u x 0) x (u x)) = ct u := ct_congr (fun y y0 y1 => by
    by_cases z : y = x
    · rw [z, up_eq]
    · rw [up_ne z, up_ne z])
  have := ct_lo (up u x 0)
  omega
theorem CSt.wfree {w : Wd} {S : Ab} {i v : Int} (h : CSt w 1 S) (i0 : 0 ≤ i) (i1 : i < 10) (hv : S (66 + i) ≠ 1) : CSt w 1 (up S (76 + i) v) := by
  have hj : jc (up S (76 + i) v) = jc S := jc_up (by omega)
  obtain ⟨h1, h2, h3, h4, h5, h6, h7, h8, h9, h10⟩ := h
  refine ⟨fun x x0 x1 => ?_, fun x x0 x1 => ?_, fun x x0 x1 => ?_, ?_, ?_, ?_, ?_, ?_, ?_, ?_⟩
  · rw [up_ne (x := 6 + x) (by omega), up_ne (x := 16 + x) (by omega), up_ne (x := 66 + x) (by omega), up_ne (x := 56 + x) (by omega), up_ne (x := 26 + x) (by omega), up_ne (x := 36 + x) (by omega), up_ne (x := 46 + x) (by omega)]
    obtain ⟨k1, k2, k3, k4, k5⟩ := h1 x x0 x1
    refine ⟨k1, k2, k3, fun q => ?_, k5⟩
    by_cases z : x = i
    · rw [z] at q; exact absurd q hv
    · rw [up_ne (by omega)]; exact k4 q
  · rw [up_ne (by omega)]; exact h2 x x0 x1
  · rw [up_ne (by omega)]; exact h3 x x0 x1
  · rw [up_ne (by omega)]; exact h4
  · rw [hj]; exact h5
  · rw [up_ne (by omega)]; exact h6
  · rw [up_ne (by omega)]; exact h7
  · rw [up_ne (by omega)]; exact h8
  · rw [up_ne (by omega)]; exact h9
  · rw [up_ne (by omega)]; exact h10
def t1 (S u : Ab) (c e : Int) : Ab := fun z => if 16 ≤ z ∧ z < 26 then (if u (z - 16) = 0 then S z else (S z + u (z - 16) * e) % 24883200000) else if 76 ≤ z ∧ z < 86 then (if u (z - 76) ≠ 0 ∧ S (z - 10) = 1 then S z + (u (z - 76)).natAbs * c else S z) else S z
def t3 (S : Ab) : Ab := fun z => if 66 ≤ z ∧ z < 76 then (if S z = 1 ∧ 746496000000 ≤ S (z + 10) then 0 else S z) else if 76 ≤ z ∧ z < 86 then (if S (z - 10) = 1 ∧ 746496000000 ≤ S z then 0 else S z) else S z
theorem t1_a {S u : Ab} {c e i : Int} (h0 : 0 ≤ i) (h1 : i < 10) : t1 S u c e (16 + i) = if u i = 0 then S (16 + i) else (S (16 + i) + u i * e) % 24883200000 := by
  unfold t1
  rw [if_pos (by omega), show 16 + i - 16 = i by omega]
theorem t1_w {S u : Ab} {c e i : Int} (h0 : 0 ≤ i) (h1 : i < 10) : t1 S u c e (76 + i) = if u i ≠ 0 ∧ S (66 + i) = 1 then S (76 + i) + (u i).natAbs * c else S (76 + i) := by
  unfold t1
  rw [if_neg (by omega), if_pos (by omega), show 76 + i - 76 = i by omega, show 76 + i - 10 = 66 + i by omega]
theorem t1_o {S u : Ab} {c e z : Int} (h : ¬ (16 ≤ z ∧ z < 26)) (h2 : ¬ (76 ≤ z ∧ z < 86)) : t1 S u c e z = S z := by
  unfold t1
  rw [if_neg h, if_neg h2]
theorem t3_o {S : Ab} {i : Int} (h0 : 0 ≤ i) (h1 : i < 10) : t3 S (66 + i) = if S (66 + i) = 1 ∧ 746496000000 ≤ S (76 + i) then 0 else S (66 + i) := by
  unfold t3
  rw [if_pos (by omega), show 66 + i + 10 = 76 + i by omega]
theorem t3_w {S : Ab} {i : Int} (h0 : 0 ≤ i) (h1 : i < 10) : t3 S (76 + i) = if S (66 + i) = 1 ∧ 746496000000 ≤ S (76 + i) then 0 else S (76 + i) := by
  unfold t3
  rw [if_neg (by omega), if_pos (by omega), show 76 + i - 10 = 66 + i by omega]
theorem t3_r {S : Ab} {z : Int} (h : ¬ (66 ≤ z ∧ z < 86)) : t3 S z = S z := by
  unfold t3
  rw [if_neg (by omega), if_neg (by omega)]
theorem u_mul {u e : Int} (h1 : -14929920000000000 ≤ u) (h2 : u ≤ 14929920000000000) (e1 : -50 ≤ e) (e2 : e ≤ 50) : -746496000000000000 ≤ u * e ∧ u * e ≤ 746496000000000000 ∧ ((u * e).natAbs : Int) = u.natAbs * e.natAbs ∧ (u.natAbs : Int) * e.natAbs ≤ 746496000000000000 := by
  have h3 : ((u * e).natAbs : Int) = u.natAbs * e.natAbs := by rw [Int.natAbs_mul, Int.natCast_mul]
  have h4 : (u.natAbs : Int) * (e.natAbs : Int) ≤ 14929920000000000 * 50 := Int.mul_le_mul (by omega) (by omega) (by omega) (by omega)
  omega
/-- a part of the turning -/
def tq (S T : Ab) (i : Int) : Ab := fun z => if (16 ≤ z ∧ z < 16 + i) ∨ (76 ≤ z ∧ z < 76 + i) then T z else S z
theorem tq_step {S T : Ab} {i : Int} (h0 : 0 ≤ i) (h1 : i < 10) : up (up (tq S T i) (16 + i) (T (16 + i))) (76 + i) (T (76 + i)) = tq S T (i + 1) := by
  funext z
  unfold tq up
  by_cases q1 : z = 76 + i
  · rw [if_pos q1, if_pos (by omega), q1]
  · rw [if_neg q1]
    by_cases q2 : z = 16 + i
    · rw [if_pos q2, if_pos (by omega), q2]
    · rw [if_neg q2]
      dsimp only
      by_cases q3 : (16 ≤ z ∧ z < 16 + i) ∨ (76 ≤ z ∧ z < 76 + i)
      · rw [if_pos q3, if_pos (by omega)]
      · rw [if_neg q3, if_neg (by omega)]
def KA (k : Nat) : Prop := k = 3 ∨ k = 5
theorem s_turnTrain {w : Wd} {S u m : Ab} {sz c e : Int} (hG : ∀ i, 0 ≤ i → i < 10 → (0 ≤ S (16 + i) ∧ S (16 + i) < 24883200000) ∧ (S (66 + i) = 0 ∨ S (66 + i) = 1) ∧ (S (66 + i) = 1 → 0 ≤ S (76 + i) ∧ S (76 + i) < 746496000000)) (g0 : 0 ≤ S 0 ∧ S 0 ≤ 10) (h : CSt w 1 S) (hT : CT w u sz m) (hb : ∀ x, 0 ≤ x → x < 10 → -14929920000000000 ≤ u x ∧ u x ≤ 14929920000000000) (ho : ∀ x, 0 ≤ x → x < 10 → S 0 ≤ x → u x = 0) (c0 : 0 ≤ c) (c1 : c ≤ 50) (he : e = c ∨ e = -c) :
    ∃ w', f_X1_turnTrain w (jI e) = some w' ∧ Sm KA w w' ∧ CSt w' 1 (t1 S u c e) := by
  obtain ⟨r, hr, hP⟩ := lp (fun n (s : Int32 × Wd) => p_X1_turnTrain_2 (jI e) n s.1 s.2)
    (fun i s => s.1 = jI i ∧ Sm KA w s.2 ∧ CSt s.2 1 (tq S (t1 S u c e) i)) (S 0).toNat
    (fun r => ∃ q, r = .inl q ∧ Sm KA w q.2 ∧ CSt q.2 1 (tq S (t1 S u c e) (S 0)))
    (fun i n s hi hI => by
      obtain ⟨y, v⟩ := s
      obtain ⟨rfl, hs, hc⟩ := hI
      have hs : Sm KA w v := hs
      have hc : CSt v 1 (tq S (t1 S u c e) i) := hc
      obtain ⟨g1, g2, g3⟩ := hG i (by omega) (by omega)
      have ub := hb i (by omega) (by omega)
      have um := u_mul ub.1 ub.2 (e := e) (by omega) (by omega)
      have ea : (e.natAbs : Int) = c := by omega
      have eu : gL v 125 i = jL (u i) := by
        have := hT.1 i (by omega) (by omega)
        rw [Int.toNat_natCast] at this
        rw [hs.lK (by unfold KA; omega)]; exact this
      have q0 : tq S (t1 S u c e) i 0 = S 0 := by unfold tq; rw [if_neg (by omega)]
      have q1 : tq S (t1 S u c e) i (16 + i) = S (16 + i) := by unfold tq; rw [if_neg (by omega)]
      have q2 : tq S (t1 S u c e) i (66 + i) = S (66 + i) := by unfold tq; rw [if_neg (by omega)]
      have q3 : tq S (t1 S u c e) i (76 + i) = S (76 + i) := by unfold tq; rw [if_neg (by omega)]
      have va : gL v 3 i = jL (S (16 + i)) := by
        have := c_a hc i (by omega) (by omega); rw [Int.toNat_natCast, q1] at this; exact this
      have vo : gI v 4 i = jI (S (66 + i)) := by
        have := c_o hc i (by omega) (by omega); rw [Int.toNat_natCast, q2] at this; exact this
      have vw : S (66 + (i : Int)) = 1 → gL v 5 i = jL (S (76 + i)) := by
        intro z
        have := c_w hc i (by omega) (by omega) (by rw [q2]; exact z); rw [Int.toNat_natCast, q3] at this; exact this
      have vg : gI v 1 10 = jI (S 0) := by rw [c_g hc, q0]
      have an : t1 S u c e (16 + i) = (S (16 + i) + u i * e) % 24883200000 := by
        rw [t1_a (by omega) (by omega)]
        by_cases z : u i = 0
        · rw [if_pos z, z, Int.zero_mul, Int.add_zero, Int.emod_eq_of_lt g1.1 g1.2]
        · rw [if_neg z]
      have hc2 : CSt (uL v 3 (i : Int).toNat (jL (t1 S u c e (16 + i)))) 1 (up (tq S (t1 S u c e) i) (16 + i) (t1 S u c e (16 + i))) := hc.put_a (by omega) (by omega)
      by_cases z : S (66 + (i : Int)) = 1
      · have wn : t1 S u c e (76 + i) = S (76 + i) + (u i * e).natAbs := by
          rw [t1_w (by omega) (by omega), um.2.2.1, ea]
          by_cases z2 : u i = 0
          · rw [if_neg (fun q => q.1 z2), z2]; simp
          · rw [if_pos ⟨z2, z⟩]
        have ab : (if 0 < jL (u i * e) then jL (u i * e) else -jL (u i * e)) = jL ((u i * e).natAbs : Int) := by
          rw [show (0 : Int64) = jL 0 from rfl]
          by_cases z2 : 0 < u i * e
          · rw [if_pos (by rw [jL_lt (by omega) (by omega) (by omega) (by omega)]; exact z2)]; congr 1; omega
          · rw [if_neg (by rw [jL_lt (by omega) (by omega) (by omega) (by omega)]; exact z2), jL_neg]; congr 1; omega
        have ab : (if jL 0 < jL (u i * e) then jL (u i * e) else jL (-(u i * e))) = jL ((u i * e).natAbs : Int) := by rw [← ab, jL_neg]; rfl
        have hc3 := hc2.put_w (i := i) (v := t1 S u c e (76 + i)) (y := jL (t1 S u c e (76 + i))) (by omega) (by omega) (fun _ => rfl)
        rw [tq_step (by omega) (by omega)] at hc3
        refine Or.inl ⟨(jI ((i + 1 : Nat) : Int), uL (uL v 3 i (jL (t1 S u c e (16 + i)))) 5 i (jL (t1 S u c e (76 + i)))), ⟨rfl, (hs.tr (Sm.wL v (Or.inl rfl))).tr (Sm.wL _ (Or.inr rfl)), ?_⟩, ?_⟩
        · rw [Int.toNat_natCast] at hc3
          exact hc3
        · show p_X1_turnTrain_2 (jI e) (n + 1) (jI i) v = p_X1_turnTrain_2 (jI e) n (jI ((i + 1 : Nat) : Int)) (uL (uL v 3 i (jL (t1 S u c e (16 + i)))) 5 i (jL (t1 S u c e (76 + i))))
          rw [p_X1_turnTrain_2, an, wn]
          simp (disch := omega) only [l32_0, l32_1, l32_2, l32_3, l32_4, l32_5, l32_6, l32_7, l32_8, l32_9, l32_10, l32_11, l32_12, l32_13, l32_14, l32_15, l32_16, l32_17, l32_18, l32_19, l32_20, l32_21, l32_22, l32_23, l32_24, l32_25, l32_26, l32_27, l32_28, l32_29, l32_30, l32_31, l32_32, l32_33, l32_34, l32_35, l32_36, l32_37, l32_38, l32_39, l32_40, l32_41, l32_42, l32_43, l32_44, l32_45, l32_46, l32_47, l32_48, l32_49, l32_50, l32_51, l32_52, l32_53, l32_54, l32_55, l32_56, l32_57, l32_58, l32_59, l32_60, l32_61, l32_62, l32_63, l32_64, l32_65, l32_66, l32_76, l32_86, l32_90, l32_92, l32_97, l32_98, l32_99, l32_100, l32_101, l32_102, l32_103, l32_104, l32_105, l32_106, l32_107, l32_108, l32_109, l32_110, l32_111, l32_112, l32_113, l32_114, l32_115, l32_116, l32_117, l32_118, l32_119, l32_120, l32_121, l32_122, l32_123, l32_124, l32_125, l32_126, l32_192, l32_200, l32_255, l32_999, l32_1000, l32_1344, l32_2147483639, l32_2147483647, l64_0, l64_1, l64_99, l64_999, l64_24883200000, l64_746496000000, jI_add, jI_sub, jI_mul, jI_neg, jL_add, jL_sub, jL_mul, jL_neg, jL_toI, jI_toL, jI_eqT, jI_eqF, jI_ltT, jI_ltF, jI_leT, jI_leF, jL_eqT, jL_eqF, jL_ltT, jL_ltF, jL_leT, jL_leF, inR_T, inR_F, bZ_T, bZ_F, not_true_eq_false, not_false_eq_true, jI_clamp, nI_j, bs_p, wl_p, u2_p, u3_p, u4_p, u5_p, zl_p, zr_p, mn_p, ms_p, if_pos, if_neg, ite_true, ite_false, Int.toNat_natCast, vg, va, vo, eu, s_rem, gI_uL, gL_uL, vw z, ab] <;> rfl
      · have z0 : S (66 + (i : Int)) = 0 := by omega
        have wn : t1 S u c e (76 + i) = S (76 + i) := by
          rw [t1_w (by omega) (by omega), if_neg (fun q => z q.2)]
        have hc3 := hc2.wfree (i := i) (v := t1 S u c e (76 + i)) (by omega) (by omega) (by rw [up_ne (by omega), q2]; exact z)
        rw [tq_step (by omega) (by omega)] at hc3
        refine Or.inl ⟨(jI ((i + 1 : Nat) : Int), uL v 3 i (jL (t1 S u c e (16 + i)))), ⟨rfl, hs.tr (Sm.wL v (Or.inl rfl)), ?_⟩, ?_⟩
        · rw [Int.toNat_natCast] at hc3
          exact hc3
        · show p_X1_turnTrain_2 (jI e) (n + 1) (jI i) v = p_X1_turnTrain_2 (jI e) n (jI ((i + 1 : Nat) : Int)) (uL v 3 i (jL (t1 S u c e (16 + i))))
          rw [p_X1_turnTrain_2, an]
          simp (disch := omega) only [l32_0, l32_1, l32_2, l32_3, l32_4, l32_5, l32_6, l32_7, l32_8, l32_9, l32_10, l32_11, l32_12, l32_13, l32_14, l32_15, l32_16, l32_17, l32_18, l32_19, l32_20, l32_21, l32_22, l32_23, l32_24, l32_25, l32_26, l32_27, l32_28, l32_29, l32_30, l32_31, l32_32, l32_33, l32_34, l32_35, l32_36, l32_37, l32_38, l32_39, l32_40, l32_41, l32_42, l32_43, l32_44, l32_45, l32_46, l32_47, l32_48, l32_49, l32_50, l32_51, l32_52, l32_53, l32_54, l32_55, l32_56, l32_57, l32_58, l32_59, l32_60, l32_61, l32_62, l32_63, l32_64, l32_65, l32_66, l32_76, l32_86, l32_90, l32_92, l32_97, l32_98, l32_99, l32_100, l32_101, l32_102, l32_103, l32_104, l32_105, l32_106, l32_107, l32_108, l32_109, l32_110, l32_111, l32_112, l32_113, l32_114, l32_115, l32_116, l32_117, l32_118, l32_119, l32_120, l32_121, l32_122, l32_123, l32_124, l32_125, l32_126, l32_192, l32_200, l32_255, l32_999, l32_1000, l32_1344, l32_2147483639, l32_2147483647, l64_0, l64_1, l64_99, l64_999, l64_24883200000, l64_746496000000, jI_add, jI_sub, jI_mul, jI_neg, jL_add, jL_sub, jL_mul, jL_neg, jL_toI, jI_toL, jI_eqT, jI_eqF, jI_ltT, jI_ltF, jI_leT, jI_leF, jL_eqT, jL_eqF, jL_ltT, jL_ltF, jL_leT, jL_leF, inR_T, inR_F, bZ_T, bZ_F, not_true_eq_false, not_false_eq_true, jI_clamp, nI_j, bs_p, wl_p, u2_p, u3_p, u4_p, u5_p, zl_p, zr_p, mn_p, ms_p, if_pos, if_neg, ite_true, ite_false, Int.toNat_natCast, vg, va, vo, eu, s_rem, gI_uL] <;> rfl)
    (fun n s hI => by
      obtain ⟨y, v⟩ := s
      obtain ⟨rfl, hs, hc⟩ := hI
      have e1 : ((S 0).toNat : Int) = S 0 := by omega
      rw [e1] at hc
      have hc : CSt v 1 (tq S (t1 S u c e) (S 0)) := hc
      have q0 : tq S (t1 S u c e) (S 0) 0 = S 0 := by unfold tq; rw [if_neg (by omega)]
      have vg : gI v 1 10 = jI (S 0) := by rw [c_g hc, q0]
      refine ⟨.inl (jI (S 0), v), ?_, _, rfl, hs, hc⟩
      show p_X1_turnTrain_2 (jI e) (n + 1) (jI ((S 0).toNat : Int)) v = _
      rw [p_X1_turnTrain_2, e1]
      simp (disch := omega) only [l32_0, l32_1, l32_2, l32_3, l32_4, l32_5, l32_6, l32_7, l32_8, l32_9, l32_10, l32_11, l32_12, l32_13, l32_14, l32_15, l32_16, l32_17, l32_18, l32_19, l32_20, l32_21, l32_22, l32_23, l32_24, l32_25, l32_26, l32_27, l32_28, l32_29, l32_30, l32_31, l32_32, l32_33, l32_34, l32_35, l32_36, l32_37, l32_38, l32_39, l32_40, l32_41, l32_42, l32_43, l32_44, l32_45, l32_46, l32_47, l32_48, l32_49, l32_50, l32_51, l32_52, l32_53, l32_54, l32_55, l32_56, l32_57, l32_58, l32_59, l32_60, l32_61, l32_62, l32_63, l32_64, l32_65, l32_66, l32_76, l32_86, l32_90, l32_92, l32_97, l32_98, l32_99, l32_100, l32_101, l32_102, l32_103, l32_104, l32_105, l32_106, l32_107, l32_108, l32_109, l32_110, l32_111, l32_112, l32_113, l32_114, l32_115, l32_116, l32_117, l32_118, l32_119, l32_120, l32_121, l32_122, l32_123, l32_124, l32_125, l32_126, l32_192, l32_200, l32_255, l32_999, l32_1000, l32_1344, l32_2147483639, l32_2147483647, l64_0, l64_1, l64_99, l64_999, l64_24883200000, l64_746496000000, jI_add, jI_sub, jI_mul, jI_neg, jL_add, jL_sub, jL_mul, jL_neg, jL_toI, jI_toL, jI_eqT, jI_eqF, jI_ltT, jI_ltF, jI_leT, jI_leF, jL_eqT, jL_eqF, jL_ltT, jL_ltF, jL_leT, jL_leF, inR_T, inR_F, bZ_T, bZ_F, not_true_eq_false, not_false_eq_true, jI_clamp, nI_j, bs_p, wl_p, u2_p, u3_p, u4_p, u5_p, zl_p, zr_p, mn_p, ms_p, if_pos, if_neg, ite_true, ite_false, vg]) 2000 0 (jI 0, w) (by omega) (by omega) ⟨rfl, Sm.refl w, h.congr (fun z _ _ => by unfold tq; rw [if_neg (by omega)])⟩
  obtain ⟨q, rfl, hs, hc⟩ := hP
  have hr : p_X1_turnTrain_2 (jI e) 2000 (jI 0) w = some (.inl q) := hr
  obtain ⟨y, v⟩ := q
  refine ⟨v, ?_, hs, hc.congr (fun z z0 z1 => ?_)⟩
  · unfold f_X1_turnTrain
    simp (disch := omega) only [l32_0, l32_1, l32_2, l32_3, l32_4, l32_5, l32_6, l32_7, l32_8, l32_9, l32_10, l32_11, l32_12, l32_13, l32_14, l32_15, l32_16, l32_17, l32_18, l32_19, l32_20, l32_21, l32_22, l32_23, l32_24, l32_25, l32_26, l32_27, l32_28, l32_29, l32_30, l32_31, l32_32, l32_33, l32_34, l32_35, l32_36, l32_37, l32_38, l32_39, l32_40, l32_41, l32_42, l32_43, l32_44, l32_45, l32_46, l32_47, l32_48, l32_49, l32_50, l32_51, l32_52, l32_53, l32_54, l32_55, l32_56, l32_57, l32_58, l32_59, l32_60, l32_61, l32_62, l32_63, l32_64, l32_65, l32_66, l32_76, l32_86, l32_90, l32_92, l32_97, l32_98, l32_99, l32_100, l32_101, l32_102, l32_103, l32_104, l32_105, l32_106, l32_107, l32_108, l32_109, l32_110, l32_111, l32_112, l32_113, l32_114, l32_115, l32_116, l32_117, l32_118, l32_119, l32_120, l32_121, l32_122, l32_123, l32_124, l32_125, l32_126, l32_192, l32_200, l32_255, l32_999, l32_1000, l32_1344, l32_2147483639, l32_2147483647, l64_0, l64_1, l64_99, l64_999, l64_24883200000, l64_746496000000, jI_add, jI_sub, jI_mul, jI_neg, jL_add, jL_sub, jL_mul, jL_neg, jL_toI, jI_toL, jI_eqT, jI_eqF, jI_ltT, jI_ltF, jI_leT, jI_leF, jL_eqT, jL_eqF, jL_ltT, jL_ltF, jL_leT, jL_leF, inR_T, inR_F, bZ_T, bZ_F, not_true_eq_false, not_false_eq_true, jI_clamp, nI_j, bs_p, wl_p, u2_p, u3_p, u4_p, u5_p, zl_p, zr_p, mn_p, ms_p, if_pos, if_neg, ite_true, ite_false, hr]
  · unfold tq
    by_cases q3 : (16 ≤ z ∧ z < 16 + S 0) ∨ (76 ≤ z ∧ z < 76 + S 0)
    · rw [if_pos q3]
    · rw [if_neg q3]
      by_cases q4 : 16 ≤ z ∧ z < 26
      · rw [show z = 16 + (z - 16) by omega, t1_a (by omega) (by omega), if_pos (ho _ (by omega) (by omega) (by omega))]
      · by_cases q5 : 76 ≤ z ∧ z < 86
        · rw [show z = 76 + (z - 76) by omega, t1_w (by omega) (by omega), if_neg (fun q => q.1 (ho _ (by omega) (by omega) (by omega)))]
        · rw [t1_o q4 q5]
/-- a part of the drying -/
def tr (S T : Ab) (i : Int) : Ab := fun z => if (66 ≤ z ∧ z < 66 + i) ∨ (76 ≤ z ∧ z < 76 + i) then T z else S z
theorem tr_step {S T : Ab} {i : Int} (h0 : 0 ≤ i) (h1 : i < 10) : up (up (tr S T i) (66 + i) (T (66 + i))) (76 + i) (T (76 + i)) = tr S T (i + 1) := by
  funext z
  unfold tr up
  by_cases q1 : z = 76 + i
  · rw [if_pos q1, if_pos (by omega), q1]
  · rw [if_neg q1]
    by_cases q2 : z = 66 + i
    · rw [if_pos q2, if_pos (by omega), q2]
    · rw [if_neg q2]
      dsimp only
      by_cases q3 : (66 ≤ z ∧ z < 66 + i) ∨ (76 ≤ z ∧ z < 76 + i)
      · rw [if_pos q3, if_pos (by omega)]
      · rw [if_neg q3, if_neg (by omega)]
theorem tr_same {S T : Ab} {i : Int} (h0 : 0 ≤ i) (h1 : i < 10) (e1 : T (66 + i) = S (66 + i)) (e2 : T (76 + i) = S (76 + i)) : tr S T i = tr S T (i + 1) := by
  rw [← tr_step h0 h1]
  funext z
  unfold up
  by_cases q1 : z = 76 + i
  · rw [if_pos q1, q1, e2]; unfold tr; rw [if_neg (by omega)]
  · rw [if_neg q1]
    by_cases q2 : z = 66 + i
    · rw [if_pos q2, q2, e1]; unfold tr; rw [if_neg (by omega)]
    · rw [if_neg q2]
def KD (k : Nat) : Prop := k = 4
theorem s_dry {w : Wd} {S : Ab} (hG : ∀ i, 0 ≤ i → i < 10 → (S (66 + i) = 0 ∨ S (66 + i) = 1) ∧ (S (66 + i) = 1 → 0 ≤ S (76 + i) ∧ S (76 + i) < 4000000000000000000)) (hH : ∀ i, S 0 ≤ i → i < 10 → S (66 + i) = 1 → S (76 + i) < 746496000000) (g0 : 0 ≤ S 0 ∧ S 0 ≤ 10) (h : CSt w 1 S) :
    ∃ w', f_X1_dryWornGears w = some w' ∧ Sm KD w w' ∧ CSt w' 1 (t3 S) := by
  obtain ⟨r, hr, hP⟩ := lp (fun n (s : Int32 × Wd) => p_X1_dryWornGears_2 n s.1 s.2)
    (fun i s => s.1 = jI i ∧ Sm KD w s.2 ∧ CSt s.2 1 (tr S (t3 S) i)) (S 0).toNat
    (fun r => ∃ q, r = .inl q ∧ Sm KD w q.2 ∧ CSt q.2 1 (tr S (t3 S) (S 0)))
    (fun i n s hi hI => by
      obtain ⟨y, v⟩ := s
      obtain ⟨rfl, hs, hc⟩ := hI
      have hs : Sm KD w v := hs
      have hc : CSt v 1 (tr S (t3 S) i) := hc
      obtain ⟨g2, g3⟩ := hG i (by omega) (by omega)
      have q0 : tr S (t3 S) i 0 = S 0 := by unfold tr; rw [if_neg (by omega)]
      have q2 : tr S (t3 S) i (66 + i) = S (66 + i) := by unfold tr; rw [if_neg (by omega)]
      have q3 : tr S (t3 S) i (76 + i) = S (76 + i) := by unfold tr; rw [if_neg (by omega)]
      have vo : gI v 4 i = jI (S (66 + i)) := by
        have := c_o hc i (by omega) (by omega); rw [Int.toNat_natCast, q2] at this; exact this
      have vw : S (66 + (i : Int)) = 1 → gL v 5 i = jL (S (76 + i)) := by
        intro z
        have := c_w hc i (by omega) (by omega) (by rw [q2]; exact z); rw [Int.toNat_natCast, q3] at this; exact this
      have vg : gI v 1 10 = jI (S 0) := by rw [c_g hc, q0]
      by_cases z : S (66 + (i : Int)) = 1 ∧ 746496000000 ≤ S (76 + (i : Int))
      · have e1 : t3 S (66 + i) = 0 := by rw [t3_o (by omega) (by omega), if_pos z]
        have hc2 : CSt (uI v 4 (i : Int).toNat (jI (t3 S (66 + i)))) 1 (up (tr S (t3 S) i) (66 + i) (t3 S (66 + i))) := hc.put_o (by omega) (by omega) (fun y => by rw [e1] at y; exact absurd y (by decide))
        have hc3 := hc2.wfree (i := i) (v := t3 S (76 + i)) (by omega) (by omega) (by rw [up_eq, e1]; decide)
        rw [tr_step (by omega) (by omega), Int.toNat_natCast] at hc3
        have g3 := g3 z.1
        refine Or.inl ⟨(jI ((i + 1 : Nat) : Int), uI v 4 i (jI (t3 S (66 + i)))), ⟨rfl, hs.tr (Sm.wI v rfl), hc3⟩, ?_⟩
        show p_X1_dryWornGears_2 (n + 1) (jI i) v = p_X1_dryWornGears_2 n (jI ((i + 1 : Nat) : Int)) (uI v 4 i (jI (t3 S (66 + i))))
        rw [p_X1_dryWornGears_2, e1]
        simp (disch := omega) only [l32_0, l32_1, l32_2, l32_3, l32_4, l32_5, l32_6, l32_7, l32_8, l32_9, l32_10, l32_11, l32_12, l32_13, l32_14, l32_15, l32_16, l32_17, l32_18, l32_19, l32_20, l32_21, l32_22, l32_23, l32_24, l32_25, l32_26, l32_27, l32_28, l32_29, l32_30, l32_31, l32_32, l32_33, l32_34, l32_35, l32_36, l32_37, l32_38, l32_39, l32_40, l32_41, l32_42, l32_43, l32_44, l32_45, l32_46, l32_47, l32_48, l32_49, l32_50, l32_51, l32_52, l32_53, l32_54, l32_55, l32_56, l32_57, l32_58, l32_59, l32_60, l32_61, l32_62, l32_63, l32_64, l32_65, l32_66, l32_76, l32_86, l32_90, l32_92, l32_97, l32_98, l32_99, l32_100, l32_101, l32_102, l32_103, l32_104, l32_105, l32_106, l32_107, l32_108, l32_109, l32_110, l32_111, l32_112, l32_113, l32_114, l32_115, l32_116, l32_117, l32_118, l32_119, l32_120, l32_121, l32_122, l32_123, l32_124, l32_125, l32_126, l32_192, l32_200, l32_255, l32_999, l32_1000, l32_1344, l32_2147483639, l32_2147483647, l64_0, l64_1, l64_99, l64_999, l64_24883200000, l64_746496000000, jI_add, jI_sub, jI_mul, jI_neg, jL_add, jL_sub, jL_mul, jL_neg, jL_toI, jI_toL, jI_eqT, jI_eqF, jI_ltT, jI_ltF, jI_leT, jI_leF, jL_eqT, jL_eqF, jL_ltT, jL_ltF, jL_leT, jL_leF, inR_T, inR_F, bZ_T, bZ_F, not_true_eq_false, not_false_eq_true, jI_clamp, nI_j, bs_p, wl_p, u2_p, u3_p, u4_p, u5_p, zl_p, zr_p, mn_p, ms_p, if_pos, if_neg, ite_true, ite_false, Int.toNat_natCast, vg, vo, vw z.1, nar_b0] <;> rfl
      · have e1 : t3 S (66 + i) = S (66 + i) := by rw [t3_o (by omega) (by omega), if_neg z]
        have e2 : t3 S (76 + i) = S (76 + i) := by rw [t3_w (by omega) (by omega), if_neg z]
        refine Or.inl ⟨(jI ((i + 1 : Nat) : Int), v), ⟨rfl, hs, ?_⟩, ?_⟩
        · have := tr_same (S := S) (T := t3 S) (i := i) (by omega) (by omega) e1 e2
          show CSt v 1 (tr S (t3 S) ((i : Int) + 1))
          rw [← this]; exact hc
        · show p_X1_dryWornGears_2 (n + 1) (jI i) v = p_X1_dryWornGears_2 n (jI ((i + 1 : Nat) : Int)) v
          rw [p_X1_dryWornGears_2]
          by_cases z2 : S (66 + (i : Int)) = 1
          · have g3 := g3 z2
            simp (disch := omega) only [l32_0, l32_1, l32_2, l32_3, l32_4, l32_5, l32_6, l32_7, l32_8, l32_9, l32_10, l32_11, l32_12, l32_13, l32_14, l32_15, l32_16, l32_17, l32_18, l32_19, l32_20, l32_21, l32_22, l32_23, l32_24, l32_25, l32_26, l32_27, l32_28, l32_29, l32_30, l32_31, l32_32, l32_33, l32_34, l32_35, l32_36, l32_37, l32_38, l32_39, l32_40, l32_41, l32_42, l32_43, l32_44, l32_45, l32_46, l32_47, l32_48, l32_49, l32_50, l32_51, l32_52, l32_53, l32_54, l32_55, l32_56, l32_57, l32_58, l32_59, l32_60, l32_61, l32_62, l32_63, l32_64, l32_65, l32_66, l32_76, l32_86, l32_90, l32_92, l32_97, l32_98, l32_99, l32_100, l32_101, l32_102, l32_103, l32_104, l32_105, l32_106, l32_107, l32_108, l32_109, l32_110, l32_111, l32_112, l32_113, l32_114, l32_115, l32_116, l32_117, l32_118, l32_119, l32_120, l32_121, l32_122, l32_123, l32_124, l32_125, l32_126, l32_192, l32_200, l32_255, l32_999, l32_1000, l32_1344, l32_2147483639, l32_2147483647, l64_0, l64_1, l64_99, l64_999, l64_24883200000, l64_746496000000, jI_add, jI_sub, jI_mul, jI_neg, jL_add, jL_sub, jL_mul, jL_neg, jL_toI, jI_toL, jI_eqT, jI_eqF, jI_ltT, jI_ltF, jI_leT, jI_leF, jL_eqT, jL_eqF, jL_ltT, jL_ltF, jL_leT, jL_leF, inR_T, inR_F, bZ_T, bZ_F, not_true_eq_false, not_false_eq_true, jI_clamp, nI_j, bs_p, wl_p, u2_p, u3_p, u4_p, u5_p, zl_p, zr_p, mn_p, ms_p, if_pos, if_neg, ite_true, ite_false, Int.toNat_natCast, vg, vo, vw z2] <;> rfl
          · have z3 : S (66 + (i : Int)) = 0 := by omega
            simp (disch := omega) only [l32_0, l32_1, l32_2, l32_3, l32_4, l32_5, l32_6, l32_7, l32_8, l32_9, l32_10, l32_11, l32_12, l32_13, l32_14, l32_15, l32_16, l32_17, l32_18, l32_19, l32_20, l32_21, l32_22, l32_23, l32_24, l32_25, l32_26, l32_27, l32_28, l32_29, l32_30, l32_31, l32_32, l32_33, l32_34, l32_35, l32_36, l32_37, l32_38, l32_39, l32_40, l32_41, l32_42, l32_43, l32_44, l32_45, l32_46, l32_47, l32_48, l32_49, l32_50, l32_51, l32_52, l32_53, l32_54, l32_55, l32_56, l32_57, l32_58, l32_59, l32_60, l32_61, l32_62, l32_63, l32_64, l32_65, l32_66, l32_76, l32_86, l32_90, l32_92, l32_97, l32_98, l32_99, l32_100, l32_101, l32_102, l32_103, l32_104, l32_105, l32_106, l32_107, l32_108, l32_109, l32_110, l32_111, l32_112, l32_113, l32_114, l32_115, l32_116, l32_117, l32_118, l32_119, l32_120, l32_121, l32_122, l32_123, l32_124, l32_125, l32_126, l32_192, l32_200, l32_255, l32_999, l32_1000, l32_1344, l32_2147483639, l32_2147483647, l64_0, l64_1, l64_99, l64_999, l64_24883200000, l64_746496000000, jI_add, jI_sub, jI_mul, jI_neg, jL_add, jL_sub, jL_mul, jL_neg, jL_toI, jI_toL, jI_eqT, jI_eqF, jI_ltT, jI_ltF, jI_leT, jI_leF, jL_eqT, jL_eqF, jL_ltT, jL_ltF, jL_leT, jL_leF, inR_T, inR_F, bZ_T, bZ_F, not_true_eq_false, not_false_eq_true, jI_clamp, nI_j, bs_p, wl_p, u2_p, u3_p, u4_p, u5_p, zl_p, zr_p, mn_p, ms_p, if_pos, if_neg, ite_true, ite_false, Int.toNat_natCast, vg, vo] <;> rfl)
    (fun n s hI => by
      obtain ⟨y, v⟩ := s
      obtain ⟨rfl, hs, hc⟩ := hI
      have e1 : ((S 0).toNat : Int) = S 0 := by omega
      rw [e1] at hc
      have hc : CSt v 1 (tr S (t3 S) (S 0)) := hc
      have q0 : tr S (t3 S) (S 0) 0 = S 0 := by unfold tr; rw [if_neg (by omega)]
      have vg : gI v 1 10 = jI (S 0) := by rw [c_g hc, q0]
      refine ⟨.inl (jI (S 0), v), ?_, _, rfl, hs, hc⟩
      show p_X1_dryWornGears_2 (n + 1) (jI ((S 0).toNat : Int)) v = _
      rw [p_X1_dryWornGears_2, e1]
      simp (disch := omega) only [l32_0, l32_1, l32_2, l32_3, l32_4, l32_5, l32_6, l32_7, l32_8, l32_9, l32_10, l32_11, l32_12, l32_13, l32_14, l32_15, l32_16, l32_17, l32_18, l32_19, l32_20, l32_21, l32_22, l32_23, l32_24, l32_25, l32_26, l32_27, l32_28, l32_29, l32_30, l32_31, l32_32, l32_33, l32_34, l32_35, l32_36, l32_37, l32_38, l32_39, l32_40, l32_41, l32_42, l32_43, l32_44, l32_45, l32_46, l32_47, l32_48, l32_49, l32_50, l32_51, l32_52, l32_53, l32_54, l32_55, l32_56, l32_57, l32_58, l32_59, l32_60, l32_61, l32_62, l32_63, l32_64, l32_65, l32_66, l32_76, l32_86, l32_90, l32_92, l32_97, l32_98, l32_99, l32_100, l32_101, l32_102, l32_103, l32_104, l32_105, l32_106, l32_107, l32_108, l32_109, l32_110, l32_111, l32_112, l32_113, l32_114, l32_115, l32_116, l32_117, l32_118, l32_119, l32_120, l32_121, l32_122, l32_123, l32_124, l32_125, l32_126, l32_192, l32_200, l32_255, l32_999, l32_1000, l32_1344, l32_2147483639, l32_2147483647, l64_0, l64_1, l64_99, l64_999, l64_24883200000, l64_746496000000, jI_add, jI_sub, jI_mul, jI_neg, jL_add, jL_sub, jL_mul, jL_neg, jL_toI, jI_toL, jI_eqT, jI_eqF, jI_ltT, jI_ltF, jI_leT, jI_leF, jL_eqT, jL_eqF, jL_ltT, jL_ltF, jL_leT, jL_leF, inR_T, inR_F, bZ_T, bZ_F, not_true_eq_false, not_false_eq_true, jI_clamp, nI_j, bs_p, wl_p, u2_p, u3_p, u4_p, u5_p, zl_p, zr_p, mn_p, ms_p, if_pos, if_neg, ite_true, ite_false, vg]) 2000 0 (jI 0, w) (by omega) (by omega) ⟨rfl, Sm.refl w, h.congr (fun z _ _ => by unfold tr; rw [if_neg (by omega)])⟩
  obtain ⟨q, rfl, hs, hc⟩ := hP
  have hr : p_X1_dryWornGears_2 2000 (jI 0) w = some (.inl q) := hr
  obtain ⟨y, v⟩ := q
  refine ⟨v, ?_, hs, hc.congr (fun z z0 z1 => ?_)⟩
  · unfold f_X1_dryWornGears
    simp (disch := omega) only [l32_0, l32_1, l32_2, l32_3, l32_4, l32_5, l32_6, l32_7, l32_8, l32_9, l32_10, l32_11, l32_12, l32_13, l32_14, l32_15, l32_16, l32_17, l32_18, l32_19, l32_20, l32_21, l32_22, l32_23, l32_24, l32_25, l32_26, l32_27, l32_28, l32_29, l32_30, l32_31, l32_32, l32_33, l32_34, l32_35, l32_36, l32_37, l32_38, l32_39, l32_40, l32_41, l32_42, l32_43, l32_44, l32_45, l32_46, l32_47, l32_48, l32_49, l32_50, l32_51, l32_52, l32_53, l32_54, l32_55, l32_56, l32_57, l32_58, l32_59, l32_60, l32_61, l32_62, l32_63, l32_64, l32_65, l32_66, l32_76, l32_86, l32_90, l32_92, l32_97, l32_98, l32_99, l32_100, l32_101, l32_102, l32_103, l32_104, l32_105, l32_106, l32_107, l32_108, l32_109, l32_110, l32_111, l32_112, l32_113, l32_114, l32_115, l32_116, l32_117, l32_118, l32_119, l32_120, l32_121, l32_122, l32_123, l32_124, l32_125, l32_126, l32_192, l32_200, l32_255, l32_999, l32_1000, l32_1344, l32_2147483639, l32_2147483647, l64_0, l64_1, l64_99, l64_999, l64_24883200000, l64_746496000000, jI_add, jI_sub, jI_mul, jI_neg, jL_add, jL_sub, jL_mul, jL_neg, jL_toI, jI_toL, jI_eqT, jI_eqF, jI_ltT, jI_ltF, jI_leT, jI_leF, jL_eqT, jL_eqF, jL_ltT, jL_ltF, jL_leT, jL_leF, inR_T, inR_F, bZ_T, bZ_F, not_true_eq_false, not_false_eq_true, jI_clamp, nI_j, bs_p, wl_p, u2_p, u3_p, u4_p, u5_p, zl_p, zr_p, mn_p, ms_p, if_pos, if_neg, ite_true, ite_false, hr]
  · unfold tr
    by_cases q3 : (66 ≤ z ∧ z < 66 + S 0) ∨ (76 ≤ z ∧ z < 76 + S 0)
    · rw [if_pos q3]
    · rw [if_neg q3]
      by_cases q4 : 66 ≤ z ∧ z < 76
      · have hh := hH (z - 66) (by omega) (by omega)
        rw [show z = 66 + (z - 66) by omega, t3_o (by omega) (by omega), if_neg (fun q => by have := hh q.1; omega)]
      · by_cases q5 : 76 ≤ z ∧ z < 86
        · have hh := hH (z - 76) (by omega) (by omega)
          rw [show z = 76 + (z - 76) by omega, t3_w (by omega) (by omega), if_neg (fun q => by have := hh q.1; omega)]
        · rw [t3_r (by omega)]
theorem tb_same (x2 : Int64) : ∀ (n : Nat) (y : Int32) (w : Wd), p_X11_turnsBy_25 x2 n y w = p_X11_turnsBy_25b x2 x2 n y w
  | 0, _, _ => rfl
  | n + 1, y, w => by
    rw [p_X11_turnsBy_25, p_X11_turnsBy_25b]
    simp only [tb_same x2 n]
def KG (k : Nat) : Prop := k = 142
theorem s_rTurnsBy {w : Wd} {S u : Ab} {c e x : Int} (hG : ∀ i, 0 ≤ i → i < 10 → (0 ≤ S (16 + i) ∧ S (16 + i) < 24883200000) ∧ (S (66 + i) = 0 ∨ S (66 + i) = 1)) (h : RSt w 142 0 S) (hT : RT w u) (hb : ∀ x, 0 ≤ x → x < 10 → -14929920000000000 ≤ u x ∧ u x ≤ 14929920000000000) (c0 : 0 ≤ c) (c1 : c ≤ 50) (x0 : 0 ≤ x) (x1 : x < 10) (hv : S (46 + x) = 0 ∨ S (46 + x) = 1) (he : e = if S (46 + x) = 1 then -c else c) :
    ∃ w', f_X11_turnsBy w (jI x) (jL c) = some w' ∧ Sm KG w w' ∧ RSt w' 142 0 (t1 S u c e) := by
  have he2 : -50 ≤ e ∧ e ≤ 50 := by rw [he]; split <;> omega
  obtain ⟨r, hr, hP⟩ := lp (fun n (s : Int32 × Wd) => p_X11_turnsBy_25b (jL e) (jL c) n s.1 s.2)
    (fun i s => s.1 = jI i ∧ Sm KG w s.2 ∧ RSt s.2 142 0 (tq S (t1 S u c e) i)) 10
    (fun r => ∃ q, r = .inl q ∧ Sm KG w q.2 ∧ RSt q.2 142 0 (tq S (t1 S u c e) 10))
    (fun i n s hi hI => by
      obtain ⟨y, v⟩ := s
      obtain ⟨rfl, hs, hc⟩ := hI
      have hs : Sm KG w v := hs
      have hc : RSt v 142 0 (tq S (t1 S u c e) i) := hc
      obtain ⟨g1, g2⟩ := hG i (by omega) (by omega)
      have ub := hb i (by omega) (by omega)
      have um := u_mul ub.1 ub.2 (e := e) (by omega) (by omega)
      have uc := u_mul ub.1 ub.2 (e := c) (by omega) (by omega)
      have eu : gL v 148 i = jL (u i) := by
        have := rt_u hT i (by omega) (by omega)
        rw [Int.toNat_natCast] at this
        rw [hs.lK (by unfold KG; omega)]; exact this
      have ek : gI v 149 i = jI (bZ (u i ≠ 0)) := by
        have := rt_k hT i (by omega) (by omega)
        rw [Int.toNat_natCast] at this
        rw [hs.iK (by unfold KG; omega)]; exact this
      have q1 : tq S (t1 S u c e) i (16 + i) = S (16 + i) := by unfold tq; rw [if_neg (by omega)]
      have q2 : tq S (t1 S u c e) i (66 + i) = S (66 + i) := by unfold tq; rw [if_neg (by omega)]
      have q3 : tq S (t1 S u c e) i (76 + i) = S (76 + i) := by unfold tq; rw [if_neg (by omega)]
      have va : gL v 142 (16 + (i : Int)).toNat = jL (S (16 + i)) := by rw [r_g hc _ (by omega) (by omega), q1]
      have vo : gL v 142 (66 + (i : Int)).toNat = jL (S (66 + i)) := by rw [r_g hc _ (by omega) (by omega), q2]
      have vw : gL v 142 (76 + (i : Int)).toNat = jL (S (76 + i)) := by rw [r_g hc _ (by omega) (by omega), q3]
      by_cases z : u i = 0
      · have a1 : t1 S u c e (16 + i) = S (16 + i) := by rw [t1_a (by omega) (by omega), if_pos z]
        have a2 : t1 S u c e (76 + i) = S (76 + i) := by rw [t1_w (by omega) (by omega), if_neg (fun q => q.1 z)]
        refine Or.inl ⟨(jI ((i + 1 : Nat) : Int), v), ⟨rfl, hs, ?_⟩, ?_⟩
        · have := tq_step (S := S) (T := t1 S u c e) (i := i) (by omega) (by omega)
          show RSt v 142 0 (tq S (t1 S u c e) ((i : Int) + 1))
          rw [← this]
          refine hc.congr (fun y y0 y1 => ?_)
          by_cases p1 : y = 76 + i
          · rw [p1, up_eq, a2, q3]
          · rw [up_ne p1]
            by_cases p2 : y = 16 + i
            · rw [p2, up_eq, a1, q1]
            · rw [up_ne p2]
        · show p_X11_turnsBy_25b (jL e) (jL c) (n + 1) (jI i) v = p_X11_turnsBy_25b (jL e) (jL c) n (jI ((i + 1 : Nat) : Int)) v
          rw [p_X11_turnsBy_25b]
          simp (disch := omega) only [l32_0, l32_1, l32_2, l32_3, l32_4, l32_5, l32_6, l32_7, l32_8, l32_9, l32_10, l32_11, l32_12, l32_13, l32_14, l32_15, l32_16, l32_17, l32_18, l32_19, l32_20, l32_21, l32_22, l32_23, l32_24, l32_25, l32_26, l32_27, l32_28, l32_29, l32_30, l32_31, l32_32, l32_33, l32_34, l32_35, l32_36, l32_37, l32_38, l32_39, l32_40, l32_41, l32_42, l32_43, l32_44, l32_45, l32_46, l32_47, l32_48, l32_49, l32_50, l32_51, l32_52, l32_53, l32_54, l32_55, l32_56, l32_57, l32_58, l32_59, l32_60, l32_61, l32_62, l32_63, l32_64, l32_65, l32_66, l32_76, l32_86, l32_90, l32_92, l32_97, l32_98, l32_99, l32_100, l32_101, l32_102, l32_103, l32_104, l32_105, l32_106, l32_107, l32_108, l32_109, l32_110, l32_111, l32_112, l32_113, l32_114, l32_115, l32_116, l32_117, l32_118, l32_119, l32_120, l32_121, l32_122, l32_123, l32_124, l32_125, l32_126, l32_192, l32_200, l32_255, l32_999, l32_1000, l32_1344, l32_2147483639, l32_2147483647, l64_0, l64_1, l64_99, l64_999, l64_24883200000, l64_746496000000, jI_add, jI_sub, jI_mul, jI_neg, jL_add, jL_sub, jL_mul, jL_neg, jL_toI, jI_toL, jI_eqT, jI_eqF, jI_ltT, jI_ltF, jI_leT, jI_leF, jL_eqT, jL_eqF, jL_ltT, jL_ltF, jL_leT, jL_leF, inR_T, inR_F, bZ_T, bZ_F, not_true_eq_false, not_false_eq_true, jI_clamp, nI_j, bs_p, wl_p, u2_p, u3_p, u4_p, u5_p, zl_p, zr_p, mn_p, ms_p, if_pos, if_neg, ite_true, ite_false, Int.toNat_natCast, ek] <;> rfl
      · have an : t1 S u c e (16 + i) = (S (16 + i) + e * u i) % 24883200000 := by
          rw [t1_a (by omega) (by omega), if_neg z, Int.mul_comm]
        have cm : e * u i = u i * e := Int.mul_comm _ _
        have wn : t1 S u c e (76 + i) = S (76 + i) + (if S (66 + (i : Int)) = 1 then (u i).natAbs * c else 0) := by
          rw [t1_w (by omega) (by omega)]
          by_cases z2 : S (66 + (i : Int)) = 1
          · rw [if_pos ⟨z, z2⟩, if_pos z2]
          · rw [if_neg (fun q => z2 q.2), if_neg z2, Int.add_zero]
        have hc3 := (hc.put (z := 16 + (i : Int)) (v := t1 S u c e (16 + i)) (by omega) (by omega)).put (z := 76 + (i : Int)) (v := t1 S u c e (76 + i)) (by omega) (by omega)
        rw [tq_step (by omega) (by omega)] at hc3
        refine Or.inl ⟨(jI ((i + 1 : Nat) : Int), uL (uL v 142 (16 + (i : Int)).toNat (jL (t1 S u c e (16 + i)))) 142 (76 + (i : Int)).toNat (jL (t1 S u c e (76 + i)))), ⟨rfl, (hs.tr (Sm.wL v rfl)).tr (Sm.wL _ rfl), hc3⟩, ?_⟩
        show p_X11_turnsBy_25b (jL e) (jL c) (n + 1) (jI i) v = p_X11_turnsBy_25b (jL e) (jL c) n (jI ((i + 1 : Nat) : Int)) (uL (uL v 142 (16 + (i : Int)).toNat (jL (t1 S u c e (16 + i)))) 142 (76 + (i : Int)).toNat (jL (t1 S u c e (76 + i))))
        rw [p_X11_turnsBy_25b, an, wn]
        rcases g2 with g2 | g2
        · rw [if_neg (show ¬ S (66 + (i : Int)) = 1 by omega)]
          simp (disch := omega) only [l32_0, l32_1, l32_2, l32_3, l32_4, l32_5, l32_6, l32_7, l32_8, l32_9, l32_10, l32_11, l32_12, l32_13, l32_14, l32_15, l32_16, l32_17, l32_18, l32_19, l32_20, l32_21, l32_22, l32_23, l32_24, l32_25, l32_26, l32_27, l32_28, l32_29, l32_30, l32_31, l32_32, l32_33, l32_34, l32_35, l32_36, l32_37, l32_38, l32_39, l32_40, l32_41, l32_42, l32_43, l32_44, l32_45, l32_46, l32_47, l32_48, l32_49, l32_50, l32_51, l32_52, l32_53, l32_54, l32_55, l32_56, l32_57, l32_58, l32_59, l32_60, l32_61, l32_62, l32_63, l32_64, l32_65, l32_66, l32_76, l32_86, l32_90, l32_92, l32_97, l32_98, l32_99, l32_100, l32_101, l32_102, l32_103, l32_104, l32_105, l32_106, l32_107, l32_108, l32_109, l32_110, l32_111, l32_112, l32_113, l32_114, l32_115, l32_116, l32_117, l32_118, l32_119, l32_120, l32_121, l32_122, l32_123, l32_124, l32_125, l32_126, l32_192, l32_200, l32_255, l32_999, l32_1000, l32_1344, l32_2147483639, l32_2147483647, l64_0, l64_1, l64_99, l64_999, l64_24883200000, l64_746496000000, jI_add, jI_sub, jI_mul, jI_neg, jL_add, jL_sub, jL_mul, jL_neg, jL_toI, jI_toL, jI_eqT, jI_eqF, jI_ltT, jI_ltF, jI_leT, jI_leF, jL_eqT, jL_eqF, jL_ltT, jL_ltF, jL_leT, jL_leF, inR_T, inR_F, bZ_T, bZ_F, not_true_eq_false, not_false_eq_true, jI_clamp, nI_j, bs_p, wl_p, u2_p, u3_p, u4_p, u5_p, zl_p, zr_p, mn_p, ms_p, if_pos, if_neg, ite_true, ite_false, Int.toNat_natCast, ek, eu, va, vo, vw, s_rest, gL_uL] <;> rfl
        · rw [if_pos g2]
          simp (disch := omega) only [l32_0, l32_1, l32_2, l32_3, l32_4, l32_5, l32_6, l32_7, l32_8, l32_9, l32_10, l32_11, l32_12, l32_13, l32_14, l32_15, l32_16, l32_17, l32_18, l32_19, l32_20, l32_21, l32_22, l32_23, l32_24, l32_25, l32_26, l32_27, l32_28, l32_29, l32_30, l32_31, l32_32, l32_33, l32_34, l32_35, l32_36, l32_37, l32_38, l32_39, l32_40, l32_41, l32_42, l32_43, l32_44, l32_45, l32_46, l32_47, l32_48, l32_49, l32_50, l32_51, l32_52, l32_53, l32_54, l32_55, l32_56, l32_57, l32_58, l32_59, l32_60, l32_61, l32_62, l32_63, l32_64, l32_65, l32_66, l32_76, l32_86, l32_90, l32_92, l32_97, l32_98, l32_99, l32_100, l32_101, l32_102, l32_103, l32_104, l32_105, l32_106, l32_107, l32_108, l32_109, l32_110, l32_111, l32_112, l32_113, l32_114, l32_115, l32_116, l32_117, l32_118, l32_119, l32_120, l32_121, l32_122, l32_123, l32_124, l32_125, l32_126, l32_192, l32_200, l32_255, l32_999, l32_1000, l32_1344, l32_2147483639, l32_2147483647, l64_0, l64_1, l64_99, l64_999, l64_24883200000, l64_746496000000, jI_add, jI_sub, jI_mul, jI_neg, jL_add, jL_sub, jL_mul, jL_neg, jL_toI, jI_toL, jI_eqT, jI_eqF, jI_ltT, jI_ltF, jI_leT, jI_leF, jL_eqT, jL_eqF, jL_ltT, jL_ltF, jL_leT, jL_leF, inR_T, inR_F, bZ_T, bZ_F, not_true_eq_false, not_false_eq_true, jI_clamp, nI_j, bs_p, wl_p, u2_p, u3_p, u4_p, u5_p, zl_p, zr_p, mn_p, ms_p, if_pos, if_neg, ite_true, ite_false, Int.toNat_natCast, ek, eu, va, vo, vw, s_rest, s_size, gL_uL] <;> rfl)
    (fun n s hI => by
      obtain ⟨y, v⟩ := s
      obtain ⟨rfl, hs, hc⟩ := hI
      refine ⟨.inl (jI 10, v), ?_, _, rfl, hs, hc⟩
      show p_X11_turnsBy_25b (jL e) (jL c) (n + 1) (jI ((10 : Nat) : Int)) v = _
      rw [p_X11_turnsBy_25b, show ((10 : Nat) : Int) = 10 from rfl]
      simp (disch := omega) only [l32_0, l32_1, l32_2, l32_3, l32_4, l32_5, l32_6, l32_7, l32_8, l32_9, l32_10, l32_11, l32_12, l32_13, l32_14, l32_15, l32_16, l32_17, l32_18, l32_19, l32_20, l32_21, l32_22, l32_23, l32_24, l32_25, l32_26, l32_27, l32_28, l32_29, l32_30, l32_31, l32_32, l32_33, l32_34, l32_35, l32_36, l32_37, l32_38, l32_39, l32_40, l32_41, l32_42, l32_43, l32_44, l32_45, l32_46, l32_47, l32_48, l32_49, l32_50, l32_51, l32_52, l32_53, l32_54, l32_55, l32_56, l32_57, l32_58, l32_59, l32_60, l32_61, l32_62, l32_63, l32_64, l32_65, l32_66, l32_76, l32_86, l32_90, l32_92, l32_97, l32_98, l32_99, l32_100, l32_101, l32_102, l32_103, l32_104, l32_105, l32_106, l32_107, l32_108, l32_109, l32_110, l32_111, l32_112, l32_113, l32_114, l32_115, l32_116, l32_117, l32_118, l32_119, l32_120, l32_121, l32_122, l32_123, l32_124, l32_125, l32_126, l32_192, l32_200, l32_255, l32_999, l32_1000, l32_1344, l32_2147483639, l32_2147483647, l64_0, l64_1, l64_99, l64_999, l64_24883200000, l64_746496000000, jI_add, jI_sub, jI_mul, jI_neg, jL_add, jL_sub, jL_mul, jL_neg, jL_toI, jI_toL, jI_eqT, jI_eqF, jI_ltT, jI_ltF, jI_leT, jI_leF, jL_eqT, jL_eqF, jL_ltT, jL_ltF, jL_leT, jL_leF, inR_T, inR_F, bZ_T, bZ_F, not_true_eq_false, not_false_eq_true, jI_clamp, nI_j, bs_p, wl_p, u2_p, u3_p, u4_p, u5_p, zl_p, zr_p, mn_p, ms_p, if_pos, if_neg, ite_true, ite_false]) 2000 0 (jI 0, w) (by omega) (by omega) ⟨rfl, Sm.refl w, h.congr (fun z _ _ => by unfold tq; rw [if_neg (by omega)])⟩
  obtain ⟨q, rfl, hs, hc⟩ := hP
  have hr : p_X11_turnsBy_25b (jL e) (jL c) 2000 (jI 0) w = some (.inl q) := hr
  obtain ⟨y, v⟩ := q
  refine ⟨v, ?_, hs, hc.congr (fun z z0 z1 => ?_)⟩
  · unfold f_X11_turnsBy
    rcases hv with hv | hv
    · rw [if_neg (by omega)] at he
      rw [he] at hr
      simp (disch := omega) only [l32_0, l32_1, l32_2, l32_3, l32_4, l32_5, l32_6, l32_7, l32_8, l32_9, l32_10, l32_11, l32_12, l32_13, l32_14, l32_15, l32_16, l32_17, l32_18, l32_19, l32_20, l32_21, l32_22, l32_23, l32_24, l32_25, l32_26, l32_27, l32_28, l32_29, l32_30, l32_31, l32_32, l32_33, l32_34, l32_35, l32_36, l32_37, l32_38, l32_39, l32_40, l32_41, l32_42, l32_43, l32_44, l32_45, l32_46, l32_47, l32_48, l32_49, l32_50, l32_51, l32_52, l32_53, l32_54, l32_55, l32_56, l32_57, l32_58, l32_59, l32_60, l32_61, l32_62, l32_63, l32_64, l32_65, l32_66, l32_76, l32_86, l32_90, l32_92, l32_97, l32_98, l32_99, l32_100, l32_101, l32_102, l32_103, l32_104, l32_105, l32_106, l32_107, l32_108, l32_109, l32_110, l32_111, l32_112, l32_113, l32_114, l32_115, l32_116, l32_117, l32_118, l32_119, l32_120, l32_121, l32_122, l32_123, l32_124, l32_125, l32_126, l32_192, l32_200, l32_255, l32_999, l32_1000, l32_1344, l32_2147483639, l32_2147483647, l64_0, l64_1, l64_99, l64_999, l64_24883200000, l64_746496000000, jI_add, jI_sub, jI_mul, jI_neg, jL_add, jL_sub, jL_mul, jL_neg, jL_toI, jI_toL, jI_eqT, jI_eqF, jI_ltT, jI_ltF, jI_leT, jI_leF, jL_eqT, jL_eqF, jL_ltT, jL_ltF, jL_leT, jL_leF, inR_T, inR_F, bZ_T, bZ_F, not_true_eq_false, not_false_eq_true, jI_clamp, nI_j, bs_p, wl_p, u2_p, u3_p, u4_p, u5_p, zl_p, zr_p, mn_p, ms_p, if_pos, if_neg, ite_true, ite_false, r_g h, tb_same, hr]
    · rw [if_pos hv] at he
      rw [he] at hr
      simp (disch := omega) only [l32_0, l32_1, l32_2, l32_3, l32_4, l32_5, l32_6, l32_7, l32_8, l32_9, l32_10, l32_11, l32_12, l32_13, l32_14, l32_15, l32_16, l32_17, l32_18, l32_19, l32_20, l32_21, l32_22, l32_23, l32_24, l32_25, l32_26, l32_27, l32_28, l32_29, l32_30, l32_31, l32_32, l32_33, l32_34, l32_35, l32_36, l32_37, l32_38, l32_39, l32_40, l32_41, l32_42, l32_43, l32_44, l32_45, l32_46, l32_47, l32_48, l32_49, l32_50, l32_51, l32_52, l32_53, l32_54, l32_55, l32_56, l32_57, l32_58, l32_59, l32_60, l32_61, l32_62, l32_63, l32_64, l32_65, l32_66, l32_76, l32_86, l32_90, l32_92, l32_97, l32_98, l32_99, l32_100, l32_101, l32_102, l32_103, l32_104, l32_105, l32_106, l32_107, l32_108, l32_109, l32_110, l32_111, l32_112, l32_113, l32_114, l32_115, l32_116, l32_117, l32_118, l32_119, l32_120, l32_121, l32_122, l32_123, l32_124, l32_125, l32_126, l32_192, l32_200, l32_255, l32_999, l32_1000, l32_1344, l32_2147483639, l32_2147483647, l64_0, l64_1, l64_99, l64_999, l64_24883200000, l64_746496000000, jI_add, jI_sub, jI_mul, jI_neg, jL_add, jL_sub, jL_mul, jL_neg, jL_toI, jI_toL, jI_eqT, jI_eqF, jI_ltT, jI_ltF, jI_leT, jI_leF, jL_eqT, jL_eqF, jL_ltT, jL_ltF, jL_leT, jL_leF, inR_T, inR_F, bZ_T, bZ_F, not_true_eq_false, not_false_eq_true, jI_clamp, nI_j, bs_p, wl_p, u2_p, u3_p, u4_p, u5_p, zl_p, zr_p, mn_p, ms_p, if_pos, if_neg, ite_true, ite_false, r_g h, hr]
  · unfold tq
    by_cases q3 : (16 ≤ z ∧ z < 16 + 10) ∨ (76 ≤ z ∧ z < 76 + 10)
    · rw [if_pos q3]
    · rw [if_neg q3, t1_o (by omega) (by omega)]
theorem s_rDries {w : Wd} {S : Ab} (hG : ∀ i, 0 ≤ i → i < 10 → (S (66 + i) = 0 ∨ S (66 + i) = 1) ∧ (S (66 + i) = 1 → 0 ≤ S (76 + i) ∧ S (76 + i) < 4000000000000000000)) (h : RSt w 142 0 S) :
    ∃ w', f_X11_dries w = some w' ∧ Sm KG w w' ∧ RSt w' 142 0 (t3 S) := by
  obtain ⟨r, hr, hP⟩ := lp (fun n (s : Int32 × Wd) => p_X11_dries_2 n s.1 s.2)
    (fun i s => s.1 = jI i ∧ Sm KG w s.2 ∧ RSt s.2 142 0 (tr S (t3 S) i)) 10
    (fun r => ∃ q, r = .inl q ∧ Sm KG w q.2 ∧ RSt q.2 142 0 (tr S (t3 S) 10))
    (fun i n s hi hI => by
      obtain ⟨y, v⟩ := s
      obtain ⟨rfl, hs, hc⟩ := hI
      have hs : Sm KG w v := hs
      have hc : RSt v 142 0 (tr S (t3 S) i) := hc
      obtain ⟨g2, g3⟩ := hG i (by omega) (by omega)
      have q2 : tr S (t3 S) i (66 + i) = S (66 + i) := by unfold tr; rw [if_neg (by omega)]
      have q3 : tr S (t3 S) i (76 + i) = S (76 + i) := by unfold tr; rw [if_neg (by omega)]
      have vo : gL v 142 (66 + (i : Int)).toNat = jL (S (66 + i)) := by rw [r_g hc _ (by omega) (by omega), q2]
      have vw : gL v 142 (76 + (i : Int)).toNat = jL (S (76 + i)) := by rw [r_g hc _ (by omega) (by omega), q3]
      by_cases z : S (66 + (i : Int)) = 1 ∧ 746496000000 ≤ S (76 + (i : Int))
      · have e1 : t3 S (66 + i) = 0 := by rw [t3_o (by omega) (by omega), if_pos z]
        have e2 : t3 S (76 + i) = 0 := by rw [t3_w (by omega) (by omega), if_pos z]
        have hc3 := (hc.put (z := 66 + (i : Int)) (v := t3 S (66 + i)) (by omega) (by omega)).put (z := 76 + (i : Int)) (v := t3 S (76 + i)) (by omega) (by omega)
        rw [tr_step (by omega) (by omega)] at hc3
        have g3 := g3 z.1
        refine Or.inl ⟨(jI ((i + 1 : Nat) : Int), uL (uL v 142 (66 + (i : Int)).toNat (jL (t3 S (66 + i)))) 142 (76 + (i : Int)).toNat (jL (t3 S (76 + i)))), ⟨rfl, (hs.tr (Sm.wL v rfl)).tr (Sm.wL _ rfl), hc3⟩, ?_⟩
        show p_X11_dries_2 (n + 1) (jI i) v = p_X11_dries_2 n (jI ((i + 1 : Nat) : Int)) (uL (uL v 142 (66 + (i : Int)).toNat (jL (t3 S (66 + i)))) 142 (76 + (i : Int)).toNat (jL (t3 S (76 + i))))
        rw [p_X11_dries_2, e1, e2]
        simp (disch := omega) only [l32_0, l32_1, l32_2, l32_3, l32_4, l32_5, l32_6, l32_7, l32_8, l32_9, l32_10, l32_11, l32_12, l32_13, l32_14, l32_15, l32_16, l32_17, l32_18, l32_19, l32_20, l32_21, l32_22, l32_23, l32_24, l32_25, l32_26, l32_27, l32_28, l32_29, l32_30, l32_31, l32_32, l32_33, l32_34, l32_35, l32_36, l32_37, l32_38, l32_39, l32_40, l32_41, l32_42, l32_43, l32_44, l32_45, l32_46, l32_47, l32_48, l32_49, l32_50, l32_51, l32_52, l32_53, l32_54, l32_55, l32_56, l32_57, l32_58, l32_59, l32_60, l32_61, l32_62, l32_63, l32_64, l32_65, l32_66, l32_76, l32_86, l32_90, l32_92, l32_97, l32_98, l32_99, l32_100, l32_101, l32_102, l32_103, l32_104, l32_105, l32_106, l32_107, l32_108, l32_109, l32_110, l32_111, l32_112, l32_113, l32_114, l32_115, l32_116, l32_117, l32_118, l32_119, l32_120, l32_121, l32_122, l32_123, l32_124, l32_125, l32_126, l32_192, l32_200, l32_255, l32_999, l32_1000, l32_1344, l32_2147483639, l32_2147483647, l64_0, l64_1, l64_99, l64_999, l64_24883200000, l64_746496000000, jI_add, jI_sub, jI_mul, jI_neg, jL_add, jL_sub, jL_mul, jL_neg, jL_toI, jI_toL, jI_eqT, jI_eqF, jI_ltT, jI_ltF, jI_leT, jI_leF, jL_eqT, jL_eqF, jL_ltT, jL_ltF, jL_leT, jL_leF, inR_T, inR_F, bZ_T, bZ_F, not_true_eq_false, not_false_eq_true, jI_clamp, nI_j, bs_p, wl_p, u2_p, u3_p, u4_p, u5_p, zl_p, zr_p, mn_p, ms_p, if_pos, if_neg, ite_true, ite_false, vo, vw] <;> rfl
      · have e1 : t3 S (66 + i) = S (66 + i) := by rw [t3_o (by omega) (by omega), if_neg z]
        have e2 : t3 S (76 + i) = S (76 + i) := by rw [t3_w (by omega) (by omega), if_neg z]
        refine Or.inl ⟨(jI ((i + 1 : Nat) : Int), v), ⟨rfl, hs, ?_⟩, ?_⟩
        · have := tr_same (S := S) (T := t3 S) (i := i) (by omega) (by omega) e1 e2
          show RSt v 142 0 (tr S (t3 S) ((i : Int) + 1))
          rw [← this]; exact hc
        · show p_X11_dries_2 (n + 1) (jI i) v = p_X11_dries_2 n (jI ((i + 1 : Nat) : Int)) v
          rw [p_X11_dries_2]
          by_cases z2 : S (66 + (i : Int)) = 1
          · have g3 := g3 z2
            simp (disch := omega) only [l32_0, l32_1, l32_2, l32_3, l32_4, l32_5, l32_6, l32_7, l32_8, l32_9, l32_10, l32_11, l32_12, l32_13, l32_14, l32_15, l32_16, l32_17, l32_18, l32_19, l32_20, l32_21, l32_22, l32_23, l32_24, l32_25, l32_26, l32_27, l32_28, l32_29, l32_30, l32_31, l32_32, l32_33, l32_34, l32_35, l32_36, l32_37, l32_38, l32_39, l32_40, l32_41, l32_42, l32_43, l32_44, l32_45, l32_46, l32_47, l32_48, l32_49, l32_50, l32_51, l32_52, l32_53, l32_54, l32_55, l32_56, l32_57, l32_58, l32_59, l32_60, l32_61, l32_62, l32_63, l32_64, l32_65, l32_66, l32_76, l32_86, l32_90, l32_92, l32_97, l32_98, l32_99, l32_100, l32_101, l32_102, l32_103, l32_104, l32_105, l32_106, l32_107, l32_108, l32_109, l32_110, l32_111, l32_112, l32_113, l32_114, l32_115, l32_116, l32_117, l32_118, l32_119, l32_120, l32_121, l32_122, l32_123, l32_124, l32_125, l32_126, l32_192, l32_200, l32_255, l32_999, l32_1000, l32_1344, l32_2147483639, l32_2147483647, l64_0, l64_1, l64_99, l64_999, l64_24883200000, l64_746496000000, jI_add, jI_sub, jI_mul, jI_neg, jL_add, jL_sub, jL_mul, jL_neg, jL_toI, jI_toL, jI_eqT, jI_eqF, jI_ltT, jI_ltF, jI_leT, jI_leF, jL_eqT, jL_eqF, jL_ltT, jL_ltF, jL_leT, jL_leF, inR_T, inR_F, bZ_T, bZ_F, not_true_eq_false, not_false_eq_true, jI_clamp, nI_j, bs_p, wl_p, u2_p, u3_p, u4_p, u5_p, zl_p, zr_p, mn_p, ms_p, if_pos, if_neg, ite_true, ite_false, vo, vw] <;> rfl
          · have z3 : S (66 + (i : Int)) = 0 := by omega
            simp (disch := omega) only [l32_0, l32_1, l32_2, l32_3, l32_4, l32_5, l32_6, l32_7, l32_8, l32_9, l32_10, l32_11, l32_12, l32_13, l32_14, l32_15, l32_16, l32_17, l32_18, l32_19, l32_20, l32_21, l32_22, l32_23, l32_24, l32_25, l32_26, l32_27, l32_28, l32_29, l32_30, l32_31, l32_32, l32_33, l32_34, l32_35, l32_36, l32_37, l32_38, l32_39, l32_40, l32_41, l32_42, l32_43, l32_44, l32_45, l32_46, l32_47, l32_48, l32_49, l32_50, l32_51, l32_52, l32_53, l32_54, l32_55, l32_56, l32_57, l32_58, l32_59, l32_60, l32_61, l32_62, l32_63, l32_64, l32_65, l32_66, l32_76, l32_86, l32_90, l32_92, l32_97, l32_98, l32_99, l32_100, l32_101, l32_102, l32_103, l32_104, l32_105, l32_106, l32_107, l32_108, l32_109, l32_110, l32_111, l32_112, l32_113, l32_114, l32_115, l32_116, l32_117, l32_118, l32_119, l32_120, l32_121, l32_122, l32_123, l32_124, l32_125, l32_126, l32_192, l32_200, l32_255, l32_999, l32_1000, l32_1344, l32_2147483639, l32_2147483647, l64_0, l64_1, l64_99, l64_999, l64_24883200000, l64_746496000000, jI_add, jI_sub, jI_mul, jI_neg, jL_add, jL_sub, jL_mul, jL_neg, jL_toI, jI_toL, jI_eqT, jI_eqF, jI_ltT, jI_ltF, jI_leT, jI_leF, jL_eqT, jL_eqF, jL_ltT, jL_ltF, jL_leT, jL_leF, inR_T, inR_F, bZ_T, bZ_F, not_true_eq_false, not_false_eq_true, jI_clamp, nI_j, bs_p, wl_p, u2_p, u3_p, u4_p, u5_p, zl_p, zr_p, mn_p, ms_p, if_pos, if_neg, ite_true, ite_false, vo] <;> rfl)
    (fun n s hI => by
      obtain ⟨y, v⟩ := s
      obtain ⟨rfl, hs, hc⟩ := hI
      refine ⟨.inl (jI 10, v), ?_, _, rfl, hs, hc⟩
      show p_X11_dries_2 (n + 1) (jI ((10 : Nat) : Int)) v = _
      rw [p_X11_dries_2, show ((10 : Nat) : Int) = 10 from rfl]
      simp (disch := omega) only [l32_0, l32_1, l32_2, l32_3, l32_4, l32_5, l32_6, l32_7, l32_8, l32_9, l32_10, l32_11, l32_12, l32_13, l32_14, l32_15, l32_16, l32_17, l32_18, l32_19, l32_20, l32_21, l32_22, l32_23, l32_24, l32_25, l32_26, l32_27, l32_28, l32_29, l32_30, l32_31, l32_32, l32_33, l32_34, l32_35, l32_36, l32_37, l32_38, l32_39, l32_40, l32_41, l32_42, l32_43, l32_44, l32_45, l32_46, l32_47, l32_48, l32_49, l32_50, l32_51, l32_52, l32_53, l32_54, l32_55, l32_56, l32_57, l32_58, l32_59, l32_60, l32_61, l32_62, l32_63, l32_64, l32_65, l32_66, l32_76, l32_86, l32_90, l32_92, l32_97, l32_98, l32_99, l32_100, l32_101, l32_102, l32_103, l32_104, l32_105, l32_106, l32_107, l32_108, l32_109, l32_110, l32_111, l32_112, l32_113, l32_114, l32_115, l32_116, l32_117, l32_118, l32_119, l32_120, l32_121, l32_122, l32_123, l32_124, l32_125, l32_126, l32_192, l32_200, l32_255, l32_999, l32_1000, l32_1344, l32_2147483639, l32_2147483647, l64_0, l64_1, l64_99, l64_999, l64_24883200000, l64_746496000000, jI_add, jI_sub, jI_mul, jI_neg, jL_add, jL_sub, jL_mul, jL_neg, jL_toI, jI_toL, jI_eqT, jI_eqF, jI_ltT, jI_ltF, jI_leT, jI_leF, jL_eqT, jL_eqF, jL_ltT, jL_ltF, jL_leT, jL_leF, inR_T, inR_F, bZ_T, bZ_F, not_true_eq_false, not_false_eq_true, jI_clamp, nI_j, bs_p, wl_p, u2_p, u3_p, u4_p, u5_p, zl_p, zr_p, mn_p, ms_p, if_pos, if_neg, ite_true, ite_false]) 2000 0 (jI 0, w) (by omega) (by omega) ⟨rfl, Sm.refl w, h.congr (fun z _ _ => by unfold tr; rw [if_neg (by omega)])⟩
  obtain ⟨q, rfl, hs, hc⟩ := hP
  have hr : p_X11_dries_2 2000 (jI 0) w = some (.inl q) := hr
  obtain ⟨y, v⟩ := q
  refine ⟨v, ?_, hs, hc.congr (fun z z0 z1 => ?_)⟩
  · unfold f_X11_dries
    simp (disch := omega) only [l32_0, l32_1, l32_2, l32_3, l32_4, l32_5, l32_6, l32_7, l32_8, l32_9, l32_10, l32_11, l32_12, l32_13, l32_14, l32_15, l32_16, l32_17, l32_18, l32_19, l32_20, l32_21, l32_22, l32_23, l32_24, l32_25, l32_26, l32_27, l32_28, l32_29, l32_30, l32_31, l32_32, l32_33, l32_34, l32_35, l32_36, l32_37, l32_38, l32_39, l32_40, l32_41, l32_42, l32_43, l32_44, l32_45, l32_46, l32_47, l32_48, l32_49, l32_50, l32_51, l32_52, l32_53, l32_54, l32_55, l32_56, l32_57, l32_58, l32_59, l32_60, l32_61, l32_62, l32_63, l32_64, l32_65, l32_66, l32_76, l32_86, l32_90, l32_92, l32_97, l32_98, l32_99, l32_100, l32_101, l32_102, l32_103, l32_104, l32_105, l32_106, l32_107, l32_108, l32_109, l32_110, l32_111, l32_112, l32_113, l32_114, l32_115, l32_116, l32_117, l32_118, l32_119, l32_120, l32_121, l32_122, l32_123, l32_124, l32_125, l32_126, l32_192, l32_200, l32_255, l32_999, l32_1000, l32_1344, l32_2147483639, l32_2147483647, l64_0, l64_1, l64_99, l64_999, l64_24883200000, l64_746496000000, jI_add, jI_sub, jI_mul, jI_neg, jL_add, jL_sub, jL_mul, jL_neg, jL_toI, jI_toL, jI_eqT, jI_eqF, jI_ltT, jI_ltF, jI_leT, jI_leF, jL_eqT, jL_eqF, jL_ltT, jL_ltF, jL_leT, jL_leF, inR_T, inR_F, bZ_T, bZ_F, not_true_eq_false, not_false_eq_true, jI_clamp, nI_j, bs_p, wl_p, u2_p, u3_p, u4_p, u5_p, zl_p, zr_p, mn_p, ms_p, if_pos, if_neg, ite_true, ite_false, hr]
  · unfold tr
    by_cases q3 : (66 ≤ z ∧ z < 66 + 10) ∨ (76 ≤ z ∧ z < 76 + 10)
    · rw [if_pos q3]
    · rw [if_neg q3, t3_r (by omega)]
