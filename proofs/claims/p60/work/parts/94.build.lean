/-! BUILD: it ends, over any script, with four gears at the least -/
theorem w0_C : InvC w0 T0 := by
  refine ⟨w0_c (Or.inl rfl), rfl, fun h => ?_, ⟨0, ⟨by decide, by decide⟩, ?_, ?_, fun i i0 i1 => ?_⟩, ?_, fun i i0 i1 => ?_, rfl, rfl, ?_⟩
  · exact absurd (show (0 : Int) = 1 from h) (by decide)
  · exact w0_O (by decide) (by decide) (by decide) 1
  · exact w0_O (by decide) (by decide) (by decide) 2
  · have i1 : i < 0 := i1
    omega
  · exact w0_O (by decide) (by decide) (by decide) 1
  · have i1 : i < 0 := i1
    omega
  · refine ⟨w0_O (by decide) (by decide) (by decide) 1, w0_O (by decide) (by decide) (by decide) 3, Or.inl rfl, by decide, fun i i0 i1 => ?_, fun i hi => ⟨0, by decide, by decide, w0_O (by decide) (by decide) (by decide) i⟩⟩
    have i1 : i < 0 := i1
    omega
theorem b_gear {k : Int} {w : Wd} (h : BI k w) (k0 : k < 10) {t : Int} (ht : tooth t) : ∃ v w', f_L_act w (0 : Int32) (jI t) (0 : Int32) = some (v, w') ∧ BI (k + 1) w' := by
  obtain ⟨T, hG, hC, h0, hz⟩ := h
  obtain ⟨es, o, h5, hO, hM, hc, kk⟩ := mu_addGear hG (jI t)
  obtain ⟨w', ee, c⟩ := kk w hC
  have ee : f_X10_addGear w (jI t) = some (rs o, w') := ee
  obtain ⟨v, hv⟩ := hx_X es o w' h5 hO
  refine ⟨v, w', by rw [act_0, ee, bs_p, u2_p, hv], ts T o, ts_G hG hO, c, ?_, ts_C.trans hz⟩
  have M := ts_M hM
  have hg := hG.1.1
  have tb := tooth_b ht
  by_cases q : tS T 0 = 10
  · omega
  · obtain ⟨r, w2, e2, s2, c2⟩ := hc w hC.1
    have E : f_X1_putGear w (jI t) = some (jI (tS T 0), uI (uI w 2 (tS T 0).toNat (jI t)) 1 10 (jI (tS T 0 + 1))) := by
      have cg := c_g hC.1
      obtain ⟨r3, hr, ⟨rfl, hx⟩ | ⟨rfl, hx⟩⟩ := s_tooth (w := w) (t := t) (by omega) (by omega)
      · exact absurd ht hx
      · unfold f_X1_putGear
        simp (disch := omega) only [l32_0, l32_1, l32_2, l32_3, l32_4, l32_5, l32_6, l32_7, l32_8, l32_9, l32_10, l32_11, l32_12, l32_13, l32_14, l32_15, l32_16, l32_17, l32_18, l32_19, l32_20, l32_21, l32_22, l32_23, l32_24, l32_25, l32_26, l32_27, l32_28, l32_29, l32_30, l32_31, l32_32, l32_33, l32_34, l32_35, l32_36, l32_37, l32_38, l32_39, l32_40, l32_41, l32_42, l32_43, l32_44, l32_45, l32_46, l32_47, l32_48, l32_49, l32_50, l32_51, l32_52, l32_53, l32_54, l32_55, l32_56, l32_57, l32_58, l32_59, l32_60, l32_61, l32_62, l32_63, l32_64, l32_65, l32_66, l32_76, l32_86, l32_90, l32_92, l32_97, l32_98, l32_99, l32_100, l32_101, l32_102, l32_103, l32_104, l32_105, l32_106, l32_107, l32_108, l32_109, l32_110, l32_111, l32_112, l32_113, l32_114, l32_115, l32_116, l32_117, l32_118, l32_119, l32_120, l32_121, l32_122, l32_123, l32_124, l32_125, l32_126, l32_192, l32_200, l32_255, l32_999, l32_1000, l32_1344, l32_2147483639, l32_2147483647, l64_0, l64_1, l64_99, l64_999, l64_24883200000, l64_746496000000, jI_add, jI_sub, jI_mul, jI_neg, jL_add, jL_sub, jL_mul, jL_neg, jL_toI, jI_toL, jI_lt, jI_le, jI_eq, jL_lt, jL_le, jL_eq, inR_j, jI_clamp, nI_j, Option.bind_some, zc, u2, u3, u4, u5, wl, mo, if_pos, if_neg, ite_true, ite_false, hr, cg]
    have e2 : f_X1_putGear w (jI t) = some (r, w2) := e2
    rw [E] at e2
    cases e2
    rcases o with e | q3
    · have c2 : jI (tS T 0) = jI (-(e : Int) - 1) ∧ _ := c2
      have e5 := h5 e hO
      have := (iff_of_eq (jI_eq (by omega) (by omega) (by omega) (by omega))).mp c2.1
      omega
    · have c2 : jI (tS T 0) = jI q3.1 ∧ CSt (uI (uI w 2 (tS T 0).toNat (jI t)) 1 10 (jI (tS T 0 + 1))) 1 q3.2 := c2
      have hO : 0 ≤ q3.1 ∧ q3.1 < 1000 ∧ Good q3.2 := hO
      have g := c_g c2.2
      rw [gI_uI, if_pos ⟨rfl, rfl⟩] at g
      have b := hO.2.2.1
      have := (iff_of_eq (jI_eq (by omega) (by omega) (by omega) (by omega))).mp g
      show k + 1 ≤ q3.2 0
      omega
def ixB (n : Nat) : Bool := inR (nI n - nI n / (10 : Int32) * (10 : Int32)) 10 && ([6, 8, 10, 12, 15, 20, 24, 30, 40, 60] : List Int).any (fun t => decide (cTeeth.getD (nI n - nI n / (10 : Int32) * (10 : Int32)).toNatClampNeg 0 = jI t))
theorem ix_all : (List.range 16).all ixB = true := by decide +kernel
theorem ix_ok (z : Int32) : inR ((z &&& (15 : Int32)) - (z &&& (15 : Int32)) / (10 : Int32) * (10 : Int32)) 10 = true ∧ ∃ t : Int, tooth t ∧ cTeeth.getD ((z &&& (15 : Int32)) - (z &&& (15 : Int32)) / (10 : Int32) * (10 : Int32)).toNatClampNeg 0 = jI t := by
  obtain ⟨n, hn, e⟩ := pk_andE z (m := (15 : Int32)) 4 (by decide +kernel)
  rw [e]
  have h := List.all_eq_true.mp ix_all n (List.mem_range.mpr hn)
  unfold ixB at h
  rw [Bool.and_eq_true] at h
  obtain ⟨t, ht, h2⟩ := List.any_eq_true.mp h.2
  refine ⟨h.1, t, ?_, of_decide_eq_true h2⟩
  unfold tooth
  simpa using ht
theorem c4_ok (z : Int32) : ∃ c : Int, 4 ≤ c ∧ c ≤ 7 ∧ (4 : Int32) + (z &&& (3 : Int32)) = jI c := by
  obtain ⟨n, hn, e⟩ := pk_andE z (m := (3 : Int32)) 2 (by decide +kernel)
  refine ⟨4 + (n : Int), by omega, by omega, ?_⟩
  rw [e, nI_j, l32_4, jI_add]
theorem b_12 {g : Int} {w : Wd} (h : BI g w) (z x y : Int32) : ∃ v w', f_L_act w ((z &&& (1 : Int32)) + (1 : Int32)) x y = some (v, w') ∧ BI g w' := by
  obtain ⟨n, hn, e⟩ := pk_andE z (m := (1 : Int32)) 1 (by decide +kernel)
  rw [e]
  rcases (show n = 0 ∨ n = 1 by omega) with rfl | rfl
  · exact b_1 h x y
  · exact b_2 h x y
theorem b_23 {c : Int} (c1 : c ≤ 9) (r1 : Int32) : ∀ (m n : Nat) (k : Int) (w : Wd), 0 ≤ k → k + m = c → m < n → BI k w → ∃ w', p_L_build_23 (jI c) r1 n (jI k) w = some (.inl (jI c, w')) ∧ BI c w' := by
  intro m
  induction m with
  | zero =>
    intro n k w k0 e hn h
    obtain ⟨n, rfl⟩ : ∃ n', n = n' + 1 := ⟨n - 1, by omega⟩
    have e : k = c := by omega
    subst e
    exact ⟨w, by rw [p_L_build_23, if_pos (by rw [jI_le (by omega) (by omega) (by omega) (by omega)]; omega)], h⟩
  | succ m ih =>
    intro n k w k0 e hn h
    obtain ⟨n, rfl⟩ : ∃ n', n = n' + 1 := ⟨n - 1, by omega⟩
    rw [p_L_build_23, if_neg (by rw [jI_le (by omega) (by omega) (by omega) (by omega)]; omega), if_pos (by decide +kernel)]
    generalize r1 >>> (((2 : Int32) + ((3 : Int32) * jI k)) &&& 31) = z
    obtain ⟨i1, t, ht, i2⟩ := ix_ok z
    obtain ⟨v, w1, e1, h1⟩ := b_gear h (by omega) ht
    rw [if_pos i1, i2, e1, bs_p, u2_p, show jI k + (1 : Int32) = jI (k + 1) by rw [l32_1, jI_add]]
    exact ih n (k + 1) w1 (by omega) (by omega) (by omega) h1
theorem b_63 {g c : Int} (c1 : c ≤ 9) (r1 : Int32) : ∀ (m n : Nat) (k : Int) (w : Wd), 1 ≤ k → k + m = c → m < n → BI g w → ∃ w', p_L_build_63 (jI c) r1 n (jI k) w = some (.inl (jI c, w')) ∧ BI g w' := by
  intro m
  induction m with
  | zero =>
    intro n k w k0 e hn h
    obtain ⟨n, rfl⟩ : ∃ n', n = n' + 1 := ⟨n - 1, by omega⟩
    have e : k = c := by omega
    subst e
    exact ⟨w, by rw [p_L_build_63, if_pos (by rw [jI_le (by omega) (by omega) (by omega) (by omega)]; omega)], h⟩
  | succ m ih =>
    intro n k w k0 e hn h
    obtain ⟨n, rfl⟩ : ∃ n', n = n' + 1 := ⟨n - 1, by omega⟩
    rw [p_L_build_63, if_neg (by rw [jI_le (by omega) (by omega) (by omega) (by omega)]; omega), if_pos (by rw [l32_0, jI_eq (by omega) (by omega) (by omega) (by omega)]; omega)]
    obtain ⟨v, w1, e1, h1⟩ := b_12 h (r1 >>> (jI k &&& 31)) (((r1 >>> (((3 : Int32) + jI k) &&& 31)) &&& (7 : Int32)) - ((r1 >>> (((3 : Int32) + jI k) &&& 31)) &&& (7 : Int32)) / jI k * jI k) (jI k)
    rw [e1, bs_p, u2_p, show jI k + (1 : Int32) = jI (k + 1) by rw [l32_1, jI_add]]
    exact ih n (k + 1) w1 (by omega) (by omega) (by omega) h1
theorem b_126 {g : Int} {c : Int32} (hc : ¬ c = 0) (r1 : Int32) : ∀ (m n : Nat) (k : Int) (w : Wd), 0 ≤ k → k + m = 3 → m < n → BI g w → ∃ w', p_L_build_126 c r1 n (jI k) w = some (.inl (jI 3, w')) ∧ BI g w' := by
  intro m
  induction m with
  | zero =>
    intro n k w k0 e hn h
    obtain ⟨n, rfl⟩ : ∃ n', n = n' + 1 := ⟨n - 1, by omega⟩
    have e : k = 3 := by omega
    subst e
    exact ⟨w, by rw [p_L_build_126, if_pos (by decide +kernel)], h⟩
  | succ m ih =>
    intro n k w k0 e hn h
    obtain ⟨n, rfl⟩ : ∃ n', n = n' + 1 := ⟨n - 1, by omega⟩
    rw [p_L_build_126, if_neg (by rw [l32_3, jI_le (by omega) (by omega) (by omega) (by omega)]; omega), if_pos hc]
    obtain ⟨v, w1, e1, h1⟩ := b_10 h (((r1 >>> (((4 : Int32) * jI k) &&& 31)) &&& (7 : Int32)) - ((r1 >>> (((4 : Int32) * jI k) &&& 31)) &&& (7 : Int32)) / c * c) (0 : Int32)
    rw [e1, bs_p, u2_p, show jI k + (1 : Int32) = jI (k + 1) by rw [l32_1, jI_add]]
    exact ih n (k + 1) w1 (by omega) (by omega) (by omega) h1
theorem b_at {sc : Sc} (hL : sc.1 ≤ 1000) {k : Int} (k0 : 0 ≤ k) (k1 : k < 1000) : ∃ r, f_L_at sc (jI k) = some r := by
  unfold f_L_at
  rw [nI_j]
  by_cases q : jI (sc.1 : Int) ≤ jI k
  · exact ⟨0, if_pos q⟩
  · refine ⟨_, (if_neg q).trans (if_pos ?_)⟩
    rw [jI_le (by omega) (by omega) (by omega) (by omega)] at q
    rw [inR_j (by omega) (by omega)]
    omega
theorem bs_213 {g : Int} {w : Wd} (h : BI g w) (c r : Int32) : ∃ w', s_L_build_213 c r w = some w' ∧ BI g w' := by
  unfold s_L_build_213
  obtain ⟨v, e⟩ := b_has h c
  rw [e, bs_p, u2_p]
  split
  · exact ⟨w, rfl, h⟩
  · obtain ⟨v2, w1, e1, h1⟩ := b_7 h c ((1 : Int32) + ((r >>> ((11 : Int32) &&& 31)) &&& (7 : Int32)))
    exact ⟨w1, by rw [e1, bs_p, u2_p], h1⟩
theorem bs_241 {g : Int} {w : Wd} (h : BI g w) (r c : Int32) : ∃ w', s_L_build_241 r c w = some w' ∧ BI g w' := by
  unfold s_L_build_241
  split
  · obtain ⟨v, w1, e1, h1⟩ := b_4 h c ((20 : Int32) + ((r >>> ((16 : Int32) &&& 31)) &&& (63 : Int32)))
    exact ⟨w1, by rw [e1, bs_p, u2_p], h1⟩
  · exact ⟨w, rfl, h⟩
theorem bs_270 {g : Int} {w : Wd} (h : BI g w) (r c : Int32) : ∃ w', s_L_build_270 r c w = some w' ∧ BI g w' := by
  unfold s_L_build_270
  split
  · obtain ⟨v, w1, e1, h1⟩ := b_8 h c (0 : Int32)
    exact ⟨w1, by rw [e1, bs_p, u2_p], h1⟩
  · exact ⟨w, rfl, h⟩
theorem bs_291 {g : Int} {w : Wd} (h : BI g w) (r c d : Int32) : ∃ w', s_L_build_291 r c d w = some w' ∧ BI g w' := by
  unfold s_L_build_291
  split
  · obtain ⟨v, w1, e1, h1⟩ := b_3 h c d
    exact ⟨w1, by rw [e1, bs_p, u2_p], h1⟩
  · exact ⟨w, rfl, h⟩
theorem bs_313 {g : Int} {w : Wd} (h : BI g w) (r c d : Int32) : ∃ w', s_L_build_313 r c d w = some w' ∧ BI g w' := by
  unfold s_L_build_313
  split
  · obtain ⟨v, w1, e1, h1⟩ := b_12 h (r >>> ((17 : Int32) &&& 31)) c d
    exact ⟨w1, by rw [e1, bs_p, u2_p], h1⟩
  · exact ⟨w, rfl, h⟩
theorem bs_344 {g : Int} {w : Wd} (h : BI g w) (r c : Int32) : ∃ w', s_L_build_344 r c w = some w' ∧ BI g w' := by
  unfold s_L_build_344
  split
  · obtain ⟨v, w1, e1, h1⟩ := b_6 h c (0 : Int32)
    exact ⟨w1, by rw [e1, bs_p, u2_p], h1⟩
  · exact ⟨w, rfl, h⟩
theorem bs_366 {g : Int} {w : Wd} (h : BI g w) (r c : Int32) : ∃ w', s_L_build_366 r c w = some w' ∧ BI g w' := by
  unfold s_L_build_366
  split
  · obtain ⟨v, w1, e1, h1⟩ := b_91 h c
    exact ⟨w1, by rw [e1, bs_p, u2_p], h1⟩
  · exact ⟨w, rfl, h⟩
theorem bs_387 {g : Int} {w : Wd} (h : BI g w) (r c : Int32) : ∃ w', s_L_build_387 r c w = some w' ∧ BI g w' := by
  unfold s_L_build_387
  split
  · obtain ⟨v, w1, e1, h1⟩ := b_90 h c
    exact ⟨w1, by rw [e1, bs_p, u2_p], h1⟩
  · exact ⟨w, rfl, h⟩
theorem bs_409 {g : Int} {w : Wd} (h : BI g w) (r c : Int32) : ∃ w', s_L_build_409 r c w = some w' ∧ BI g w' := by
  unfold s_L_build_409
  split
  · obtain ⟨v, w1, e1, h1⟩ := b_10 h c (0 : Int32)
    exact ⟨w1, by rw [e1, bs_p, u2_p], h1⟩
  · exact ⟨w, rfl, h⟩
theorem bs_431 {g : Int} {w : Wd} (h : BI g w) (r : Int32) : ∃ w', s_L_build_431 r w = some w' ∧ BI g w' := by
  unfold s_L_build_431
  split
  · obtain ⟨v, w1, e1, h1⟩ := b_11 h ((1 : Int32) + ((r >>> ((21 : Int32) &&& 31)) &&& (15 : Int32))) (0 : Int32)
    exact ⟨w1, by rw [e1, bs_p, u2_p], h1⟩
  · exact ⟨w, rfl, h⟩
theorem bs_461 {g : Int} {w : Wd} (h : BI g w) (r : Int32) : ∃ w', s_L_build_461 r w = some w' ∧ BI g w' := by
  unfold s_L_build_461
  split
  · generalize r >>> ((21 : Int32) &&& 31) = z
    obtain ⟨i1, t, ht, i2⟩ := ix_ok z
    obtain ⟨v, w1, e1, h1⟩ := b_0 h (jI t) (0 : Int32)
    exact ⟨w1, by rw [if_pos (by decide +kernel), if_pos i1, i2, e1, bs_p, u2_p], h1⟩
  · exact ⟨w, rfl, h⟩
theorem b_160 {g : Int} {sc : Sc} (hL : sc.1 ≤ 1000) {c : Int32} (hc : ¬ c = 0) : ∀ (m n : Nat) (k : Int) (w : Wd), 0 ≤ k → k + m = 13 → m < n → BI g w → ∃ w', p_L_build_160 sc c n (jI k) w = some (.inl (jI 13, w')) ∧ BI g w' := by
  intro m
  induction m with
  | zero =>
    intro n k w k0 e hn h
    obtain ⟨n, rfl⟩ : ∃ n', n = n' + 1 := ⟨n - 1, by omega⟩
    have e : k = 13 := by omega
    subst e
    exact ⟨w, by rw [p_L_build_160, if_pos (by decide +kernel)], h⟩
  | succ m ih =>
    intro n k w k0 e hn h
    obtain ⟨n, rfl⟩ : ∃ n', n = n' + 1 := ⟨n - 1, by omega⟩
    obtain ⟨r, hr⟩ := b_at hL (k := k) k0 (by omega)
    rw [p_L_build_160, if_neg (by rw [l32_13, jI_le (by omega) (by omega) (by omega) (by omega)]; omega), hr, bs_p, if_pos hc, if_pos hc, show jI k + (1 : Int32) = jI (k + 1) by rw [l32_1, jI_add]]
    generalize ((r &&& (7 : Int32)) - (r &&& (7 : Int32)) / c * c) = c1
    generalize (((r >>> ((3 : Int32) &&& 31)) &&& (7 : Int32)) - ((r >>> ((3 : Int32) &&& 31)) &&& (7 : Int32)) / c * c) = c2
    obtain ⟨v0, w0, e0, h0⟩ := b_5 h c1 ((1 : Int32) + ((r >>> ((6 : Int32) &&& 31)) &&& (31 : Int32)))
    rw [e0, bs_p, u2_p]
    obtain ⟨w1, e1, h1⟩ := bs_213 h0 c1 r
    rw [e1, bs_p]
    obtain ⟨w2, e2, h2⟩ := bs_241 h1 r c1
    rw [e2, bs_p]
    obtain ⟨w3, e3, h3⟩ := bs_270 h2 r c2
    rw [e3, bs_p]
    obtain ⟨w4, e4, h4⟩ := bs_291 h3 r c1 c2
    rw [e4, bs_p]
    obtain ⟨w5, e5, h5⟩ := bs_313 h4 r c1 c2
    rw [e5, bs_p]
    obtain ⟨w6, e6, h6⟩ := bs_344 h5 r c1
    rw [e6, bs_p]
    obtain ⟨w7, e7, h7⟩ := bs_366 h6 r c2
    rw [e7, bs_p]
    obtain ⟨w8, e8, h8⟩ := bs_387 h7 r c2
    rw [e8, bs_p]
    obtain ⟨w9, e9, h9⟩ := bs_409 h8 r c2
    rw [e9, bs_p]
    obtain ⟨wa, ea, ha⟩ := bs_431 h9 r
    rw [ea, bs_p]
    obtain ⟨wb, eb, hb⟩ := bs_461 ha r
    rw [eb, bs_p]
    exact ih n (k + 1) wb (by omega) (by omega) (by omega) hb
theorem build_ok {sc : Sc} (hL : sc.1 ≤ 1000) : ∃ w T, f_L_build sc = some w ∧ InvG T ∧ InvC w T ∧ 4 ≤ tS T 0 ∧ tC T = 0 := by
  obtain ⟨r, hr⟩ := b_at hL (k := 0) (by decide) (by decide)
  have hr : f_L_at sc (0 : Int32) = some r := hr
  obtain ⟨c, c4, c7, hc⟩ := c4_ok r
  have hn : ¬ (4 : Int32) + (r &&& (3 : Int32)) = 0 := by rw [hc, l32_0, jI_eq (by omega) (by omega) (by omega) (by omega)]; omega
  have b0 : BI 0 w0 := by
    exact ⟨T0, T0_g, w0_C, T0_g.1.1.1, rfl⟩
  obtain ⟨w1, e1, h1⟩ := b_23 (c := c) (by omega) r c.toNat 8 0 w0 (by decide) (by omega) (by omega) b0
  have e1 : p_L_build_23 (jI c) r 8 (0 : Int32) w0 = some (.inl (jI c, w1)) := e1
  obtain ⟨w2, e2, h2⟩ := b_63 (c := c) (by omega) r (c - 1).toNat 8 1 w1 (by decide) (by omega) (by omega) h1
  have e2 : p_L_build_63 (jI c) r 8 (1 : Int32) w1 = some (.inl (jI c, w2)) := e2
  have fin : ∀ w3, BI c w3 → ∃ w4 w5, p_L_build_126 (jI c) r 4 (0 : Int32) w3 = some (.inl (jI 3, w4)) ∧ p_L_build_160 sc (jI c) 14 (1 : Int32) w4 = some (.inl (jI 13, w5)) ∧ BI c w5 := fun w3 h3 => by
    obtain ⟨w4, e4, h4⟩ := b_126 (c := jI c) (by rw [← hc]; exact hn) r 3 4 0 w3 (by decide) (by decide) (by decide) h3
    obtain ⟨w5, e5, h5⟩ := b_160 hL (c := jI c) (by rw [← hc]; exact hn) 12 14 1 w4 (by decide) (by decide) (by decide) h4
    exact ⟨w4, w5, e4, e5, h5⟩
  unfold f_L_build
  rw [hr, bs_p, hc, e1, bs_p, zl_p, u2_p, e2, bs_p, zl_p, u2_p]
  rw [hc] at hn
  rw [if_pos hn]
  split
  · obtain ⟨v, w3, e3, h3⟩ := b_4 h2 (r - r / jI c * jI c) (60 : Int32)
    obtain ⟨w4, w5, e4, e5, T, hG, hC, h5, hz⟩ := fin w3 h3
    exact ⟨w5, T, by rw [e3, bs_p, u2_p, e4, bs_p, zl_p, u2_p, e5, bs_p, zl_p, u2_p], hG, hC, by omega, hz⟩
  · obtain ⟨v, w3, e3, h3⟩ := b_4 h2 (0 : Int32) (60 : Int32)
    obtain ⟨w4, w5, e4, e5, T, hG, hC, h5, hz⟩ := fin w3 h3
    exact ⟨w5, T, by rw [e3, bs_p, u2_p, e4, bs_p, zl_p, u2_p, e5, bs_p, zl_p, u2_p], hG, hC, by omega, hz⟩
