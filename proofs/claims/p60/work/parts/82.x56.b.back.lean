theorem lw_rat {w : Wd} (h : Inv w) (x1 : Int32) {b : Int} (hb : b = 0 ∨ b = 1) : ∃ w1, ((f_L_setRatchet w x1 (jI b)).bind fun z => u2 z fun r3 w4 => ((f_X11_setRatchet w4 x1 (jI b)).bind fun z => u2 z fun r7 w8 => ((f_X11_thrown w8).bind fun r10 => (if r10 = r3 then (if r3 = 0 then (if inR (0 : Int32) 1 then (if r7 = 0 then (if (gL w8 151 ((0 : Int32)).toNatClampNeg) = (0 : Int64) then (some w8) else none) else (if (gL w8 151 ((0 : Int32)).toNatClampNeg) = (1 : Int64) then (some w8) else none)) else none) else (some w8)) else none)))) = some w1 ∧ Inv w1 := by
  obtain ⟨T, hG, hC, hR⟩ := h
  obtain ⟨x, rfl, xb1, xb2⟩ := jI_ex x1
  obtain ⟨o, hO, hc, hr⟩ := op_ratchet hG.1 xb1 xb2 hb
  obtain ⟨w3, e3, s3, c3⟩ := chg_c (fun z => u2 z fun z w10 => zc z (fun k => (some ((.inl k : Nat ⊕ Int32), w10))) (fun r9 => (if r9 = (1 : Int32) then (some ((.inr (1 : Int32)), w10)) else (some ((.inr (0 : Int32)), w10))))) hG (by decide) hO hc hC
  have X : f_X10_setRatchet w (jI x) (jI b) = _ := e3
  rcases o with e | q
  · have hm : e = 0 := by
      have hO : e ∈ [0] := hO
      simpa using hO
    have hcd : gI w 0 0 = gI w 0 0 := rfl
    have hL : ∃ c : Int, 0 < c ∧ c < 100 ∧ f_L_setRatchet w (jI x) (jI b) = some (jI c, w3) ∧ c = (fun e : Nat => (e : Int) + 1) e := by
      unfold f_L_setRatchet
      rw [X]
      subst hm
      exact ⟨1, by decide, by decide, rfl, rfl⟩
    obtain ⟨c, c0, c1, L, ce⟩ := hL
    obtain ⟨r, w6, e6, s6, k1, k2, k3⟩ := chg_r (fun z => u2 z fun r9 w10 => (if r9 = (1 : Int32) then (some ((1 : Int32), w10)) else (some ((0 : Int32), w10)))) hG hO (by decide) hr (hR.far s3)
    have Y : f_X11_setRatchet w3 (jI x) (jI b) = _ := e6
    have hcc : gI w6 141 12 = jI c := by
      rw [k1, ce]
    refine ⟨w6, ?_, T, hG, c3.far s6, k3⟩
    refine lawZ L (r5 := 0) (by rw [Y, k2]; rfl) hcc (fun z => ?_)
    exact absurd (iff_of_eq (jI_eq (by omega) (by omega) (by omega) (by omega)) |>.mp (show jI c = jI 0 from z)) (by omega)
  · have hO1 : 0 ≤ q.1 ∧ q.1 < 1000 ∧ Good q.2 := hO
    obtain ⟨q0, q1, q2⟩ := hO1
    by_cases b1 : q.1 = 1
    · have L : f_L_setRatchet w (jI x) (jI b) = some (jI 0, uL w3 151 0 1) := by
        unfold f_L_setRatchet
        rw [X]
        show ((if jI q.1 = (1 : Int32) then some ((Sum.inr (1 : Int32) : Nat ⊕ Int32), w3) else some ((.inr (0 : Int32)), w3)).bind _) = _
        rw [b1]
        rfl
      obtain ⟨r, w6, e6, s6, k1, k2, k3⟩ := chg_r (fun z => u2 z fun r9 w10 => (if r9 = (1 : Int32) then (some ((1 : Int32), w10)) else (some ((0 : Int32), w10)))) hG (o := .inr q) hO (by decide) hr ((hR.far s3).out 1)
      have Y : f_X11_setRatchet (uL w3 151 0 1) (jI x) (jI b) = _ := e6
      refine ⟨w6, ?_, psh T q.2, hG.psh q2, (InvC.out c3 _).far s6, k3⟩
      refine lawZ L (r5 := 1) (by rw [Y, k2, b1]; rfl) k1 (fun _ => Or.inr ⟨rfl, out_at s6⟩)
    · have hn : ¬ jI q.1 = (1 : Int32) := fun z => b1 ((iff_of_eq (jI_eq (by omega) (by omega) (by omega) (by omega))).mp (show jI q.1 = jI 1 from z))
      have L : f_L_setRatchet w (jI x) (jI b) = some (jI 0, uL w3 151 0 0) := by
        unfold f_L_setRatchet
        rw [X]
        show ((if jI q.1 = (1 : Int32) then some ((Sum.inr (1 : Int32) : Nat ⊕ Int32), w3) else some ((.inr (0 : Int32)), w3)).bind _) = _
        rw [if_neg hn]
        rfl
      obtain ⟨r, w6, e6, s6, k1, k2, k3⟩ := chg_r (fun z => u2 z fun r9 w10 => (if r9 = (1 : Int32) then (some ((1 : Int32), w10)) else (some ((0 : Int32), w10)))) hG (o := .inr q) hO (by decide) hr ((hR.far s3).out 0)
      have Y : f_X11_setRatchet (uL w3 151 0 0) (jI x) (jI b) = _ := e6
      refine ⟨w6, ?_, psh T q.2, hG.psh q2, (InvC.out c3 _).far s6, k3⟩
      refine lawZ L (r5 := 0) ?_ k1 (fun _ => Or.inl ⟨rfl, out_at s6⟩)
      rw [Y, k2]
      show (if jI q.1 = (1 : Int32) then some ((1 : Int32), w6) else some ((0 : Int32), w6)) = _
      rw [if_neg hn]
theorem lw_setRatchet {w : Wd} (h : Inv w) (x1 x2 x3 : Int32) : ∃ w1, f_law_815 w x1 x2 x3 = some w1 ∧ Inv w1 := by
  unfold f_law_815
  by_cases q : x2 = 0
  · rw [if_pos q]
    have e : ∀ (α : Type) (a b : Option α), (if x2 = 0 then a else b) = a := fun _ _ _ => if_pos q
    simp only [e]
    exact lw_rat h x1 (b := 0) (Or.inl rfl)
  · rw [if_neg q]
    have e : ∀ (α : Type) (a b : Option α), (if x2 = 0 then a else b) = b := fun _ _ _ => if_neg q
    simp only [e]
    exact lw_rat h x1 (b := 1) (Or.inr rfl)
/-! THE LAW over taking back, putting by and fetching -/
def cutL (T : TS) (n : Int) (S : Ab) : TS := (S, tH T, tP T, n, tL T, tC T, tX T, tE T, tF T, tO T, tY T)
theorem InvG.cutL {T : TS} {n : Int} {S : Ab} (h : InvG T) (hS : Good S) (n0 : 0 ≤ n) (n1 : n ≤ tN T) : InvG (cutL T n S) := by
  obtain ⟨h1, h2, h3, h4, h5, h6⟩ := h
  exact ⟨hS, h2, h3, ⟨n0, by show n ≤ 8; omega⟩, fun i i0 i1 => h5 i i0 (by have i1 : i < n := i1; omega), h6⟩
def putP (T : TS) : TS := (tS T, 1, tS T, tN T, tL T, tC T, tX T, tE T, tF T, tO T, tY T)
theorem InvG.putP {T : TS} (h : InvG T) : InvG (putP T) := by
  obtain ⟨h1, h2, h3, h6⟩ := h
  exact ⟨h1, Or.inr rfl, fun _ => h1, h6⟩
theorem HC.cut {w : Wd} {f n m : Int} {L : Int → Ab} (h : HC w f n L) (m1 : m ≤ n) : HC (uI w 34 2 (jI m)) f m L := by
  obtain ⟨h1, h2, h3, h4⟩ := h
  refine ⟨h1, ?_, ?_, fun i i0 i1 => (h4 i i0 (by omega)).kept (fun r hr => ⟨by funext j; rw [gI_uI, if_neg (by omega)], rfl⟩)⟩
  · rw [gI_uI, if_neg (by omega)]; exact h2
  · rw [gI_uI, if_pos ⟨rfl, rfl⟩]
/-- the class takes back -/
theorem s_cUndo {w : Wd} {T : TS} (hG : InvG T) (hC : InvC w T) (q : ¬ tN T = 0) : ∃ w3, f_X10_undo w = some (.inr (jI (tN T - 1)), w3) ∧ Sm KL w w3 ∧ InvC w3 (cutL T (tN T - 1) (tL T (tN T - 1))) := by
  have hn := hG.2.2.2.1
  obtain ⟨g1, g2, g3, ⟨f, g4⟩, g5, g6, g7, g8, g9⟩ := hC
  have g2n := g4.2.2.1
  have g2f := g4.2.1
  have fb := g4.1
  have c2 := g4.cut (m := tN T - 1) (by omega)
  have cL : CSt (uI w 34 2 (jI (tN T - 1))) (36 + 11 * ((f + (tN T - 1)) % 8).toNat) (tL T (tN T - 1)) := (g4.2.2.2 (tN T - 1) (by omega) (by omega)).kept (fun r hr => ⟨by funext j; rw [gI_uI, if_neg (by omega)], rfl⟩)
  obtain ⟨w3, hr, hs, hc⟩ := s_copy (b0 := 1) (hG.2.2.2.2.1 (tN T - 1) (by omega) (by omega)) cL (by omega)
  have e2 : (f + (tN T - 1)) - (f + (tN T - 1)).tdiv 8 * 8 = (f + (tN T - 1)) % 8 := by rw [Int.tdiv_eq_ediv_of_nonneg (by omega)]; omega
  have e3 : gI w3 34 2 = jI (tN T - 1) := by rw [hs.iK (by unfold Kb; omega), gI_uI, if_pos ⟨rfl, rfl⟩]
  have s1 : Sm KL w w3 := (Sm.wI w (by unfold KL; omega)).tr (hs.mono (fun k hk => by unfold Kb at hk; unfold KL; omega))
  refine ⟨w3, ?_, s1, ?_⟩
  · have P : f_X3_popInto w = some w3 := by
      unfold f_X3_popInto
      generalize tN T = n at *
      simp (disch := omega) only [l32_0, l32_1, l32_2, l32_3, l32_4, l32_5, l32_6, l32_7, l32_8, l32_9, l32_10, l32_11, l32_12, l32_13, l32_14, l32_15, l32_16, l32_17, l32_18, l32_19, l32_20, l32_21, l32_22, l32_23, l32_24, l32_25, l32_26, l32_27, l32_28, l32_29, l32_30, l32_31, l32_32, l32_33, l32_34, l32_35, l32_36, l32_37, l32_38, l32_39, l32_40, l32_41, l32_42, l32_43, l32_44, l32_45, l32_46, l32_47, l32_48, l32_49, l32_50, l32_51, l32_52, l32_53, l32_54, l32_55, l32_56, l32_57, l32_58, l32_59, l32_60, l32_61, l32_62, l32_63, l32_64, l32_65, l32_66, l32_76, l32_86, l32_90, l32_92, l32_97, l32_98, l32_99, l32_100, l32_101, l32_102, l32_103, l32_104, l32_105, l32_106, l32_107, l32_108, l32_109, l32_110, l32_111, l32_112, l32_113, l32_114, l32_115, l32_116, l32_117, l32_118, l32_119, l32_120, l32_121, l32_122, l32_123, l32_124, l32_125, l32_126, l32_192, l32_200, l32_255, l32_999, l32_1000, l32_1344, l32_2147483639, l32_2147483647, l64_0, l64_1, l64_99, l64_999, l64_24883200000, l64_746496000000, jI_add, jI_sub, jI_mul, jI_neg, jL_add, jL_sub, jL_mul, jL_neg, jL_toI, jI_toL, jI_eqT, jI_eqF, jI_ltT, jI_ltF, jI_leT, jI_leF, jL_eqT, jL_eqF, jL_ltT, jL_ltF, jL_leT, jL_leF, inR_T, inR_F, bZ_T, bZ_F, not_true_eq_false, not_false_eq_true, jI_clamp, nI_j, bs_p, wl_p, u2_p, u3_p, u4_p, u5_p, zl_p, zr_p, mn_p, ms_p, if_pos, if_neg, ite_true, ite_false, g2n, gI_uI, and_self, g2f, jI_div, e2, hr]
    have nz : ¬ gI w 34 2 = 0 := by
      rw [g2n]
      intro z
      exact q ((iff_of_eq (jI_eq (by omega) (by omega) (by omega) (by omega))).mp (show jI (tN T) = jI 0 from z))
    unfold f_X10_undo
    rw [if_neg nz, P, bs_p, e3]
  · have k : Sm (fun k => 1 ≤ k ∧ k < 12) (uI w 34 2 (jI (tN T - 1))) w3 := hs.mono (fun k hk => by unfold Kb at hk; omega)
    refine ⟨hc, ?_, fun q => CSt.kept (w := uI w 34 2 (jI (tN T - 1))) ((g3 q).kept (w' := uI w 34 2 (jI (tN T - 1))) (fun r hr => ⟨by funext j; rw [gI_uI, if_neg (by omega)], rfl⟩)) (fun r hr => k.1 _ (by omega)), ⟨f, c2.kept (k.1 34 (by omega)).1 (fun i i0 i1 => k.1 i (by omega))⟩, ?_, fun i i0 i1 => ?_, ?_, ?_, (g9.kept (w' := uI w 34 2 (jI (tN T - 1))) (by funext j; rw [gI_uI, if_neg (by omega)]) (by funext j; rw [gI_uI, if_neg (by omega)]) rfl).kept (k.1 139 (by omega)).1 (k.1 140 (by omega)).1 (k.2.2 (by omega))⟩
    · rw [k.iK (by omega), gI_uI, if_neg (by omega)]; exact g2
    · rw [k.iK (by omega), gI_uI, if_neg (by omega)]; exact g5
    · rw [k.iK (by omega), gI_uI, if_neg (by omega)]; exact g6 i i0 i1
    · rw [k.iK (by omega), gI_uI, if_neg (by omega)]; exact g7
    · rw [k.iK (by omega), gI_uI, if_neg (by omega)]; exact g8
/-- the reference does -/
theorem s_rUndo {w : Wd} {T : TS} (hG : InvG T) (hR : InvR w T) (q : ¬ tN T = 0) : ∃ w3, f_X11_undo w = some (jI (tN T - 1), w3) ∧ Sm KR w w3 ∧ gI w3 141 12 = jI 0 ∧ InvR w3 (cutL T (tN T - 1) (tL T (tN T - 1))) := by
  have hn := hG.2.2.2.1
  obtain ⟨h1, h2, h3, h4, h5, h6, h7, h8, h9, h10⟩ := hR
  have hL := h4.2 (tN T - 1) (by omega) (by omega)
  have hB : RSt (uI w 141 3 (jI (tN T - 1))) 144 ((tN T - 1) * 192) (tL T (tN T - 1)) := by
    rw [Int.mul_comm]
    exact hL.kept rfl
  obtain ⟨w2, hr, hs, hc, -⟩ := s_rCopy (k2 := 142) (n0 := 1536) (n2 := 192) (c := 0) hB (by omega) (by decide) (by omega) (by decide) (by decide) (by decide) (by decide)
  have e3 : gI w2 141 3 = jI (tN T - 1) := by rw [hs.iK (by unfold K1; omega), gI_uI, if_pos ⟨rfl, rfl⟩]
  refine ⟨uI w2 141 12 (jI 0), ?_, ((Sm.wI w (by unfold KR; omega)).tr (hs.mono (fun k hk => by unfold K1 at hk; unfold KR; omega))).tr (Sm.wI _ (by unfold KR; omega)), by rw [gI_uI, if_pos ⟨rfl, rfl⟩], ?_⟩
  · unfold f_X11_undo
    generalize tN T = n at *
    have h41 := h4.1
    simp (disch := omega) only [l32_0, l32_1, l32_2, l32_3, l32_4, l32_5, l32_6, l32_7, l32_8, l32_9, l32_10, l32_11, l32_12, l32_13, l32_14, l32_15, l32_16, l32_17, l32_18, l32_19, l32_20, l32_21, l32_22, l32_23, l32_24, l32_25, l32_26, l32_27, l32_28, l32_29, l32_30, l32_31, l32_32, l32_33, l32_34, l32_35, l32_36, l32_37, l32_38, l32_39, l32_40, l32_41, l32_42, l32_43, l32_44, l32_45, l32_46, l32_47, l32_48, l32_49, l32_50, l32_51, l32_52, l32_53, l32_54, l32_55, l32_56, l32_57, l32_58, l32_59, l32_60, l32_61, l32_62, l32_63, l32_64, l32_65, l32_66, l32_76, l32_86, l32_90, l32_92, l32_97, l32_98, l32_99, l32_100, l32_101, l32_102, l32_103, l32_104, l32_105, l32_106, l32_107, l32_108, l32_109, l32_110, l32_111, l32_112, l32_113, l32_114, l32_115, l32_116, l32_117, l32_118, l32_119, l32_120, l32_121, l32_122, l32_123, l32_124, l32_125, l32_126, l32_192, l32_200, l32_255, l32_999, l32_1000, l32_1344, l32_2147483639, l32_2147483647, l64_0, l64_1, l64_99, l64_999, l64_24883200000, l64_746496000000, jI_add, jI_sub, jI_mul, jI_neg, jL_add, jL_sub, jL_mul, jL_neg, jL_toI, jI_toL, jI_eqT, jI_eqF, jI_ltT, jI_ltF, jI_leT, jI_leF, jL_eqT, jL_eqF, jL_ltT, jL_ltF, jL_leT, jL_leF, inR_T, inR_F, bZ_T, bZ_F, not_true_eq_false, not_false_eq_true, jI_clamp, nI_j, bs_p, wl_p, u2_p, u3_p, u4_p, u5_p, zl_p, zr_p, mn_p, ms_p, if_pos, if_neg, ite_true, ite_false, h41, gI_uI, and_self, hr, e3, s_done]
  · have kk : ∀ i, i ≠ 12 → i ≠ 3 → gI (uI w2 141 12 (jI 0)) 141 i = gI w 141 i := fun i a b => by rw [gI_uI, if_neg (by omega), hs.iK (by unfold K1; omega), gI_uI, if_neg (by omega)]
    refine ⟨hc.kept rfl, ?_, fun q => (h3 q).kept (by show gL w2 145 = gL w 145; exact (hs.1 145 (by unfold K1; omega)).2), ⟨?_, fun i i0 i1 => (h4.2 i i0 (by have i1 : i < tN T - 1 := i1; omega)).kept (by show gL w2 144 = gL w 144; exact (hs.1 144 (by unfold K1; omega)).2)⟩, ?_, fun i i0 i1 => ?_, ?_, ?_, ?_, fun i i0 i1 => ?_⟩
    · rw [kk 5 (by decide) (by decide)]; exact h2
    · rw [gI_uI, if_neg (by omega)]; exact e3
    · rw [kk 7 (by decide) (by decide)]; exact h5
    · rw [gI_uI, if_neg (by omega), hs.iK (by unfold K1; omega), gI_uI, if_neg (by omega)]; exact h6 i i0 i1
    · rw [kk 8 (by decide) (by decide)]; exact h7
    · rw [kk 9 (by decide) (by decide)]; exact h8
    · rw [kk 11 (by decide) (by decide)]; exact h9
    · rw [gI_uI, if_neg (by omega), hs.iK (by unfold K1; omega), gI_uI, if_neg (by omega)]; exact h10 i i0 i1
theorem lw_undo {w : Wd} (h : Inv w) (x1 x2 x3 : Int32) : ∃ w1, f_law_3209 w x1 x2 x3 = some w1 ∧ Inv w1 := by
  obtain ⟨T, hG, hC, hR⟩ := h
  have hn := hG.2.2.2.1
  unfold f_law_3209
  by_cases q : tN T = 0
  · have g2n : gI w 34 2 = jI 0 := by
      obtain ⟨f, g4⟩ := hC.2.2.2.1
      rw [g4.2.2.1, q]
    refine lawQI (c := 1) (v := 0) hG hC hR (by decide) (by decide) ⟨by decide, by decide⟩ ?_ (fun w' hR' => ?_)
    · refine LQ.err (Sm.refl w) (by decide) ?_
      unfold f_L_undo f_X10_undo
      simp (disch := omega) only [l32_0, l32_1, l32_2, l32_3, l32_4, l32_5, l32_6, l32_7, l32_8, l32_9, l32_10, l32_11, l32_12, l32_13, l32_14, l32_15, l32_16, l32_17, l32_18, l32_19, l32_20, l32_21, l32_22, l32_23, l32_24, l32_25, l32_26, l32_27, l32_28, l32_29, l32_30, l32_31, l32_32, l32_33, l32_34, l32_35, l32_36, l32_37, l32_38, l32_39, l32_40, l32_41, l32_42, l32_43, l32_44, l32_45, l32_46, l32_47, l32_48, l32_49, l32_50, l32_51, l32_52, l32_53, l32_54, l32_55, l32_56, l32_57, l32_58, l32_59, l32_60, l32_61, l32_62, l32_63, l32_64, l32_65, l32_66, l32_76, l32_86, l32_90, l32_92, l32_97, l32_98, l32_99, l32_100, l32_101, l32_102, l32_103, l32_104, l32_105, l32_106, l32_107, l32_108, l32_109, l32_110, l32_111, l32_112, l32_113, l32_114, l32_115, l32_116, l32_117, l32_118, l32_119, l32_120, l32_121, l32_122, l32_123, l32_124, l32_125, l32_126, l32_192, l32_200, l32_255, l32_999, l32_1000, l32_1344, l32_2147483639, l32_2147483647, l64_0, l64_1, l64_99, l64_999, l64_24883200000, l64_746496000000, jI_add, jI_sub, jI_mul, jI_neg, jL_add, jL_sub, jL_mul, jL_neg, jL_toI, jI_toL, jI_eqT, jI_eqF, jI_ltT, jI_ltF, jI_leT, jI_leF, jL_eqT, jL_eqF, jL_ltT, jL_ltF, jL_leT, jL_leF, inR_T, inR_F, bZ_T, bZ_F, not_true_eq_false, not_false_eq_true, jI_clamp, nI_j, bs_p, wl_p, u2_p, u3_p, u4_p, u5_p, zl_p, zr_p, mn_p, ms_p, if_pos, if_neg, ite_true, ite_false, g2n]
    · refine RQ.err (Sm.refl w') rfl (by decide) ?_
      have h41 : gI w' 141 3 = jI 0 := by rw [hR'.2.2.2.1.1, q]
      unfold f_X11_undo
      simp (disch := omega) only [l32_0, l32_1, l32_2, l32_3, l32_4, l32_5, l32_6, l32_7, l32_8, l32_9, l32_10, l32_11, l32_12, l32_13, l32_14, l32_15, l32_16, l32_17, l32_18, l32_19, l32_20, l32_21, l32_22, l32_23, l32_24, l32_25, l32_26, l32_27, l32_28, l32_29, l32_30, l32_31, l32_32, l32_33, l32_34, l32_35, l32_36, l32_37, l32_38, l32_39, l32_40, l32_41, l32_42, l32_43, l32_44, l32_45, l32_46, l32_47, l32_48, l32_49, l32_50, l32_51, l32_52, l32_53, l32_54, l32_55, l32_56, l32_57, l32_58, l32_59, l32_60, l32_61, l32_62, l32_63, l32_64, l32_65, l32_66, l32_76, l32_86, l32_90, l32_92, l32_97, l32_98, l32_99, l32_100, l32_101, l32_102, l32_103, l32_104, l32_105, l32_106, l32_107, l32_108, l32_109, l32_110, l32_111, l32_112, l32_113, l32_114, l32_115, l32_116, l32_117, l32_118, l32_119, l32_120, l32_121, l32_122, l32_123, l32_124, l32_125, l32_126, l32_192, l32_200, l32_255, l32_999, l32_1000, l32_1344, l32_2147483639, l32_2147483647, l64_0, l64_1, l64_99, l64_999, l64_24883200000, l64_746496000000, jI_add, jI_sub, jI_mul, jI_neg, jL_add, jL_sub, jL_mul, jL_neg, jL_toI, jI_toL, jI_eqT, jI_eqF, jI_ltT, jI_ltF, jI_leT, jI_leF, jL_eqT, jL_eqF, jL_ltT, jL_ltF, jL_leT, jL_leF, inR_T, inR_F, bZ_T, bZ_F, not_true_eq_false, not_false_eq_true, jI_clamp, nI_j, bs_p, wl_p, u2_p, u3_p, u4_p, u5_p, zl_p, zr_p, mn_p, ms_p, if_pos, if_neg, ite_true, ite_false, h41, s_fails]
  · obtain ⟨w3, e3, s3, c3⟩ := s_cUndo hG hC q
    have L : f_L_undo w = some (jI 0, uL w3 151 0 (jL (tN T - 1))) := by
      unfold f_L_undo
      rw [e3]
      generalize tN T = n at *
      simp (disch := omega) only [l32_0, l32_1, l32_2, l32_3, l32_4, l32_5, l32_6, l32_7, l32_8, l32_9, l32_10, l32_11, l32_12, l32_13, l32_14, l32_15, l32_16, l32_17, l32_18, l32_19, l32_20, l32_21, l32_22, l32_23, l32_24, l32_25, l32_26, l32_27, l32_28, l32_29, l32_30, l32_31, l32_32, l32_33, l32_34, l32_35, l32_36, l32_37, l32_38, l32_39, l32_40, l32_41, l32_42, l32_43, l32_44, l32_45, l32_46, l32_47, l32_48, l32_49, l32_50, l32_51, l32_52, l32_53, l32_54, l32_55, l32_56, l32_57, l32_58, l32_59, l32_60, l32_61, l32_62, l32_63, l32_64, l32_65, l32_66, l32_76, l32_86, l32_90, l32_92, l32_97, l32_98, l32_99, l32_100, l32_101, l32_102, l32_103, l32_104, l32_105, l32_106, l32_107, l32_108, l32_109, l32_110, l32_111, l32_112, l32_113, l32_114, l32_115, l32_116, l32_117, l32_118, l32_119, l32_120, l32_121, l32_122, l32_123, l32_124, l32_125, l32_126, l32_192, l32_200, l32_255, l32_999, l32_1000, l32_1344, l32_2147483639, l32_2147483647, l64_0, l64_1, l64_99, l64_999, l64_24883200000, l64_746496000000, jI_add, jI_sub, jI_mul, jI_neg, jL_add, jL_sub, jL_mul, jL_neg, jL_toI, jI_toL, jI_eqT, jI_eqF, jI_ltT, jI_ltF, jI_leT, jI_leF, jL_eqT, jL_eqF, jL_ltT, jL_ltF, jL_leT, jL_leF, inR_T, inR_F, bZ_T, bZ_F, not_true_eq_false, not_false_eq_true, jI_clamp, nI_j, bs_p, wl_p, u2_p, u3_p, u4_p, u5_p, zl_p, zr_p, mn_p, ms_p, if_pos, if_neg, ite_true, ite_false] <;> rfl
    obtain ⟨w6, e6, s6, k1, k3⟩ := s_rUndo hG ((hR.far s3).out (jL (tN T - 1))) q
    refine ⟨w6, lawA L e6 k1 (fun _ => ?_), _, hG.cutL (hG.2.2.2.2.1 (tN T - 1) (by omega) (by omega)) (by omega) (by omega), (InvC.out c3 _).far s6, k3⟩
    rw [out_at s6, jI_toL (by omega) (by omega)]
theorem lw_save {w : Wd} (h : Inv w) (x1 x2 x3 : Int32) : ∃ w1, f_law_3253 w x1 x2 x3 = some w1 ∧ Inv w1 := by
  obtain ⟨T, hG, hC, hR⟩ := h
  have hg := hG.1.1
  obtain ⟨w2, hr, hs, hc⟩ := s_copy (b0 := 23) hG.1 hC.1 (by omega)
  have A : f_X10_save w = some (jI (tS T 0), uI w2 0 3 (jI 1)) := by
    have k := c_g ((hC.1.far hs (by omega)).kept (w' := uI w2 0 3 (jI 1)) (fun r hr => ⟨by funext j; rw [gI_uI, if_neg (by omega)], rfl⟩))
    unfold f_X10_save
    rw [hr, bs_p, wl_p]
    show some (gI (uI w2 0 3 (jI 1)) 1 10, _) = _
    rw [k]
    rfl
  have s3 : Sm KL w (uI w2 0 3 (jI 1)) := (hs.mono (fun k hk => by unfold Kb at hk; unfold KL; omega)).tr (Sm.wI _ (by unfold KL; omega))
  have c3 : InvC (uI w2 0 3 (jI 1)) (putP T) := by
    obtain ⟨g1, g2, g3, ⟨f, g4⟩, g5, g6, g7, g8, g9⟩ := hC
    have k : Sm (fun k => k = 0 ∨ (23 ≤ k ∧ k < 34)) w (uI w2 0 3 (jI 1)) := (hs.mono (fun k hk => by unfold Kb at hk; omega)).tr (Sm.wI _ (by omega))
    have k0 : ∀ i, i ≠ 3 → gI (uI w2 0 3 (jI 1)) 0 i = gI w 0 i := fun i hi => by rw [gI_uI, if_neg (by omega), hs.iK (by unfold Kb; omega)]
    refine ⟨g1.kept (fun r hr => k.1 _ (by omega)), by rw [gI_uI, if_pos ⟨rfl, rfl⟩]; rfl, fun _ => hc.kept (fun r hr => ⟨by funext j; rw [gI_uI, if_neg (by omega)], rfl⟩), ⟨f, g4.kept (k.1 34 (by omega)).1 (fun i i0 i1 => k.1 i (by omega))⟩, ?_, fun i i0 i1 => ?_, ?_, ?_, g9.kept (k.1 139 (by omega)).1 (k.1 140 (by omega)).1 (k.2.2 (by omega))⟩
    · rw [k.iK (by omega)]; exact g5
    · rw [k.iK (by omega)]; exact g6 i i0 i1
    · rw [k0 11 (by decide)]; exact g7
    · rw [k0 12 (by decide)]; exact g8
  have hR' := hR.far s3
  generalize uI w2 0 3 (jI 1) = w3 at A s3 c3 hR'
  obtain ⟨h1, h2, h3, h4, h5, h6, h7, h8, h9, h10⟩ := hR'
  obtain ⟨w5, er, es, ec, -⟩ := s_rCopy (k2 := 145) (n0 := 192) (n2 := 192) (c := 0) h1 (by decide) (by decide) (by decide) (by decide) (by decide) (by decide) (by decide)
  have B : f_X11_save w3 = some (jI (tS T 0), uI (uI w5 141 5 (jI 1)) 141 12 (jI 0)) := by
    have k : RSt (uI w5 141 5 (jI 1)) 142 0 (tS T) := h1.kept (by show gL w5 142 = gL w3 142; exact (es.1 142 (by unfold K1; omega)).2)
    have er' : f_X11_copy w3 142 192 145 192 (0 : Int32) (0 : Int32) = some w5 := er
    have ka := s_at k (z := 0) (by decide) (by decide)
    unfold f_X11_save
    rw [er', bs_p, wl_p]
    show ((f_X11_at (uI w5 141 5 (jI 1)) (jI 0)).bind _) = _
    rw [ka, bs_p, s_done]
    rfl
  have s6 : Sm KR w3 (uI (uI w5 141 5 (jI 1)) 141 12 (jI 0)) := ((es.mono (fun k hk => by unfold K1 at hk; unfold KR; omega)).tr (Sm.wI _ (by unfold KR; omega))).tr (Sm.wI _ (by unfold KR; omega))
  refine ⟨uI (uI w5 141 5 (jI 1)) 141 12 (jI 0), ?_, putP T, hG.putP, c3.far s6, ?_⟩
  · unfold f_law_3253
    rw [A, bs_p, u2_p, B, bs_p, u2_p]
    exact if_pos rfl
  · have kk : ∀ i, i ≠ 12 → i ≠ 5 → gI (uI (uI w5 141 5 (jI 1)) 141 12 (jI 0)) 141 i = gI w3 141 i := fun i a b => by rw [gI_uI, if_neg (by omega), gI_uI, if_neg (by omega), es.iK (by unfold K1; omega)]
    have kz : ∀ k i, k ≠ 141 → k ≠ 145 → gI (uI (uI w5 141 5 (jI 1)) 141 12 (jI 0)) k i = gI w3 k i := fun k i a b => by rw [gI_uI, if_neg (by omega), gI_uI, if_neg (by omega), es.iK (by unfold K1; omega)]
    refine ⟨h1.kept (by show gL w5 142 = gL w3 142; exact (es.1 142 (by unfold K1; omega)).2), by rw [gI_uI, if_neg (by omega), gI_uI, if_pos ⟨rfl, rfl⟩]; rfl, fun _ => ec.kept rfl, h4.kept (kk 3 (by decide) (by decide)) (by show gL w5 144 = gL w3 144; exact (es.1 144 (by unfold K1; omega)).2), ?_, fun i i0 i1 => ?_, ?_, ?_, ?_, fun i i0 i1 => ?_⟩
    · rw [kk 7 (by decide) (by decide)]; exact h5
    · rw [kz 146 _ (by decide) (by decide)]; exact h6 i i0 i1
    · rw [kk 8 (by decide) (by decide)]; exact h7
    · rw [kk 9 (by decide) (by decide)]; exact h8
    · rw [kk 11 (by decide) (by decide)]; exact h9
    · rw [kz 147 _ (by decide) (by decide)]; exact h10 i i0 i1
theorem lw_restore {w : Wd} (h : Inv w) (x1 x2 x3 : Int32) : ∃ w1, f_law_3266 w x1 x2 x3 = some w1 ∧ Inv w1 := by
  obtain ⟨T, hG, hC, hR⟩ := h
  unfold f_law_3266
  rcases hG.2.1 with q | q
  · have g2 : gI w 0 3 = jI 0 := by rw [hC.2.1, q]
    refine lawQI (c := 1) (v := 0) hG hC hR (by decide) (by decide) ⟨by decide, by decide⟩ ?_ (fun w' hR' => ?_)
    · refine LQ.err (Sm.refl w) (by decide) ?_
      unfold f_L_restore f_X10_restore
      simp (disch := omega) only [l32_0, l32_1, l32_2, l32_3, l32_4, l32_5, l32_6, l32_7, l32_8, l32_9, l32_10, l32_11, l32_12, l32_13, l32_14, l32_15, l32_16, l32_17, l32_18, l32_19, l32_20, l32_21, l32_22, l32_23, l32_24, l32_25, l32_26, l32_27, l32_28, l32_29, l32_30, l32_31, l32_32, l32_33, l32_34, l32_35, l32_36, l32_37, l32_38, l32_39, l32_40, l32_41, l32_42, l32_43, l32_44, l32_45, l32_46, l32_47, l32_48, l32_49, l32_50, l32_51, l32_52, l32_53, l32_54, l32_55, l32_56, l32_57, l32_58, l32_59, l32_60, l32_61, l32_62, l32_63, l32_64, l32_65, l32_66, l32_76, l32_86, l32_90, l32_92, l32_97, l32_98, l32_99, l32_100, l32_101, l32_102, l32_103, l32_104, l32_105, l32_106, l32_107, l32_108, l32_109, l32_110, l32_111, l32_112, l32_113, l32_114, l32_115, l32_116, l32_117, l32_118, l32_119, l32_120, l32_121, l32_122, l32_123, l32_124, l32_125, l32_126, l32_192, l32_200, l32_255, l32_999, l32_1000, l32_1344, l32_2147483639, l32_2147483647, l64_0, l64_1, l64_99, l64_999, l64_24883200000, l64_746496000000, jI_add, jI_sub, jI_mul, jI_neg, jL_add, jL_sub, jL_mul, jL_neg, jL_toI, jI_toL, jI_eqT, jI_eqF, jI_ltT, jI_ltF, jI_leT, jI_leF, jL_eqT, jL_eqF, jL_ltT, jL_ltF, jL_leT, jL_leF, inR_T, inR_F, bZ_T, bZ_F, not_true_eq_false, not_false_eq_true, jI_clamp, nI_j, bs_p, wl_p, u2_p, u3_p, u4_p, u5_p, zl_p, zr_p, mn_p, ms_p, if_pos, if_neg, ite_true, ite_false, g2]
    · refine RQ.err (Sm.refl w') rfl (by decide) ?_
      have h41 : gI w' 141 5 = jI 0 := by rw [hR'.2.1, q]
      unfold f_X11_restore
      simp (disch := omega) only [l32_0, l32_1, l32_2, l32_3, l32_4, l32_5, l32_6, l32_7, l32_8, l32_9, l32_10, l32_11, l32_12, l32_13, l32_14, l32_15, l32_16, l32_17, l32_18, l32_19, l32_20, l32_21, l32_22, l32_23, l32_24, l32_25, l32_26, l32_27, l32_28, l32_29, l32_30, l32_31, l32_32, l32_33, l32_34, l32_35, l32_36, l32_37, l32_38, l32_39, l32_40, l32_41, l32_42, l32_43, l32_44, l32_45, l32_46, l32_47, l32_48, l32_49, l32_50, l32_51, l32_52, l32_53, l32_54, l32_55, l32_56, l32_57, l32_58, l32_59, l32_60, l32_61, l32_62, l32_63, l32_64, l32_65, l32_66, l32_76, l32_86, l32_90, l32_92, l32_97, l32_98, l32_99, l32_100, l32_101, l32_102, l32_103, l32_104, l32_105, l32_106, l32_107, l32_108, l32_109, l32_110, l32_111, l32_112, l32_113, l32_114, l32_115, l32_116, l32_117, l32_118, l32_119, l32_120, l32_121, l32_122, l32_123, l32_124, l32_125, l32_126, l32_192, l32_200, l32_255, l32_999, l32_1000, l32_1344, l32_2147483639, l32_2147483647, l64_0, l64_1, l64_99, l64_999, l64_24883200000, l64_746496000000, jI_add, jI_sub, jI_mul, jI_neg, jL_add, jL_sub, jL_mul, jL_neg, jL_toI, jI_toL, jI_eqT, jI_eqF, jI_ltT, jI_ltF, jI_leT, jI_leF, jL_eqT, jL_eqF, jL_ltT, jL_ltF, jL_leT, jL_leF, inR_T, inR_F, bZ_T, bZ_F, not_true_eq_false, not_false_eq_true, jI_clamp, nI_j, bs_p, wl_p, u2_p, u3_p, u4_p, u5_p, zl_p, zr_p, mn_p, ms_p, if_pos, if_neg, ite_true, ite_false, h41, s_fails]
  · have hP := hG.2.2.1 q
    have hg := hP.1
    have g2 : gI w 0 3 = jI 1 := by rw [hC.2.1, q]
    obtain ⟨w2, hr, hs, hc⟩ := s_copy (b0 := 1) hP (hC.2.2.1 q) (by omega)
    have c34 : CSt (uI w2 34 2 (jI 0)) 1 (tP T) := hc.kept (fun r hr => ⟨by funext j; rw [gI_uI, if_neg (by omega)], rfl⟩)
    have A : f_X10_restore w = some (.inr (jI (tP T 0)), uI w2 34 2 (jI 0)) := by
      have k := c_g c34
      unfold f_X10_restore f_X3_empty
      rw [if_neg (by rw [g2]; decide +kernel), hr, bs_p, wl_p, bs_p]
      show some (Sum.inr (gI (uI w2 34 2 (jI 0)) 1 10), _) = _
      rw [k]
      rfl
    have s3 : Sm KL w (uI w2 34 2 (jI 0)) := (hs.mono (fun k hk => by unfold Kb at hk; unfold KL; omega)).tr (Sm.wI _ (by unfold KL; omega))
    have c3 : InvC (uI w2 34 2 (jI 0)) (cutL T 0 (tP T)) := by
      obtain ⟨g1, g2, g3, ⟨f, g4⟩, g5, g6, g7, g8, g9⟩ := hC
      have k : Sm (fun k => (1 ≤ k ∧ k < 12) ∨ k = 34) w (uI w2 34 2 (jI 0)) := (hs.mono (fun k hk => by unfold Kb at hk; omega)).tr (Sm.wI _ (by omega))
      have n0 := hG.2.2.2.1.1
      have g4' : HC w2 f (tN T) (tL T) := g4.kept (hs.1 34 (by unfold Kb; omega)).1 (fun i i0 i1 => hs.1 i (by unfold Kb; omega))
      refine ⟨c34, by rw [k.iK (by omega)]; exact g2, fun z => (g3 z).kept (fun r hr => k.1 _ (by omega)), ⟨f, g4'.cut n0⟩, ?_, fun i i0 i1 => ?_, ?_, ?_, g9.kept (k.1 139 (by omega)).1 (k.1 140 (by omega)).1 (k.2.2 (by omega))⟩
      · rw [k.iK (by omega)]; exact g5
      · rw [k.iK (by omega)]; exact g6 i i0 i1
      · rw [k.iK (by omega)]; exact g7
      · rw [k.iK (by omega)]; exact g8
    generalize uI w2 34 2 (jI 0) = w3 at A s3 c3
    have L : f_L_restore w = some (jI 0, uL w3 151 0 (jL (tP T 0))) := by
      unfold f_L_restore
      rw [A]
      generalize tP T 0 = n at *
      simp (disch := omega) only [l32_0, l32_1, l32_2, l32_3, l32_4, l32_5, l32_6, l32_7, l32_8, l32_9, l32_10, l32_11, l32_12, l32_13, l32_14, l32_15, l32_16, l32_17, l32_18, l32_19, l32_20, l32_21, l32_22, l32_23, l32_24, l32_25, l32_26, l32_27, l32_28, l32_29, l32_30, l32_31, l32_32, l32_33, l32_34, l32_35, l32_36, l32_37, l32_38, l32_39, l32_40, l32_41, l32_42, l32_43, l32_44, l32_45, l32_46, l32_47, l32_48, l32_49, l32_50, l32_51, l32_52, l32_53, l32_54, l32_55, l32_56, l32_57, l32_58, l32_59, l32_60, l32_61, l32_62, l32_63, l32_64, l32_65, l32_66, l32_76, l32_86, l32_90, l32_92, l32_97, l32_98, l32_99, l32_100, l32_101, l32_102, l32_103, l32_104, l32_105, l32_106, l32_107, l32_108, l32_109, l32_110, l32_111, l32_112, l32_113, l32_114, l32_115, l32_116, l32_117, l32_118, l32_119, l32_120, l32_121, l32_122, l32_123, l32_124, l32_125, l32_126, l32_192, l32_200, l32_255, l32_999, l32_1000, l32_1344, l32_2147483639, l32_2147483647, l64_0, l64_1, l64_99, l64_999, l64_24883200000, l64_746496000000, jI_add, jI_sub, jI_mul, jI_neg, jL_add, jL_sub, jL_mul, jL_neg, jL_toI, jI_toL, jI_eqT, jI_eqF, jI_ltT, jI_ltF, jI_leT, jI_leF, jL_eqT, jL_eqF, jL_ltT, jL_ltF, jL_leT, jL_leF, inR_T, inR_F, bZ_T, bZ_F, not_true_eq_false, not_false_eq_true, jI_clamp, nI_j, bs_p, wl_p, u2_p, u3_p, u4_p, u5_p, zl_p, zr_p, mn_p, ms_p, if_pos, if_neg, ite_true, ite_false] <;> rfl
    have c3 := InvC.out c3 (jL (tP T 0))
    have hR' := (hR.far s3).out (jL (tP T 0))
    generalize hw4 : uL w3 151 0 (jL (tP T 0)) = w4 at L c3 hR'
    have o4 : gL w4 151 0 = jL (tP T 0) := by rw [← hw4, gL_uL, if_pos ⟨rfl, rfl⟩]
    obtain ⟨h1, h2, h3, h4, h5, h6, h7, h8, h9, h10⟩ := hR'
    obtain ⟨w5, er, es, ec, -⟩ := s_rCopy (k2 := 142) (n0 := 192) (n2 := 192) (c := 0) (h3 q) (by decide) (by decide) (by decide) (by decide) (by decide) (by decide) (by decide)
    have ec' : RSt (uI w5 141 3 (jI 0)) 142 0 (tP T) := ec.kept rfl
    have B : f_X11_restore w4 = some (jI (tP T 0), uI (uI w5 141 3 (jI 0)) 141 12 (jI 0)) := by
      have er' : f_X11_copy w4 145 192 142 192 (0 : Int32) (0 : Int32) = some w5 := er
      have ka := s_at ec' (z := 0) (by decide) (by decide)
      unfold f_X11_restore
      rw [if_neg (by rw [h2, q]; decide +kernel), er', bs_p, wl_p]
      show ((f_X11_at (uI w5 141 3 (jI 0)) (jI 0)).bind _) = _
      rw [ka, bs_p, s_done]
      rfl
    have s6 : Sm KR w4 (uI (uI w5 141 3 (jI 0)) 141 12 (jI 0)) := ((es.mono (fun k hk => by unfold K1 at hk; unfold KR; omega)).tr (Sm.wI _ (by unfold KR; omega))).tr (Sm.wI _ (by unfold KR; omega))
    refine ⟨uI (uI w5 141 3 (jI 0)) 141 12 (jI 0), lawA L B (by rw [gI_uI, if_pos ⟨rfl, rfl⟩]) (fun _ => ?_), cutL T 0 (tP T), hG.cutL hP (by decide) hG.2.2.2.1.1, c3.far s6, ?_⟩
    · rw [s6.lK (by unfold KR; omega), o4, jI_toL (by omega) (by omega)]
    · have kk : ∀ i, i ≠ 12 → i ≠ 3 → gI (uI (uI w5 141 3 (jI 0)) 141 12 (jI 0)) 141 i = gI w4 141 i := fun i a b => by rw [gI_uI, if_neg (by omega), gI_uI, if_neg (by omega), es.iK (by unfold K1; omega)]
      have kz : ∀ k i, k ≠ 141 → k ≠ 142 → gI (uI (uI w5 141 3 (jI 0)) 141 12 (jI 0)) k i = gI w4 k i := fun k i a b => by rw [gI_uI, if_neg (by omega), gI_uI, if_neg (by omega), es.iK (by unfold K1; omega)]
      refine ⟨ec'.kept rfl, by rw [kk 5 (by decide) (by decide)]; exact h2, fun z => (h3 z).kept (by show gL w5 145 = gL w4 145; exact (es.1 145 (by unfold K1; omega)).2), ⟨by rw [gI_uI, if_neg (by omega), gI_uI, if_pos ⟨rfl, rfl⟩]; rfl, fun i i0 i1 => absurd (show i < 0 from i1) (by omega)⟩, ?_, fun i i0 i1 => ?_, ?_, ?_, ?_, fun i i0 i1 => ?_⟩
      · rw [kk 7 (by decide) (by decide)]; exact h5
      · rw [kz 146 _ (by decide) (by decide)]; exact h6 i i0 i1
      · rw [kk 8 (by decide) (by decide)]; exact h7
      · rw [kk 9 (by decide) (by decide)]; exact h8
      · rw [kk 11 (by decide) (by decide)]; exact h9
      · rw [kz 147 _ (by decide) (by decide)]; exact h10 i i0 i1
