set_option maxHeartbeats 16000000 in
theorem op_release {S : Ab} (hG : Good S) {x a : Int} (x1 : -2147483648 ≤ x) (x2 : x < 2147483648) (a1 : -2147483648 ≤ a) (a2 : a < 2147483648) : Op S [0, 1, 4, 3] (fun e => if e = 0 then 1 else if e = 1 then 2 else if e = 4 then 3 else 4) (fun w => f_X1_letGo w (jI x) (jI a)) (fun w => f_X11_releases w (jI x) (jI a)) := by
  have hg := hG.1
  have cg : ∀ w, CSt w 1 S → 0 ≤ x ∧ x < S 0 → f_X7_isGear w (jI x) = some (jI 1) := fun w h q => by rw [s_isGear h hG x1 x2, bZ_pos q]
  have rg : ∀ w, RSt w 142 0 S → 0 ≤ x ∧ x < S 0 → f_X11_isGear w (jI x) = some (jI 1) := fun w h q => by rw [s_rIsGear h hG x1 x2, bZ_pos q]
  have ri : ∀ w, 1 ≤ a ∧ a ≤ 50 → f_X11_in w (jI a) (1 : Int32) (50 : Int32) = some (jI 1) := fun w q => by rw [l32_1, l32_50, s_in w a1 a2 (by omega) (by omega) (by omega) (by omega), bZ_pos q]
  have k1 : 1 ≤ a ∧ a ≤ 50 → ¬ jI a < (1 : Int32) := fun q => by rw [l32_1, jI_lt (by omega) (by omega) (by omega) (by omega)]; omega
  have k2 : 1 ≤ a ∧ a ≤ 50 → jI a ≤ (50 : Int32) := fun q => by rw [l32_50, jI_le (by omega) (by omega) (by omega) (by omega)]; omega
  by_cases q : 0 ≤ x ∧ x < S 0
  · by_cases q1 : 1 ≤ a ∧ a ≤ 50
    · by_cases q2 : 0 < S (26 + x)
      · by_cases q3 : Blk S (TU S x) x
        · refine ⟨.inl 3, ok_e (e := 3) (by decide), fun w h => ?_, fun w h => ?_⟩
          · obtain ⟨w', m, hr, hs, hC, h'⟩ := s_trace hG h q.1 q.2
            obtain ⟨r, hr2, ⟨rfl, hx⟩ | ⟨rfl, hx⟩⟩ := s_isBlocked h' hG hC (tu_b hG q.1 q.2) (tu_out hG q.1 q.2) q.1 (show x < 10 by omega)
            · exact absurd q3 hx
            · exact ⟨(-4 : Int32), w', lg_4 (cg w h q) (k1 q1) (k2 q1) (by rw [s_hasSpring h hG q.1 (by omega), bZ_pos q2]) hr hr2, CO.err (hs.mono (fun k => KT_C)) rfl h'⟩
          · obtain ⟨w', u, hr, hs, hR, hI, hb⟩ := s_rRubs hG h q.1 q.2
            have e := hI.uniq hG.2.2.2.2.2.2 q.1 (show x < 10 by omega) (tu_is hG q.1 q.2)
            have hR := hR.congr e
            have h' := h.kept (hs.1 142 (by unfold KU; omega)).2
            obtain ⟨r, hr2, ⟨rfl, hx⟩ | ⟨rfl, hx⟩⟩ := s_rHindered h' hG hR (tu_b hG q.1 q.2) q.1 (show x < 10 by omega)
            · exact absurd q3 hx
            · exact ⟨jI 0, uI w' 141 12 (jI 4), rl_4 (rg w h q) (ri w q1) (by rw [s_rHasSpring h hG q.1 (by omega), bZ_pos q2]) hr hr2, RO.err (hs.mono (fun k => KU_M)) (hs.1 141 (by unfold KU; omega)).1 rfl⟩
        · have fb := dg_b S (TU S x)
          have fp := ct_pos (u := TU S x) q.1 (show x < 10 by omega) (by rw [tu_d hG q.1 q.2]; decide)
          have kx := hG.2.1 x q.1 (by omega)
          have k7 := kx.2.2.2.2.2.2.1
          have k9 := kx.2.2.2.2.2.2.2
          have dv0 : 0 ≤ S (36 + x) / dg S (TU S x) := Int.ediv_nonneg (by omega) (by omega)
          have dv1 : dg S (TU S x) * (S (36 + x) / dg S (TU S x)) ≤ S (36 + x) := Int.mul_ediv_self_le (by omega)
          have dv2 : S (36 + x) / dg S (TU S x) ≤ S (36 + x) := Int.ediv_le_self _ (by omega)
          generalize hL : S (36 + x) / dg S (TU S x) = L at dv0 dv1 dv2
          obtain ⟨c, hc⟩ : ∃ c, c = if L < a then L else a := ⟨_, rfl⟩
          have cb : 0 ≤ c ∧ c ≤ 50 ∧ c ≤ L := by rw [hc]; split <;> omega
          have cf : dg S (TU S x) * c ≤ S (36 + x) := Int.le_trans (Int.mul_le_mul_of_nonneg_left cb.2.2 (by omega)) dv1
          have cf0 : 0 ≤ dg S (TU S x) * c := Int.mul_nonneg (by omega) cb.1
          have hG' : Good (rn S x c) := hG.rel q.1 q.2 cb.1 cb.2.1 cf fb.1
          refine ⟨.inr (c, rn S x c), ⟨cb.1, by omega, hG'⟩, fun w h => ?_, fun w h => ?_⟩
          · obtain ⟨w', m, hr, hs, hC, h'⟩ := s_trace hG h q.1 q.2
            obtain ⟨r, hr2, ⟨rfl, hx⟩ | ⟨rfl, hx⟩⟩ := s_isBlocked h' hG hC (tu_b hG q.1 q.2) (tu_out hG q.1 q.2) q.1 (show x < 10 by omega)
            · have hd := s_drag h' hG hC (tu_b hG q.1 q.2) (tu_out hG q.1 q.2)
              have hm : (if jI L < jI a then jI L else jI a) = jI c := by
                rw [hc]
                by_cases z : L < a
                · rw [if_pos z, if_pos (by rw [jI_lt (by omega) (by omega) (by omega) (by omega)]; exact z)]
                · rw [if_neg z, if_neg (by rw [jI_lt (by omega) (by omega) (by omega) (by omega)]; exact z)]
              have ix : inR (jI x) 10 = true := by rw [inR_j (by omega) (by omega)]; omega
              have ex : (jI x).toNatClampNeg = x.toNat := jI_clamp (by omega) (by omega)
              have hq : f_X4_quotient (gI w' 8 (jI x).toNatClampNeg).toInt64 (jI (dg S (TU S x))).toInt64 = some (jL L) := by
                rw [ex, c_n h' x q.1 (by omega), jI_toL (by omega) (by omega), jI_toL (by omega) (by omega), s_quot (by omega) (by omega) (by omega) (by omega), hL]
              by_cases z : c = 0
              · subst z
                exact ⟨jI 0, w', lg_z (cg w h q) (k1 q1) (k2 q1) (by rw [s_hasSpring h hG q.1 (by omega), bZ_pos q2]) hr hr2 hd ix hq (by rw [jL_toI]; exact hm) (by decide +kernel), CO.val (hs.mono (fun k => KT_C)) rfl (h'.congr (rn_0 hG))⟩
              · have u0 : CSt (uI (uI (uI w' 8 x.toNat (jI (S (36 + x) - dg S (TU S x) * c))) 1 15 (jI (S 4 + dg S (TU S x) * c))) 1 16 (jI (S 5 + 1))) 1 (ru S x c) := by
                  have := ((h'.put_n (v := S (36 + x) - dg S (TU S x) * c) q.1 (show x < 10 by omega)).put_tk (v := S 4 + dg S (TU S x) * c)).put_rl (v := S 5 + 1)
                  unfold ru
                  rw [if_pos (show 0 < c by omega)]
                  exact this
                obtain ⟨w2, hw2⟩ : ∃ w2, w2 = uI (uI (uI w' 8 x.toNat (jI (S (36 + x) - dg S (TU S x) * c))) 1 15 (jI (S 4 + dg S (TU S x) * c))) 1 16 (jI (S 5 + 1)) := ⟨_, rfl⟩
                rw [← hw2] at u0
                have hC2 : CT w2 (TU S x) (ct (TU S x)) m := by
                  rw [hw2]
                  obtain ⟨c1, c2, c3⟩ := hC
                  exact ⟨fun y y0 y1 => c1 y y0 y1, by rw [gI_uI, if_neg (by omega), gI_uI, if_neg (by omega), gI_uI, if_neg (by omega)]; exact c2, fun k k0 k1 => by rw [gI_uI, if_neg (by omega), gI_uI, if_neg (by omega), gI_uI, if_neg (by omega)]; exact c3 k k0 k1⟩
                have r0 : ru S x c 0 = S 0 := ru_o (by omega) (by omega) (by omega)
                obtain ⟨w3, hr3, hs3, h3⟩ := s_turnTrain (c := c) (e := er S x c) (rg1 (c := c) hG q.1 (show x < 10 by omega)) (by rw [r0]; omega) u0 hC2 (tu_b hG q.1 q.2) (fun y y0 y1 y2 => tu_out hG q.1 q.2 y y0 y1 (by rw [r0] at y2; exact y2)) cb.1 cb.2.1 (er_c S x c)
                have t0 : t1 (ru S x c) (TU S x) c (er S x c) 0 = S 0 := by rw [t1_o (by omega) (by omega), r0]
                obtain ⟨w4, hr4, hs4, h4⟩ := s_dry (rg2 (c := c) hG q.1 q.2 cb.1 cb.2.1) (fun i i0 i1 i2 => by
                  rw [t0] at i0
                  rw [t1_o (z := 66 + i) (by omega) (by omega)] at i2
                  rw [t1_w (by omega) i1, if_neg (fun z => z.1 (tu_out hG q.1 q.2 i (by omega) i1 i0))]
                  exact ((rg1 (x := x) (c := c) hG q.1 (by omega) i (by omega) i1).2.2 i2).2) (by rw [t0]; omega) h3
                have hsa : Sm KC w' w2 := by rw [hw2]; exact ((Sm.wI w' (by unfold KC; omega)).tr (Sm.wI _ (by unfold KC; omega))).tr (Sm.wI _ (by unfold KC; omega))
                refine ⟨jI c, w4, lg_p (cg w h q) (k1 q1) (k2 q1) (by rw [s_hasSpring h hG q.1 (by omega), bZ_pos q2]) hr hr2 hd ix hq (by rw [jL_toI]; exact hm) ?_ (w2 := w2) ?_ ?_ hr4, CO.val ((((hs.mono (fun k => KT_C)).tr hsa).tr (hs3.mono (fun k hk => by unfold KA at hk; unfold KC; omega))).tr (hs4.mono (fun k hk => by unfold KD at hk; unfold KC; omega))) rfl h4⟩
                · rw [l32_0, jI_le (by omega) (by omega) (by omega) (by omega)]; omega
                · rw [hw2, ex, c_n h' x q.1 (by omega), jI_mul, jI_sub, gI_uI, if_neg (by omega), c_tk h', jI_add, gI_uI, if_neg (by omega), gI_uI, if_neg (by omega), c_rl h', l32_1, jI_add]
                · have v9 : gI w2 9 (jI x).toNatClampNeg = jI (S (46 + x)) := by
                    rw [ex, hw2, gI_uI, if_neg (by omega), gI_uI, if_neg (by omega), gI_uI, if_neg (by omega), c_v h' x q.1 (by omega)]
                  rcases k7 with k7 | k7
                  · rw [show er S x c = c by unfold er; rw [k7, if_neg (by decide)]] at hr3
                    exact Or.inl ⟨by rw [v9, k7]; rfl, hr3⟩
                  · rw [show er S x c = -c by unfold er; rw [k7, if_pos rfl], ← jI_neg] at hr3
                    exact Or.inr ⟨by rw [v9, k7]; decide +kernel, hr3⟩
            · exact absurd hx q3
          · obtain ⟨w', u, hr, hs, hR, hI, hb⟩ := s_rRubs hG h q.1 q.2
            have e := hI.uniq hG.2.2.2.2.2.2 q.1 (show x < 10 by omega) (tu_is hG q.1 q.2)
            have hR := hR.congr e
            have h' := h.kept (hs.1 142 (by unfold KU; omega)).2
            have edg : dg S u = dg S (TU S x) := by
              unfold dg
              rw [ct_congr (u := u) (v := TU S x) (fun y y0 y1 => by rw [e y y0 y1]), sm_congr (g := fun i => if u i ≠ 0 ∧ S (66 + i) = 0 then 1 else 0) (h := fun i => if TU S x i ≠ 0 ∧ S (66 + i) = 0 then 1 else 0) (fun i i0 i1 => by show (if u i ≠ 0 ∧ _ then _ else _) = _; rw [e i i0 i1])]
            rw [edg] at hr
            obtain ⟨r, hr2, ⟨rfl, hx⟩ | ⟨rfl, hx⟩⟩ := s_rHindered h' hG hR (tu_b hG q.1 q.2) q.1 (show x < 10 by omega)
            · obtain ⟨w2, hr3, hs3, h3⟩ := s_rTurnsBy (x := x) (c := c) (e := er S x c) (fun i i0 i1 => ⟨(hG.2.1 i i0 i1).2.2.1, (hG.2.1 i i0 i1).2.2.2.1⟩) h' hR (tu_b hG q.1 q.2) cb.1 cb.2.1 q.1 (by omega) k7 rfl
              have e36 : gL w2 142 (36 + x).toNat = jL (S (36 + x)) := by rw [r_g h3 _ (by omega) (by omega), t1_o (by omega) (by omega)]
              have e4 : gL w2 142 (4 : Int).toNat = jL (S 4) := by rw [r_g h3 _ (by omega) (by omega), t1_o (by omega) (by omega)]
              have e5 : gL w2 142 (5 : Int).toNat = jL (S 5) := by rw [r_g h3 _ (by omega) (by omega), t1_o (by omega) (by omega)]
              have h4 := RSt.rel (f := dg S (TU S x) * c) (d := if 0 < c then 1 else 0) q.1 (show x < 10 by omega) h3
              obtain ⟨w4, hr4, hs4, h5⟩ := s_rDries (rg2 (c := c) hG q.1 q.2 cb.1 cb.2.1) h4
              have hs6 : Sm KM w w4 := (((((hs.mono (fun k => KU_M)).tr (hs3.mono (fun k hk => by unfold KG at hk; unfold KM; omega))).tr (Sm.wL _ (by unfold KM; omega))).tr (Sm.wL _ (by unfold KM; omega))).tr (Sm.wL _ (by unfold KM; omega))).tr (hs4.mono (fun k hk => by unfold KG at hk; unfold KM; omega))
              have h141 : gI w4 141 = gI w 141 := ((hs4.1 141 (by unfold KG; omega)).1.trans (hs3.1 141 (by unfold KG; omega)).1).trans (hs.1 141 (by unfold KU; omega)).1
              have et : (S (36 + x)).tdiv (dg S (TU S x)) = L := by rw [Int.tdiv_eq_ediv_of_nonneg (by omega)]; exact hL
              have i36 : ((36 : Int32) + jI x) = jI (36 + x) := by rw [l32_36, jI_add]
              have c36 : ((36 : Int32) + jI x).toNatClampNeg = (36 + x).toNat := by rw [i36, jI_clamp (by omega) (by omega)]
              have ed : jI (S (36 + x)) / jI (dg S (TU S x)) = jI L := by rw [jI_div (by omega) (by omega) (by omega) (by omega), et]
              have c4 : ((4 : Int32)).toNatClampNeg = (4 : Int).toNat := rfl
              have c5 : ((5 : Int32)).toNatClampNeg = (5 : Int).toNat := rfl
              have em : (jI (dg S (TU S x)) * jI c).toInt64 = jL (dg S (TU S x) * c) := by rw [jI_mul, jI_toL (by omega) (by omega)]
              refine ⟨jI c, uI w4 141 12 (jI 0), rl_p (rg w h q) (ri w q1) (by rw [s_rHasSpring h hG q.1 (by omega), bZ_pos q2]) hr hr2 (by rw [i36]; exact s_at h' (by omega) (by omega)) ?_ ?_ (by rw [jI_toL (by omega) (by omega)]; exact hr3) (by rw [i36, inR_j (by omega) (by omega)]; omega) rfl (d := jL (if 0 < c then 1 else 0)) ?_ ?_, RO.val hs6 h141 h5⟩
              · rw [l32_0, jI_eq (by omega) (by omega) (by omega) (by omega)]; omega
              · rw [ed]
                by_cases z : L ≤ a
                · refine Or.inl ⟨by rw [jI_le (by omega) (by omega) (by omega) (by omega)]; exact z, ?_⟩
                  rw [show c = L by rw [hc]; split <;> omega]
                · refine Or.inr ⟨by rw [jI_le (by omega) (by omega) (by omega) (by omega)]; exact z, ?_⟩
                  rw [show c = a by rw [hc]; split <;> omega]
              · rw [l32_0, jI_le (by omega) (by omega) (by omega) (by omega)]
                by_cases z : 0 < c
                · exact Or.inr ⟨by omega, by rw [if_pos z]; rfl⟩
                · exact Or.inl ⟨by omega, by rw [if_neg z]; rfl⟩
              · rw [c36, e36, em, jL_sub, c4, gL_uL, if_neg (by omega), e4, jL_add, c5, gL_uL, if_neg (by omega), gL_uL, if_neg (by omega), e5, jL_add]
                exact hr4
            · exact absurd hx q3
      · refine ⟨.inl 4, ok_e (e := 4) (by decide), fun w h => ?_, fun w h => ?_⟩
        · exact ⟨(-5 : Int32), w, lg_5 (cg w h q) (k1 q1) (k2 q1) (by rw [s_hasSpring h hG q.1 (by omega), bZ_neg q2]), CO.err (Sm.refl w) rfl h⟩
        · exact ⟨jI 0, uI w 141 12 (jI 3), rl_3 (rg w h q) (ri w q1) (by rw [s_rHasSpring h hG q.1 (by omega), bZ_neg q2]), RO.err (Sm.refl w) rfl rfl⟩
    · refine ⟨.inl 1, ok_e (e := 1) (by decide), fun w h => ?_, fun w h => ?_⟩
      · refine ⟨(-2 : Int32), w, lg_1 (cg w h q) ?_, CO.err (Sm.refl w) rfl h⟩
        rw [l32_1, l32_50, jI_lt (by omega) (by omega) (by omega) (by omega), jI_le (by omega) (by omega) (by omega) (by omega)]
        omega
      · exact ⟨jI 0, uI w 141 12 (jI 2), rl_1 (rg w h q) (by rw [l32_1, l32_50, s_in w a1 a2 (by omega) (by omega) (by omega) (by omega), bZ_neg q1]), RO.err (Sm.refl w) rfl rfl⟩
  · refine ⟨.inl 0, ok_e (e := 0) (by decide), fun w h => ?_, fun w h => ?_⟩
    · exact ⟨(-1 : Int32), w, lg_0 (by rw [s_isGear h hG x1 x2, bZ_neg q]), CO.err (Sm.refl w) rfl h⟩
    · exact ⟨jI 0, uI w 141 12 (jI 1), rl_0 (by rw [s_rIsGear h hG x1 x2, bZ_neg q]), RO.err (Sm.refl w) rfl rfl⟩
