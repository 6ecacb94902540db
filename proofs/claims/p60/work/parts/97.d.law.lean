/-! THE LAW HOLDS over every script -/
theorem z_g0 (r i : Nat) : zg s0z r i = if r = 19 ∧ i = 2 then 12 else 0 := by
  by_cases q : r < 20
  · have a : (List.range 20).all (fun r => (List.range 8).all (fun i => decide (zg s0z r i = if r = 19 ∧ i = 2 then 12 else 0)) && decide ((s0z.getD r []).length < 8)) = true := by decide +kernel
    have b := List.all_eq_true.mp a r (List.mem_range.mpr q)
    rw [Bool.and_eq_true] at b
    by_cases y : i < 8
    · exact of_decide_eq_true (List.all_eq_true.mp b.1 i (List.mem_range.mpr y))
    · have c := of_decide_eq_true b.2
      unfold zg
      rw [List.getD_eq_getElem?_getD (i := i), List.getElem?_eq_none (by omega), if_neg (by omega)]
      rfl
  · have c : s0z.length = 20 := rfl
    have d : s0z.getD r [] = [] := by rw [List.getD_eq_getElem?_getD, List.getElem?_eq_none (by omega)]; rfl
    unfold zg
    rw [d, if_neg (by omega)]
    rfl
theorem z_T0 : tS T0 = zS s0z := by
  funext z
  show (if z = 2 then (12 : Int) else 0) = zS s0z z
  have hg : ∀ r i : Nat, zg s0z r i = if r = 19 ∧ i = 2 then 12 else 0 := z_g0
  unfold zS
  rw [hg, hg, hg, hg]
  by_cases q : z.toNat < 6
  · rw [if_pos q]
    by_cases y : z = 2
    · rw [if_pos y, if_pos ⟨rfl, by omega⟩]
    · rw [if_neg y, if_neg (by omega)]
  · rw [if_neg q, if_neg (show ¬ z = 2 by omega)]
    by_cases q1 : z.toNat < 86
    · rw [if_pos q1, if_neg (show ¬ ((z.toNat - 6) / 10 = 19 ∧ (z.toNat - 6) % 10 = 2) by omega)]
    · rw [if_neg q1]
      by_cases q2 : z.toNat < 92
      · rw [if_pos q2, if_neg (show ¬ ((18 : Nat) = 19 ∧ z.toNat - 86 = 2) by omega)]
      · rw [if_neg q2]
        by_cases q3 : z.toNat < 192
        · rw [if_pos q3, if_neg (show ¬ (8 + (z.toNat - 92) / 10 = 19 ∧ (z.toNat - 92) % 10 = 2) by omega)]
        · rw [if_neg q3]
set_option maxHeartbeats 4000000 in
theorem law_1 {sc : Sc} {wb x1 y1 x2 y2 x3 y3 x4 y4 x5 y5 x6 y6 : Wd} {S : Ab} {F : Int} {l4 : Int32} (hv : SV S l4) (hx : XI S F x6) (h0 : f_L_build sc = some wb) (h1 : f_law_10 wb wb = some (x1, y1, jI (S 0), l4)) (h2 : f_law_72 x1 y1 (jI (S 0)) l4 = some (x2, y2)) (h3 : f_law_120 x2 y2 (jI (S 0)) l4 = some (x3, y3)) (h4 : f_law_154 x3 y3 (jI (S 0)) l4 = some (x4, y4)) (h5 : f_law_187 x4 y4 (jI (S 0)) l4 = some (x5, y5)) (h6 : f_law_310 x5 y5 (jI (S 0)) l4 sc = some (x6, y6, (1 : Int32))) : LawOk sc := by
  have Z0 : ZI s0z w0 := ⟨T0, T0_g, w0_C, z_T0, rfl, trivial⟩
  obtain ⟨z7, e7, Z7⟩ := z_331 Z0
  obtain ⟨z8, e8, Z8⟩ := z_423 Z7
  obtain ⟨z9, e9, Z9⟩ := z_594 Z8
  obtain ⟨z10, e10, Z10⟩ := z_767_1 Z9
  obtain ⟨z11, e11, Z11⟩ := z_916_1 Z10
  obtain ⟨zc0, s1, s2, s3, r, k1, k2, k3, k4, k5, k6, k7, k8, Zc⟩ := z_1048_1 Z11
  obtain ⟨z12, e12, Z12⟩ := z_1095_1 Zc
  obtain ⟨z13, e13, Z13⟩ := z_1131_1 Z12
  obtain ⟨x14, e14⟩ := x_1385 (y := y6) (z := z13) (l6 := (1 : Int32)) hv hx
  exact ⟨wb, s1, s2, s3, x1, y1, x2, y2, x3, y3, x4, y4, x5, y5, x6, y6, x6, y6, z7, x6, y6, z8, x6, y6, z9, x6, y6, z10, x6, y6, z11, zc0, x6, y6, z12, x6, y6, z13, x14, y6, z13, jI (S 0), l4, (1 : Int32), r, 31, h0, h1, h2, h3, h4, h5, h6, e7 x6 y6 _ _ _, e8 x6 y6 _ _ _, e9 x6 y6 _ _ _, e10 x6 y6 _ _, e11 x6 y6 _ _, ⟨k1, k2, k3, k4, k5, k6, k7, ⟨by decide, by decide⟩, k8⟩, e12 x6 y6 _ _, e13 x6 y6 _ _, e14⟩
set_option maxHeartbeats 4000000 in
theorem law_2 {sc : Sc} {wb x1 y1 x2 y2 x3 y3 x4 y4 x5 y5 x6 y6 : Wd} {S : Ab} {F : Int} {l4 : Int32} (hv : SV S l4) (hx : XI S F x6) (h0 : f_L_build sc = some wb) (h1 : f_law_10 wb wb = some (x1, y1, jI (S 0), l4)) (h2 : f_law_72 x1 y1 (jI (S 0)) l4 = some (x2, y2)) (h3 : f_law_120 x2 y2 (jI (S 0)) l4 = some (x3, y3)) (h4 : f_law_154 x3 y3 (jI (S 0)) l4 = some (x4, y4)) (h5 : f_law_187 x4 y4 (jI (S 0)) l4 = some (x5, y5)) (h6 : f_law_310 x5 y5 (jI (S 0)) l4 sc = some (x6, y6, (2 : Int32))) : LawOk sc := by
  have Z0 : ZI s0z w0 := ⟨T0, T0_g, w0_C, z_T0, rfl, trivial⟩
  obtain ⟨z7, e7, Z7⟩ := z_331 Z0
  obtain ⟨z8, e8, Z8⟩ := z_423 Z7
  obtain ⟨z9, e9, Z9⟩ := z_594 Z8
  obtain ⟨z10, e10, Z10⟩ := z_767_2 Z9
  obtain ⟨z11, e11, Z11⟩ := z_916_2 Z10
  obtain ⟨zc0, s1, s2, s3, r, k1, k2, k3, k4, k5, k6, k7, k8, Zc⟩ := z_1048_2 Z11
  obtain ⟨z12, e12, Z12⟩ := z_1095_2 Zc
  obtain ⟨z13, e13, Z13⟩ := z_1131_2 Z12
  obtain ⟨x14, e14⟩ := x_1385 (y := y6) (z := z13) (l6 := (2 : Int32)) hv hx
  exact ⟨wb, s1, s2, s3, x1, y1, x2, y2, x3, y3, x4, y4, x5, y5, x6, y6, x6, y6, z7, x6, y6, z8, x6, y6, z9, x6, y6, z10, x6, y6, z11, zc0, x6, y6, z12, x6, y6, z13, x14, y6, z13, jI (S 0), l4, (2 : Int32), r, 32, h0, h1, h2, h3, h4, h5, h6, e7 x6 y6 _ _ _, e8 x6 y6 _ _ _, e9 x6 y6 _ _ _, e10 x6 y6 _ _, e11 x6 y6 _ _, ⟨k1, k2, k3, k4, k5, k6, k7, ⟨by decide, by decide⟩, k8⟩, e12 x6 y6 _ _, e13 x6 y6 _ _, e14⟩
set_option maxHeartbeats 4000000 in
theorem law_3 {sc : Sc} {wb x1 y1 x2 y2 x3 y3 x4 y4 x5 y5 x6 y6 : Wd} {S : Ab} {F : Int} {l4 : Int32} (hv : SV S l4) (hx : XI S F x6) (h0 : f_L_build sc = some wb) (h1 : f_law_10 wb wb = some (x1, y1, jI (S 0), l4)) (h2 : f_law_72 x1 y1 (jI (S 0)) l4 = some (x2, y2)) (h3 : f_law_120 x2 y2 (jI (S 0)) l4 = some (x3, y3)) (h4 : f_law_154 x3 y3 (jI (S 0)) l4 = some (x4, y4)) (h5 : f_law_187 x4 y4 (jI (S 0)) l4 = some (x5, y5)) (h6 : f_law_310 x5 y5 (jI (S 0)) l4 sc = some (x6, y6, (3 : Int32))) : LawOk sc := by
  have Z0 : ZI s0z w0 := ⟨T0, T0_g, w0_C, z_T0, rfl, trivial⟩
  obtain ⟨z7, e7, Z7⟩ := z_331 Z0
  obtain ⟨z8, e8, Z8⟩ := z_423 Z7
  obtain ⟨z9, e9, Z9⟩ := z_594 Z8
  obtain ⟨z10, e10, Z10⟩ := z_767_3 Z9
  obtain ⟨z11, e11, Z11⟩ := z_916_3 Z10
  obtain ⟨zc0, s1, s2, s3, r, k1, k2, k3, k4, k5, k6, k7, k8, Zc⟩ := z_1048_3 Z11
  obtain ⟨z12, e12, Z12⟩ := z_1095_3 Zc
  obtain ⟨z13, e13, Z13⟩ := z_1131_3 Z12
  obtain ⟨x14, e14⟩ := x_1385 (y := y6) (z := z13) (l6 := (3 : Int32)) hv hx
  exact ⟨wb, s1, s2, s3, x1, y1, x2, y2, x3, y3, x4, y4, x5, y5, x6, y6, x6, y6, z7, x6, y6, z8, x6, y6, z9, x6, y6, z10, x6, y6, z11, zc0, x6, y6, z12, x6, y6, z13, x14, y6, z13, jI (S 0), l4, (3 : Int32), r, 33, h0, h1, h2, h3, h4, h5, h6, e7 x6 y6 _ _ _, e8 x6 y6 _ _ _, e9 x6 y6 _ _ _, e10 x6 y6 _ _, e11 x6 y6 _ _, ⟨k1, k2, k3, k4, k5, k6, k7, ⟨by decide, by decide⟩, k8⟩, e12 x6 y6 _ _, e13 x6 y6 _ _, e14⟩
set_option maxHeartbeats 4000000 in
theorem law_4 {sc : Sc} {wb x1 y1 x2 y2 x3 y3 x4 y4 x5 y5 x6 y6 : Wd} {S : Ab} {F : Int} {l4 : Int32} (hv : SV S l4) (hx : XI S F x6) (h0 : f_L_build sc = some wb) (h1 : f_law_10 wb wb = some (x1, y1, jI (S 0), l4)) (h2 : f_law_72 x1 y1 (jI (S 0)) l4 = some (x2, y2)) (h3 : f_law_120 x2 y2 (jI (S 0)) l4 = some (x3, y3)) (h4 : f_law_154 x3 y3 (jI (S 0)) l4 = some (x4, y4)) (h5 : f_law_187 x4 y4 (jI (S 0)) l4 = some (x5, y5)) (h6 : f_law_310 x5 y5 (jI (S 0)) l4 sc = some (x6, y6, (4 : Int32))) : LawOk sc := by
  have Z0 : ZI s0z w0 := ⟨T0, T0_g, w0_C, z_T0, rfl, trivial⟩
  obtain ⟨z7, e7, Z7⟩ := z_331 Z0
  obtain ⟨z8, e8, Z8⟩ := z_423 Z7
  obtain ⟨z9, e9, Z9⟩ := z_594 Z8
  obtain ⟨z10, e10, Z10⟩ := z_767_4 Z9
  obtain ⟨z11, e11, Z11⟩ := z_916_4 Z10
  obtain ⟨zc0, s1, s2, s3, r, k1, k2, k3, k4, k5, k6, k7, k8, Zc⟩ := z_1048_4 Z11
  obtain ⟨z12, e12, Z12⟩ := z_1095_4 Zc
  obtain ⟨z13, e13, Z13⟩ := z_1131_4 Z12
  obtain ⟨x14, e14⟩ := x_1385 (y := y6) (z := z13) (l6 := (4 : Int32)) hv hx
  exact ⟨wb, s1, s2, s3, x1, y1, x2, y2, x3, y3, x4, y4, x5, y5, x6, y6, x6, y6, z7, x6, y6, z8, x6, y6, z9, x6, y6, z10, x6, y6, z11, zc0, x6, y6, z12, x6, y6, z13, x14, y6, z13, jI (S 0), l4, (4 : Int32), r, 34, h0, h1, h2, h3, h4, h5, h6, e7 x6 y6 _ _ _, e8 x6 y6 _ _ _, e9 x6 y6 _ _ _, e10 x6 y6 _ _, e11 x6 y6 _ _, ⟨k1, k2, k3, k4, k5, k6, k7, ⟨by decide, by decide⟩, k8⟩, e12 x6 y6 _ _, e13 x6 y6 _ _, e14⟩
theorem law_ok {sc : Sc} (hL : sc.1 ≤ 1000) : LawOk sc := by
  obtain ⟨wb, T, h0, hG, hC, h4, hz⟩ := build_ok hL
  obtain ⟨x1, y1, v, TX, TY, S1, S2, S3, h1, hv, GX, cx, eX, GY, cy, eY⟩ := x_10 hG hC h4 hz
  obtain ⟨x2, y2, h2, F, X2⟩ := x_72 (r := jI (tS T 0)) hG hv GX cx eX GY cy eY
  obtain ⟨x3, h3, X3⟩ := x_120 (y := y2) (r := jI (tS T 0)) h4 hv X2
  obtain ⟨x4, h4', X4⟩ := x_154 (y := y2) (r := jI (tS T 0)) h4 hv X3
  obtain ⟨x5, h5, X5⟩ := x_187 (y := y2) (r := jI (tS T 0)) hv X4
  obtain ⟨n, n1, n4, h6⟩ := x_310 hL (x := x5) (y := y2) (l3 := jI (tS T 0)) (l4 := v)
  rcases (show n = 1 ∨ n = 2 ∨ n = 3 ∨ n = 4 by omega) with rfl | rfl | rfl | rfl
  · exact law_1 hv X5 h0 h1 h2 h3 h4' h5 h6
  · exact law_2 hv X5 h0 h1 h2 h3 h4' h5 h6
  · exact law_3 hv X5 h0 h1 h2 h3 h4' h5 h6
  · exact law_4 hv X5 h0 h1 h2 h3 h4' h5 h6
