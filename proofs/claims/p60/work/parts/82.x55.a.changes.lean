/-! THE LAW over the changes -/
theorem lawA {L : Option (Int32 × Wd)} {M : Wd → Option (Int32 × Wd)} {c : Int32} {w3 w6 : Wd} {r5 : Int32} (h1 : L = some (c, w3)) (h2 : M w3 = some (r5, w6)) (h3 : gI w6 141 12 = c) (h4 : c = 0 → gL w6 151 0 = r5.toInt64) : (L.bind fun z => u2 z fun r2 w3 => ((M w3).bind fun z => u2 z fun r5 w6 => ((f_X11_thrown w6).bind fun r8 => (if r8 = r2 then (if r2 = 0 then (if inR (0 : Int32) 1 then (if (gL w6 151 ((0 : Int32)).toNatClampNeg) = (r5).toInt64 then (some w6) else none) else none) else (some w6)) else none)))) = some w6 := by
  rw [h1, bs_p, u2_p, h2, bs_p, u2_p]
  unfold f_X11_thrown
  rw [bs_p, h3, if_pos rfl]
  by_cases q : c = 0
  · rw [if_pos q, if_pos (show inR (0 : Int32) 1 = true by decide +kernel)]
    exact if_pos (h4 q)
  · rw [if_neg q]
theorem lawB {L : Option (Int32 × Wd)} {M : Wd → Option (Int64 × Wd)} {c : Int32} {w3 w6 : Wd} {r5 : Int64} (h1 : L = some (c, w3)) (h2 : M w3 = some (r5, w6)) (h3 : gI w6 141 12 = c) (h4 : c = 0 → gL w6 151 0 = r5) : (L.bind fun z => u2 z fun r2 w3 => ((M w3).bind fun z => u2 z fun r5 w6 => ((f_X11_thrown w6).bind fun r8 => (if r8 = r2 then (if r2 = 0 then (if inR (0 : Int32) 1 then (if (gL w6 151 ((0 : Int32)).toNatClampNeg) = r5 then (some w6) else none) else none) else (some w6)) else none)))) = some w6 := by
  rw [h1, bs_p, u2_p, h2, bs_p, u2_p]
  unfold f_X11_thrown
  rw [bs_p, h3, if_pos rfl]
  by_cases q : c = 0
  · rw [if_pos q, if_pos (show inR (0 : Int32) 1 = true by decide +kernel)]
    exact if_pos (h4 q)
  · rw [if_neg q]
theorem lawZ {L : Option (Int32 × Wd)} {M : Wd → Option (Int32 × Wd)} {c : Int32} {w3 w6 : Wd} {r5 : Int32} (h1 : L = some (c, w3)) (h2 : M w3 = some (r5, w6)) (h3 : gI w6 141 12 = c) (h4 : c = 0 → (r5 = 0 ∧ gL w6 151 0 = 0) ∨ (r5 = 1 ∧ gL w6 151 0 = 1)) : (L.bind fun z => u2 z fun r2 w3 => ((M w3).bind fun z => u2 z fun r5 w6 => ((f_X11_thrown w6).bind fun r8 => (if r8 = r2 then (if r2 = 0 then (if inR (0 : Int32) 1 then (if r5 = 0 then (if (gL w6 151 ((0 : Int32)).toNatClampNeg) = (0 : Int64) then (some w6) else none) else (if (gL w6 151 ((0 : Int32)).toNatClampNeg) = (1 : Int64) then (some w6) else none)) else none) else (some w6)) else none)))) = some w6 := by
  rw [h1, bs_p, u2_p, h2, bs_p, u2_p]
  unfold f_X11_thrown
  rw [bs_p, h3, if_pos rfl]
  by_cases q : c = 0
  · rw [if_pos q, if_pos (show inR (0 : Int32) 1 = true by decide +kernel)]
    rcases h4 q with ⟨a, b⟩ | ⟨a, b⟩
    · rw [if_pos a]; exact if_pos b
    · rw [if_neg (show ¬ r5 = 0 by rw [a]; decide +kernel)]; exact if_pos b
  · rw [if_neg q]
theorem InvC.out {w : Wd} {T : TS} (h : InvC w T) (v : Int64) : InvC (uL w 151 0 v) T := h.kept (Sm.wL w (by unfold KJ; omega))
theorem InvR.out {w : Wd} {T : TS} (h : InvR w T) (v : Int64) : InvR (uL w 151 0 v) T := h.far (Sm.wL w (by unfold KL; omega))
theorem sm_out (w : Wd) (v : Int64) : Sm KL w (uL w 151 0 v) := Sm.wL w (by unfold KL; omega)
theorem out_at {w w6 : Wd} {v : Int64} (h : Sm KR (uL w 151 0 v) w6) : gL w6 151 0 = v := by
  rw [h.lK (by unfold KR; omega), gL_uL, if_pos ⟨rfl, rfl⟩]
theorem lw_gear {w : Wd} (h : Inv w) (x1 x2 x3 : Int32) : ∃ w1, f_law_288 w x1 x2 x3 = some w1 ∧ Inv w1 := by
  obtain ⟨T, hG, hC, hR⟩ := h
  obtain ⟨x, rfl, xb1, xb2⟩ := jI_ex x1
  obtain ⟨o, hO, hc, hr⟩ := op_gear hG.1 xb1 xb2
  obtain ⟨w3, e3, s3, c3⟩ := chg_c (fun z => u2 z fun z w10 => zc z (fun k => (some ((.inl k : Nat ⊕ Int32), w10))) (fun r9 => (some ((.inr r9), w10)))) hG (by decide) hO hc hC
  have X : f_X10_addGear w (jI x) = _ := e3
  rcases o with e | q
  · have hm : e = 1 ∨ e = 2 := by
      have hO : e ∈ [1, 2] := hO
      simpa using hO
    have hcd : gI w 0 0 = gI w 0 0 := rfl
    have hL : ∃ c : Int, 0 < c ∧ c < 100 ∧ f_L_addGear w (jI x) = some (jI c, w3) ∧ c = (fun e : Nat => if e = 1 then (1 : Int) else (2 : Int)) e := by
      unfold f_L_addGear
      rw [X]
      rcases hm with rfl | rfl

      · exact ⟨1, by decide, by decide, rfl, rfl⟩
      · exact ⟨2, by decide, by decide, rfl, rfl⟩
    obtain ⟨c, c0, c1, L, ce⟩ := hL
    obtain ⟨r, w6, e6, s6, k1, k2, k3⟩ := chg_r (fun z => u2 z fun r9 w10 => (some (r9, w10))) hG hO (by decide) hr (hR.far s3)
    have Y : f_X11_addGear w3 (jI x) = _ := e6
    have hcc : gI w6 141 12 = jI c := by
      rw [k1, ce]
      rcases hm with rfl | rfl <;> rfl
    refine ⟨w6, ?_, T, hG, c3.far s6, k3⟩
    unfold f_law_288

    refine lawA L (by rw [Y]; rfl) hcc (fun z => ?_)
    exact absurd (iff_of_eq (jI_eq (by omega) (by omega) (by omega) (by omega)) |>.mp (show jI c = jI 0 from z)) (by omega)
  · have hO1 : 0 ≤ q.1 ∧ q.1 < 1000 ∧ Good q.2 := hO
    obtain ⟨q0, q1, q2⟩ := hO1
    have L : f_L_addGear w (jI x) = some (jI 0, uL w3 151 0 (jL q.1)) := by
      unfold f_L_addGear
      rw [X, ← jI_toL (z := q.1) (by omega) (by omega)]
      rfl
    obtain ⟨r, w6, e6, s6, k1, k2, k3⟩ := chg_r (fun z => u2 z fun r9 w10 => (some (r9, w10))) hG (o := .inr q) hO (by decide) hr ((hR.far s3).out (jL q.1))
    have Y : f_X11_addGear (uL w3 151 0 (jL q.1)) (jI x) = _ := e6
    refine ⟨w6, ?_, psh T q.2, hG.psh q2, (InvC.out c3 _).far s6, k3⟩
    unfold f_law_288
    refine lawA L (r5 := jI q.1) (by rw [Y, k2]; rfl) k1 (fun _ => ?_)
    rw [out_at s6, jI_toL (by omega) (by omega)]
theorem lw_mesh {w : Wd} (h : Inv w) (x1 x2 x3 : Int32) : ∃ w1, f_law_344 w x1 x2 x3 = some w1 ∧ Inv w1 := by
  obtain ⟨T, hG, hC, hR⟩ := h
  obtain ⟨x, rfl, xb1, xb2⟩ := jI_ex x1
  obtain ⟨y, rfl, yb1, yb2⟩ := jI_ex x2
  obtain ⟨o, hO, hc, hr⟩ := op_join (k := 1) hG.1 xb1 xb2 yb1 yb2 (by decide)
  obtain ⟨w3, e3, s3, c3⟩ := chg_c (fun z => u2 z fun z w10 => zc z (fun k => (some ((.inl k : Nat ⊕ Int32), w10))) (fun r9 => (some ((.inr r9), w10)))) hG (by decide) hO hc hC
  have X : f_X10_mesh w (jI x) (jI y) = _ := e3
  rcases o with e | q
  · have hm : e = 0 ∨ e = 1 ∨ e = 2 ∨ e = 3 := by
      have hO : e ∈ [0, 1, 2, 3] := hO
      simpa using hO
    have hcd : gI w 0 0 = gI w 0 0 := rfl
    have hL : ∃ c : Int, 0 < c ∧ c < 100 ∧ f_L_mesh w (jI x) (jI y) = some (jI c, w3) ∧ c = (fun e : Nat => if e = 0 then (1 : Int) else if e = 1 then (2 : Int) else if e = 2 then (3 : Int) else (4 : Int)) e := by
      unfold f_L_mesh
      rw [X]
      rcases hm with rfl | rfl | rfl | rfl

      · exact ⟨1, by decide, by decide, rfl, rfl⟩
      · exact ⟨2, by decide, by decide, rfl, rfl⟩
      · exact ⟨3, by decide, by decide, rfl, rfl⟩
      · exact ⟨4, by decide, by decide, rfl, rfl⟩
    obtain ⟨c, c0, c1, L, ce⟩ := hL
    obtain ⟨r, w6, e6, s6, k1, k2, k3⟩ := chg_r (fun z => u2 z fun r9 w10 => (some (r9, w10))) hG hO (by decide) hr (hR.far s3)
    have Y : f_X11_mesh w3 (jI x) (jI y) = _ := e6
    have hcc : gI w6 141 12 = jI c := by
      rw [k1, ce]
      rcases hm with rfl | rfl | rfl | rfl <;> rfl
    refine ⟨w6, ?_, T, hG, c3.far s6, k3⟩
    unfold f_law_344

    refine lawA L (by rw [Y]; rfl) hcc (fun z => ?_)
    exact absurd (iff_of_eq (jI_eq (by omega) (by omega) (by omega) (by omega)) |>.mp (show jI c = jI 0 from z)) (by omega)
  · have hO1 : 0 ≤ q.1 ∧ q.1 < 1000 ∧ Good q.2 := hO
    obtain ⟨q0, q1, q2⟩ := hO1
    have L : f_L_mesh w (jI x) (jI y) = some (jI 0, uL w3 151 0 (jL q.1)) := by
      unfold f_L_mesh
      rw [X, ← jI_toL (z := q.1) (by omega) (by omega)]
      rfl
    obtain ⟨r, w6, e6, s6, k1, k2, k3⟩ := chg_r (fun z => u2 z fun r9 w10 => (some (r9, w10))) hG (o := .inr q) hO (by decide) hr ((hR.far s3).out (jL q.1))
    have Y : f_X11_mesh (uL w3 151 0 (jL q.1)) (jI x) (jI y) = _ := e6
    refine ⟨w6, ?_, psh T q.2, hG.psh q2, (InvC.out c3 _).far s6, k3⟩
    unfold f_law_344
    refine lawA L (r5 := jI q.1) (by rw [Y, k2]; rfl) k1 (fun _ => ?_)
    rw [out_at s6, jI_toL (by omega) (by omega)]
theorem lw_axle {w : Wd} (h : Inv w) (x1 x2 x3 : Int32) : ∃ w1, f_law_412 w x1 x2 x3 = some w1 ∧ Inv w1 := by
  obtain ⟨T, hG, hC, hR⟩ := h
  obtain ⟨x, rfl, xb1, xb2⟩ := jI_ex x1
  obtain ⟨y, rfl, yb1, yb2⟩ := jI_ex x2
  obtain ⟨o, hO, hc, hr⟩ := op_join (k := 2) hG.1 xb1 xb2 yb1 yb2 (by decide)
  obtain ⟨w3, e3, s3, c3⟩ := chg_c (fun z => u2 z fun z w10 => zc z (fun k => (some ((.inl k : Nat ⊕ Int32), w10))) (fun r9 => (some ((.inr r9), w10)))) hG (by decide) hO hc hC
  have X : f_X10_shareAxle w (jI x) (jI y) = _ := e3
  rcases o with e | q
  · have hm : e = 0 ∨ e = 1 ∨ e = 2 ∨ e = 3 := by
      have hO : e ∈ [0, 1, 2, 3] := hO
      simpa using hO
    have hcd : gI w 0 0 = gI w 0 0 := rfl
    have hL : ∃ c : Int, 0 < c ∧ c < 100 ∧ f_L_shareAxle w (jI x) (jI y) = some (jI c, w3) ∧ c = (fun e : Nat => if e = 0 then (1 : Int) else if e = 1 then (2 : Int) else if e = 2 then (3 : Int) else (4 : Int)) e := by
      unfold f_L_shareAxle
      rw [X]
      rcases hm with rfl | rfl | rfl | rfl

      · exact ⟨1, by decide, by decide, rfl, rfl⟩
      · exact ⟨2, by decide, by decide, rfl, rfl⟩
      · exact ⟨3, by decide, by decide, rfl, rfl⟩
      · exact ⟨4, by decide, by decide, rfl, rfl⟩
    obtain ⟨c, c0, c1, L, ce⟩ := hL
    obtain ⟨r, w6, e6, s6, k1, k2, k3⟩ := chg_r (fun z => u2 z fun r9 w10 => (some (r9, w10))) hG hO (by decide) hr (hR.far s3)
    have Y : f_X11_shareAxle w3 (jI x) (jI y) = _ := e6
    have hcc : gI w6 141 12 = jI c := by
      rw [k1, ce]
      rcases hm with rfl | rfl | rfl | rfl <;> rfl
    refine ⟨w6, ?_, T, hG, c3.far s6, k3⟩
    unfold f_law_412

    refine lawA L (by rw [Y]; rfl) hcc (fun z => ?_)
    exact absurd (iff_of_eq (jI_eq (by omega) (by omega) (by omega) (by omega)) |>.mp (show jI c = jI 0 from z)) (by omega)
  · have hO1 : 0 ≤ q.1 ∧ q.1 < 1000 ∧ Good q.2 := hO
    obtain ⟨q0, q1, q2⟩ := hO1
    have L : f_L_shareAxle w (jI x) (jI y) = some (jI 0, uL w3 151 0 (jL q.1)) := by
      unfold f_L_shareAxle
      rw [X, ← jI_toL (z := q.1) (by omega) (by omega)]
      rfl
    obtain ⟨r, w6, e6, s6, k1, k2, k3⟩ := chg_r (fun z => u2 z fun r9 w10 => (some (r9, w10))) hG (o := .inr q) hO (by decide) hr ((hR.far s3).out (jL q.1))
    have Y : f_X11_shareAxle (uL w3 151 0 (jL q.1)) (jI x) (jI y) = _ := e6
    refine ⟨w6, ?_, psh T q.2, hG.psh q2, (InvC.out c3 _).far s6, k3⟩
    unfold f_law_412
    refine lawA L (r5 := jI q.1) (by rw [Y, k2]; rfl) k1 (fun _ => ?_)
    rw [out_at s6, jI_toL (by omega) (by omega)]
theorem lw_cut {w : Wd} (h : Inv w) (x1 x2 x3 : Int32) : ∃ w1, f_law_480 w x1 x2 x3 = some w1 ∧ Inv w1 := by
  obtain ⟨T, hG, hC, hR⟩ := h
  obtain ⟨x, rfl, xb1, xb2⟩ := jI_ex x1
  obtain ⟨y, rfl, yb1, yb2⟩ := jI_ex x2
  obtain ⟨o, hO, hc, hr⟩ := op_cut hG.1 xb1 xb2 yb1 yb2
  obtain ⟨w3, e3, s3, c3⟩ := chg_c (fun z => u2 z fun z w10 => zc z (fun k => (some ((.inl k : Nat ⊕ Int32), w10))) (fun r9 => (some ((.inr r9), w10)))) hG (by decide) hO hc hC
  have X : f_X10_separate w (jI x) (jI y) = _ := e3
  rcases o with e | q
  · have hm : e = 0 ∨ e = 4 := by
      have hO : e ∈ [0, 4] := hO
      simpa using hO
    have hcd : gI w 0 0 = gI w 0 0 := rfl
    have hL : ∃ c : Int, 0 < c ∧ c < 100 ∧ f_L_separate w (jI x) (jI y) = some (jI c, w3) ∧ c = (fun e : Nat => if e = 0 then (1 : Int) else (2 : Int)) e := by
      unfold f_L_separate
      rw [X]
      rcases hm with rfl | rfl

      · exact ⟨1, by decide, by decide, rfl, rfl⟩
      · exact ⟨2, by decide, by decide, rfl, rfl⟩
    obtain ⟨c, c0, c1, L, ce⟩ := hL
    obtain ⟨r, w6, e6, s6, k1, k2, k3⟩ := chg_r (fun z => u2 z fun r9 w10 => (some (r9, w10))) hG hO (by decide) hr (hR.far s3)
    have Y : f_X11_separate w3 (jI x) (jI y) = _ := e6
    have hcc : gI w6 141 12 = jI c := by
      rw [k1, ce]
    refine ⟨w6, ?_, T, hG, c3.far s6, k3⟩
    unfold f_law_480

    refine lawA L (by rw [Y]; rfl) hcc (fun z => ?_)
    exact absurd (iff_of_eq (jI_eq (by omega) (by omega) (by omega) (by omega)) |>.mp (show jI c = jI 0 from z)) (by omega)
  · have hO1 : 0 ≤ q.1 ∧ q.1 < 1000 ∧ Good q.2 := hO
    obtain ⟨q0, q1, q2⟩ := hO1
    have L : f_L_separate w (jI x) (jI y) = some (jI 0, uL w3 151 0 (jL q.1)) := by
      unfold f_L_separate
      rw [X, ← jI_toL (z := q.1) (by omega) (by omega)]
      rfl
    obtain ⟨r, w6, e6, s6, k1, k2, k3⟩ := chg_r (fun z => u2 z fun r9 w10 => (some (r9, w10))) hG (o := .inr q) hO (by decide) hr ((hR.far s3).out (jL q.1))
    have Y : f_X11_separate (uL w3 151 0 (jL q.1)) (jI x) (jI y) = _ := e6
    refine ⟨w6, ?_, psh T q.2, hG.psh q2, (InvC.out c3 _).far s6, k3⟩
    unfold f_law_480
    refine lawA L (r5 := jI q.1) (by rw [Y, k2]; rfl) k1 (fun _ => ?_)
    rw [out_at s6, jI_toL (by omega) (by omega)]
theorem lw_spring {w : Wd} (h : Inv w) (x1 x2 x3 : Int32) : ∃ w1, f_law_548 w x1 x2 x3 = some w1 ∧ Inv w1 := by
  obtain ⟨T, hG, hC, hR⟩ := h
  obtain ⟨x, rfl, xb1, xb2⟩ := jI_ex x1
  obtain ⟨y, rfl, yb1, yb2⟩ := jI_ex x2
  obtain ⟨o, hO, hc, hr⟩ := op_spring hG.1 xb1 xb2 yb1 yb2
  obtain ⟨w3, e3, s3, c3⟩ := chg_c (fun z => u2 z fun z w10 => zc z (fun k => (some ((.inl k : Nat ⊕ Int32), w10))) (fun r9 => (some ((.inr r9), w10)))) hG (by decide) hO hc hC
  have X : f_X10_setSpring w (jI x) (jI y) = _ := e3
  rcases o with e | q
  · have hm : e = 0 ∨ e = 1 ∨ e = 2 := by
      have hO : e ∈ [0, 1, 2] := hO
      simpa using hO
    have hcd : gI w 0 0 = gI w 0 0 := rfl
    have hL : ∃ c : Int, 0 < c ∧ c < 100 ∧ f_L_setSpring w (jI x) (jI y) = some (jI c, w3) ∧ c = (fun e : Nat => if e = 0 then (1 : Int) else if e = 1 then (2 : Int) else (3 : Int)) e := by
      unfold f_L_setSpring
      rw [X]
      rcases hm with rfl | rfl | rfl

      · exact ⟨1, by decide, by decide, rfl, rfl⟩
      · exact ⟨2, by decide, by decide, rfl, rfl⟩
      · exact ⟨3, by decide, by decide, rfl, rfl⟩
    obtain ⟨c, c0, c1, L, ce⟩ := hL
    obtain ⟨r, w6, e6, s6, k1, k2, k3⟩ := chg_r (fun z => u2 z fun r9 w10 => (some (r9, w10))) hG hO (by decide) hr (hR.far s3)
    have Y : f_X11_setSpring w3 (jI x) (jI y) = _ := e6
    have hcc : gI w6 141 12 = jI c := by
      rw [k1, ce]
      rcases hm with rfl | rfl | rfl <;> rfl
    refine ⟨w6, ?_, T, hG, c3.far s6, k3⟩
    unfold f_law_548

    refine lawA L (by rw [Y]; rfl) hcc (fun z => ?_)
    exact absurd (iff_of_eq (jI_eq (by omega) (by omega) (by omega) (by omega)) |>.mp (show jI c = jI 0 from z)) (by omega)
  · have hO1 : 0 ≤ q.1 ∧ q.1 < 1000 ∧ Good q.2 := hO
    obtain ⟨q0, q1, q2⟩ := hO1
    have L : f_L_setSpring w (jI x) (jI y) = some (jI 0, uL w3 151 0 (jL q.1)) := by
      unfold f_L_setSpring
      rw [X, ← jI_toL (z := q.1) (by omega) (by omega)]
      rfl
    obtain ⟨r, w6, e6, s6, k1, k2, k3⟩ := chg_r (fun z => u2 z fun r9 w10 => (some (r9, w10))) hG (o := .inr q) hO (by decide) hr ((hR.far s3).out (jL q.1))
    have Y : f_X11_setSpring (uL w3 151 0 (jL q.1)) (jI x) (jI y) = _ := e6
    refine ⟨w6, ?_, psh T q.2, hG.psh q2, (InvC.out c3 _).far s6, k3⟩
    unfold f_law_548
    refine lawA L (r5 := jI q.1) (by rw [Y, k2]; rfl) k1 (fun _ => ?_)
    rw [out_at s6, jI_toL (by omega) (by omega)]
theorem lw_wind {w : Wd} (h : Inv w) (x1 x2 x3 : Int32) : ∃ w1, f_law_616 w x1 x2 x3 = some w1 ∧ Inv w1 := by
  obtain ⟨T, hG, hC, hR⟩ := h
  obtain ⟨x, rfl, xb1, xb2⟩ := jI_ex x1
  obtain ⟨y, rfl, yb1, yb2⟩ := jI_ex x2
  obtain ⟨o, hO, hc, hr⟩ := op_wind hG.1 xb1 xb2 yb1 yb2
  obtain ⟨w3, e3, s3, c3⟩ := chg_c (fun z => u2 z fun z w10 => zc z (fun k => (some ((.inl k : Nat ⊕ Int32), w10))) (fun r9 => (some ((.inr r9), w10)))) hG (by decide) hO hc hC
  have X : f_X10_wind w (jI x) (jI y) = _ := e3
  rcases o with e | q
  · have hm : e = 0 ∨ e = 1 ∨ e = 4 ∨ e = 2 := by
      have hO : e ∈ [0, 1, 4, 2] := hO
      simpa using hO
    have hcd : gI w 0 0 = gI w 0 0 := rfl
    have hL : ∃ c : Int, 0 < c ∧ c < 100 ∧ f_L_wind w (jI x) (jI y) = some (jI c, w3) ∧ c = (fun e : Nat => if e = 0 then (1 : Int) else if e = 1 then (2 : Int) else if e = 4 then (3 : Int) else (4 : Int)) e := by
      unfold f_L_wind
      rw [X]
      rcases hm with rfl | rfl | rfl | rfl

      · exact ⟨1, by decide, by decide, rfl, rfl⟩
      · exact ⟨2, by decide, by decide, rfl, rfl⟩
      · exact ⟨3, by decide, by decide, rfl, rfl⟩
      · exact ⟨4, by decide, by decide, rfl, rfl⟩
    obtain ⟨c, c0, c1, L, ce⟩ := hL
    obtain ⟨r, w6, e6, s6, k1, k2, k3⟩ := chg_r (fun z => u2 z fun r9 w10 => (some (r9, w10))) hG hO (by decide) hr (hR.far s3)
    have Y : f_X11_wind w3 (jI x) (jI y) = _ := e6
    have hcc : gI w6 141 12 = jI c := by
      rw [k1, ce]
    refine ⟨w6, ?_, T, hG, c3.far s6, k3⟩
    unfold f_law_616

    refine lawA L (by rw [Y]; rfl) hcc (fun z => ?_)
    exact absurd (iff_of_eq (jI_eq (by omega) (by omega) (by omega) (by omega)) |>.mp (show jI c = jI 0 from z)) (by omega)
  · have hO1 : 0 ≤ q.1 ∧ q.1 < 1000 ∧ Good q.2 := hO
    obtain ⟨q0, q1, q2⟩ := hO1
    have L : f_L_wind w (jI x) (jI y) = some (jI 0, uL w3 151 0 (jL q.1)) := by
      unfold f_L_wind
      rw [X, ← jI_toL (z := q.1) (by omega) (by omega)]
      rfl
    obtain ⟨r, w6, e6, s6, k1, k2, k3⟩ := chg_r (fun z => u2 z fun r9 w10 => (some (r9, w10))) hG (o := .inr q) hO (by decide) hr ((hR.far s3).out (jL q.1))
    have Y : f_X11_wind (uL w3 151 0 (jL q.1)) (jI x) (jI y) = _ := e6
    refine ⟨w6, ?_, psh T q.2, hG.psh q2, (InvC.out c3 _).far s6, k3⟩
    unfold f_law_616
    refine lawA L (r5 := jI q.1) (by rw [Y, k2]; rfl) k1 (fun _ => ?_)
    rw [out_at s6, jI_toL (by omega) (by omega)]
theorem lw_rev {w : Wd} (h : Inv w) (x1 x2 x3 : Int32) : ∃ w1, f_law_684 w x1 x2 x3 = some w1 ∧ Inv w1 := by
  obtain ⟨T, hG, hC, hR⟩ := h
  obtain ⟨x, rfl, xb1, xb2⟩ := jI_ex x1
  obtain ⟨o, hO, hc, hr⟩ := op_reverse hG.1 xb1 xb2
  obtain ⟨w3, e3, s3, c3⟩ := chg_c (fun z => u2 z fun z w10 => zc z (fun k => (some ((.inl k : Nat ⊕ Int32), w10))) (fun r9 => (if r9 = (1 : Int32) then (some ((.inr (1 : Int32)), w10)) else (some ((.inr (0 : Int32)), w10))))) hG (by decide) hO hc hC
  have X : f_X10_reverse w (jI x) = _ := e3
  rcases o with e | q
  · have hm : e = 0 ∨ e = 4 := by
      have hO : e ∈ [0, 4] := hO
      simpa using hO
    have hcd : gI w 0 0 = gI w 0 0 := rfl
    have hL : ∃ c : Int, 0 < c ∧ c < 100 ∧ f_L_reverse w (jI x) = some (jI c, w3) ∧ c = (fun e : Nat => if e = 0 then (1 : Int) else (2 : Int)) e := by
      unfold f_L_reverse
      rw [X]
      rcases hm with rfl | rfl

      · exact ⟨1, by decide, by decide, rfl, rfl⟩
      · exact ⟨2, by decide, by decide, rfl, rfl⟩
    obtain ⟨c, c0, c1, L, ce⟩ := hL
    obtain ⟨r, w6, e6, s6, k1, k2, k3⟩ := chg_r (fun z => u2 z fun r9 w10 => (if r9 = (1 : Int32) then (some ((1 : Int32), w10)) else (some ((0 : Int32), w10)))) hG hO (by decide) hr (hR.far s3)
    have Y : f_X11_reverse w3 (jI x) = _ := e6
    have hcc : gI w6 141 12 = jI c := by
      rw [k1, ce]
    refine ⟨w6, ?_, T, hG, c3.far s6, k3⟩
    unfold f_law_684

    refine lawZ L (r5 := 0) (by rw [Y, k2]; rfl) hcc (fun z => ?_)
    exact absurd (iff_of_eq (jI_eq (by omega) (by omega) (by omega) (by omega)) |>.mp (show jI c = jI 0 from z)) (by omega)
  · have hO1 : 0 ≤ q.1 ∧ q.1 < 1000 ∧ Good q.2 := hO
    obtain ⟨q0, q1, q2⟩ := hO1
    by_cases b1 : q.1 = 1
    · have L : f_L_reverse w (jI x) = some (jI 0, uL w3 151 0 1) := by
        unfold f_L_reverse
        rw [X]
        show ((if jI q.1 = (1 : Int32) then some ((Sum.inr (1 : Int32) : Nat ⊕ Int32), w3) else some ((.inr (0 : Int32)), w3)).bind _) = _
        rw [b1]
        rfl
      obtain ⟨r, w6, e6, s6, k1, k2, k3⟩ := chg_r (fun z => u2 z fun r9 w10 => (if r9 = (1 : Int32) then (some ((1 : Int32), w10)) else (some ((0 : Int32), w10)))) hG (o := .inr q) hO (by decide) hr ((hR.far s3).out 1)
      have Y : f_X11_reverse (uL w3 151 0 1) (jI x) = _ := e6
      refine ⟨w6, ?_, psh T q.2, hG.psh q2, (InvC.out c3 _).far s6, k3⟩
      unfold f_law_684
      refine lawZ L (r5 := 1) (by rw [Y, k2, b1]; rfl) k1 (fun _ => Or.inr ⟨rfl, out_at s6⟩)
    · have hn : ¬ jI q.1 = (1 : Int32) := fun z => b1 ((iff_of_eq (jI_eq (by omega) (by omega) (by omega) (by omega))).mp (show jI q.1 = jI 1 from z))
      have L : f_L_reverse w (jI x) = some (jI 0, uL w3 151 0 0) := by
        unfold f_L_reverse
        rw [X]
        show ((if jI q.1 = (1 : Int32) then some ((Sum.inr (1 : Int32) : Nat ⊕ Int32), w3) else some ((.inr (0 : Int32)), w3)).bind _) = _
        rw [if_neg hn]
        rfl
      obtain ⟨r, w6, e6, s6, k1, k2, k3⟩ := chg_r (fun z => u2 z fun r9 w10 => (if r9 = (1 : Int32) then (some ((1 : Int32), w10)) else (some ((0 : Int32), w10)))) hG (o := .inr q) hO (by decide) hr ((hR.far s3).out 0)
      have Y : f_X11_reverse (uL w3 151 0 0) (jI x) = _ := e6
      refine ⟨w6, ?_, psh T q.2, hG.psh q2, (InvC.out c3 _).far s6, k3⟩
      unfold f_law_684
      refine lawZ L (r5 := 0) ?_ k1 (fun _ => Or.inl ⟨rfl, out_at s6⟩)
      rw [Y, k2]
      show (if jI q.1 = (1 : Int32) then some ((1 : Int32), w6) else some ((0 : Int32), w6)) = _
      rw [if_neg hn]
theorem lw_rel {w : Wd} (h : Inv w) (x1 x2 x3 : Int32) : ∃ w1, f_law_747 w x1 x2 x3 = some w1 ∧ Inv w1 := by
  obtain ⟨T, hG, hC, hR⟩ := h
  obtain ⟨x, rfl, xb1, xb2⟩ := jI_ex x1
  obtain ⟨y, rfl, yb1, yb2⟩ := jI_ex x2
  obtain ⟨o, hO, hc, hr⟩ := op_release hG.1 xb1 xb2 yb1 yb2
  obtain ⟨w3, e3, s3, c3⟩ := chg_c (fun z => u2 z fun z w10 => zc z (fun k => (some ((.inl k : Nat ⊕ Int32), w10))) (fun r9 => (some ((.inr r9), w10)))) hG (by decide) hO hc hC
  have X : f_X10_release w (jI x) (jI y) = _ := e3
  rcases o with e | q
  · have hm : e = 0 ∨ e = 1 ∨ e = 4 ∨ e = 3 := by
      have hO : e ∈ [0, 1, 4, 3] := hO
      simpa using hO
    have hcd : gI w 0 0 = gI w 0 0 := rfl
    have hL : ∃ c : Int, 0 < c ∧ c < 100 ∧ f_L_release w (jI x) (jI y) = some (jI c, w3) ∧ c = (fun e : Nat => if e = 0 then (1 : Int) else if e = 1 then (2 : Int) else if e = 4 then (3 : Int) else (4 : Int)) e := by
      unfold f_L_release
      rw [X]
      rcases hm with rfl | rfl | rfl | rfl

      · exact ⟨1, by decide, by decide, rfl, rfl⟩
      · exact ⟨2, by decide, by decide, rfl, rfl⟩
      · exact ⟨3, by decide, by decide, rfl, rfl⟩
      · exact ⟨4, by decide, by decide, rfl, rfl⟩
    obtain ⟨c, c0, c1, L, ce⟩ := hL
    obtain ⟨r, w6, e6, s6, k1, k2, k3⟩ := chg_r (fun z => u2 z fun r9 w10 => (some (r9, w10))) hG hO (by decide) hr (hR.far s3)
    have Y : f_X11_release w3 (jI x) (jI y) = _ := e6
    have hcc : gI w6 141 12 = jI c := by
      rw [k1, ce]
    refine ⟨w6, ?_, T, hG, c3.far s6, k3⟩
    unfold f_law_747

    refine lawA L (by rw [Y]; rfl) hcc (fun z => ?_)
    exact absurd (iff_of_eq (jI_eq (by omega) (by omega) (by omega) (by omega)) |>.mp (show jI c = jI 0 from z)) (by omega)
  · have hO1 : 0 ≤ q.1 ∧ q.1 < 1000 ∧ Good q.2 := hO
    obtain ⟨q0, q1, q2⟩ := hO1
    have L : f_L_release w (jI x) (jI y) = some (jI 0, uL w3 151 0 (jL q.1)) := by
      unfold f_L_release
      rw [X, ← jI_toL (z := q.1) (by omega) (by omega)]
      rfl
    obtain ⟨r, w6, e6, s6, k1, k2, k3⟩ := chg_r (fun z => u2 z fun r9 w10 => (some (r9, w10))) hG (o := .inr q) hO (by decide) hr ((hR.far s3).out (jL q.1))
    have Y : f_X11_release (uL w3 151 0 (jL q.1)) (jI x) (jI y) = _ := e6
    refine ⟨w6, ?_, psh T q.2, hG.psh q2, (InvC.out c3 _).far s6, k3⟩
    unfold f_law_747
    refine lawA L (r5 := jI q.1) (by rw [Y, k2]; rfl) k1 (fun _ => ?_)
    rw [out_at s6, jI_toL (by omega) (by omega)]
theorem lw_oil {w : Wd} (h : Inv w) (x1 x2 x3 : Int32) : ∃ w1, f_law_906 w x1 x2 x3 = some w1 ∧ Inv w1 := by
  obtain ⟨T, hG, hC, hR⟩ := h
  obtain ⟨x, rfl, xb1, xb2⟩ := jI_ex x1
  obtain ⟨o, hO, hc, hr⟩ := op_oil hG.1 xb1 xb2
  obtain ⟨w3, e3, s3, c3⟩ := chg_c (fun z => u2 z fun z w10 => zc z (fun k => (some ((.inl k : Nat ⊕ Int32), w10))) (fun r9 => (some ((.inr r9), w10)))) hG (by decide) hO hc hC
  have X : f_X10_oil w (jI x) = _ := e3
  rcases o with e | q
  · have hm : e = 0 ∨ e = 2 ∨ e = 3 := by
      have hO : e ∈ [0, 2, 3] := hO
      simpa using hO
    have hcd : gI w 0 0 = gI w 0 0 := rfl
    have hL : ∃ c : Int, 0 < c ∧ c < 100 ∧ f_L_oil w (jI x) = some (jI c, w3) ∧ c = (fun e : Nat => if e = 0 then (1 : Int) else if e = 2 then (2 : Int) else (3 : Int)) e := by
      unfold f_L_oil
      rw [X]
      rcases hm with rfl | rfl | rfl

      · exact ⟨1, by decide, by decide, rfl, rfl⟩
      · exact ⟨2, by decide, by decide, rfl, rfl⟩
      · exact ⟨3, by decide, by decide, rfl, rfl⟩
    obtain ⟨c, c0, c1, L, ce⟩ := hL
    obtain ⟨r, w6, e6, s6, k1, k2, k3⟩ := chg_r (fun z => u2 z fun r9 w10 => (some (r9, w10))) hG hO (by decide) hr (hR.far s3)
    have Y : f_X11_oil w3 (jI x) = _ := e6
    have hcc : gI w6 141 12 = jI c := by
      rw [k1, ce]
    refine ⟨w6, ?_, T, hG, c3.far s6, k3⟩
    unfold f_law_906

    refine lawA L (by rw [Y]; rfl) hcc (fun z => ?_)
    exact absurd (iff_of_eq (jI_eq (by omega) (by omega) (by omega) (by omega)) |>.mp (show jI c = jI 0 from z)) (by omega)
  · have hO1 : 0 ≤ q.1 ∧ q.1 < 1000 ∧ Good q.2 := hO
    obtain ⟨q0, q1, q2⟩ := hO1
    have L : f_L_oil w (jI x) = some (jI 0, uL w3 151 0 (jL q.1)) := by
      unfold f_L_oil
      rw [X, ← jI_toL (z := q.1) (by omega) (by omega)]
      rfl
    obtain ⟨r, w6, e6, s6, k1, k2, k3⟩ := chg_r (fun z => u2 z fun r9 w10 => (some (r9, w10))) hG (o := .inr q) hO (by decide) hr ((hR.far s3).out (jL q.1))
    have Y : f_X11_oil (uL w3 151 0 (jL q.1)) (jI x) = _ := e6
    refine ⟨w6, ?_, psh T q.2, hG.psh q2, (InvC.out c3 _).far s6, k3⟩
    unfold f_law_906
    refine lawA L (r5 := jI q.1) (by rw [Y, k2]; rfl) k1 (fun _ => ?_)
    rw [out_at s6, jI_toL (by omega) (by omega)]
theorem lw_buy {w : Wd} (h : Inv w) (x1 x2 x3 : Int32) : ∃ w1, f_law_962 w x1 x2 x3 = some w1 ∧ Inv w1 := by
  obtain ⟨T, hG, hC, hR⟩ := h
  obtain ⟨x, rfl, xb1, xb2⟩ := jI_ex x1
  obtain ⟨o, hO, hc, hr⟩ := op_buy hG.1 xb1 xb2
  obtain ⟨w3, e3, s3, c3⟩ := chg_c (fun z => u2 z fun z w10 => zc z (fun k => (some ((.inl k : Nat ⊕ Int32), w10))) (fun r9 => (some ((.inr r9), w10)))) hG (by decide) hO hc hC
  have X : f_X10_buyOil w (jI x) = _ := e3
  rcases o with e | q
  · have hm : e = 1 ∨ e = 2 := by
      have hO : e ∈ [1, 2] := hO
      simpa using hO
    have hcd : gI w 0 0 = gI w 0 0 := rfl
    have hL : ∃ c : Int, 0 < c ∧ c < 100 ∧ f_L_buyOil w (jI x) = some (jI c, w3) ∧ c = (fun e : Nat => if e = 1 then (1 : Int) else (2 : Int)) e := by
      unfold f_L_buyOil
      rw [X]
      rcases hm with rfl | rfl

      · exact ⟨1, by decide, by decide, rfl, rfl⟩
      · exact ⟨2, by decide, by decide, rfl, rfl⟩
    obtain ⟨c, c0, c1, L, ce⟩ := hL
    obtain ⟨r, w6, e6, s6, k1, k2, k3⟩ := chg_r (fun z => u2 z fun r9 w10 => (some (r9, w10))) hG hO (by decide) hr (hR.far s3)
    have Y : f_X11_buyOil w3 (jI x) = _ := e6
    have hcc : gI w6 141 12 = jI c := by
      rw [k1, ce]
      rcases hm with rfl | rfl <;> rfl
    refine ⟨w6, ?_, T, hG, c3.far s6, k3⟩
    unfold f_law_962

    refine lawA L (by rw [Y]; rfl) hcc (fun z => ?_)
    exact absurd (iff_of_eq (jI_eq (by omega) (by omega) (by omega) (by omega)) |>.mp (show jI c = jI 0 from z)) (by omega)
  · have hO1 : 0 ≤ q.1 ∧ q.1 < 1000 ∧ Good q.2 := hO
    obtain ⟨q0, q1, q2⟩ := hO1
    have L : f_L_buyOil w (jI x) = some (jI 0, uL w3 151 0 (jL q.1)) := by
      unfold f_L_buyOil
      rw [X, ← jI_toL (z := q.1) (by omega) (by omega)]
      rfl
    obtain ⟨r, w6, e6, s6, k1, k2, k3⟩ := chg_r (fun z => u2 z fun r9 w10 => (some (r9, w10))) hG (o := .inr q) hO (by decide) hr ((hR.far s3).out (jL q.1))
    have Y : f_X11_buyOil (uL w3 151 0 (jL q.1)) (jI x) = _ := e6
    refine ⟨w6, ?_, psh T q.2, hG.psh q2, (InvC.out c3 _).far s6, k3⟩
    unfold f_law_962
    refine lawA L (r5 := jI q.1) (by rw [Y, k2]; rfl) k1 (fun _ => ?_)
    rw [out_at s6, jI_toL (by omega) (by omega)]
theorem lw_plan {w : Wd} (h : Inv w) (x1 x2 x3 : Int32) : ∃ w1, f_law_1018 w x1 x2 x3 = some w1 ∧ Inv w1 := by
  obtain ⟨T, hG, hC, hR⟩ := h
  obtain ⟨x, rfl, xb1, xb2⟩ := jI_ex x1
  obtain ⟨o, hO, hc, hr⟩ := op_planet hG.1 xb1 xb2
  obtain ⟨w3, e3, s3, c3⟩ := chg_c (fun z => u2 z fun z w10 => zc z (fun k => (some ((.inl k : Nat ⊕ Int32), w10))) (fun r9 => (some ((.inr r9), w10)))) hG (by decide) hO hc hC
  have X : f_X10_addPlanet w (jI x) = _ := e3
  rcases o with e | q
  · have hm : e = 0 ∨ e = 2 := by
      have hO : e ∈ [0, 2] := hO
      simpa using hO
    have hcd : gI w 0 0 = gI w 0 0 := rfl
    have hL : ∃ c : Int, 0 < c ∧ c < 100 ∧ f_L_addPlanet w (jI x) = some (jI c, w3) ∧ c = (fun e : Nat => if e = 0 then (1 : Int) else (2 : Int)) e := by
      unfold f_L_addPlanet
      rw [X]
      rcases hm with rfl | rfl

      · exact ⟨1, by decide, by decide, rfl, rfl⟩
      · exact ⟨2, by decide, by decide, rfl, rfl⟩
    obtain ⟨c, c0, c1, L, ce⟩ := hL
    obtain ⟨r, w6, e6, s6, k1, k2, k3⟩ := chg_r (fun z => u2 z fun r9 w10 => (some (r9, w10))) hG hO (by decide) hr (hR.far s3)
    have Y : f_X11_addPlanet w3 (jI x) = _ := e6
    have hcc : gI w6 141 12 = jI c := by
      rw [k1, ce]
    refine ⟨w6, ?_, T, hG, c3.far s6, k3⟩
    unfold f_law_1018

    refine lawA L (by rw [Y]; rfl) hcc (fun z => ?_)
    exact absurd (iff_of_eq (jI_eq (by omega) (by omega) (by omega) (by omega)) |>.mp (show jI c = jI 0 from z)) (by omega)
  · have hO1 : 0 ≤ q.1 ∧ q.1 < 1000 ∧ Good q.2 := hO
    obtain ⟨q0, q1, q2⟩ := hO1
    have L : f_L_addPlanet w (jI x) = some (jI 0, uL w3 151 0 (jL q.1)) := by
      unfold f_L_addPlanet
      rw [X, ← jI_toL (z := q.1) (by omega) (by omega)]
      rfl
    obtain ⟨r, w6, e6, s6, k1, k2, k3⟩ := chg_r (fun z => u2 z fun r9 w10 => (some (r9, w10))) hG (o := .inr q) hO (by decide) hr ((hR.far s3).out (jL q.1))
    have Y : f_X11_addPlanet (uL w3 151 0 (jL q.1)) (jI x) = _ := e6
    refine ⟨w6, ?_, psh T q.2, hG.psh q2, (InvC.out c3 _).far s6, k3⟩
    unfold f_law_1018
    refine lawA L (r5 := jI q.1) (by rw [Y, k2]; rfl) k1 (fun _ => ?_)
    rw [out_at s6, jI_toL (by omega) (by omega)]
