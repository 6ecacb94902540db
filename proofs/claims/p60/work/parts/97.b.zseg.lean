/-! THE THIRD OBJECT's way, call by call -/
def s0z : Zr := [[], [], [], [], [], [], [], [], [], [], [], [], [], [], [], [], [], [], [], [0, 0, 12, 0, 0, 0, 0]]
theorem s0z_k : ZK s0z := zG_ok (P := [1, -3, -3, 1, 1, 1, 1, 1, 1, 1]) (by decide +kernel)
set_option maxHeartbeats 4000000 in
theorem z_331 {w : Wd} (h : ZI s0z w) : ∃ z', (∀ (x y : Wd) (l3 l4 l6 : Int32), f_law_331 x y w l3 l4 l6 = some (x, y, z')) ∧ ZI s0z z' := by
  obtain ⟨w1, e1, h1⟩ := z_q (l := s0z) (a := (1 : Int32)) (dt_consistent s0z_k.1) s0z_k (by decide +kernel) h
  have e1 : f_X10_isConsistent w = some ((1 : Int32), w1) := e1
  have e2 : f_X10_gearCount w1  = some (0 : Int32) := z_r (l := s0z) (f := f_X10_gearCount) ⟨_, fun w h => k_gearCount h⟩ s0z_k (by decide +kernel) h1
  have e3 : f_X10_drops w1  = some (12 : Int32) := z_r (l := s0z) (f := f_X10_drops) ⟨_, fun w h => k_drops h⟩ s0z_k (by decide +kernel) h1
  have e4 : f_X10_tensionTotal w1  = some (0 : Int32) := z_r (l := s0z) (f := f_X10_tensionTotal) ⟨_, fun w h => k_tensionTotal h s0z_k.1⟩ s0z_k (by decide +kernel) h1
  obtain ⟨w5, e5, h5⟩ := z_er (l := s0z) (k := 0) (fun T hG => mu_release hG (0 : Int32) (1 : Int32)) s0z_k (by decide) (by decide +kernel) h1
  have e5 : f_X10_release w1 (0 : Int32) (1 : Int32) = some (.inl 0, w5) := e5
  have e5 : f_L_act w1 (7 : Int32) (0 : Int32) (1 : Int32) = some ((-1 : Int32), w5) := by rw [act_7, e5, bs_p, u2_p]; rfl
  have e6 : f_X10_fewestPairs w5 (1 : Int32) (1 : Int32) = some (.inl 4 : Nat ⊕ Int32) := z_r (l := s0z) (f := (fun w => f_X10_fewestPairs w (1 : Int32) (1 : Int32))) (dr_fewest (x := 1) (y := 1) s0z_k.1 ⟨by decide, by decide⟩ ⟨by decide, by decide⟩ s0z_k.2) s0z_k (by decide +kernel) h5
  have e6 : f_L_act w5 (17 : Int32) (1 : Int32) (1 : Int32) = some ((-5 : Int32), w5) := by rw [act_17, e6, bs_p]; rfl
  have e7 : f_X10_fewestPairs w5 (0 : Int32) (1 : Int32) = some (.inl 1 : Nat ⊕ Int32) := z_r (l := s0z) (f := (fun w => f_X10_fewestPairs w (0 : Int32) (1 : Int32))) ⟨_, fun w h => eq_ff (x := 0) (y := 1) (by omega) (by decide) (by decide) (by decide) (by decide)⟩ s0z_k (by decide +kernel) h5
  have e7 : f_L_act w5 (17 : Int32) (0 : Int32) (1 : Int32) = some ((-2 : Int32), w5) := by rw [act_17, e7, bs_p]; rfl
  obtain ⟨w8, e8, h8⟩ := z_er (l := s0z) (k := 1) (fun T hG => mu_buyOil hG (51 : Int32)) s0z_k (by decide) (by decide +kernel) h5
  have e8 : f_X10_buyOil w5 (51 : Int32) = some (.inl 1, w8) := e8
  have e8 : f_L_act w5 (11 : Int32) (51 : Int32) (0 : Int32) = some ((-2 : Int32), w8) := by rw [act_11, e8, bs_p, u2_p]; rfl
  refine ⟨w8, fun x y l3 l4 l6 => ?_, h8⟩
  unfold f_law_331
  rw [e1, bs_p, u2_p, if_neg (by decide +kernel), e2, bs_p, if_pos (by decide +kernel), e3, bs_p, if_pos (by decide +kernel), e4, bs_p, if_pos (by decide +kernel), e5, bs_p, u2_p, if_pos (by decide +kernel), e6, bs_p, u2_p, if_pos (by decide +kernel), e7, bs_p, u2_p, if_pos (by decide +kernel), e8, bs_p, u2_p, if_pos (by decide +kernel)]
def l26 : List Int := [103, 101, 97, 114, 32, 54, 48, 59, 103, 101, 97, 114, 32, 50, 48, 59, 103, 101, 97, 114, 32, 49, 48, 59, 103, 101, 97, 114, 32, 51, 48, 59, 109, 101, 115, 104, 32, 48, 49, 59, 97, 120, 108, 101, 32, 49, 50, 59, 109, 101, 115, 104, 32, 50, 51]
theorem t26 : txK 26 l26 = true := by decide +kernel
theorem p26 : prs l26 6 (-1) = true := by decide +kernel
def s1z : Zr := [[60], [0], [0], [0], [0], [0], [0], [0], [0], [0], [0], [0], [0], [0], [0], [0], [0], [0], [], [1, 0, 12, 0, 0, 0, 0]]
theorem s1z_k : ZK s1z := zG_ok (P := [1, -3, -3, 1, 1, 1, 1, 1, 1, 1]) (by decide +kernel)
def s2z : Zr := [[60, 20], [0, 0], [0, 0], [0, 0], [0, 0], [0, 0], [0, 0], [0, 0], [0, 0], [0, 0], [0, 0], [0, 0], [0, 0], [0, 0], [0, 0], [0, 0], [0, 0], [0, 0], [], [2, 0, 12, 0, 0, 0, 0]]
theorem s2z_k : ZK s2z := zG_ok (P := [1, -3, -3, 1, 1, 1, 1, 1, 1, 1]) (by decide +kernel)
def s3z : Zr := [[60, 20, 10], [0, 0, 0], [0, 0, 0], [0, 0, 0], [0, 0, 0], [0, 0, 0], [0, 0, 0], [0, 0, 0], [0, 0, 0], [0, 0, 0], [0, 0, 0], [0, 0, 0], [0, 0, 0], [0, 0, 0], [0, 0, 0], [0, 0, 0], [0, 0, 0], [0, 0, 0], [], [3, 0, 12, 0, 0, 0, 0]]
theorem s3z_k : ZK s3z := zG_ok (P := [1, -3, -3, 1, 1, 1, 1, 1, 1, 1]) (by decide +kernel)
def s4z : Zr := [[60, 20, 10, 30], [0, 0, 0, 0], [0, 0, 0, 0], [0, 0, 0, 0], [0, 0, 0, 0], [0, 0, 0, 0], [0, 0, 0, 0], [0, 0, 0, 0], [0, 0, 0, 0], [0, 0, 0, 0], [0, 0, 0, 0], [0, 0, 0, 0], [0, 0, 0, 0], [0, 0, 0, 0], [0, 0, 0, 0], [0, 0, 0, 0], [0, 0, 0, 0], [0, 0, 0, 0], [], [4, 0, 12, 0, 0, 0, 0]]
theorem s4z_k : ZK s4z := zG_ok (P := [1, -3, -3, 1, 1, 1, 1, 1, 1, 1]) (by decide +kernel)
def s5z : Zr := [[60, 20, 10, 30], [0, 0, 0, 0], [0, 0, 0, 0], [0, 0, 0, 0], [0, 0, 0, 0], [0, 0, 0, 0], [0, 0, 0, 0], [0, 0, 0, 0], [0, 1, 0, 0], [1, 0, 0, 0], [0, 0, 0, 0], [0, 0, 0, 0], [0, 0, 0, 0], [0, 0, 0, 0], [0, 0, 0, 0], [0, 0, 0, 0], [0, 0, 0, 0], [0, 0, 0, 0], [], [4, 0, 12, 0, 0, 0, 1]]
theorem s5z_k : ZK s5z := zG_ok (P := [1, -3, -3, 1, 1, 1, 1, 1, 1, 1]) (by decide +kernel)
def s6z : Zr := [[60, 20, 10, 30], [0, 0, 0, 0], [0, 0, 0, 0], [0, 0, 0, 0], [0, 0, 0, 0], [0, 0, 0, 0], [0, 0, 0, 0], [0, 0, 0, 0], [0, 1, 0, 0], [1, 0, 2, 0], [0, 2, 0, 0], [0, 0, 0, 0], [0, 0, 0, 0], [0, 0, 0, 0], [0, 0, 0, 0], [0, 0, 0, 0], [0, 0, 0, 0], [0, 0, 0, 0], [], [4, 0, 12, 0, 0, 0, 2]]
theorem s6z_k : ZK s6z := zG_ok (P := [1, -3, -3, 1, 1, 1, 1, 1, 1, 1]) (by decide +kernel)
def s7z : Zr := [[60, 20, 10, 30], [0, 0, 0, 0], [0, 0, 0, 0], [0, 0, 0, 0], [0, 0, 0, 0], [0, 0, 0, 0], [0, 0, 0, 0], [0, 0, 0, 0], [0, 1, 0, 0], [1, 0, 2, 0], [0, 2, 0, 1], [0, 0, 1, 0], [0, 0, 0, 0], [0, 0, 0, 0], [0, 0, 0, 0], [0, 0, 0, 0], [0, 0, 0, 0], [0, 0, 0, 0], [], [4, 0, 12, 0, 0, 0, 3]]
theorem s7z_k : ZK s7z := zG_ok (P := [1, -3, -3, 1, 1, 1, 1, 1, 1, 1]) (by decide +kernel)
theorem z_cm {l l' : Zr} {es : List Nat} {cd : Nat → Int} {cf rf : Wd → Option (Int32 × Wd)} {v : Int} (h : OpM (zS l) es cd cf rf) (h5 : ∀ e ∈ es, e < 5) (hk : ZK l) (hk' : ZK l') (v0 : 0 ≤ v) (v1 : v < 1000) (hc : zC (cf (zW l)) v l' = true) : ∀ w, CSt w 1 (zS l) → ∃ r w', cf w = some (r, w') ∧ CO w w' r (zS l) (.inr (v, zS l')) := by
  obtain ⟨o, hO, -, hcf, -⟩ := h
  obtain ⟨r, w2, e2, s2, c2⟩ := hcf (zW l) hk.2
  rw [e2] at hc
  unfold zC at hc
  rw [Bool.and_eq_true] at hc
  have hr : r = jI v := of_decide_eq_true hc.1
  have cz := zE_c hc.2 hk'.2
  intro w hw
  obtain ⟨r3, w3, e3, s3, c3⟩ := hcf w hw
  rcases o with e5 | q
  · exfalso
    have c2 : r = jI (-(e5 : Int) - 1) ∧ _ := c2
    have e5' := h5 e5 hO
    have := (iff_of_eq (jI_eq (by omega) (by omega) (by omega) (by omega))).mp (hr.symm.trans c2.1)
    omega
  · have c2 : r = jI q.1 ∧ CSt w2 1 q.2 := c2
    have c3 : r3 = jI q.1 ∧ CSt w3 1 q.2 := c3
    have hO : 0 ≤ q.1 ∧ q.1 < 1000 ∧ Good q.2 := hO
    have e1 : v = q.1 := (iff_of_eq (jI_eq (by omega) (by omega) (by omega) (by omega))).mp (hr.symm.trans c2.1)
    exact ⟨r3, w3, e3, s3, by rw [e1]; exact c3.1, cst_tr hO.2.2 hk'.1 c2.2 cz c3.2⟩
set_option maxHeartbeats 4000000 in
theorem z_scr {w : Wd} (h : ZI s0z w) : ∃ w1 w5, f_L_put w 26 = some w1 ∧ f_X10_runScript w1 = some (.inr (7 : Int32), w5) ∧ ZI s7z w5 := by
  obtain ⟨T, hG, hC, hS, hz, -⟩ := h
  obtain ⟨w1, e1, d1⟩ := k_put t26 hG hC hz
  have ok := txK_c t26
  obtain ⟨u0, z0, c3, b3, go⟩ := k_begin ok p26 hG d1
  have z0 : RN 7 (hl l26) 0 (tS T) u0 := z0
  rw [hS] at z0
  obtain ⟨l1, l2, l3⟩ := z0.2.1 0 (by decide)
  rw [show cv (hl l26) (stt (hl l26) 0) = 0 by decide +kernel] at l1
  rw [show cA (hl l26) (stt (hl l26) 0) = 60 by decide +kernel] at l2
  obtain ⟨r0, u1, g0, i0⟩ := z_cm (l := s0z) (l' := s1z) (v := 0) (opm_gear (t := 60) s0z_k.1 (by decide) (by decide)) (by decide) s0z_k s1z_k (by decide) (by decide) (by decide +kernel) u0 z0.1
  obtain ⟨j0, z1, n0⟩ := rn_step (f := 1999) (by decide) (by decide) z0 ((co_gear (by decide) l1 l2 l3).trans g0) i0 (by decide) (by decide)
  obtain ⟨l1, l2, l3⟩ := z1.2.1 1 (by decide)
  rw [show cv (hl l26) (stt (hl l26) 1) = 0 by decide +kernel] at l1
  rw [show cA (hl l26) (stt (hl l26) 1) = 20 by decide +kernel] at l2
  obtain ⟨r1, u2, g1, i1⟩ := z_cm (l := s1z) (l' := s2z) (v := 1) (opm_gear (t := 20) s1z_k.1 (by decide) (by decide)) (by decide) s1z_k s2z_k (by decide) (by decide) (by decide +kernel) u1 z1.1
  obtain ⟨j1, z2, n1⟩ := rn_step (f := 1998) (by decide) (by decide) z1 ((co_gear (by decide) l1 l2 l3).trans g1) i1 (by decide) (by decide)
  obtain ⟨l1, l2, l3⟩ := z2.2.1 2 (by decide)
  rw [show cv (hl l26) (stt (hl l26) 2) = 0 by decide +kernel] at l1
  rw [show cA (hl l26) (stt (hl l26) 2) = 10 by decide +kernel] at l2
  obtain ⟨r2, u3, g2, i2⟩ := z_cm (l := s2z) (l' := s3z) (v := 2) (opm_gear (t := 10) s2z_k.1 (by decide) (by decide)) (by decide) s2z_k s3z_k (by decide) (by decide) (by decide +kernel) u2 z2.1
  obtain ⟨j2, z3, n2⟩ := rn_step (f := 1997) (by decide) (by decide) z2 ((co_gear (by decide) l1 l2 l3).trans g2) i2 (by decide) (by decide)
  obtain ⟨l1, l2, l3⟩ := z3.2.1 3 (by decide)
  rw [show cv (hl l26) (stt (hl l26) 3) = 0 by decide +kernel] at l1
  rw [show cA (hl l26) (stt (hl l26) 3) = 30 by decide +kernel] at l2
  obtain ⟨r3, u4, g3, i3⟩ := z_cm (l := s3z) (l' := s4z) (v := 3) (opm_gear (t := 30) s3z_k.1 (by decide) (by decide)) (by decide) s3z_k s4z_k (by decide) (by decide) (by decide +kernel) u3 z3.1
  obtain ⟨j3, z4, n3⟩ := rn_step (f := 1996) (by decide) (by decide) z3 ((co_gear (by decide) l1 l2 l3).trans g3) i3 (by decide) (by decide)
  obtain ⟨l1, l2, l3⟩ := z4.2.1 4 (by decide)
  rw [show cv (hl l26) (stt (hl l26) 4) = 1 by decide +kernel] at l1
  rw [show cA (hl l26) (stt (hl l26) 4) = 0 by decide +kernel] at l2
  rw [show cB (hl l26) (stt (hl l26) 4) = 1 by decide +kernel] at l3
  obtain ⟨r4, u5, g4, i4⟩ := z_cm (l := s4z) (l' := s5z) (v := 2) (opm_join (x := 0) (y := 1) (k := 1) s4z_k.1 (by decide) (by decide) (by decide) (by decide) (Or.inl rfl)) (by decide) s4z_k s5z_k (by decide) (by decide) (by decide +kernel) u4 z4.1
  obtain ⟨j4, z5, n4⟩ := rn_step (f := 1995) (by decide) (by decide) z4 ((co_mesh (by decide) l1 l2 l3).trans g4) i4 (by decide) (by decide)
  obtain ⟨l1, l2, l3⟩ := z5.2.1 5 (by decide)
  rw [show cv (hl l26) (stt (hl l26) 5) = 2 by decide +kernel] at l1
  rw [show cA (hl l26) (stt (hl l26) 5) = 1 by decide +kernel] at l2
  rw [show cB (hl l26) (stt (hl l26) 5) = 2 by decide +kernel] at l3
  obtain ⟨r5, u6, g5, i5⟩ := z_cm (l := s5z) (l' := s6z) (v := 3) (opm_join (x := 1) (y := 2) (k := 2) s5z_k.1 (by decide) (by decide) (by decide) (by decide) (Or.inr rfl)) (by decide) s5z_k s6z_k (by decide) (by decide) (by decide +kernel) u5 z5.1
  obtain ⟨j5, z6, n5⟩ := rn_step (f := 1994) (by decide) (by decide) z5 ((co_axle (by decide) l1 l2 l3).trans g5) i5 (by decide) (by decide)
  obtain ⟨l1, l2, l3⟩ := z6.2.1 6 (by decide)
  rw [show cv (hl l26) (stt (hl l26) 6) = 1 by decide +kernel] at l1
  rw [show cA (hl l26) (stt (hl l26) 6) = 2 by decide +kernel] at l2
  rw [show cB (hl l26) (stt (hl l26) 6) = 3 by decide +kernel] at l3
  obtain ⟨r6, u7, g6, i6⟩ := z_cm (l := s6z) (l' := s7z) (v := 4) (opm_join (x := 2) (y := 3) (k := 1) s6z_k.1 (by decide) (by decide) (by decide) (by decide) (Or.inl rfl)) (by decide) s6z_k s7z_k (by decide) (by decide) (by decide +kernel) u6 z6.1
  obtain ⟨j6, z7, n6⟩ := rn_step (f := 1993) (by decide) (by decide) z6 ((co_mesh (by decide) l1 l2 l3).trans g6) i6 (by decide) (by decide)
  have jz := rn_end (f := 1992) (by decide) z7
  obtain ⟨w5, e5, d5⟩ := k_fin (K := 6) hG (by decide) c3 b3 z0.2.2 go (j0.trans (j1.trans (j2.trans (j3.trans (j4.trans (j5.trans (j6.trans jz))))))) ((((((n0.tr n1).tr n2).tr n3).tr n4).tr n5).tr n6) z7.1
  exact ⟨w1, w5, e1, e5, _, ((hG.wtx ok).emp).psh s7z_k.1, d5, rfl, rfl, trivial⟩
def s8z : Zr := [[60, 20, 10, 30], [0, 0, 0, 0], [0, 0, 0, 0], [0, 0, 0, 0], [0, 0, 0, 0], [0, 0, 0, 0], [0, 0, 0, 0], [0, 0, 0, 0], [0, 1, 0, 2], [1, 0, 2, 0], [0, 2, 0, 1], [2, 0, 1, 0], [0, 0, 0, 0], [0, 0, 0, 0], [0, 0, 0, 0], [0, 0, 0, 0], [0, 0, 0, 0], [0, 0, 0, 0], [], [4, 0, 12, 0, 0, 0, 4]]
theorem s8z_k : ZK s8z := zG_ok (P := [1, -3, -3, 1, 1, 1, 1, 1, 1, 1]) (by decide +kernel)
set_option maxHeartbeats 4000000 in
theorem z_423 {w : Wd} (h : ZI s0z w) : ∃ z', (∀ (x y : Wd) (l3 l4 l6 : Int32), f_law_423 x y w l3 l4 l6 = some (x, y, z')) ∧ ZI s7z z' := by
  obtain ⟨w1, w2, e1, e2, h2⟩ := z_scr h
  obtain ⟨w3, e3, h3⟩ := z_q (l := s7z) (a := (.inr (-74649600000) : Nat ⊕ Int64)) (dt_units (x := 0) (y := 1) s7z_k.1 ⟨by decide, by decide +kernel⟩ ⟨by decide, by decide +kernel⟩) s7z_k (by decide +kernel) h2
  have e3 : f_X10_unitsPerTurn w2 (0 : Int32) (1 : Int32) = some ((.inr (-74649600000) : Nat ⊕ Int64), w3) := e3
  obtain ⟨w4, e4, h4⟩ := z_q (l := s7z) (a := (.inr (-74649600000) : Nat ⊕ Int64)) (dt_lowest (x := 0) (y := 1) s7z_k.1 ⟨by decide, by decide +kernel⟩ ⟨by decide, by decide +kernel⟩) s7z_k (by decide +kernel) h3
  have e4 : f_X10_unitsPerTurnByLowest w3 (0 : Int32) (1 : Int32) = some ((.inr (-74649600000) : Nat ⊕ Int64), w4) := e4
  obtain ⟨w5, e5, h5⟩ := z_q (l := s7z) (a := (.inr (24883200000) : Nat ⊕ Int64)) (dt_units (x := 0) (y := 3) s7z_k.1 ⟨by decide, by decide +kernel⟩ ⟨by decide, by decide +kernel⟩) s7z_k (by decide +kernel) h4
  have e5 : f_X10_unitsPerTurn w4 (0 : Int32) (3 : Int32) = some ((.inr (24883200000) : Nat ⊕ Int64), w5) := e5
  obtain ⟨w6, e6, h6⟩ := z_q (l := s7z) (a := (.inr (-8294400000) : Nat ⊕ Int64)) (dt_lowest (x := 1) (y := 0) s7z_k.1 ⟨by decide, by decide +kernel⟩ ⟨by decide, by decide +kernel⟩) s7z_k (by decide +kernel) h5
  have e6 : f_X10_unitsPerTurnByLowest w5 (1 : Int32) (0 : Int32) = some ((.inr (-8294400000) : Nat ⊕ Int64), w6) := e6
  obtain ⟨w7, e7, h7⟩ := z_q (l := s7z) (a := (.inr (-8294400000) : Nat ⊕ Int64)) (dt_units (x := 2) (y := 3) s7z_k.1 ⟨by decide, by decide +kernel⟩ ⟨by decide, by decide +kernel⟩) s7z_k (by decide +kernel) h6
  have e7 : f_X10_unitsPerTurn w6 (2 : Int32) (3 : Int32) = some ((.inr (-8294400000) : Nat ⊕ Int64), w7) := e7
  obtain ⟨w8, e8, h8⟩ := z_q (l := s7z) (a := (.inr 4 : Nat ⊕ Int32)) (dt_trainSize (x := 3) s7z_k.1 ⟨by decide, by decide +kernel⟩) s7z_k (by decide +kernel) h7
  have e8 : f_X10_trainSize w7 (3 : Int32) = some ((.inr 4 : Nat ⊕ Int32), w8) := e8
  obtain ⟨w9, e9, h9⟩ := z_q (l := s7z) (a := (.inr 8 : Nat ⊕ Int32)) (dt_friction (x := 2) s7z_k.1 ⟨by decide, by decide +kernel⟩) s7z_k (by decide +kernel) h8
  have e9 : f_X10_friction w8 (2 : Int32) = some ((.inr 8 : Nat ⊕ Int32), w9) := e9
  obtain ⟨w10, e10, h10⟩ := z_er (l := s7z) (k := 3) (fun T hG => mu_mesh hG (0 : Int32) (3 : Int32)) s7z_k (by decide) (by decide +kernel) h9
  have e10 : f_X10_mesh w9 (0 : Int32) (3 : Int32) = some (.inl 3, w10) := e10
  have e10 : f_L_act w9 (1 : Int32) (0 : Int32) (3 : Int32) = some ((-4 : Int32), w10) := by rw [act_1, e10, bs_p, u2_p]; rfl
  obtain ⟨w11, e11, h11⟩ := z_mu (l := s7z) (l' := s8z) (v := 4) (fun T hG => mu_shareAxle hG (0 : Int32) (3 : Int32)) rs_i s7z_k s8z_k (by decide) (by decide) (by decide +kernel) h10
  have e11 : f_X10_shareAxle w10 (0 : Int32) (3 : Int32) = some (.inr (4 : Int32), w11) := e11
  obtain ⟨w12, e12, h12⟩ := z_er (l := s8z) (k := 2) (fun T hG => mu_shareAxle hG (3 : Int32) (0 : Int32)) s8z_k (by decide) (by decide +kernel) h11
  have e12 : f_X10_shareAxle w11 (3 : Int32) (0 : Int32) = some (.inl 2, w12) := e12
  have e12 : f_L_act w11 (2 : Int32) (3 : Int32) (0 : Int32) = some ((-3 : Int32), w12) := by rw [act_2, e12, bs_p, u2_p]; rfl
  obtain ⟨w13, e13, h13⟩ := z_mu (l := s8z) (l' := s7z) (v := 3) (fun T hG => mu_separate hG (3 : Int32) (0 : Int32)) rs_i s8z_k s7z_k (by decide) (by decide) (by decide +kernel) h12
  have e13 : f_X10_separate w12 (3 : Int32) (0 : Int32) = some (.inr (3 : Int32), w13) := e13
  obtain ⟨w14, e14, h14⟩ := z_er (l := s7z) (k := 4) (fun T hG => mu_separate hG (0 : Int32) (3 : Int32)) s7z_k (by decide) (by decide +kernel) h13
  have e14 : f_X10_separate w13 (0 : Int32) (3 : Int32) = some (.inl 4, w14) := e14
  have e14 : f_L_act w13 (3 : Int32) (0 : Int32) (3 : Int32) = some ((-5 : Int32), w14) := by rw [act_3, e14, bs_p, u2_p]; rfl
  refine ⟨w14, fun x y l3 l4 l6 => ?_, h14⟩
  unfold f_law_423
  rw [e1, bs_p, e2, bs_p, u2_p, zr_p, if_pos (by decide +kernel), e3, bs_p, u2_p, zr_p, if_pos (by decide +kernel), e4, bs_p, u2_p, zr_p, if_pos (by decide +kernel), e5, bs_p, u2_p, zr_p, if_pos (by decide +kernel), e6, bs_p, u2_p, zr_p, if_pos (by decide +kernel), e7, bs_p, u2_p, zr_p, if_pos (by decide +kernel), e8, bs_p, u2_p, zr_p, if_pos (by decide +kernel), e9, bs_p, u2_p, zr_p, if_pos (by decide +kernel), e10, bs_p, u2_p, if_pos (by decide +kernel), e11, bs_p, u2_p, zr_p, if_pos (by decide +kernel), e12, bs_p, u2_p, if_pos (by decide +kernel), e13, bs_p, u2_p, zr_p, if_pos (by decide +kernel), e14, bs_p, u2_p, if_pos (by decide +kernel)]
def s9z : Zr := [[60, 20, 10, 30], [0, 0, 0, 0], [100, 0, 0, 0], [0, 0, 0, 0], [0, 0, 0, 0], [0, 0, 0, 0], [0, 0, 0, 0], [0, 0, 0, 0], [0, 1, 0, 0], [1, 0, 2, 0], [0, 2, 0, 1], [0, 0, 1, 0], [0, 0, 0, 0], [0, 0, 0, 0], [0, 0, 0, 0], [0, 0, 0, 0], [0, 0, 0, 0], [0, 0, 0, 0], [], [4, 0, 12, 0, 0, 0, 3]]
theorem s9z_k : ZK s9z := zG_ok (P := [1, -3, -3, 1, 1, 1, 1, 1, 1, 1]) (by decide +kernel)
def s10z : Zr := [[60, 20, 10, 30], [0, 0, 0, 0], [100, 0, 0, 0], [90, 0, 0, 0], [0, 0, 0, 0], [0, 0, 0, 0], [0, 0, 0, 0], [0, 0, 0, 0], [0, 1, 0, 0], [1, 0, 2, 0], [0, 2, 0, 1], [0, 0, 1, 0], [0, 0, 0, 0], [0, 0, 0, 0], [0, 0, 0, 0], [0, 0, 0, 0], [0, 0, 0, 0], [0, 0, 0, 0], [], [4, 0, 12, 90, 0, 0, 3]]
theorem s10z_k : ZK s10z := zG_ok (P := [1, -3, -3, 1, 1, 1, 1, 1, 1, 1]) (by decide +kernel)
def s11z : Zr := [[60, 20, 10, 30], [0, 0, 0, 0], [100, 0, 0, 0], [90, 0, 0, 0], [0, 0, 0, 0], [0, 0, 0, 0], [0, 1, 0, 0], [0, 0, 0, 0], [0, 1, 0, 0], [1, 0, 2, 0], [0, 2, 0, 1], [0, 0, 1, 0], [0, 0, 0, 0], [0, 0, 0, 0], [0, 0, 0, 0], [0, 0, 0, 0], [0, 0, 0, 0], [0, 0, 0, 0], [], [4, 0, 11, 90, 0, 0, 3]]
theorem s11z_k : ZK s11z := zG_ok (P := [1, -3, -3, 1, 1, 1, 1, 1, 1, 1]) (by decide +kernel)
def s12z : Zr := [[60, 20, 10, 30], [0, 0, 0, 0], [100, 0, 0, 0], [90, 0, 0, 0], [0, 0, 0, 0], [0, 1, 0, 0], [0, 1, 0, 0], [0, 0, 0, 0], [0, 1, 0, 0], [1, 0, 2, 0], [0, 2, 0, 1], [0, 0, 1, 0], [0, 0, 0, 0], [0, 0, 0, 0], [0, 0, 0, 0], [0, 0, 0, 0], [0, 0, 0, 0], [0, 0, 0, 0], [], [4, 0, 11, 90, 0, 0, 3]]
theorem s12z_k : ZK s12z := zG_ok (P := [1, -3, -3, 1, 1, 1, 1, 1, 1, 1]) (by decide +kernel)
def s13z : Zr := [[60, 20, 10, 30], [0, 0, 0, 0], [100, 0, 0, 0], [90, 0, 0, 0], [1, 0, 0, 0], [0, 1, 0, 0], [0, 1, 0, 0], [0, 0, 0, 0], [0, 1, 0, 0], [1, 0, 2, 0], [0, 2, 0, 1], [0, 0, 1, 0], [0, 0, 0, 0], [0, 0, 0, 0], [0, 0, 0, 0], [0, 0, 0, 0], [0, 0, 0, 0], [0, 0, 0, 0], [], [4, 0, 11, 90, 0, 0, 3]]
theorem s13z_k : ZK s13z := zG_ok (P := [1, -3, -3, 1, 1, 1, 1, 1, 1, 1]) (by decide +kernel)
set_option maxHeartbeats 4000000 in
theorem z_594 {w : Wd} (h : ZI s7z w) : ∃ z', (∀ (x y : Wd) (l3 l4 l6 : Int32), f_law_594 x y w l3 l4 l6 = some (x, y, z')) ∧ ZI s13z z' := by
  obtain ⟨w1, e1, h1⟩ := z_mu (l := s7z) (l' := s9z) (v := 1) (fun T hG => mu_setSpring hG (0 : Int32) (100 : Int32)) rs_i s7z_k s9z_k (by decide) (by decide) (by decide +kernel) h
  have e1 : f_X10_setSpring w (0 : Int32) (100 : Int32) = some (.inr (1 : Int32), w1) := e1
  obtain ⟨w2, e2, h2⟩ := z_er (l := s9z) (k := 2) (fun T hG => mu_setSpring hG (3 : Int32) (50 : Int32)) s9z_k (by decide) (by decide +kernel) h1
  have e2 : f_X10_setSpring w1 (3 : Int32) (50 : Int32) = some (.inl 2, w2) := e2
  have e2 : f_L_act w1 (4 : Int32) (3 : Int32) (50 : Int32) = some ((-3 : Int32), w2) := by rw [act_4, e2, bs_p, u2_p]; rfl
  obtain ⟨w3, e3, h3⟩ := z_mu (l := s9z) (l' := s10z) (v := 90) (fun T hG => mu_wind hG (0 : Int32) (90 : Int32)) rs_i s9z_k s10z_k (by decide) (by decide) (by decide +kernel) h2
  have e3 : f_X10_wind w2 (0 : Int32) (90 : Int32) = some (.inr (90 : Int32), w3) := e3
  obtain ⟨w4, e4, h4⟩ := z_er (l := s10z) (k := 2) (fun T hG => mu_wind hG (0 : Int32) (11 : Int32)) s10z_k (by decide) (by decide +kernel) h3
  have e4 : f_X10_wind w3 (0 : Int32) (11 : Int32) = some (.inl 2, w4) := e4
  have e4 : f_L_act w3 (5 : Int32) (0 : Int32) (11 : Int32) = some ((-3 : Int32), w4) := by rw [act_5, e4, bs_p, u2_p]; rfl
  obtain ⟨w5, e5, h5⟩ := z_q (l := s10z) (a := (.inr 11 : Nat ⊕ Int32)) (dt_turnsLeft (x := 0) s10z_k.1 ⟨by decide, by decide +kernel⟩ (by decide +kernel)) s10z_k (by decide +kernel) h4
  have e5 : f_X10_turnsLeft w4 (0 : Int32) = some ((.inr 11 : Nat ⊕ Int32), w5) := e5
  obtain ⟨w6, e6, h6⟩ := z_mu (l := s10z) (l' := s11z) (v := 11) (fun T hG => mu_oil hG (1 : Int32)) rs_i s10z_k s11z_k (by decide) (by decide) (by decide +kernel) h5
  have e6 : f_X10_oil w5 (1 : Int32) = some (.inr (11 : Int32), w6) := e6
  obtain ⟨w7, e7, h7⟩ := z_er (l := s11z) (k := 2) (fun T hG => mu_oil hG (1 : Int32)) s11z_k (by decide) (by decide +kernel) h6
  have e7 : f_X10_oil w6 (1 : Int32) = some (.inl 2, w7) := e7
  have e7 : f_L_act w6 (8 : Int32) (1 : Int32) (0 : Int32) = some ((-3 : Int32), w7) := by rw [act_8, e7, bs_p, u2_p]; rfl
  obtain ⟨w8, e8, h8⟩ := z_q (l := s11z) (a := (.inr 7 : Nat ⊕ Int32)) (dt_friction (x := 0) s11z_k.1 ⟨by decide, by decide +kernel⟩) s11z_k (by decide +kernel) h7
  have e8 : f_X10_friction w7 (0 : Int32) = some ((.inr 7 : Nat ⊕ Int32), w8) := e8
  obtain ⟨w9, e9, h9⟩ := z_q (l := s11z) (a := (.inr 12 : Nat ⊕ Int32)) (dt_turnsLeft (x := 0) s11z_k.1 ⟨by decide, by decide +kernel⟩ (by decide +kernel)) s11z_k (by decide +kernel) h8
  have e9 : f_X10_turnsLeft w8 (0 : Int32) = some ((.inr 12 : Nat ⊕ Int32), w9) := e9
  obtain ⟨w10, e10, h10⟩ := z_mu (l := s11z) (l' := s12z) (v := 0) (fun T hG => mu_ratchet hG (1 : Int32) (b := 1) (Or.inr rfl)) rb_i s11z_k s12z_k (by decide) (by decide) (by decide +kernel) h9
  have e10 : f_X10_setRatchet w9 (1 : Int32) (1 : Int32) = some (.inr (0 : Int32), w10) := e10
  obtain ⟨w11, e11, h11⟩ := z_q (l := s12z) (a := (.inr 0 : Nat ⊕ Int32)) (dt_canRelease (x := 0) s12z_k.1 ⟨by decide, by decide +kernel⟩) s12z_k (by decide +kernel) h10
  have e11 : f_X10_canRelease w10 (0 : Int32) = some ((.inr 0 : Nat ⊕ Int32), w11) := e11
  obtain ⟨w12, e12, h12⟩ := z_er (l := s12z) (k := 3) (fun T hG => mu_release hG (0 : Int32) (1 : Int32)) s12z_k (by decide) (by decide +kernel) h11
  have e12 : f_X10_release w11 (0 : Int32) (1 : Int32) = some (.inl 3, w12) := e12
  have e12 : f_L_act w11 (7 : Int32) (0 : Int32) (1 : Int32) = some ((-4 : Int32), w12) := by rw [act_7, e12, bs_p, u2_p]; rfl
  obtain ⟨w13, e13, h13⟩ := z_mu (l := s12z) (l' := s13z) (v := 1) (fun T hG => mu_reverse hG (0 : Int32)) rb_i s12z_k s13z_k (by decide) (by decide) (by decide +kernel) h12
  have e13 : f_X10_reverse w12 (0 : Int32) = some (.inr (1 : Int32), w13) := e13
  obtain ⟨w14, e14, h14⟩ := z_q (l := s13z) (a := (.inr 1 : Nat ⊕ Int32)) (dt_canRelease (x := 0) s13z_k.1 ⟨by decide, by decide +kernel⟩) s13z_k (by decide +kernel) h13
  have e14 : f_X10_canRelease w13 (0 : Int32) = some ((.inr 1 : Nat ⊕ Int32), w14) := e14
  obtain ⟨w15, e15, h15⟩ := z_q (l := s13z) (a := (.inr 0 : Nat ⊕ Int32)) (dt_springOf (x := 3) s13z_k.1 ⟨by decide, by decide +kernel⟩ s13z_k.2) s13z_k (by decide +kernel) h14
  have e15 : f_X10_springOf w14 (3 : Int32) = some ((.inr 0 : Nat ⊕ Int32), w15) := e15
  refine ⟨w15, fun x y l3 l4 l6 => ?_, h15⟩
  unfold f_law_594
  rw [e1, bs_p, u2_p, zr_p, if_pos (by decide +kernel), e2, bs_p, u2_p, if_pos (by decide +kernel), e3, bs_p, u2_p, zr_p, if_pos (by decide +kernel), e4, bs_p, u2_p, if_pos (by decide +kernel), e5, bs_p, u2_p, zr_p, if_pos (by decide +kernel), e6, bs_p, u2_p, zr_p, if_pos (by decide +kernel), e7, bs_p, u2_p, if_pos (by decide +kernel), e8, bs_p, u2_p, zr_p, if_pos (by decide +kernel), e9, bs_p, u2_p, zr_p, if_pos (by decide +kernel), e10, bs_p, u2_p, zr_p, if_pos (by decide +kernel), e11, bs_p, u2_p, zr_p, if_pos (by decide +kernel), e12, bs_p, u2_p, if_pos (by decide +kernel), e13, bs_p, u2_p, zr_p, if_neg (by decide +kernel), e14, bs_p, u2_p, zr_p, if_neg (by decide +kernel), e15, bs_p, u2_p, zr_p, if_pos (by decide +kernel)]
def s14z : Zr := [[60, 20, 10, 30], [0, 0, 0, 0], [100, 0, 0, 0], [83, 0, 0, 0], [1, 0, 0, 0], [0, 1, 0, 0], [0, 1, 0, 0], [0, 74649600000, 0, 0], [0, 1, 0, 0], [1, 0, 2, 0], [0, 2, 0, 1], [0, 0, 1, 0], [0, 0, 0, 0], [0, 0, 0, 0], [0, 0, 0, 0], [0, 0, 0, 0], [0, 0, 0, 0], [0, 0, 0, 0], [], [4, 0, 11, 90, 7, 1, 3]]
theorem s14z_k : ZK s14z := zG_ok (P := [1, -3, -3, 1, 1, 1, 1, 1, 1, 1]) (by decide +kernel)
def s15z : Zr := [[60, 20, 10, 30], [0, 0, 0, 0], [100, 0, 0, 0], [83, 0, 0, 0], [1, 0, 0, 0], [0, 1, 0, 0], [0, 1, 0, 0], [0, 74649600000, 0, 0], [0, 1, 0, 0], [1, 0, 2, 0], [0, 2, 0, 1], [0, 0, 1, 0], [0, 0, 0, 0], [0, 0, 0, 0], [0, 0, 0, 0], [0, 0, 0, 0], [0, 0, 0, 0], [0, 0, 0, 0], [0], [4, 1, 11, 90, 7, 1, 3]]
theorem s15z_k : ZK s15z := zG_ok (P := [1, -3, -3, 1, 1, 1, 1, 1, 1, 1]) (by decide +kernel)
def s16z : Zr := [[60, 20, 10, 30], [0, 0, 0, 0], [100, 0, 0, 0], [83, 0, 0, 0], [1, 0, 0, 0], [0, 1, 0, 0], [0, 1, 0, 0], [0, 74649600000, 0, 0], [0, 1, 0, 0], [1, 0, 2, 0], [0, 2, 0, 1], [0, 0, 1, 0], [0, 0, 0, 0], [0, 0, 0, 0], [0, 0, 0, 0], [0, 0, 0, 0], [0, 0, 0, 0], [0, 0, 0, 0], [0, 1], [4, 2, 11, 90, 7, 1, 3]]
theorem s16z_k : ZK s16z := zG_ok (P := [1, -3, -3, 1, 1, 1, 1, 1, 1, 1]) (by decide +kernel)
set_option maxHeartbeats 4000000 in
theorem z_767_1 {w : Wd} (h : ZI s13z w) : ∃ z', (∀ (x y : Wd) (l3 l4 : Int32), f_law_767 x y w l3 l4 (1 : Int32) = some (x, y, z')) ∧ ZI s16z z' := by
  obtain ⟨w1, e1, h1⟩ := z_mu (l := s13z) (l' := s14z) (v := 1) (fun T hG => mu_release hG (0 : Int32) (1 : Int32)) rs_i s13z_k s14z_k (by decide) (by decide) (by decide +kernel) h
  have e1 : f_X10_release w (0 : Int32) (1 : Int32) = some (.inr (1 : Int32), w1) := e1
  have e2 : f_X10_tension w1 (0 : Int32) = some (.inr 83 : Nat ⊕ Int32) := z_r (l := s14z) (f := (fun w => f_X10_tension w (0 : Int32))) ⟨_, fun w h => k_tension (x := 0) h s14z_k.1 ⟨by decide, by decide +kernel⟩ (by decide +kernel)⟩ s14z_k (by decide +kernel) h1
  have e3 : f_X10_wear w1 (1 : Int32) = some (.inr 3 : Nat ⊕ Int32) := z_r (l := s14z) (f := (fun w => f_X10_wear w (1 : Int32))) ⟨_, fun w h => k_wear (x := 1) h s14z_k.1 ⟨by decide, by decide +kernel⟩ (by decide +kernel)⟩ s14z_k (by decide +kernel) h1
  have e4 : f_X10_angle w1 (0 : Int32) = some (.inr 0 : Nat ⊕ Int64) := z_r (l := s14z) (f := (fun w => f_X10_angle w (0 : Int32))) ⟨_, fun w h => k_angle (x := 0) h s14z_k.1 ⟨by decide, by decide +kernel⟩⟩ s14z_k (by decide +kernel) h1
  obtain ⟨w5, e5, h5⟩ := z_mu (l := s14z) (l' := s15z) (v := 0) (fun T hG => mu_addPlanet hG (0 : Int32)) rs_i s14z_k s15z_k (by decide) (by decide) (by decide +kernel) h1
  have e5 : f_X10_addPlanet w1 (0 : Int32) = some (.inr (0 : Int32), w5) := e5
  obtain ⟨w6, e6, h6⟩ := z_mu (l := s15z) (l' := s16z) (v := 1) (fun T hG => mu_addPlanet hG (1 : Int32)) rs_i s15z_k s16z_k (by decide) (by decide) (by decide +kernel) h5
  have e6 : f_X10_addPlanet w5 (1 : Int32) = some (.inr (1 : Int32), w6) := e6
  obtain ⟨w7, e7, h7⟩ := z_er (l := s16z) (k := 2) (fun T hG => mu_addPlanet hG (1 : Int32)) s16z_k (by decide) (by decide +kernel) h6
  have e7 : f_X10_addPlanet w6 (1 : Int32) = some (.inl 2, w7) := e7
  have e7 : f_L_act w6 (10 : Int32) (1 : Int32) (0 : Int32) = some ((-3 : Int32), w7) := by rw [act_10, e7, bs_p, u2_p]; rfl
  have e8 : f_X10_areInLine w7 (0 : Int32) (1 : Int32) = some (.inr 1 : Nat ⊕ Int32) := z_r (l := s16z) (f := (fun w => f_X10_areInLine w (0 : Int32) (1 : Int32))) ⟨_, fun w h => al_c1 (x := 0) (y := 1) h s16z_k.1 ⟨by decide, by decide +kernel⟩ ⟨by decide, by decide +kernel⟩ (by decide) (by decide +kernel)⟩ s16z_k (by decide +kernel) h7
  obtain ⟨w9, e9, h9⟩ := z_q (l := s16z) (a := (.inr 3 : Nat ⊕ Int32)) (dt_ecl (a := 0) (b := 1) (z := 1) s16z_k.1 (by decide) (by decide) (by decide) (by decide) (by decide) (by decide) s16z_k.2) s16z_k (by decide +kernel) h7
  have e9 : f_X10_nextEclipse w7 (0 : Int32) (1 : Int32) (1 : Int32) = some ((.inr 3 : Nat ⊕ Int32), w9) := e9
  obtain ⟨w10, e10, h10⟩ := z_q (l := s16z) (a := (.inr 3 : Nat ⊕ Int32)) (dt_eclT (a := 1) (b := 0) (z := 2) s16z_k.1 (by decide) (by decide) (by decide) (by decide) (by decide) (by decide) s16z_k.2) s16z_k (by decide +kernel) h9
  have e10 : f_X10_nextEclipseByTurns w9 (1 : Int32) (0 : Int32) (2 : Int32) = some ((.inr 3 : Nat ⊕ Int32), w10) := e10
  obtain ⟨w11, e11, h11⟩ := z_q (l := s16z) (a := (.inr 1 : Nat ⊕ Int32)) (dt_ecl (a := 0) (b := 1) (z := 0) s16z_k.1 (by decide) (by decide) (by decide) (by decide) (by decide) (by decide) s16z_k.2) s16z_k (by decide +kernel) h10
  have e11 : f_X10_nextEclipse w10 (0 : Int32) (1 : Int32) (0 : Int32) = some ((.inr 1 : Nat ⊕ Int32), w11) := e11
  obtain ⟨w12, e12, h12⟩ := z_q (l := s16z) (a := (.inl 1 : Nat ⊕ Int32)) (dt_ecl (a := 0) (b := 0) (z := 0) s16z_k.1 (by decide) (by decide) (by decide) (by decide) (by decide) (by decide) s16z_k.2) s16z_k (by decide +kernel) h11
  have e12 : f_X10_nextEclipse w11 (0 : Int32) (0 : Int32) (0 : Int32) = some ((.inl 1 : Nat ⊕ Int32), w12) := e12
  have e12 : f_L_eclipse w11 (1 : Int32) (0 : Int32) (0 : Int32) (0 : Int32) = some ((-2 : Int32), w12) := by unfold f_L_eclipse; rw [if_neg (by decide +kernel), e12, bs_p, u2_p, zl_p]; rfl
  refine ⟨w12, fun x y l3 l4 => ?_, h12⟩
  unfold f_law_767
  rw [e1, bs_p, u2_p, zr_p, if_pos (by decide +kernel), e2, bs_p, zr_p, if_pos (by decide +kernel), e3, bs_p, zr_p, if_pos (by decide +kernel), e4, bs_p, zr_p, if_pos (by decide +kernel), e5, bs_p, u2_p, zr_p, if_pos (by decide +kernel), e6, bs_p, u2_p, zr_p, if_pos (by decide +kernel), e7, bs_p, u2_p, if_pos (by decide +kernel), e8, bs_p, zr_p, if_neg (by decide +kernel), e9, bs_p, u2_p, zr_p, if_pos (by decide +kernel), e10, bs_p, u2_p, zr_p, if_pos (by decide +kernel), e11, bs_p, u2_p, zr_p, if_pos (by decide +kernel), e12, bs_p, u2_p, if_pos (by decide +kernel)]
set_option maxHeartbeats 4000000 in
theorem z_916_1 {w : Wd} (h : ZI s16z w) : ∃ z', (∀ (x y : Wd) (l3 l4 : Int32), f_law_916 x y w l3 l4 (1 : Int32) = some (x, y, z')) ∧ ZI s16z z' := by
  have e1 : f_X10_fewestPairs w (3 : Int32) (1 : Int32) = some (.inr 1 : Nat ⊕ Int32) := z_r (l := s16z) (f := (fun w => f_X10_fewestPairs w (3 : Int32) (1 : Int32))) (dr_fewest (x := 3) (y := 1) s16z_k.1 ⟨by decide, by decide⟩ ⟨by decide, by decide⟩ s16z_k.2) s16z_k (by decide +kernel) h
  have e2 : f_X10_fewestPairs w (9 : Int32) (1 : Int32) = some (.inr 2 : Nat ⊕ Int32) := z_r (l := s16z) (f := (fun w => f_X10_fewestPairs w (9 : Int32) (1 : Int32))) (dr_fewest (x := 9) (y := 1) s16z_k.1 ⟨by decide, by decide⟩ ⟨by decide, by decide⟩ s16z_k.2) s16z_k (by decide +kernel) h
  obtain ⟨w3, e3, h3⟩ := z_q (l := s16z) (a := (.inr 2 : Nat ⊕ Int32)) (dt_byTable (x := 9) (y := 1) s16z_k.1 ⟨by decide, by decide⟩ ⟨by decide, by decide⟩ s16z_k.2) s16z_k (by decide +kernel) h
  have e3 : f_X10_fewestPairsByTable w (9 : Int32) (1 : Int32) = some ((.inr 2 : Nat ⊕ Int32), w3) := e3
  have e4 : f_X10_fewestPairs w3 (1 : Int32) (1 : Int32) = some (.inr 2 : Nat ⊕ Int32) := z_r (l := s16z) (f := (fun w => f_X10_fewestPairs w (1 : Int32) (1 : Int32))) (dr_fewest (x := 1) (y := 1) s16z_k.1 ⟨by decide, by decide⟩ ⟨by decide, by decide⟩ s16z_k.2) s16z_k (by decide +kernel) h3
  obtain ⟨w5, e5, h5⟩ := z_q (l := s16z) (a := (.inr 1 : Nat ⊕ Int32)) (dt_byTable (x := 1) (y := 6) s16z_k.1 ⟨by decide, by decide⟩ ⟨by decide, by decide⟩ s16z_k.2) s16z_k (by decide +kernel) h3
  have e5 : f_X10_fewestPairsByTable w3 (1 : Int32) (6 : Int32) = some ((.inr 1 : Nat ⊕ Int32), w5) := e5
  obtain ⟨w6, e6, h6⟩ := z_q (l := s16z) (a := (.inl 4 : Nat ⊕ Int32)) (dt_byTable (x := 7) (y := 1) s16z_k.1 ⟨by decide, by decide⟩ ⟨by decide, by decide⟩ s16z_k.2) s16z_k (by decide +kernel) h5
  have e6 : f_X10_fewestPairsByTable w5 (7 : Int32) (1 : Int32) = some ((.inl 4 : Nat ⊕ Int32), w6) := e6
  have e6 : f_L_act w5 (18 : Int32) (7 : Int32) (1 : Int32) = some ((-5 : Int32), w6) := by rw [act_18, e6, bs_p, u2_p]; rfl
  have e7 : f_X10_woundTotal w6  = some (90 : Int32) := z_r (l := s16z) (f := f_X10_woundTotal) ⟨_, fun w h => k_woundTotal h⟩ s16z_k (by decide +kernel) h6
  have e8 : f_X10_tensionByAccounts w6  = some (83 : Int32) := z_r (l := s16z) (f := f_X10_tensionByAccounts) ⟨_, fun w h => k_tensionByAccounts h⟩ s16z_k (by decide +kernel) h6
  have e9 : f_X10_releaseTotal w6  = some (1 : Int32) := z_r (l := s16z) (f := f_X10_releaseTotal) ⟨_, fun w h => k_releaseTotal h⟩ s16z_k (by decide +kernel) h6
  have e10 : f_X10_meanTeeth w6  = some (.inr 4629137466983448576 : Nat ⊕ UInt64) := z_rr (l := s16z) (f := f_X10_meanTeeth) (fun w h => eq_mean s16z_k.1 h s16z_k.2) (by decide +kernel) h6
  have e11 : f_X10_dryShare w6  = some (.inr 1061158912 : Nat ⊕ UInt32) := z_rr (l := s16z) (f := f_X10_dryShare) (fun w h => eq_dry s16z_k.1 h s16z_k.2) (by decide +kernel) h6
  refine ⟨w6, fun x y l3 l4 => ?_, h6⟩
  unfold f_law_916
  rw [e1, bs_p, zr_p, if_pos (by decide +kernel), e2, bs_p, zr_p, if_pos (by decide +kernel), e3, bs_p, u2_p, zr_p, if_pos (by decide +kernel), e4, bs_p, zr_p, if_pos (by decide +kernel), e5, bs_p, u2_p, zr_p, if_pos (by decide +kernel), e6, bs_p, u2_p, if_pos (by decide +kernel), e7, bs_p, if_pos (by decide +kernel), e8, bs_p, if_pos (by decide +kernel), e9, bs_p, if_pos (by decide +kernel), e10, bs_p, zr_p, if_pos (by decide +kernel), e11, bs_p, zr_p, if_pos (by decide +kernel)]
def s17z : Zr := [[60, 20, 10, 30], [0, 0, 0, 0], [100, 0, 0, 0], [6, 0, 0, 0], [1, 0, 0, 0], [0, 1, 0, 0], [0, 0, 0, 0], [0, 895795200000, 0, 0], [0, 1, 0, 0], [1, 0, 2, 0], [0, 2, 0, 1], [0, 0, 1, 0], [0, 0, 0, 0], [0, 0, 0, 0], [0, 0, 0, 0], [0, 0, 0, 0], [0, 0, 0, 0], [0, 0, 0, 0], [0, 1], [4, 2, 11, 90, 84, 2, 3]]
theorem s17z_k : ZK s17z := zG_ok (P := [1, -3, -3, 1, 1, 1, 1, 1, 1, 1]) (by decide +kernel)
def s18z : Zr := [[60, 20, 10, 30], [0, 0, 0, 0], [100, 0, 0, 0], [6, 0, 0, 0], [1, 0, 0, 0], [0, 1, 0, 0], [0, 0, 0, 0], [0, 895795200000, 0, 0], [0, 1, 0, 0], [1, 0, 0, 0], [0, 0, 0, 1], [0, 0, 1, 0], [0, 0, 0, 0], [0, 0, 0, 0], [0, 0, 0, 0], [0, 0, 0, 0], [0, 0, 0, 0], [0, 0, 0, 0], [0, 1], [4, 2, 11, 90, 84, 2, 2]]
theorem s18z_k : ZK s18z := zG_ok (P := [1, -3, -3, 1, 1, 1, 1, 1, 1, 1]) (by decide +kernel)
def s19z : Zr := [[60, 20, 10, 30], [0, 0, 0, 0], [100, 0, 10, 0], [6, 0, 0, 0], [1, 0, 0, 0], [0, 1, 0, 0], [0, 0, 0, 0], [0, 895795200000, 0, 0], [0, 1, 0, 0], [1, 0, 0, 0], [0, 0, 0, 1], [0, 0, 1, 0], [0, 0, 0, 0], [0, 0, 0, 0], [0, 0, 0, 0], [0, 0, 0, 0], [0, 0, 0, 0], [0, 0, 0, 0], [0, 1], [4, 2, 11, 90, 84, 2, 2]]
theorem s19z_k : ZK s19z := zG_ok (P := [1, -3, -3, 1, 1, 1, 1, 1, 1, 1]) (by decide +kernel)
def s20z : Zr := [[60, 20, 10, 30], [0, 0, 0, 0], [100, 0, 10, 0], [6, 0, 4, 0], [1, 0, 0, 0], [0, 1, 0, 0], [0, 0, 0, 0], [0, 895795200000, 0, 0], [0, 1, 0, 0], [1, 0, 0, 0], [0, 0, 0, 1], [0, 0, 1, 0], [0, 0, 0, 0], [0, 0, 0, 0], [0, 0, 0, 0], [0, 0, 0, 0], [0, 0, 0, 0], [0, 0, 0, 0], [0, 1], [4, 2, 11, 94, 84, 2, 2]]
theorem s20z_k : ZK s20z := zG_ok (P := [1, -3, -3, 1, 1, 1, 1, 1, 1, 1]) (by decide +kernel)
def s21z : Zr := [[60, 20, 10, 30], [0, 0, 0, 16588800000], [100, 0, 10, 0], [6, 0, 0, 0], [1, 0, 0, 0], [0, 1, 0, 0], [0, 0, 0, 0], [0, 895795200000, 0, 0], [0, 1, 0, 0], [1, 0, 0, 0], [0, 0, 0, 1], [0, 0, 1, 0], [0, 0, 0, 0], [0, 0, 0, 0], [0, 0, 0, 0], [0, 0, 0, 0], [0, 0, 0, 0], [0, 0, 0, 0], [0, 1], [4, 2, 11, 94, 88, 3, 2]]
theorem s21z_k : ZK s21z := zG_ok (P := [1, -3, -3, 1, 1, 1, 1, 1, 1, 1]) (by decide +kernel)
set_option maxHeartbeats 4000000 in
theorem z_1131_1 {w : Wd} (h : ZI s16z w) : ∃ z', (∀ (x y : Wd) (l3 l4 : Int32), f_law_1131 x y w l3 l4 (1 : Int32) = some (x, y, z')) ∧ ZI s20z z' := by
  obtain ⟨w1, e1, h1⟩ := z_mu (l := s16z) (l' := s17z) (v := 11) (fun T hG => mu_release hG (0 : Int32) (20 : Int32)) rs_i s16z_k s17z_k (by decide) (by decide) (by decide +kernel) h
  have e1 : f_X10_release w (0 : Int32) (20 : Int32) = some (.inr (11 : Int32), w1) := e1
  have e2 : f_X10_isDry w1 (1 : Int32) = some (.inr 1 : Nat ⊕ Int32) := z_r (l := s17z) (f := (fun w => f_X10_isDry w (1 : Int32))) ⟨_, fun w h => k_isDry0 (x := 1) h s17z_k.1 ⟨by decide, by decide +kernel⟩ (by decide +kernel)⟩ s17z_k (by decide +kernel) h1
  have e3 : f_X10_tension w1 (0 : Int32) = some (.inr 6 : Nat ⊕ Int32) := z_r (l := s17z) (f := (fun w => f_X10_tension w (0 : Int32))) ⟨_, fun w h => k_tension (x := 0) h s17z_k.1 ⟨by decide, by decide +kernel⟩ (by decide +kernel)⟩ s17z_k (by decide +kernel) h1
  have e4 : f_X10_releaseTotal w1  = some (2 : Int32) := z_r (l := s17z) (f := f_X10_releaseTotal) ⟨_, fun w h => k_releaseTotal h⟩ s17z_k (by decide +kernel) h1
  obtain ⟨w5, e5, h5⟩ := z_q (l := s17z) (a := (.inr 8 : Nat ⊕ Int32)) (dt_friction (x := 3) s17z_k.1 ⟨by decide, by decide +kernel⟩) s17z_k (by decide +kernel) h1
  have e5 : f_X10_friction w1 (3 : Int32) = some ((.inr 8 : Nat ⊕ Int32), w5) := e5
  obtain ⟨w6, e6, h6⟩ := z_mu (l := s17z) (l' := s17z) (v := 0) (fun T hG => mu_release hG (0 : Int32) (1 : Int32)) rs_i s17z_k s17z_k (by decide) (by decide) (by decide +kernel) h5
  have e6 : f_X10_release w5 (0 : Int32) (1 : Int32) = some (.inr (0 : Int32), w6) := e6
  have e7 : f_X10_releaseTotal w6  = some (2 : Int32) := z_r (l := s17z) (f := f_X10_releaseTotal) ⟨_, fun w h => k_releaseTotal h⟩ s17z_k (by decide +kernel) h6
  obtain ⟨w8, e8, h8⟩ := z_mu (l := s17z) (l' := s18z) (v := 2) (fun T hG => mu_separate hG (2 : Int32) (1 : Int32)) rs_i s17z_k s18z_k (by decide) (by decide) (by decide +kernel) h6
  have e8 : f_X10_separate w6 (2 : Int32) (1 : Int32) = some (.inr (2 : Int32), w8) := e8
  obtain ⟨w9, e9, h9⟩ := z_q (l := s18z) (a := (.inr 2 : Nat ⊕ Int32)) (dt_trainSize (x := 3) s18z_k.1 ⟨by decide, by decide +kernel⟩) s18z_k (by decide +kernel) h8
  have e9 : f_X10_trainSize w8 (3 : Int32) = some ((.inr 2 : Nat ⊕ Int32), w9) := e9
  obtain ⟨w10, e10, h10⟩ := z_q (l := s18z) (a := (.inr 0 : Nat ⊕ Int32)) (dt_areInTrain (x := 0) (y := 3) s18z_k.1 ⟨by decide, by decide +kernel⟩ ⟨by decide, by decide +kernel⟩) s18z_k (by decide +kernel) h9
  have e10 : f_X10_areInTrain w9 (0 : Int32) (3 : Int32) = some ((.inr 0 : Nat ⊕ Int32), w10) := e10
  obtain ⟨w11, e11, h11⟩ := z_q (l := s18z) (a := (.inl 4 : Nat ⊕ Int32)) (dt_springOf (x := 3) s18z_k.1 ⟨by decide, by decide +kernel⟩ s18z_k.2) s18z_k (by decide +kernel) h10
  have e11 : f_X10_springOf w10 (3 : Int32) = some ((.inl 4 : Nat ⊕ Int32), w11) := e11
  have e11 : f_L_act w10 (16 : Int32) (3 : Int32) (0 : Int32) = some ((-5 : Int32), w11) := by rw [act_16, e11, bs_p, u2_p]; rfl
  obtain ⟨w12, e12, h12⟩ := z_mu (l := s18z) (l' := s19z) (v := 2) (fun T hG => mu_setSpring hG (2 : Int32) (10 : Int32)) rs_i s18z_k s19z_k (by decide) (by decide) (by decide +kernel) h11
  have e12 : f_X10_setSpring w11 (2 : Int32) (10 : Int32) = some (.inr (2 : Int32), w12) := e12
  obtain ⟨w13, e13, h13⟩ := z_mu (l := s19z) (l' := s20z) (v := 4) (fun T hG => mu_wind hG (2 : Int32) (4 : Int32)) rs_i s19z_k s20z_k (by decide) (by decide) (by decide +kernel) h12
  have e13 : f_X10_wind w12 (2 : Int32) (4 : Int32) = some (.inr (4 : Int32), w13) := e13
  obtain ⟨w14, e14, h14⟩ := z_q (l := s20z) (a := (.inr 1 : Nat ⊕ Int32)) (dt_turnsLeft (x := 2) s20z_k.1 ⟨by decide, by decide +kernel⟩ (by decide +kernel)) s20z_k (by decide +kernel) h13
  have e14 : f_X10_turnsLeft w13 (2 : Int32) = some ((.inr 1 : Nat ⊕ Int32), w14) := e14
  obtain ⟨w15, e15, h15⟩ := z_mu1 (l := s20z) (l' := s21z) (v := 1) (fun T hG => mu_release hG (2 : Int32) (1 : Int32)) rs_i s20z_k s21z_k (by decide) (by decide) (by decide +kernel) h14
  have e15 : f_X10_release w14 (2 : Int32) (1 : Int32) = some (.inr (1 : Int32), w15) := e15
  have e16 : f_X10_angle w15 (3 : Int32) = some (.inr 16588800000 : Nat ⊕ Int64) := z_r (l := s21z) (f := (fun w => f_X10_angle w (3 : Int32))) ⟨_, fun w h => k_angle (x := 3) h s21z_k.1 ⟨by decide, by decide +kernel⟩⟩ s21z_k (by decide +kernel) h15
  have e17 : f_X10_angle w15 (2 : Int32) = some (.inr 0 : Nat ⊕ Int64) := z_r (l := s21z) (f := (fun w => f_X10_angle w (2 : Int32))) ⟨_, fun w h => k_angle (x := 2) h s21z_k.1 ⟨by decide, by decide +kernel⟩⟩ s21z_k (by decide +kernel) h15
  obtain ⟨w18, e18, h18⟩ := z_er (l := s21z) (k := 2) (fun T hG => mu_mesh hG (0 : Int32) (3 : Int32)) s21z_k (by decide) (by decide +kernel) h15
  have e18 : f_X10_mesh w15 (0 : Int32) (3 : Int32) = some (.inl 2, w18) := e18
  have e18 : f_L_act w15 (1 : Int32) (0 : Int32) (3 : Int32) = some ((-3 : Int32), w18) := by rw [act_1, e18, bs_p, u2_p]; rfl
  obtain ⟨w19, e19, h19⟩ := z_q (l := s21z) (a := (.inl 2 : Nat ⊕ Int32)) (dt_eclT (a := 0) (b := 1) (z := 2) s21z_k.1 (by decide) (by decide) (by decide) (by decide) (by decide) (by decide) s21z_k.2) s21z_k (by decide +kernel) h18
  have e19 : f_X10_nextEclipseByTurns w18 (0 : Int32) (1 : Int32) (2 : Int32) = some ((.inl 2 : Nat ⊕ Int32), w19) := e19
  have e19 : f_L_eclipse w18 (0 : Int32) (0 : Int32) (1 : Int32) (2 : Int32) = some ((-3 : Int32), w19) := by unfold f_L_eclipse; rw [if_pos rfl, e19, bs_p, u2_p, zl_p]; rfl
  have e20 : f_X10_tensionTotal w19  = some (6 : Int32) := z_r (l := s21z) (f := f_X10_tensionTotal) ⟨_, fun w h => k_tensionTotal h s21z_k.1⟩ s21z_k (by decide +kernel) h19
  obtain ⟨w21, ru, e21, pu, h21⟩ := z_undo h19
  have e22 : f_X10_angle w21 (3 : Int32) = some (.inr 0 : Nat ⊕ Int64) := z_r (l := s20z) (f := (fun w => f_X10_angle w (3 : Int32))) ⟨_, fun w h => k_angle (x := 3) h s20z_k.1 ⟨by decide, by decide +kernel⟩⟩ s20z_k (by decide +kernel) h21
  obtain ⟨w23, e23, h23⟩ := z_q (l := s20z) (a := (1 : Int32)) (dt_consistent s20z_k.1) s20z_k (by decide +kernel) h21
  have e23 : f_X10_isConsistent w21 = some ((1 : Int32), w23) := e23
  refine ⟨w23, fun x y l3 l4 => ?_, h23⟩
  unfold f_law_1131
  rw [e1, bs_p, u2_p, zr_p, if_pos (by decide +kernel), e2, bs_p, zr_p, if_neg (by decide +kernel), e3, bs_p, zr_p, if_pos (by decide +kernel), e4, bs_p, if_pos (by decide +kernel), e5, bs_p, u2_p, zr_p, if_pos (by decide +kernel), e6, bs_p, u2_p, zr_p, if_pos (by decide +kernel), e7, bs_p, if_pos (by decide +kernel), e8, bs_p, u2_p, zr_p, if_pos (by decide +kernel), e9, bs_p, u2_p, zr_p, if_pos (by decide +kernel), e10, bs_p, u2_p, zr_p, if_pos (by decide +kernel), e11, bs_p, u2_p, if_pos (by decide +kernel), e12, bs_p, u2_p, zr_p, if_pos (by decide +kernel), e13, bs_p, u2_p, zr_p, if_pos (by decide +kernel), e14, bs_p, u2_p, zr_p, if_pos (by decide +kernel), e15, bs_p, u2_p, zr_p, if_pos (by decide +kernel), e16, bs_p, zr_p, if_pos (by decide +kernel), e17, bs_p, zr_p, if_pos (by decide +kernel), e18, bs_p, u2_p, if_pos (by decide +kernel), e19, bs_p, u2_p, if_pos (by decide +kernel), e20, bs_p, if_pos (by decide +kernel), e21, bs_p, u2_p, zr_p, if_neg pu, e22, bs_p, zr_p, if_pos (by decide +kernel), e23, bs_p, u2_p, if_neg (by decide +kernel)]
def s22z : Zr := [[60, 20, 10, 30], [0, 0, 0, 0], [100, 0, 0, 0], [76, 0, 0, 0], [1, 0, 0, 0], [0, 1, 0, 0], [0, 1, 0, 0], [0, 149299200000, 0, 0], [0, 1, 0, 0], [1, 0, 2, 0], [0, 2, 0, 1], [0, 0, 1, 0], [0, 0, 0, 0], [0, 0, 0, 0], [0, 0, 0, 0], [0, 0, 0, 0], [0, 0, 0, 0], [0, 0, 0, 0], [], [4, 0, 11, 90, 14, 1, 3]]
theorem s22z_k : ZK s22z := zG_ok (P := [1, -3, -3, 1, 1, 1, 1, 1, 1, 1]) (by decide +kernel)
def s23z : Zr := [[60, 20, 10, 30], [0, 0, 0, 0], [100, 0, 0, 0], [76, 0, 0, 0], [1, 0, 0, 0], [0, 1, 0, 0], [0, 1, 0, 0], [0, 149299200000, 0, 0], [0, 1, 0, 0], [1, 0, 2, 0], [0, 2, 0, 1], [0, 0, 1, 0], [0, 0, 0, 0], [0, 0, 0, 0], [0, 0, 0, 0], [0, 0, 0, 0], [0, 0, 0, 0], [0, 0, 0, 0], [0], [4, 1, 11, 90, 14, 1, 3]]
theorem s23z_k : ZK s23z := zG_ok (P := [1, -3, -3, 1, 1, 1, 1, 1, 1, 1]) (by decide +kernel)
def s24z : Zr := [[60, 20, 10, 30], [0, 0, 0, 0], [100, 0, 0, 0], [76, 0, 0, 0], [1, 0, 0, 0], [0, 1, 0, 0], [0, 1, 0, 0], [0, 149299200000, 0, 0], [0, 1, 0, 0], [1, 0, 2, 0], [0, 2, 0, 1], [0, 0, 1, 0], [0, 0, 0, 0], [0, 0, 0, 0], [0, 0, 0, 0], [0, 0, 0, 0], [0, 0, 0, 0], [0, 0, 0, 0], [0, 1], [4, 2, 11, 90, 14, 1, 3]]
theorem s24z_k : ZK s24z := zG_ok (P := [1, -3, -3, 1, 1, 1, 1, 1, 1, 1]) (by decide +kernel)
set_option maxHeartbeats 4000000 in
theorem z_767_2 {w : Wd} (h : ZI s13z w) : ∃ z', (∀ (x y : Wd) (l3 l4 : Int32), f_law_767 x y w l3 l4 (2 : Int32) = some (x, y, z')) ∧ ZI s24z z' := by
  obtain ⟨w1, e1, h1⟩ := z_mu (l := s13z) (l' := s22z) (v := 2) (fun T hG => mu_release hG (0 : Int32) (2 : Int32)) rs_i s13z_k s22z_k (by decide) (by decide) (by decide +kernel) h
  have e1 : f_X10_release w (0 : Int32) (2 : Int32) = some (.inr (2 : Int32), w1) := e1
  have e2 : f_X10_tension w1 (0 : Int32) = some (.inr 76 : Nat ⊕ Int32) := z_r (l := s22z) (f := (fun w => f_X10_tension w (0 : Int32))) ⟨_, fun w h => k_tension (x := 0) h s22z_k.1 ⟨by decide, by decide +kernel⟩ (by decide +kernel)⟩ s22z_k (by decide +kernel) h1
  have e3 : f_X10_wear w1 (1 : Int32) = some (.inr 6 : Nat ⊕ Int32) := z_r (l := s22z) (f := (fun w => f_X10_wear w (1 : Int32))) ⟨_, fun w h => k_wear (x := 1) h s22z_k.1 ⟨by decide, by decide +kernel⟩ (by decide +kernel)⟩ s22z_k (by decide +kernel) h1
  have e4 : f_X10_angle w1 (0 : Int32) = some (.inr 0 : Nat ⊕ Int64) := z_r (l := s22z) (f := (fun w => f_X10_angle w (0 : Int32))) ⟨_, fun w h => k_angle (x := 0) h s22z_k.1 ⟨by decide, by decide +kernel⟩⟩ s22z_k (by decide +kernel) h1
  obtain ⟨w5, e5, h5⟩ := z_mu (l := s22z) (l' := s23z) (v := 0) (fun T hG => mu_addPlanet hG (0 : Int32)) rs_i s22z_k s23z_k (by decide) (by decide) (by decide +kernel) h1
  have e5 : f_X10_addPlanet w1 (0 : Int32) = some (.inr (0 : Int32), w5) := e5
  obtain ⟨w6, e6, h6⟩ := z_mu (l := s23z) (l' := s24z) (v := 1) (fun T hG => mu_addPlanet hG (1 : Int32)) rs_i s23z_k s24z_k (by decide) (by decide) (by decide +kernel) h5
  have e6 : f_X10_addPlanet w5 (1 : Int32) = some (.inr (1 : Int32), w6) := e6
  obtain ⟨w7, e7, h7⟩ := z_er (l := s24z) (k := 2) (fun T hG => mu_addPlanet hG (1 : Int32)) s24z_k (by decide) (by decide +kernel) h6
  have e7 : f_X10_addPlanet w6 (1 : Int32) = some (.inl 2, w7) := e7
  have e7 : f_L_act w6 (10 : Int32) (1 : Int32) (0 : Int32) = some ((-3 : Int32), w7) := by rw [act_10, e7, bs_p, u2_p]; rfl
  have e8 : f_X10_areInLine w7 (0 : Int32) (1 : Int32) = some (.inr 1 : Nat ⊕ Int32) := z_r (l := s24z) (f := (fun w => f_X10_areInLine w (0 : Int32) (1 : Int32))) ⟨_, fun w h => al_c1 (x := 0) (y := 1) h s24z_k.1 ⟨by decide, by decide +kernel⟩ ⟨by decide, by decide +kernel⟩ (by decide) (by decide +kernel)⟩ s24z_k (by decide +kernel) h7
  obtain ⟨w9, e9, h9⟩ := z_q (l := s24z) (a := (.inr 3 : Nat ⊕ Int32)) (dt_ecl (a := 0) (b := 1) (z := 1) s24z_k.1 (by decide) (by decide) (by decide) (by decide) (by decide) (by decide) s24z_k.2) s24z_k (by decide +kernel) h7
  have e9 : f_X10_nextEclipse w7 (0 : Int32) (1 : Int32) (1 : Int32) = some ((.inr 3 : Nat ⊕ Int32), w9) := e9
  obtain ⟨w10, e10, h10⟩ := z_q (l := s24z) (a := (.inr 3 : Nat ⊕ Int32)) (dt_eclT (a := 1) (b := 0) (z := 2) s24z_k.1 (by decide) (by decide) (by decide) (by decide) (by decide) (by decide) s24z_k.2) s24z_k (by decide +kernel) h9
  have e10 : f_X10_nextEclipseByTurns w9 (1 : Int32) (0 : Int32) (2 : Int32) = some ((.inr 3 : Nat ⊕ Int32), w10) := e10
  obtain ⟨w11, e11, h11⟩ := z_q (l := s24z) (a := (.inr 1 : Nat ⊕ Int32)) (dt_ecl (a := 0) (b := 1) (z := 0) s24z_k.1 (by decide) (by decide) (by decide) (by decide) (by decide) (by decide) s24z_k.2) s24z_k (by decide +kernel) h10
  have e11 : f_X10_nextEclipse w10 (0 : Int32) (1 : Int32) (0 : Int32) = some ((.inr 1 : Nat ⊕ Int32), w11) := e11
  obtain ⟨w12, e12, h12⟩ := z_q (l := s24z) (a := (.inl 1 : Nat ⊕ Int32)) (dt_ecl (a := 0) (b := 0) (z := 0) s24z_k.1 (by decide) (by decide) (by decide) (by decide) (by decide) (by decide) s24z_k.2) s24z_k (by decide +kernel) h11
  have e12 : f_X10_nextEclipse w11 (0 : Int32) (0 : Int32) (0 : Int32) = some ((.inl 1 : Nat ⊕ Int32), w12) := e12
  have e12 : f_L_eclipse w11 (1 : Int32) (0 : Int32) (0 : Int32) (0 : Int32) = some ((-2 : Int32), w12) := by unfold f_L_eclipse; rw [if_neg (by decide +kernel), e12, bs_p, u2_p, zl_p]; rfl
  refine ⟨w12, fun x y l3 l4 => ?_, h12⟩
  unfold f_law_767
  rw [e1, bs_p, u2_p, zr_p, if_pos (by decide +kernel), e2, bs_p, zr_p, if_pos (by decide +kernel), e3, bs_p, zr_p, if_pos (by decide +kernel), e4, bs_p, zr_p, if_pos (by decide +kernel), e5, bs_p, u2_p, zr_p, if_pos (by decide +kernel), e6, bs_p, u2_p, zr_p, if_pos (by decide +kernel), e7, bs_p, u2_p, if_pos (by decide +kernel), e8, bs_p, zr_p, if_neg (by decide +kernel), e9, bs_p, u2_p, zr_p, if_pos (by decide +kernel), e10, bs_p, u2_p, zr_p, if_pos (by decide +kernel), e11, bs_p, u2_p, zr_p, if_pos (by decide +kernel), e12, bs_p, u2_p, if_pos (by decide +kernel)]
set_option maxHeartbeats 4000000 in
theorem z_916_2 {w : Wd} (h : ZI s24z w) : ∃ z', (∀ (x y : Wd) (l3 l4 : Int32), f_law_916 x y w l3 l4 (2 : Int32) = some (x, y, z')) ∧ ZI s24z z' := by
  have e1 : f_X10_fewestPairs w (3 : Int32) (1 : Int32) = some (.inr 1 : Nat ⊕ Int32) := z_r (l := s24z) (f := (fun w => f_X10_fewestPairs w (3 : Int32) (1 : Int32))) (dr_fewest (x := 3) (y := 1) s24z_k.1 ⟨by decide, by decide⟩ ⟨by decide, by decide⟩ s24z_k.2) s24z_k (by decide +kernel) h
  have e2 : f_X10_fewestPairs w (9 : Int32) (1 : Int32) = some (.inr 2 : Nat ⊕ Int32) := z_r (l := s24z) (f := (fun w => f_X10_fewestPairs w (9 : Int32) (1 : Int32))) (dr_fewest (x := 9) (y := 1) s24z_k.1 ⟨by decide, by decide⟩ ⟨by decide, by decide⟩ s24z_k.2) s24z_k (by decide +kernel) h
  obtain ⟨w3, e3, h3⟩ := z_q (l := s24z) (a := (.inr 2 : Nat ⊕ Int32)) (dt_byTable (x := 9) (y := 1) s24z_k.1 ⟨by decide, by decide⟩ ⟨by decide, by decide⟩ s24z_k.2) s24z_k (by decide +kernel) h
  have e3 : f_X10_fewestPairsByTable w (9 : Int32) (1 : Int32) = some ((.inr 2 : Nat ⊕ Int32), w3) := e3
  have e4 : f_X10_fewestPairs w3 (1 : Int32) (1 : Int32) = some (.inr 2 : Nat ⊕ Int32) := z_r (l := s24z) (f := (fun w => f_X10_fewestPairs w (1 : Int32) (1 : Int32))) (dr_fewest (x := 1) (y := 1) s24z_k.1 ⟨by decide, by decide⟩ ⟨by decide, by decide⟩ s24z_k.2) s24z_k (by decide +kernel) h3
  obtain ⟨w5, e5, h5⟩ := z_q (l := s24z) (a := (.inr 1 : Nat ⊕ Int32)) (dt_byTable (x := 1) (y := 6) s24z_k.1 ⟨by decide, by decide⟩ ⟨by decide, by decide⟩ s24z_k.2) s24z_k (by decide +kernel) h3
  have e5 : f_X10_fewestPairsByTable w3 (1 : Int32) (6 : Int32) = some ((.inr 1 : Nat ⊕ Int32), w5) := e5
  obtain ⟨w6, e6, h6⟩ := z_q (l := s24z) (a := (.inl 4 : Nat ⊕ Int32)) (dt_byTable (x := 7) (y := 1) s24z_k.1 ⟨by decide, by decide⟩ ⟨by decide, by decide⟩ s24z_k.2) s24z_k (by decide +kernel) h5
  have e6 : f_X10_fewestPairsByTable w5 (7 : Int32) (1 : Int32) = some ((.inl 4 : Nat ⊕ Int32), w6) := e6
  have e6 : f_L_act w5 (18 : Int32) (7 : Int32) (1 : Int32) = some ((-5 : Int32), w6) := by rw [act_18, e6, bs_p, u2_p]; rfl
  have e7 : f_X10_woundTotal w6  = some (90 : Int32) := z_r (l := s24z) (f := f_X10_woundTotal) ⟨_, fun w h => k_woundTotal h⟩ s24z_k (by decide +kernel) h6
  have e8 : f_X10_tensionByAccounts w6  = some (76 : Int32) := z_r (l := s24z) (f := f_X10_tensionByAccounts) ⟨_, fun w h => k_tensionByAccounts h⟩ s24z_k (by decide +kernel) h6
  have e9 : f_X10_releaseTotal w6  = some (1 : Int32) := z_r (l := s24z) (f := f_X10_releaseTotal) ⟨_, fun w h => k_releaseTotal h⟩ s24z_k (by decide +kernel) h6
  have e10 : f_X10_meanTeeth w6  = some (.inr 4629137466983448576 : Nat ⊕ UInt64) := z_rr (l := s24z) (f := f_X10_meanTeeth) (fun w h => eq_mean s24z_k.1 h s24z_k.2) (by decide +kernel) h6
  have e11 : f_X10_dryShare w6  = some (.inr 1061158912 : Nat ⊕ UInt32) := z_rr (l := s24z) (f := f_X10_dryShare) (fun w h => eq_dry s24z_k.1 h s24z_k.2) (by decide +kernel) h6
  refine ⟨w6, fun x y l3 l4 => ?_, h6⟩
  unfold f_law_916
  rw [e1, bs_p, zr_p, if_pos (by decide +kernel), e2, bs_p, zr_p, if_pos (by decide +kernel), e3, bs_p, u2_p, zr_p, if_pos (by decide +kernel), e4, bs_p, zr_p, if_pos (by decide +kernel), e5, bs_p, u2_p, zr_p, if_pos (by decide +kernel), e6, bs_p, u2_p, if_pos (by decide +kernel), e7, bs_p, if_pos (by decide +kernel), e8, bs_p, if_pos (by decide +kernel), e9, bs_p, if_pos (by decide +kernel), e10, bs_p, zr_p, if_pos (by decide +kernel), e11, bs_p, zr_p, if_pos (by decide +kernel)]
set_option maxHeartbeats 4000000 in
theorem z_1131_2 {w : Wd} (h : ZI s24z w) : ∃ z', (∀ (x y : Wd) (l3 l4 : Int32), f_law_1131 x y w l3 l4 (2 : Int32) = some (x, y, z')) ∧ ZI s20z z' := by
  obtain ⟨w1, e1, h1⟩ := z_mu (l := s24z) (l' := s17z) (v := 10) (fun T hG => mu_release hG (0 : Int32) (20 : Int32)) rs_i s24z_k s17z_k (by decide) (by decide) (by decide +kernel) h
  have e1 : f_X10_release w (0 : Int32) (20 : Int32) = some (.inr (10 : Int32), w1) := e1
  have e2 : f_X10_isDry w1 (1 : Int32) = some (.inr 1 : Nat ⊕ Int32) := z_r (l := s17z) (f := (fun w => f_X10_isDry w (1 : Int32))) ⟨_, fun w h => k_isDry0 (x := 1) h s17z_k.1 ⟨by decide, by decide +kernel⟩ (by decide +kernel)⟩ s17z_k (by decide +kernel) h1
  have e3 : f_X10_tension w1 (0 : Int32) = some (.inr 6 : Nat ⊕ Int32) := z_r (l := s17z) (f := (fun w => f_X10_tension w (0 : Int32))) ⟨_, fun w h => k_tension (x := 0) h s17z_k.1 ⟨by decide, by decide +kernel⟩ (by decide +kernel)⟩ s17z_k (by decide +kernel) h1
  have e4 : f_X10_releaseTotal w1  = some (2 : Int32) := z_r (l := s17z) (f := f_X10_releaseTotal) ⟨_, fun w h => k_releaseTotal h⟩ s17z_k (by decide +kernel) h1
  obtain ⟨w5, e5, h5⟩ := z_q (l := s17z) (a := (.inr 8 : Nat ⊕ Int32)) (dt_friction (x := 3) s17z_k.1 ⟨by decide, by decide +kernel⟩) s17z_k (by decide +kernel) h1
  have e5 : f_X10_friction w1 (3 : Int32) = some ((.inr 8 : Nat ⊕ Int32), w5) := e5
  obtain ⟨w6, e6, h6⟩ := z_mu (l := s17z) (l' := s17z) (v := 0) (fun T hG => mu_release hG (0 : Int32) (1 : Int32)) rs_i s17z_k s17z_k (by decide) (by decide) (by decide +kernel) h5
  have e6 : f_X10_release w5 (0 : Int32) (1 : Int32) = some (.inr (0 : Int32), w6) := e6
  have e7 : f_X10_releaseTotal w6  = some (2 : Int32) := z_r (l := s17z) (f := f_X10_releaseTotal) ⟨_, fun w h => k_releaseTotal h⟩ s17z_k (by decide +kernel) h6
  obtain ⟨w8, e8, h8⟩ := z_mu (l := s17z) (l' := s18z) (v := 2) (fun T hG => mu_separate hG (2 : Int32) (1 : Int32)) rs_i s17z_k s18z_k (by decide) (by decide) (by decide +kernel) h6
  have e8 : f_X10_separate w6 (2 : Int32) (1 : Int32) = some (.inr (2 : Int32), w8) := e8
  obtain ⟨w9, e9, h9⟩ := z_q (l := s18z) (a := (.inr 2 : Nat ⊕ Int32)) (dt_trainSize (x := 3) s18z_k.1 ⟨by decide, by decide +kernel⟩) s18z_k (by decide +kernel) h8
  have e9 : f_X10_trainSize w8 (3 : Int32) = some ((.inr 2 : Nat ⊕ Int32), w9) := e9
  obtain ⟨w10, e10, h10⟩ := z_q (l := s18z) (a := (.inr 0 : Nat ⊕ Int32)) (dt_areInTrain (x := 0) (y := 3) s18z_k.1 ⟨by decide, by decide +kernel⟩ ⟨by decide, by decide +kernel⟩) s18z_k (by decide +kernel) h9
  have e10 : f_X10_areInTrain w9 (0 : Int32) (3 : Int32) = some ((.inr 0 : Nat ⊕ Int32), w10) := e10
  obtain ⟨w11, e11, h11⟩ := z_q (l := s18z) (a := (.inl 4 : Nat ⊕ Int32)) (dt_springOf (x := 3) s18z_k.1 ⟨by decide, by decide +kernel⟩ s18z_k.2) s18z_k (by decide +kernel) h10
  have e11 : f_X10_springOf w10 (3 : Int32) = some ((.inl 4 : Nat ⊕ Int32), w11) := e11
  have e11 : f_L_act w10 (16 : Int32) (3 : Int32) (0 : Int32) = some ((-5 : Int32), w11) := by rw [act_16, e11, bs_p, u2_p]; rfl
  obtain ⟨w12, e12, h12⟩ := z_mu (l := s18z) (l' := s19z) (v := 2) (fun T hG => mu_setSpring hG (2 : Int32) (10 : Int32)) rs_i s18z_k s19z_k (by decide) (by decide) (by decide +kernel) h11
  have e12 : f_X10_setSpring w11 (2 : Int32) (10 : Int32) = some (.inr (2 : Int32), w12) := e12
  obtain ⟨w13, e13, h13⟩ := z_mu (l := s19z) (l' := s20z) (v := 4) (fun T hG => mu_wind hG (2 : Int32) (4 : Int32)) rs_i s19z_k s20z_k (by decide) (by decide) (by decide +kernel) h12
  have e13 : f_X10_wind w12 (2 : Int32) (4 : Int32) = some (.inr (4 : Int32), w13) := e13
  obtain ⟨w14, e14, h14⟩ := z_q (l := s20z) (a := (.inr 1 : Nat ⊕ Int32)) (dt_turnsLeft (x := 2) s20z_k.1 ⟨by decide, by decide +kernel⟩ (by decide +kernel)) s20z_k (by decide +kernel) h13
  have e14 : f_X10_turnsLeft w13 (2 : Int32) = some ((.inr 1 : Nat ⊕ Int32), w14) := e14
  obtain ⟨w15, e15, h15⟩ := z_mu1 (l := s20z) (l' := s21z) (v := 1) (fun T hG => mu_release hG (2 : Int32) (1 : Int32)) rs_i s20z_k s21z_k (by decide) (by decide) (by decide +kernel) h14
  have e15 : f_X10_release w14 (2 : Int32) (1 : Int32) = some (.inr (1 : Int32), w15) := e15
  have e16 : f_X10_angle w15 (3 : Int32) = some (.inr 16588800000 : Nat ⊕ Int64) := z_r (l := s21z) (f := (fun w => f_X10_angle w (3 : Int32))) ⟨_, fun w h => k_angle (x := 3) h s21z_k.1 ⟨by decide, by decide +kernel⟩⟩ s21z_k (by decide +kernel) h15
  have e17 : f_X10_angle w15 (2 : Int32) = some (.inr 0 : Nat ⊕ Int64) := z_r (l := s21z) (f := (fun w => f_X10_angle w (2 : Int32))) ⟨_, fun w h => k_angle (x := 2) h s21z_k.1 ⟨by decide, by decide +kernel⟩⟩ s21z_k (by decide +kernel) h15
  obtain ⟨w18, e18, h18⟩ := z_er (l := s21z) (k := 2) (fun T hG => mu_mesh hG (0 : Int32) (3 : Int32)) s21z_k (by decide) (by decide +kernel) h15
  have e18 : f_X10_mesh w15 (0 : Int32) (3 : Int32) = some (.inl 2, w18) := e18
  have e18 : f_L_act w15 (1 : Int32) (0 : Int32) (3 : Int32) = some ((-3 : Int32), w18) := by rw [act_1, e18, bs_p, u2_p]; rfl
  obtain ⟨w19, e19, h19⟩ := z_q (l := s21z) (a := (.inl 2 : Nat ⊕ Int32)) (dt_eclT (a := 0) (b := 1) (z := 2) s21z_k.1 (by decide) (by decide) (by decide) (by decide) (by decide) (by decide) s21z_k.2) s21z_k (by decide +kernel) h18
  have e19 : f_X10_nextEclipseByTurns w18 (0 : Int32) (1 : Int32) (2 : Int32) = some ((.inl 2 : Nat ⊕ Int32), w19) := e19
  have e19 : f_L_eclipse w18 (0 : Int32) (0 : Int32) (1 : Int32) (2 : Int32) = some ((-3 : Int32), w19) := by unfold f_L_eclipse; rw [if_pos rfl, e19, bs_p, u2_p, zl_p]; rfl
  have e20 : f_X10_tensionTotal w19  = some (6 : Int32) := z_r (l := s21z) (f := f_X10_tensionTotal) ⟨_, fun w h => k_tensionTotal h s21z_k.1⟩ s21z_k (by decide +kernel) h19
  obtain ⟨w21, ru, e21, pu, h21⟩ := z_undo h19
  have e22 : f_X10_angle w21 (3 : Int32) = some (.inr 0 : Nat ⊕ Int64) := z_r (l := s20z) (f := (fun w => f_X10_angle w (3 : Int32))) ⟨_, fun w h => k_angle (x := 3) h s20z_k.1 ⟨by decide, by decide +kernel⟩⟩ s20z_k (by decide +kernel) h21
  obtain ⟨w23, e23, h23⟩ := z_q (l := s20z) (a := (1 : Int32)) (dt_consistent s20z_k.1) s20z_k (by decide +kernel) h21
  have e23 : f_X10_isConsistent w21 = some ((1 : Int32), w23) := e23
  refine ⟨w23, fun x y l3 l4 => ?_, h23⟩
  unfold f_law_1131
  rw [e1, bs_p, u2_p, zr_p, if_pos (by decide +kernel), e2, bs_p, zr_p, if_neg (by decide +kernel), e3, bs_p, zr_p, if_pos (by decide +kernel), e4, bs_p, if_pos (by decide +kernel), e5, bs_p, u2_p, zr_p, if_pos (by decide +kernel), e6, bs_p, u2_p, zr_p, if_pos (by decide +kernel), e7, bs_p, if_pos (by decide +kernel), e8, bs_p, u2_p, zr_p, if_pos (by decide +kernel), e9, bs_p, u2_p, zr_p, if_pos (by decide +kernel), e10, bs_p, u2_p, zr_p, if_pos (by decide +kernel), e11, bs_p, u2_p, if_pos (by decide +kernel), e12, bs_p, u2_p, zr_p, if_pos (by decide +kernel), e13, bs_p, u2_p, zr_p, if_pos (by decide +kernel), e14, bs_p, u2_p, zr_p, if_pos (by decide +kernel), e15, bs_p, u2_p, zr_p, if_pos (by decide +kernel), e16, bs_p, zr_p, if_pos (by decide +kernel), e17, bs_p, zr_p, if_pos (by decide +kernel), e18, bs_p, u2_p, if_pos (by decide +kernel), e19, bs_p, u2_p, if_pos (by decide +kernel), e20, bs_p, if_pos (by decide +kernel), e21, bs_p, u2_p, zr_p, if_neg pu, e22, bs_p, zr_p, if_pos (by decide +kernel), e23, bs_p, u2_p, if_neg (by decide +kernel)]
def s25z : Zr := [[60, 20, 10, 30], [0, 0, 0, 0], [100, 0, 0, 0], [69, 0, 0, 0], [1, 0, 0, 0], [0, 1, 0, 0], [0, 1, 0, 0], [0, 223948800000, 0, 0], [0, 1, 0, 0], [1, 0, 2, 0], [0, 2, 0, 1], [0, 0, 1, 0], [0, 0, 0, 0], [0, 0, 0, 0], [0, 0, 0, 0], [0, 0, 0, 0], [0, 0, 0, 0], [0, 0, 0, 0], [], [4, 0, 11, 90, 21, 1, 3]]
theorem s25z_k : ZK s25z := zG_ok (P := [1, -3, -3, 1, 1, 1, 1, 1, 1, 1]) (by decide +kernel)
def s26z : Zr := [[60, 20, 10, 30], [0, 0, 0, 0], [100, 0, 0, 0], [69, 0, 0, 0], [1, 0, 0, 0], [0, 1, 0, 0], [0, 1, 0, 0], [0, 223948800000, 0, 0], [0, 1, 0, 0], [1, 0, 2, 0], [0, 2, 0, 1], [0, 0, 1, 0], [0, 0, 0, 0], [0, 0, 0, 0], [0, 0, 0, 0], [0, 0, 0, 0], [0, 0, 0, 0], [0, 0, 0, 0], [0], [4, 1, 11, 90, 21, 1, 3]]
theorem s26z_k : ZK s26z := zG_ok (P := [1, -3, -3, 1, 1, 1, 1, 1, 1, 1]) (by decide +kernel)
def s27z : Zr := [[60, 20, 10, 30], [0, 0, 0, 0], [100, 0, 0, 0], [69, 0, 0, 0], [1, 0, 0, 0], [0, 1, 0, 0], [0, 1, 0, 0], [0, 223948800000, 0, 0], [0, 1, 0, 0], [1, 0, 2, 0], [0, 2, 0, 1], [0, 0, 1, 0], [0, 0, 0, 0], [0, 0, 0, 0], [0, 0, 0, 0], [0, 0, 0, 0], [0, 0, 0, 0], [0, 0, 0, 0], [0, 1], [4, 2, 11, 90, 21, 1, 3]]
theorem s27z_k : ZK s27z := zG_ok (P := [1, -3, -3, 1, 1, 1, 1, 1, 1, 1]) (by decide +kernel)
set_option maxHeartbeats 4000000 in
theorem z_767_3 {w : Wd} (h : ZI s13z w) : ∃ z', (∀ (x y : Wd) (l3 l4 : Int32), f_law_767 x y w l3 l4 (3 : Int32) = some (x, y, z')) ∧ ZI s27z z' := by
  obtain ⟨w1, e1, h1⟩ := z_mu (l := s13z) (l' := s25z) (v := 3) (fun T hG => mu_release hG (0 : Int32) (3 : Int32)) rs_i s13z_k s25z_k (by decide) (by decide) (by decide +kernel) h
  have e1 : f_X10_release w (0 : Int32) (3 : Int32) = some (.inr (3 : Int32), w1) := e1
  have e2 : f_X10_tension w1 (0 : Int32) = some (.inr 69 : Nat ⊕ Int32) := z_r (l := s25z) (f := (fun w => f_X10_tension w (0 : Int32))) ⟨_, fun w h => k_tension (x := 0) h s25z_k.1 ⟨by decide, by decide +kernel⟩ (by decide +kernel)⟩ s25z_k (by decide +kernel) h1
  have e3 : f_X10_wear w1 (1 : Int32) = some (.inr 9 : Nat ⊕ Int32) := z_r (l := s25z) (f := (fun w => f_X10_wear w (1 : Int32))) ⟨_, fun w h => k_wear (x := 1) h s25z_k.1 ⟨by decide, by decide +kernel⟩ (by decide +kernel)⟩ s25z_k (by decide +kernel) h1
  have e4 : f_X10_angle w1 (0 : Int32) = some (.inr 0 : Nat ⊕ Int64) := z_r (l := s25z) (f := (fun w => f_X10_angle w (0 : Int32))) ⟨_, fun w h => k_angle (x := 0) h s25z_k.1 ⟨by decide, by decide +kernel⟩⟩ s25z_k (by decide +kernel) h1
  obtain ⟨w5, e5, h5⟩ := z_mu (l := s25z) (l' := s26z) (v := 0) (fun T hG => mu_addPlanet hG (0 : Int32)) rs_i s25z_k s26z_k (by decide) (by decide) (by decide +kernel) h1
  have e5 : f_X10_addPlanet w1 (0 : Int32) = some (.inr (0 : Int32), w5) := e5
  obtain ⟨w6, e6, h6⟩ := z_mu (l := s26z) (l' := s27z) (v := 1) (fun T hG => mu_addPlanet hG (1 : Int32)) rs_i s26z_k s27z_k (by decide) (by decide) (by decide +kernel) h5
  have e6 : f_X10_addPlanet w5 (1 : Int32) = some (.inr (1 : Int32), w6) := e6
  obtain ⟨w7, e7, h7⟩ := z_er (l := s27z) (k := 2) (fun T hG => mu_addPlanet hG (1 : Int32)) s27z_k (by decide) (by decide +kernel) h6
  have e7 : f_X10_addPlanet w6 (1 : Int32) = some (.inl 2, w7) := e7
  have e7 : f_L_act w6 (10 : Int32) (1 : Int32) (0 : Int32) = some ((-3 : Int32), w7) := by rw [act_10, e7, bs_p, u2_p]; rfl
  have e8 : f_X10_areInLine w7 (0 : Int32) (1 : Int32) = some (.inr 1 : Nat ⊕ Int32) := z_r (l := s27z) (f := (fun w => f_X10_areInLine w (0 : Int32) (1 : Int32))) ⟨_, fun w h => al_c1 (x := 0) (y := 1) h s27z_k.1 ⟨by decide, by decide +kernel⟩ ⟨by decide, by decide +kernel⟩ (by decide) (by decide +kernel)⟩ s27z_k (by decide +kernel) h7
  obtain ⟨w9, e9, h9⟩ := z_q (l := s27z) (a := (.inr 3 : Nat ⊕ Int32)) (dt_ecl (a := 0) (b := 1) (z := 1) s27z_k.1 (by decide) (by decide) (by decide) (by decide) (by decide) (by decide) s27z_k.2) s27z_k (by decide +kernel) h7
  have e9 : f_X10_nextEclipse w7 (0 : Int32) (1 : Int32) (1 : Int32) = some ((.inr 3 : Nat ⊕ Int32), w9) := e9
  obtain ⟨w10, e10, h10⟩ := z_q (l := s27z) (a := (.inr 3 : Nat ⊕ Int32)) (dt_eclT (a := 1) (b := 0) (z := 2) s27z_k.1 (by decide) (by decide) (by decide) (by decide) (by decide) (by decide) s27z_k.2) s27z_k (by decide +kernel) h9
  have e10 : f_X10_nextEclipseByTurns w9 (1 : Int32) (0 : Int32) (2 : Int32) = some ((.inr 3 : Nat ⊕ Int32), w10) := e10
  obtain ⟨w11, e11, h11⟩ := z_q (l := s27z) (a := (.inr 1 : Nat ⊕ Int32)) (dt_ecl (a := 0) (b := 1) (z := 0) s27z_k.1 (by decide) (by decide) (by decide) (by decide) (by decide) (by decide) s27z_k.2) s27z_k (by decide +kernel) h10
  have e11 : f_X10_nextEclipse w10 (0 : Int32) (1 : Int32) (0 : Int32) = some ((.inr 1 : Nat ⊕ Int32), w11) := e11
  obtain ⟨w12, e12, h12⟩ := z_q (l := s27z) (a := (.inl 1 : Nat ⊕ Int32)) (dt_ecl (a := 0) (b := 0) (z := 0) s27z_k.1 (by decide) (by decide) (by decide) (by decide) (by decide) (by decide) s27z_k.2) s27z_k (by decide +kernel) h11
  have e12 : f_X10_nextEclipse w11 (0 : Int32) (0 : Int32) (0 : Int32) = some ((.inl 1 : Nat ⊕ Int32), w12) := e12
  have e12 : f_L_eclipse w11 (1 : Int32) (0 : Int32) (0 : Int32) (0 : Int32) = some ((-2 : Int32), w12) := by unfold f_L_eclipse; rw [if_neg (by decide +kernel), e12, bs_p, u2_p, zl_p]; rfl
  refine ⟨w12, fun x y l3 l4 => ?_, h12⟩
  unfold f_law_767
  rw [e1, bs_p, u2_p, zr_p, if_pos (by decide +kernel), e2, bs_p, zr_p, if_pos (by decide +kernel), e3, bs_p, zr_p, if_pos (by decide +kernel), e4, bs_p, zr_p, if_pos (by decide +kernel), e5, bs_p, u2_p, zr_p, if_pos (by decide +kernel), e6, bs_p, u2_p, zr_p, if_pos (by decide +kernel), e7, bs_p, u2_p, if_pos (by decide +kernel), e8, bs_p, zr_p, if_neg (by decide +kernel), e9, bs_p, u2_p, zr_p, if_pos (by decide +kernel), e10, bs_p, u2_p, zr_p, if_pos (by decide +kernel), e11, bs_p, u2_p, zr_p, if_pos (by decide +kernel), e12, bs_p, u2_p, if_pos (by decide +kernel)]
set_option maxHeartbeats 4000000 in
theorem z_916_3 {w : Wd} (h : ZI s27z w) : ∃ z', (∀ (x y : Wd) (l3 l4 : Int32), f_law_916 x y w l3 l4 (3 : Int32) = some (x, y, z')) ∧ ZI s27z z' := by
  have e1 : f_X10_fewestPairs w (3 : Int32) (1 : Int32) = some (.inr 1 : Nat ⊕ Int32) := z_r (l := s27z) (f := (fun w => f_X10_fewestPairs w (3 : Int32) (1 : Int32))) (dr_fewest (x := 3) (y := 1) s27z_k.1 ⟨by decide, by decide⟩ ⟨by decide, by decide⟩ s27z_k.2) s27z_k (by decide +kernel) h
  have e2 : f_X10_fewestPairs w (9 : Int32) (1 : Int32) = some (.inr 2 : Nat ⊕ Int32) := z_r (l := s27z) (f := (fun w => f_X10_fewestPairs w (9 : Int32) (1 : Int32))) (dr_fewest (x := 9) (y := 1) s27z_k.1 ⟨by decide, by decide⟩ ⟨by decide, by decide⟩ s27z_k.2) s27z_k (by decide +kernel) h
  obtain ⟨w3, e3, h3⟩ := z_q (l := s27z) (a := (.inr 2 : Nat ⊕ Int32)) (dt_byTable (x := 9) (y := 1) s27z_k.1 ⟨by decide, by decide⟩ ⟨by decide, by decide⟩ s27z_k.2) s27z_k (by decide +kernel) h
  have e3 : f_X10_fewestPairsByTable w (9 : Int32) (1 : Int32) = some ((.inr 2 : Nat ⊕ Int32), w3) := e3
  have e4 : f_X10_fewestPairs w3 (1 : Int32) (1 : Int32) = some (.inr 2 : Nat ⊕ Int32) := z_r (l := s27z) (f := (fun w => f_X10_fewestPairs w (1 : Int32) (1 : Int32))) (dr_fewest (x := 1) (y := 1) s27z_k.1 ⟨by decide, by decide⟩ ⟨by decide, by decide⟩ s27z_k.2) s27z_k (by decide +kernel) h3
  obtain ⟨w5, e5, h5⟩ := z_q (l := s27z) (a := (.inr 1 : Nat ⊕ Int32)) (dt_byTable (x := 1) (y := 6) s27z_k.1 ⟨by decide, by decide⟩ ⟨by decide, by decide⟩ s27z_k.2) s27z_k (by decide +kernel) h3
  have e5 : f_X10_fewestPairsByTable w3 (1 : Int32) (6 : Int32) = some ((.inr 1 : Nat ⊕ Int32), w5) := e5
  obtain ⟨w6, e6, h6⟩ := z_q (l := s27z) (a := (.inl 4 : Nat ⊕ Int32)) (dt_byTable (x := 7) (y := 1) s27z_k.1 ⟨by decide, by decide⟩ ⟨by decide, by decide⟩ s27z_k.2) s27z_k (by decide +kernel) h5
  have e6 : f_X10_fewestPairsByTable w5 (7 : Int32) (1 : Int32) = some ((.inl 4 : Nat ⊕ Int32), w6) := e6
  have e6 : f_L_act w5 (18 : Int32) (7 : Int32) (1 : Int32) = some ((-5 : Int32), w6) := by rw [act_18, e6, bs_p, u2_p]; rfl
  have e7 : f_X10_woundTotal w6  = some (90 : Int32) := z_r (l := s27z) (f := f_X10_woundTotal) ⟨_, fun w h => k_woundTotal h⟩ s27z_k (by decide +kernel) h6
  have e8 : f_X10_tensionByAccounts w6  = some (69 : Int32) := z_r (l := s27z) (f := f_X10_tensionByAccounts) ⟨_, fun w h => k_tensionByAccounts h⟩ s27z_k (by decide +kernel) h6
  have e9 : f_X10_releaseTotal w6  = some (1 : Int32) := z_r (l := s27z) (f := f_X10_releaseTotal) ⟨_, fun w h => k_releaseTotal h⟩ s27z_k (by decide +kernel) h6
  have e10 : f_X10_meanTeeth w6  = some (.inr 4629137466983448576 : Nat ⊕ UInt64) := z_rr (l := s27z) (f := f_X10_meanTeeth) (fun w h => eq_mean s27z_k.1 h s27z_k.2) (by decide +kernel) h6
  have e11 : f_X10_dryShare w6  = some (.inr 1061158912 : Nat ⊕ UInt32) := z_rr (l := s27z) (f := f_X10_dryShare) (fun w h => eq_dry s27z_k.1 h s27z_k.2) (by decide +kernel) h6
  refine ⟨w6, fun x y l3 l4 => ?_, h6⟩
  unfold f_law_916
  rw [e1, bs_p, zr_p, if_pos (by decide +kernel), e2, bs_p, zr_p, if_pos (by decide +kernel), e3, bs_p, u2_p, zr_p, if_pos (by decide +kernel), e4, bs_p, zr_p, if_pos (by decide +kernel), e5, bs_p, u2_p, zr_p, if_pos (by decide +kernel), e6, bs_p, u2_p, if_pos (by decide +kernel), e7, bs_p, if_pos (by decide +kernel), e8, bs_p, if_pos (by decide +kernel), e9, bs_p, if_pos (by decide +kernel), e10, bs_p, zr_p, if_pos (by decide +kernel), e11, bs_p, zr_p, if_pos (by decide +kernel)]
set_option maxHeartbeats 4000000 in
theorem z_1131_3 {w : Wd} (h : ZI s27z w) : ∃ z', (∀ (x y : Wd) (l3 l4 : Int32), f_law_1131 x y w l3 l4 (3 : Int32) = some (x, y, z')) ∧ ZI s20z z' := by
  obtain ⟨w1, e1, h1⟩ := z_mu (l := s27z) (l' := s17z) (v := 9) (fun T hG => mu_release hG (0 : Int32) (20 : Int32)) rs_i s27z_k s17z_k (by decide) (by decide) (by decide +kernel) h
  have e1 : f_X10_release w (0 : Int32) (20 : Int32) = some (.inr (9 : Int32), w1) := e1
  have e2 : f_X10_isDry w1 (1 : Int32) = some (.inr 1 : Nat ⊕ Int32) := z_r (l := s17z) (f := (fun w => f_X10_isDry w (1 : Int32))) ⟨_, fun w h => k_isDry0 (x := 1) h s17z_k.1 ⟨by decide, by decide +kernel⟩ (by decide +kernel)⟩ s17z_k (by decide +kernel) h1
  have e3 : f_X10_tension w1 (0 : Int32) = some (.inr 6 : Nat ⊕ Int32) := z_r (l := s17z) (f := (fun w => f_X10_tension w (0 : Int32))) ⟨_, fun w h => k_tension (x := 0) h s17z_k.1 ⟨by decide, by decide +kernel⟩ (by decide +kernel)⟩ s17z_k (by decide +kernel) h1
  have e4 : f_X10_releaseTotal w1  = some (2 : Int32) := z_r (l := s17z) (f := f_X10_releaseTotal) ⟨_, fun w h => k_releaseTotal h⟩ s17z_k (by decide +kernel) h1
  obtain ⟨w5, e5, h5⟩ := z_q (l := s17z) (a := (.inr 8 : Nat ⊕ Int32)) (dt_friction (x := 3) s17z_k.1 ⟨by decide, by decide +kernel⟩) s17z_k (by decide +kernel) h1
  have e5 : f_X10_friction w1 (3 : Int32) = some ((.inr 8 : Nat ⊕ Int32), w5) := e5
  obtain ⟨w6, e6, h6⟩ := z_mu (l := s17z) (l' := s17z) (v := 0) (fun T hG => mu_release hG (0 : Int32) (1 : Int32)) rs_i s17z_k s17z_k (by decide) (by decide) (by decide +kernel) h5
  have e6 : f_X10_release w5 (0 : Int32) (1 : Int32) = some (.inr (0 : Int32), w6) := e6
  have e7 : f_X10_releaseTotal w6  = some (2 : Int32) := z_r (l := s17z) (f := f_X10_releaseTotal) ⟨_, fun w h => k_releaseTotal h⟩ s17z_k (by decide +kernel) h6
  obtain ⟨w8, e8, h8⟩ := z_mu (l := s17z) (l' := s18z) (v := 2) (fun T hG => mu_separate hG (2 : Int32) (1 : Int32)) rs_i s17z_k s18z_k (by decide) (by decide) (by decide +kernel) h6
  have e8 : f_X10_separate w6 (2 : Int32) (1 : Int32) = some (.inr (2 : Int32), w8) := e8
  obtain ⟨w9, e9, h9⟩ := z_q (l := s18z) (a := (.inr 2 : Nat ⊕ Int32)) (dt_trainSize (x := 3) s18z_k.1 ⟨by decide, by decide +kernel⟩) s18z_k (by decide +kernel) h8
  have e9 : f_X10_trainSize w8 (3 : Int32) = some ((.inr 2 : Nat ⊕ Int32), w9) := e9
  obtain ⟨w10, e10, h10⟩ := z_q (l := s18z) (a := (.inr 0 : Nat ⊕ Int32)) (dt_areInTrain (x := 0) (y := 3) s18z_k.1 ⟨by decide, by decide +kernel⟩ ⟨by decide, by decide +kernel⟩) s18z_k (by decide +kernel) h9
  have e10 : f_X10_areInTrain w9 (0 : Int32) (3 : Int32) = some ((.inr 0 : Nat ⊕ Int32), w10) := e10
  obtain ⟨w11, e11, h11⟩ := z_q (l := s18z) (a := (.inl 4 : Nat ⊕ Int32)) (dt_springOf (x := 3) s18z_k.1 ⟨by decide, by decide +kernel⟩ s18z_k.2) s18z_k (by decide +kernel) h10
  have e11 : f_X10_springOf w10 (3 : Int32) = some ((.inl 4 : Nat ⊕ Int32), w11) := e11
  have e11 : f_L_act w10 (16 : Int32) (3 : Int32) (0 : Int32) = some ((-5 : Int32), w11) := by rw [act_16, e11, bs_p, u2_p]; rfl
  obtain ⟨w12, e12, h12⟩ := z_mu (l := s18z) (l' := s19z) (v := 2) (fun T hG => mu_setSpring hG (2 : Int32) (10 : Int32)) rs_i s18z_k s19z_k (by decide) (by decide) (by decide +kernel) h11
  have e12 : f_X10_setSpring w11 (2 : Int32) (10 : Int32) = some (.inr (2 : Int32), w12) := e12
  obtain ⟨w13, e13, h13⟩ := z_mu (l := s19z) (l' := s20z) (v := 4) (fun T hG => mu_wind hG (2 : Int32) (4 : Int32)) rs_i s19z_k s20z_k (by decide) (by decide) (by decide +kernel) h12
  have e13 : f_X10_wind w12 (2 : Int32) (4 : Int32) = some (.inr (4 : Int32), w13) := e13
  obtain ⟨w14, e14, h14⟩ := z_q (l := s20z) (a := (.inr 1 : Nat ⊕ Int32)) (dt_turnsLeft (x := 2) s20z_k.1 ⟨by decide, by decide +kernel⟩ (by decide +kernel)) s20z_k (by decide +kernel) h13
  have e14 : f_X10_turnsLeft w13 (2 : Int32) = some ((.inr 1 : Nat ⊕ Int32), w14) := e14
  obtain ⟨w15, e15, h15⟩ := z_mu1 (l := s20z) (l' := s21z) (v := 1) (fun T hG => mu_release hG (2 : Int32) (1 : Int32)) rs_i s20z_k s21z_k (by decide) (by decide) (by decide +kernel) h14
  have e15 : f_X10_release w14 (2 : Int32) (1 : Int32) = some (.inr (1 : Int32), w15) := e15
  have e16 : f_X10_angle w15 (3 : Int32) = some (.inr 16588800000 : Nat ⊕ Int64) := z_r (l := s21z) (f := (fun w => f_X10_angle w (3 : Int32))) ⟨_, fun w h => k_angle (x := 3) h s21z_k.1 ⟨by decide, by decide +kernel⟩⟩ s21z_k (by decide +kernel) h15
  have e17 : f_X10_angle w15 (2 : Int32) = some (.inr 0 : Nat ⊕ Int64) := z_r (l := s21z) (f := (fun w => f_X10_angle w (2 : Int32))) ⟨_, fun w h => k_angle (x := 2) h s21z_k.1 ⟨by decide, by decide +kernel⟩⟩ s21z_k (by decide +kernel) h15
  obtain ⟨w18, e18, h18⟩ := z_er (l := s21z) (k := 2) (fun T hG => mu_mesh hG (0 : Int32) (3 : Int32)) s21z_k (by decide) (by decide +kernel) h15
  have e18 : f_X10_mesh w15 (0 : Int32) (3 : Int32) = some (.inl 2, w18) := e18
  have e18 : f_L_act w15 (1 : Int32) (0 : Int32) (3 : Int32) = some ((-3 : Int32), w18) := by rw [act_1, e18, bs_p, u2_p]; rfl
  obtain ⟨w19, e19, h19⟩ := z_q (l := s21z) (a := (.inl 2 : Nat ⊕ Int32)) (dt_eclT (a := 0) (b := 1) (z := 2) s21z_k.1 (by decide) (by decide) (by decide) (by decide) (by decide) (by decide) s21z_k.2) s21z_k (by decide +kernel) h18
  have e19 : f_X10_nextEclipseByTurns w18 (0 : Int32) (1 : Int32) (2 : Int32) = some ((.inl 2 : Nat ⊕ Int32), w19) := e19
  have e19 : f_L_eclipse w18 (0 : Int32) (0 : Int32) (1 : Int32) (2 : Int32) = some ((-3 : Int32), w19) := by unfold f_L_eclipse; rw [if_pos rfl, e19, bs_p, u2_p, zl_p]; rfl
  have e20 : f_X10_tensionTotal w19  = some (6 : Int32) := z_r (l := s21z) (f := f_X10_tensionTotal) ⟨_, fun w h => k_tensionTotal h s21z_k.1⟩ s21z_k (by decide +kernel) h19
  obtain ⟨w21, ru, e21, pu, h21⟩ := z_undo h19
  have e22 : f_X10_angle w21 (3 : Int32) = some (.inr 0 : Nat ⊕ Int64) := z_r (l := s20z) (f := (fun w => f_X10_angle w (3 : Int32))) ⟨_, fun w h => k_angle (x := 3) h s20z_k.1 ⟨by decide, by decide +kernel⟩⟩ s20z_k (by decide +kernel) h21
  obtain ⟨w23, e23, h23⟩ := z_q (l := s20z) (a := (1 : Int32)) (dt_consistent s20z_k.1) s20z_k (by decide +kernel) h21
  have e23 : f_X10_isConsistent w21 = some ((1 : Int32), w23) := e23
  refine ⟨w23, fun x y l3 l4 => ?_, h23⟩
  unfold f_law_1131
  rw [e1, bs_p, u2_p, zr_p, if_pos (by decide +kernel), e2, bs_p, zr_p, if_neg (by decide +kernel), e3, bs_p, zr_p, if_pos (by decide +kernel), e4, bs_p, if_pos (by decide +kernel), e5, bs_p, u2_p, zr_p, if_pos (by decide +kernel), e6, bs_p, u2_p, zr_p, if_pos (by decide +kernel), e7, bs_p, if_pos (by decide +kernel), e8, bs_p, u2_p, zr_p, if_pos (by decide +kernel), e9, bs_p, u2_p, zr_p, if_pos (by decide +kernel), e10, bs_p, u2_p, zr_p, if_pos (by decide +kernel), e11, bs_p, u2_p, if_pos (by decide +kernel), e12, bs_p, u2_p, zr_p, if_pos (by decide +kernel), e13, bs_p, u2_p, zr_p, if_pos (by decide +kernel), e14, bs_p, u2_p, zr_p, if_pos (by decide +kernel), e15, bs_p, u2_p, zr_p, if_pos (by decide +kernel), e16, bs_p, zr_p, if_pos (by decide +kernel), e17, bs_p, zr_p, if_pos (by decide +kernel), e18, bs_p, u2_p, if_pos (by decide +kernel), e19, bs_p, u2_p, if_pos (by decide +kernel), e20, bs_p, if_pos (by decide +kernel), e21, bs_p, u2_p, zr_p, if_neg pu, e22, bs_p, zr_p, if_pos (by decide +kernel), e23, bs_p, u2_p, if_neg (by decide +kernel)]
def s28z : Zr := [[60, 20, 10, 30], [0, 0, 0, 0], [100, 0, 0, 0], [62, 0, 0, 0], [1, 0, 0, 0], [0, 1, 0, 0], [0, 1, 0, 0], [0, 298598400000, 0, 0], [0, 1, 0, 0], [1, 0, 2, 0], [0, 2, 0, 1], [0, 0, 1, 0], [0, 0, 0, 0], [0, 0, 0, 0], [0, 0, 0, 0], [0, 0, 0, 0], [0, 0, 0, 0], [0, 0, 0, 0], [], [4, 0, 11, 90, 28, 1, 3]]
theorem s28z_k : ZK s28z := zG_ok (P := [1, -3, -3, 1, 1, 1, 1, 1, 1, 1]) (by decide +kernel)
def s29z : Zr := [[60, 20, 10, 30], [0, 0, 0, 0], [100, 0, 0, 0], [62, 0, 0, 0], [1, 0, 0, 0], [0, 1, 0, 0], [0, 1, 0, 0], [0, 298598400000, 0, 0], [0, 1, 0, 0], [1, 0, 2, 0], [0, 2, 0, 1], [0, 0, 1, 0], [0, 0, 0, 0], [0, 0, 0, 0], [0, 0, 0, 0], [0, 0, 0, 0], [0, 0, 0, 0], [0, 0, 0, 0], [0], [4, 1, 11, 90, 28, 1, 3]]
theorem s29z_k : ZK s29z := zG_ok (P := [1, -3, -3, 1, 1, 1, 1, 1, 1, 1]) (by decide +kernel)
def s30z : Zr := [[60, 20, 10, 30], [0, 0, 0, 0], [100, 0, 0, 0], [62, 0, 0, 0], [1, 0, 0, 0], [0, 1, 0, 0], [0, 1, 0, 0], [0, 298598400000, 0, 0], [0, 1, 0, 0], [1, 0, 2, 0], [0, 2, 0, 1], [0, 0, 1, 0], [0, 0, 0, 0], [0, 0, 0, 0], [0, 0, 0, 0], [0, 0, 0, 0], [0, 0, 0, 0], [0, 0, 0, 0], [0, 1], [4, 2, 11, 90, 28, 1, 3]]
theorem s30z_k : ZK s30z := zG_ok (P := [1, -3, -3, 1, 1, 1, 1, 1, 1, 1]) (by decide +kernel)
set_option maxHeartbeats 4000000 in
theorem z_767_4 {w : Wd} (h : ZI s13z w) : ∃ z', (∀ (x y : Wd) (l3 l4 : Int32), f_law_767 x y w l3 l4 (4 : Int32) = some (x, y, z')) ∧ ZI s30z z' := by
  obtain ⟨w1, e1, h1⟩ := z_mu (l := s13z) (l' := s28z) (v := 4) (fun T hG => mu_release hG (0 : Int32) (4 : Int32)) rs_i s13z_k s28z_k (by decide) (by decide) (by decide +kernel) h
  have e1 : f_X10_release w (0 : Int32) (4 : Int32) = some (.inr (4 : Int32), w1) := e1
  have e2 : f_X10_tension w1 (0 : Int32) = some (.inr 62 : Nat ⊕ Int32) := z_r (l := s28z) (f := (fun w => f_X10_tension w (0 : Int32))) ⟨_, fun w h => k_tension (x := 0) h s28z_k.1 ⟨by decide, by decide +kernel⟩ (by decide +kernel)⟩ s28z_k (by decide +kernel) h1
  have e3 : f_X10_wear w1 (1 : Int32) = some (.inr 12 : Nat ⊕ Int32) := z_r (l := s28z) (f := (fun w => f_X10_wear w (1 : Int32))) ⟨_, fun w h => k_wear (x := 1) h s28z_k.1 ⟨by decide, by decide +kernel⟩ (by decide +kernel)⟩ s28z_k (by decide +kernel) h1
  have e4 : f_X10_angle w1 (0 : Int32) = some (.inr 0 : Nat ⊕ Int64) := z_r (l := s28z) (f := (fun w => f_X10_angle w (0 : Int32))) ⟨_, fun w h => k_angle (x := 0) h s28z_k.1 ⟨by decide, by decide +kernel⟩⟩ s28z_k (by decide +kernel) h1
  obtain ⟨w5, e5, h5⟩ := z_mu (l := s28z) (l' := s29z) (v := 0) (fun T hG => mu_addPlanet hG (0 : Int32)) rs_i s28z_k s29z_k (by decide) (by decide) (by decide +kernel) h1
  have e5 : f_X10_addPlanet w1 (0 : Int32) = some (.inr (0 : Int32), w5) := e5
  obtain ⟨w6, e6, h6⟩ := z_mu (l := s29z) (l' := s30z) (v := 1) (fun T hG => mu_addPlanet hG (1 : Int32)) rs_i s29z_k s30z_k (by decide) (by decide) (by decide +kernel) h5
  have e6 : f_X10_addPlanet w5 (1 : Int32) = some (.inr (1 : Int32), w6) := e6
  obtain ⟨w7, e7, h7⟩ := z_er (l := s30z) (k := 2) (fun T hG => mu_addPlanet hG (1 : Int32)) s30z_k (by decide) (by decide +kernel) h6
  have e7 : f_X10_addPlanet w6 (1 : Int32) = some (.inl 2, w7) := e7
  have e7 : f_L_act w6 (10 : Int32) (1 : Int32) (0 : Int32) = some ((-3 : Int32), w7) := by rw [act_10, e7, bs_p, u2_p]; rfl
  have e8 : f_X10_areInLine w7 (0 : Int32) (1 : Int32) = some (.inr 1 : Nat ⊕ Int32) := z_r (l := s30z) (f := (fun w => f_X10_areInLine w (0 : Int32) (1 : Int32))) ⟨_, fun w h => al_c1 (x := 0) (y := 1) h s30z_k.1 ⟨by decide, by decide +kernel⟩ ⟨by decide, by decide +kernel⟩ (by decide) (by decide +kernel)⟩ s30z_k (by decide +kernel) h7
  obtain ⟨w9, e9, h9⟩ := z_q (l := s30z) (a := (.inr 3 : Nat ⊕ Int32)) (dt_ecl (a := 0) (b := 1) (z := 1) s30z_k.1 (by decide) (by decide) (by decide) (by decide) (by decide) (by decide) s30z_k.2) s30z_k (by decide +kernel) h7
  have e9 : f_X10_nextEclipse w7 (0 : Int32) (1 : Int32) (1 : Int32) = some ((.inr 3 : Nat ⊕ Int32), w9) := e9
  obtain ⟨w10, e10, h10⟩ := z_q (l := s30z) (a := (.inr 3 : Nat ⊕ Int32)) (dt_eclT (a := 1) (b := 0) (z := 2) s30z_k.1 (by decide) (by decide) (by decide) (by decide) (by decide) (by decide) s30z_k.2) s30z_k (by decide +kernel) h9
  have e10 : f_X10_nextEclipseByTurns w9 (1 : Int32) (0 : Int32) (2 : Int32) = some ((.inr 3 : Nat ⊕ Int32), w10) := e10
  obtain ⟨w11, e11, h11⟩ := z_q (l := s30z) (a := (.inr 1 : Nat ⊕ Int32)) (dt_ecl (a := 0) (b := 1) (z := 0) s30z_k.1 (by decide) (by decide) (by decide) (by decide) (by decide) (by decide) s30z_k.2) s30z_k (by decide +kernel) h10
  have e11 : f_X10_nextEclipse w10 (0 : Int32) (1 : Int32) (0 : Int32) = some ((.inr 1 : Nat ⊕ Int32), w11) := e11
  obtain ⟨w12, e12, h12⟩ := z_q (l := s30z) (a := (.inl 1 : Nat ⊕ Int32)) (dt_ecl (a := 0) (b := 0) (z := 0) s30z_k.1 (by decide) (by decide) (by decide) (by decide) (by decide) (by decide) s30z_k.2) s30z_k (by decide +kernel) h11
  have e12 : f_X10_nextEclipse w11 (0 : Int32) (0 : Int32) (0 : Int32) = some ((.inl 1 : Nat ⊕ Int32), w12) := e12
  have e12 : f_L_eclipse w11 (1 : Int32) (0 : Int32) (0 : Int32) (0 : Int32) = some ((-2 : Int32), w12) := by unfold f_L_eclipse; rw [if_neg (by decide +kernel), e12, bs_p, u2_p, zl_p]; rfl
  refine ⟨w12, fun x y l3 l4 => ?_, h12⟩
  unfold f_law_767
  rw [e1, bs_p, u2_p, zr_p, if_pos (by decide +kernel), e2, bs_p, zr_p, if_pos (by decide +kernel), e3, bs_p, zr_p, if_pos (by decide +kernel), e4, bs_p, zr_p, if_pos (by decide +kernel), e5, bs_p, u2_p, zr_p, if_pos (by decide +kernel), e6, bs_p, u2_p, zr_p, if_pos (by decide +kernel), e7, bs_p, u2_p, if_pos (by decide +kernel), e8, bs_p, zr_p, if_neg (by decide +kernel), e9, bs_p, u2_p, zr_p, if_pos (by decide +kernel), e10, bs_p, u2_p, zr_p, if_pos (by decide +kernel), e11, bs_p, u2_p, zr_p, if_pos (by decide +kernel), e12, bs_p, u2_p, if_pos (by decide +kernel)]
set_option maxHeartbeats 4000000 in
theorem z_916_4 {w : Wd} (h : ZI s30z w) : ∃ z', (∀ (x y : Wd) (l3 l4 : Int32), f_law_916 x y w l3 l4 (4 : Int32) = some (x, y, z')) ∧ ZI s30z z' := by
  have e1 : f_X10_fewestPairs w (3 : Int32) (1 : Int32) = some (.inr 1 : Nat ⊕ Int32) := z_r (l := s30z) (f := (fun w => f_X10_fewestPairs w (3 : Int32) (1 : Int32))) (dr_fewest (x := 3) (y := 1) s30z_k.1 ⟨by decide, by decide⟩ ⟨by decide, by decide⟩ s30z_k.2) s30z_k (by decide +kernel) h
  have e2 : f_X10_fewestPairs w (9 : Int32) (1 : Int32) = some (.inr 2 : Nat ⊕ Int32) := z_r (l := s30z) (f := (fun w => f_X10_fewestPairs w (9 : Int32) (1 : Int32))) (dr_fewest (x := 9) (y := 1) s30z_k.1 ⟨by decide, by decide⟩ ⟨by decide, by decide⟩ s30z_k.2) s30z_k (by decide +kernel) h
  obtain ⟨w3, e3, h3⟩ := z_q (l := s30z) (a := (.inr 2 : Nat ⊕ Int32)) (dt_byTable (x := 9) (y := 1) s30z_k.1 ⟨by decide, by decide⟩ ⟨by decide, by decide⟩ s30z_k.2) s30z_k (by decide +kernel) h
  have e3 : f_X10_fewestPairsByTable w (9 : Int32) (1 : Int32) = some ((.inr 2 : Nat ⊕ Int32), w3) := e3
  have e4 : f_X10_fewestPairs w3 (1 : Int32) (1 : Int32) = some (.inr 2 : Nat ⊕ Int32) := z_r (l := s30z) (f := (fun w => f_X10_fewestPairs w (1 : Int32) (1 : Int32))) (dr_fewest (x := 1) (y := 1) s30z_k.1 ⟨by decide, by decide⟩ ⟨by decide, by decide⟩ s30z_k.2) s30z_k (by decide +kernel) h3
  obtain ⟨w5, e5, h5⟩ := z_q (l := s30z) (a := (.inr 1 : Nat ⊕ Int32)) (dt_byTable (x := 1) (y := 6) s30z_k.1 ⟨by decide, by decide⟩ ⟨by decide, by decide⟩ s30z_k.2) s30z_k (by decide +kernel) h3
  have e5 : f_X10_fewestPairsByTable w3 (1 : Int32) (6 : Int32) = some ((.inr 1 : Nat ⊕ Int32), w5) := e5
  obtain ⟨w6, e6, h6⟩ := z_q (l := s30z) (a := (.inl 4 : Nat ⊕ Int32)) (dt_byTable (x := 7) (y := 1) s30z_k.1 ⟨by decide, by decide⟩ ⟨by decide, by decide⟩ s30z_k.2) s30z_k (by decide +kernel) h5
  have e6 : f_X10_fewestPairsByTable w5 (7 : Int32) (1 : Int32) = some ((.inl 4 : Nat ⊕ Int32), w6) := e6
  have e6 : f_L_act w5 (18 : Int32) (7 : Int32) (1 : Int32) = some ((-5 : Int32), w6) := by rw [act_18, e6, bs_p, u2_p]; rfl
  have e7 : f_X10_woundTotal w6  = some (90 : Int32) := z_r (l := s30z) (f := f_X10_woundTotal) ⟨_, fun w h => k_woundTotal h⟩ s30z_k (by decide +kernel) h6
  have e8 : f_X10_tensionByAccounts w6  = some (62 : Int32) := z_r (l := s30z) (f := f_X10_tensionByAccounts) ⟨_, fun w h => k_tensionByAccounts h⟩ s30z_k (by decide +kernel) h6
  have e9 : f_X10_releaseTotal w6  = some (1 : Int32) := z_r (l := s30z) (f := f_X10_releaseTotal) ⟨_, fun w h => k_releaseTotal h⟩ s30z_k (by decide +kernel) h6
  have e10 : f_X10_meanTeeth w6  = some (.inr 4629137466983448576 : Nat ⊕ UInt64) := z_rr (l := s30z) (f := f_X10_meanTeeth) (fun w h => eq_mean s30z_k.1 h s30z_k.2) (by decide +kernel) h6
  have e11 : f_X10_dryShare w6  = some (.inr 1061158912 : Nat ⊕ UInt32) := z_rr (l := s30z) (f := f_X10_dryShare) (fun w h => eq_dry s30z_k.1 h s30z_k.2) (by decide +kernel) h6
  refine ⟨w6, fun x y l3 l4 => ?_, h6⟩
  unfold f_law_916
  rw [e1, bs_p, zr_p, if_pos (by decide +kernel), e2, bs_p, zr_p, if_pos (by decide +kernel), e3, bs_p, u2_p, zr_p, if_pos (by decide +kernel), e4, bs_p, zr_p, if_pos (by decide +kernel), e5, bs_p, u2_p, zr_p, if_pos (by decide +kernel), e6, bs_p, u2_p, if_pos (by decide +kernel), e7, bs_p, if_pos (by decide +kernel), e8, bs_p, if_pos (by decide +kernel), e9, bs_p, if_pos (by decide +kernel), e10, bs_p, zr_p, if_pos (by decide +kernel), e11, bs_p, zr_p, if_pos (by decide +kernel)]
set_option maxHeartbeats 4000000 in
theorem z_1131_4 {w : Wd} (h : ZI s30z w) : ∃ z', (∀ (x y : Wd) (l3 l4 : Int32), f_law_1131 x y w l3 l4 (4 : Int32) = some (x, y, z')) ∧ ZI s20z z' := by
  obtain ⟨w1, e1, h1⟩ := z_mu (l := s30z) (l' := s17z) (v := 8) (fun T hG => mu_release hG (0 : Int32) (20 : Int32)) rs_i s30z_k s17z_k (by decide) (by decide) (by decide +kernel) h
  have e1 : f_X10_release w (0 : Int32) (20 : Int32) = some (.inr (8 : Int32), w1) := e1
  have e2 : f_X10_isDry w1 (1 : Int32) = some (.inr 1 : Nat ⊕ Int32) := z_r (l := s17z) (f := (fun w => f_X10_isDry w (1 : Int32))) ⟨_, fun w h => k_isDry0 (x := 1) h s17z_k.1 ⟨by decide, by decide +kernel⟩ (by decide +kernel)⟩ s17z_k (by decide +kernel) h1
  have e3 : f_X10_tension w1 (0 : Int32) = some (.inr 6 : Nat ⊕ Int32) := z_r (l := s17z) (f := (fun w => f_X10_tension w (0 : Int32))) ⟨_, fun w h => k_tension (x := 0) h s17z_k.1 ⟨by decide, by decide +kernel⟩ (by decide +kernel)⟩ s17z_k (by decide +kernel) h1
  have e4 : f_X10_releaseTotal w1  = some (2 : Int32) := z_r (l := s17z) (f := f_X10_releaseTotal) ⟨_, fun w h => k_releaseTotal h⟩ s17z_k (by decide +kernel) h1
  obtain ⟨w5, e5, h5⟩ := z_q (l := s17z) (a := (.inr 8 : Nat ⊕ Int32)) (dt_friction (x := 3) s17z_k.1 ⟨by decide, by decide +kernel⟩) s17z_k (by decide +kernel) h1
  have e5 : f_X10_friction w1 (3 : Int32) = some ((.inr 8 : Nat ⊕ Int32), w5) := e5
  obtain ⟨w6, e6, h6⟩ := z_mu (l := s17z) (l' := s17z) (v := 0) (fun T hG => mu_release hG (0 : Int32) (1 : Int32)) rs_i s17z_k s17z_k (by decide) (by decide) (by decide +kernel) h5
  have e6 : f_X10_release w5 (0 : Int32) (1 : Int32) = some (.inr (0 : Int32), w6) := e6
  have e7 : f_X10_releaseTotal w6  = some (2 : Int32) := z_r (l := s17z) (f := f_X10_releaseTotal) ⟨_, fun w h => k_releaseTotal h⟩ s17z_k (by decide +kernel) h6
  obtain ⟨w8, e8, h8⟩ := z_mu (l := s17z) (l' := s18z) (v := 2) (fun T hG => mu_separate hG (2 : Int32) (1 : Int32)) rs_i s17z_k s18z_k (by decide) (by decide) (by decide +kernel) h6
  have e8 : f_X10_separate w6 (2 : Int32) (1 : Int32) = some (.inr (2 : Int32), w8) := e8
  obtain ⟨w9, e9, h9⟩ := z_q (l := s18z) (a := (.inr 2 : Nat ⊕ Int32)) (dt_trainSize (x := 3) s18z_k.1 ⟨by decide, by decide +kernel⟩) s18z_k (by decide +kernel) h8
  have e9 : f_X10_trainSize w8 (3 : Int32) = some ((.inr 2 : Nat ⊕ Int32), w9) := e9
  obtain ⟨w10, e10, h10⟩ := z_q (l := s18z) (a := (.inr 0 : Nat ⊕ Int32)) (dt_areInTrain (x := 0) (y := 3) s18z_k.1 ⟨by decide, by decide +kernel⟩ ⟨by decide, by decide +kernel⟩) s18z_k (by decide +kernel) h9
  have e10 : f_X10_areInTrain w9 (0 : Int32) (3 : Int32) = some ((.inr 0 : Nat ⊕ Int32), w10) := e10
  obtain ⟨w11, e11, h11⟩ := z_q (l := s18z) (a := (.inl 4 : Nat ⊕ Int32)) (dt_springOf (x := 3) s18z_k.1 ⟨by decide, by decide +kernel⟩ s18z_k.2) s18z_k (by decide +kernel) h10
  have e11 : f_X10_springOf w10 (3 : Int32) = some ((.inl 4 : Nat ⊕ Int32), w11) := e11
  have e11 : f_L_act w10 (16 : Int32) (3 : Int32) (0 : Int32) = some ((-5 : Int32), w11) := by rw [act_16, e11, bs_p, u2_p]; rfl
  obtain ⟨w12, e12, h12⟩ := z_mu (l := s18z) (l' := s19z) (v := 2) (fun T hG => mu_setSpring hG (2 : Int32) (10 : Int32)) rs_i s18z_k s19z_k (by decide) (by decide) (by decide +kernel) h11
  have e12 : f_X10_setSpring w11 (2 : Int32) (10 : Int32) = some (.inr (2 : Int32), w12) := e12
  obtain ⟨w13, e13, h13⟩ := z_mu (l := s19z) (l' := s20z) (v := 4) (fun T hG => mu_wind hG (2 : Int32) (4 : Int32)) rs_i s19z_k s20z_k (by decide) (by decide) (by decide +kernel) h12
  have e13 : f_X10_wind w12 (2 : Int32) (4 : Int32) = some (.inr (4 : Int32), w13) := e13
  obtain ⟨w14, e14, h14⟩ := z_q (l := s20z) (a := (.inr 1 : Nat ⊕ Int32)) (dt_turnsLeft (x := 2) s20z_k.1 ⟨by decide, by decide +kernel⟩ (by decide +kernel)) s20z_k (by decide +kernel) h13
  have e14 : f_X10_turnsLeft w13 (2 : Int32) = some ((.inr 1 : Nat ⊕ Int32), w14) := e14
  obtain ⟨w15, e15, h15⟩ := z_mu1 (l := s20z) (l' := s21z) (v := 1) (fun T hG => mu_release hG (2 : Int32) (1 : Int32)) rs_i s20z_k s21z_k (by decide) (by decide) (by decide +kernel) h14
  have e15 : f_X10_release w14 (2 : Int32) (1 : Int32) = some (.inr (1 : Int32), w15) := e15
  have e16 : f_X10_angle w15 (3 : Int32) = some (.inr 16588800000 : Nat ⊕ Int64) := z_r (l := s21z) (f := (fun w => f_X10_angle w (3 : Int32))) ⟨_, fun w h => k_angle (x := 3) h s21z_k.1 ⟨by decide, by decide +kernel⟩⟩ s21z_k (by decide +kernel) h15
  have e17 : f_X10_angle w15 (2 : Int32) = some (.inr 0 : Nat ⊕ Int64) := z_r (l := s21z) (f := (fun w => f_X10_angle w (2 : Int32))) ⟨_, fun w h => k_angle (x := 2) h s21z_k.1 ⟨by decide, by decide +kernel⟩⟩ s21z_k (by decide +kernel) h15
  obtain ⟨w18, e18, h18⟩ := z_er (l := s21z) (k := 2) (fun T hG => mu_mesh hG (0 : Int32) (3 : Int32)) s21z_k (by decide) (by decide +kernel) h15
  have e18 : f_X10_mesh w15 (0 : Int32) (3 : Int32) = some (.inl 2, w18) := e18
  have e18 : f_L_act w15 (1 : Int32) (0 : Int32) (3 : Int32) = some ((-3 : Int32), w18) := by rw [act_1, e18, bs_p, u2_p]; rfl
  obtain ⟨w19, e19, h19⟩ := z_q (l := s21z) (a := (.inl 2 : Nat ⊕ Int32)) (dt_eclT (a := 0) (b := 1) (z := 2) s21z_k.1 (by decide) (by decide) (by decide) (by decide) (by decide) (by decide) s21z_k.2) s21z_k (by decide +kernel) h18
  have e19 : f_X10_nextEclipseByTurns w18 (0 : Int32) (1 : Int32) (2 : Int32) = some ((.inl 2 : Nat ⊕ Int32), w19) := e19
  have e19 : f_L_eclipse w18 (0 : Int32) (0 : Int32) (1 : Int32) (2 : Int32) = some ((-3 : Int32), w19) := by unfold f_L_eclipse; rw [if_pos rfl, e19, bs_p, u2_p, zl_p]; rfl
  have e20 : f_X10_tensionTotal w19  = some (6 : Int32) := z_r (l := s21z) (f := f_X10_tensionTotal) ⟨_, fun w h => k_tensionTotal h s21z_k.1⟩ s21z_k (by decide +kernel) h19
  obtain ⟨w21, ru, e21, pu, h21⟩ := z_undo h19
  have e22 : f_X10_angle w21 (3 : Int32) = some (.inr 0 : Nat ⊕ Int64) := z_r (l := s20z) (f := (fun w => f_X10_angle w (3 : Int32))) ⟨_, fun w h => k_angle (x := 3) h s20z_k.1 ⟨by decide, by decide +kernel⟩⟩ s20z_k (by decide +kernel) h21
  obtain ⟨w23, e23, h23⟩ := z_q (l := s20z) (a := (1 : Int32)) (dt_consistent s20z_k.1) s20z_k (by decide +kernel) h21
  have e23 : f_X10_isConsistent w21 = some ((1 : Int32), w23) := e23
  refine ⟨w23, fun x y l3 l4 => ?_, h23⟩
  unfold f_law_1131
  rw [e1, bs_p, u2_p, zr_p, if_pos (by decide +kernel), e2, bs_p, zr_p, if_neg (by decide +kernel), e3, bs_p, zr_p, if_pos (by decide +kernel), e4, bs_p, if_pos (by decide +kernel), e5, bs_p, u2_p, zr_p, if_pos (by decide +kernel), e6, bs_p, u2_p, zr_p, if_pos (by decide +kernel), e7, bs_p, if_pos (by decide +kernel), e8, bs_p, u2_p, zr_p, if_pos (by decide +kernel), e9, bs_p, u2_p, zr_p, if_pos (by decide +kernel), e10, bs_p, u2_p, zr_p, if_pos (by decide +kernel), e11, bs_p, u2_p, if_pos (by decide +kernel), e12, bs_p, u2_p, zr_p, if_pos (by decide +kernel), e13, bs_p, u2_p, zr_p, if_pos (by decide +kernel), e14, bs_p, u2_p, zr_p, if_pos (by decide +kernel), e15, bs_p, u2_p, zr_p, if_pos (by decide +kernel), e16, bs_p, zr_p, if_pos (by decide +kernel), e17, bs_p, zr_p, if_pos (by decide +kernel), e18, bs_p, u2_p, if_pos (by decide +kernel), e19, bs_p, u2_p, if_pos (by decide +kernel), e20, bs_p, if_pos (by decide +kernel), e21, bs_p, u2_p, zr_p, if_neg pu, e22, bs_p, zr_p, if_pos (by decide +kernel), e23, bs_p, u2_p, if_neg (by decide +kernel)]
