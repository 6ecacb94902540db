/-! PLANETS BY ANGLE -/
def aO (S : Ab) (p : Int) : Int := S (16 + S (86 + p))
def rk (S : Ab) (p : Int) : Int := sm (fun o => if aO S o < aO S p ∨ (aO S o = aO S p ∧ o < p) then 1 else 0) (S 1).toNat
theorem aO_b {S : Ab} (hG : Good S) {p : Int} (p0 : 0 ≤ p) (p1 : p < S 1) : 0 ≤ aO S p ∧ aO S p < 24883200000 := by
  have hg := hG.1
  have k := hG.2.2.1 p p0 p1
  exact (hG.2.1 (S (86 + p)) k.1 (by omega)).2.2.1
theorem rk_b {S : Ab} (hG : Good S) (p : Int) : 0 ≤ rk S p ∧ rk S p ≤ 6 := by
  have hg := hG.1
  have s0 := sm_lo (g := fun o => if aO S o < aO S p ∨ (aO S o = aO S p ∧ o < p) then 1 else 0) (c := 0) (n := (S 1).toNat) (fun i _ _ => by split <;> decide)
  have s1 := sm_hi (g := fun o => if aO S o < aO S p ∨ (aO S o = aO S p ∧ o < p) then 1 else 0) (c := 1) (n := (S 1).toNat) (fun i _ _ => by split <;> decide)
  unfold rk
  omega
theorem s_rank {w : Wd} {S : Ab} (h : CSt w 1 S) (hG : Good S) {p : Int} (p0 : 0 ≤ p) (p1 : p < S 1) : f_X7_rankByAngle w (jI p) = some (jI (rk S p)) := by
  have hg := hG.1
  have e1 : (((S 1).toNat : Nat) : Int) = S 1 := by omega
  have kp := hG.2.2.1 p p0 p1
  have bp := aO_b hG p0 p1
  have k := lpSum (p_X7_rankByAngle_18 w (jL (aO S p)) (jI p)) (fun o => if aO S o < aO S p ∨ (aO S o = aO S p ∧ o < p) then 1 else 0) (S 1).toNat 0
    (fun i n a hi => by
      have ko := hG.2.2.1 i (by omega) (by omega)
      have bo := aO_b hG (p := i) (by omega) (by omega)
      have ea : gL w 3 (S (86 + (i : Int))).toNat = jL (aO S i) := c_a h _ ko.1 (by omega)
      have t1 : ¬ jI (S 1) ≤ jI (i : Int) := by rw [jI_le (by omega) (by omega) (by omega) (by omega)]; omega
      have t2 : inR (jI (i : Int)) 6 = true := by rw [inR_j (by omega) (by omega)]; omega
      have t3 : (jI (i : Int)).toNatClampNeg = (i : Int).toNat := jI_clamp (by omega) (by omega)
      have t4 : inR (jI (S (86 + (i : Int)))) 10 = true := by rw [inR_j (by omega) (by omega)]; omega
      have t5 : (jI (S (86 + (i : Int)))).toNatClampNeg = (S (86 + (i : Int))).toNat := jI_clamp (by omega) (by omega)
      rw [p_X7_rankByAngle_18, c_p h, if_neg t1, if_pos t2, t3, c_c h i (by omega) (by omega), if_pos t4, t5, ea, l32_1]
      by_cases z : aO S i < aO S p
      · rw [if_pos (by rw [jL_lt (by omega) (by omega) (by omega) (by omega)]; exact z), if_pos (Or.inl z), jI_add, jI_add]
        rfl
      · rw [if_neg (by rw [jL_lt (by omega) (by omega) (by omega) (by omega)]; exact z)]
        by_cases y : aO S i = aO S p
        · rw [if_pos (by rw [y])]
          by_cases v : p ≤ i
          · rw [if_pos (by rw [jI_le (by omega) (by omega) (by omega) (by omega)]; exact v), if_neg (by omega), jI_add, Int.add_zero]
            rfl
          · rw [if_neg (by rw [jI_le (by omega) (by omega) (by omega) (by omega)]; exact v), if_pos (by omega), jI_add, jI_add]
            rfl
        · rw [if_neg (by rw [jL_eq (by omega) (by omega) (by omega) (by omega)]; exact y), if_neg (by omega), jI_add, Int.add_zero]
          rfl)
    (fun n a => by
      rw [p_X7_rankByAngle_18, e1, c_p h]
      exact if_pos (by rw [jI_le (by omega) (by omega) (by omega) (by omega)]; omega)) 2000 (by omega)
  have k : p_X7_rankByAngle_18 w (jL (aO S p)) (jI p) 2000 (0 : Int32) (0 : Int32) = _ := k
  have ea : gL w 3 (S (86 + p)).toNat = jL (aO S p) := c_a h _ kp.1 (by omega)
  unfold f_X7_rankByAngle
  rw [if_pos (by rw [inR_j (by omega) (by omega)]; omega), jI_clamp (by omega) (by omega), c_c h p (by omega) (by omega), if_pos (by rw [inR_j (by omega) (by omega)]; omega), jI_clamp (by omega) (by omega), ea, k, Int.zero_add]
  rfl
theorem s_isBehind {w : Wd} {S : Ab} (h : RSt w 142 0 S) (hG : Good S) {o p : Int} (o0 : 0 ≤ o) (o1 : o < S 1) (p0 : 0 ≤ p) (p1 : p < S 1) : f_X11_isBehind w (jI o) (jI p) = some (jI (if aO S o < aO S p ∨ (aO S o = aO S p ∧ o < p) then 1 else 0)) := by
  have hg := hG.1
  have bp := aO_b hG p0 p1
  have bo := aO_b hG o0 o1
  have e1 := s_angleOf h hG p0 p1
  have e2 := s_angleOf h hG o0 o1
  have e1 : f_X11_angleOf w (jI p) = some (jL (aO S p)) := e1
  have e2 : f_X11_angleOf w (jI o) = some (jL (aO S o)) := e2
  unfold f_X11_isBehind
  rw [e1, bs_p, e2, bs_p, jL_sub, l64_0]
  by_cases z : aO S o < aO S p
  · rw [if_pos (by rw [jL_lt (by omega) (by omega) (by omega) (by omega)]; omega), if_pos (Or.inl z)]
    rfl
  · rw [if_neg (by rw [jL_lt (by omega) (by omega) (by omega) (by omega)]; omega)]
    by_cases y : aO S o = aO S p
    · rw [if_pos (by rw [y, Int.sub_self])]
      by_cases v : p ≤ o
      · rw [if_pos (by rw [jI_le (by omega) (by omega) (by omega) (by omega)]; exact v), if_neg (by omega)]
        rfl
      · rw [if_neg (by rw [jI_le (by omega) (by omega) (by omega) (by omega)]; exact v), if_pos (by omega)]
        rfl
    · rw [if_neg (by rw [jL_eq (by omega) (by omega) (by omega) (by omega)]; omega), if_neg (by omega)]
      rfl
theorem s_rrank {w : Wd} {S : Ab} (h : RSt w 142 0 S) (hG : Good S) {p : Int} (p0 : 0 ≤ p) (p1 : p < S 1) : p_X11_planetByAngle_16 w (jI p) 2000 (0 : Int32) (0 : Int32) = some (.inl (jI (rk S p), jI (S 1))) := by
  have hg := hG.1
  have e1 : (((S 1).toNat : Nat) : Int) = S 1 := by omega
  have at1 : f_X11_at w (1 : Int32) = some (jI (S 1)) := s_at h (z := 1) (by decide) (by decide)
  have k := lpSum (p_X11_planetByAngle_16 w (jI p)) (fun o => if aO S o < aO S p ∨ (aO S o = aO S p ∧ o < p) then 1 else 0) (S 1).toNat 0
    (fun i n a hi => by
      rw [p_X11_planetByAngle_16, at1, bs_p, if_neg (by rw [jI_le (by omega) (by omega) (by omega) (by omega)]; omega), s_isBehind h hG (o := i) (by omega) (by omega) p0 p1, bs_p, l32_1]
      by_cases z : aO S i < aO S p ∨ (aO S i = aO S p ∧ (i : Int) < p)
      · rw [if_pos z, if_neg (by decide +kernel), jI_add, jI_add]
        rfl
      · rw [if_neg z, if_pos (show jI 0 = 0 from rfl), l32_0, jI_add, jI_add]
        rfl)
    (fun n a => by
      rw [p_X11_planetByAngle_16, e1, at1, bs_p]
      exact if_pos (by rw [jI_le (by omega) (by omega) (by omega) (by omega)]; omega)) 2000 (by omega)
  have k : p_X11_planetByAngle_16 w (jI p) 2000 (0 : Int32) (0 : Int32) = _ := k
  rw [k, Int.zero_add, e1]
  rfl
theorem lq_planetByAngle {w : Wd} (h : Inv w) (x1 x2 x3 : Int32) : ∃ w1, f_law_2463 w x1 x2 x3 = some w1 ∧ Inv w1 := by
  obtain ⟨T, hG, hC, hR⟩ := h
  obtain ⟨x, rfl, xb1, xb2⟩ := jI_ex x1
  have hS := hG.1
  have hg := hS.1
  have c1 := hC.1
  have e1 : (((tS T 1).toNat : Nat) : Int) = tS T 1 := by omega
  have eqx : ∀ r : Int, 0 ≤ r → r ≤ 6 → (jI r = jI x) = (r = x) := fun r a b => jI_eq (by omega) (by omega) (by omega) (by omega)
  have A := lpFind (p_X10_planetByAngle_2 w (jI x)) (fun y => rk (tS T) y = x) (tS T 1).toNat (fun r => (.inr (jI r) : Nat ⊕ Int32))
    (fun i n hi hp => by
      have b := rk_b hS i
      rw [p_X10_planetByAngle_2, c_p c1, if_neg (by rw [jI_le (by omega) (by omega) (by omega) (by omega)]; omega), s_rank c1 hS (by omega) (by omega), bs_p, if_neg (by rw [eqx _ b.1 b.2]; exact hp), l32_1, jI_add]
      rfl)
    (fun i n hi hp => by
      have b := rk_b hS i
      rw [p_X10_planetByAngle_2, c_p c1, if_neg (by rw [jI_le (by omega) (by omega) (by omega) (by omega)]; omega), s_rank c1 hS (by omega) (by omega), bs_p, if_pos (by rw [eqx _ b.1 b.2]; exact hp)])
    (fun n => by
      rw [p_X10_planetByAngle_2, e1, c_p c1]
      exact if_pos (by rw [jI_le (by omega) (by omega) (by omega) (by omega)]; omega)) 2000 (by omega)
  have B : ∀ w', InvR w' T → _ := fun w' hR' => lpFind (p_X11_planetByAngle_2 w' (jI x)) (fun y => rk (tS T) y = x) (tS T 1).toNat (fun r => (jI r, uI w' 141 12 (jI 0)))
    (fun i n hi hp => by
      have b := rk_b hS i
      have at1 : f_X11_at w' (1 : Int32) = some (jI (tS T 1)) := s_at hR'.1 (z := 1) (by decide) (by decide)
      rw [p_X11_planetByAngle_2, at1, bs_p, if_neg (by rw [jI_le (by omega) (by omega) (by omega) (by omega)]; omega), s_rrank hR'.1 hS (by omega) (by omega), bs_p, zl_p, u2_p, if_neg (by rw [eqx _ b.1 b.2]; exact hp), l32_1, jI_add]
      rfl)
    (fun i n hi hp => by
      have b := rk_b hS i
      have at1 : f_X11_at w' (1 : Int32) = some (jI (tS T 1)) := s_at hR'.1 (z := 1) (by decide) (by decide)
      rw [p_X11_planetByAngle_2, at1, bs_p, if_neg (by rw [jI_le (by omega) (by omega) (by omega) (by omega)]; omega), s_rrank hR'.1 hS (by omega) (by omega), bs_p, zl_p, u2_p, if_pos (by rw [eqx _ b.1 b.2]; exact hp), s_done]
      rfl)
    (fun n => by
      have at1 : f_X11_at w' (1 : Int32) = some (jI (tS T 1)) := s_at hR'.1 (z := 1) (by decide) (by decide)
      rw [p_X11_planetByAngle_2, e1, at1, bs_p]
      exact if_pos (by rw [jI_le (by omega) (by omega) (by omega) (by omega)]; omega)) 2000 (by omega)
  unfold f_law_2463
  rcases A with ⟨r, r0, r1, r2, r3, r4⟩ | ⟨r3, r4⟩
  · have r4 : p_X10_planetByAngle_2 w (jI x) 2000 (0 : Int32) = _ := r4
    refine lawQI (c := 0) (v := r) hG hC hR (by decide) (by decide) ⟨by omega, by omega⟩ ?_ (fun w' hR' => ?_)
    · refine LQ.val (Sm.refl w) ?_
      unfold f_L_planetByAngle f_X10_planetByAngle
      rw [r4, bs_p, zr_p, bs_p, zr_p, if_pos (show inR (0 : Int32) 1 = true by decide +kernel), wl_p, jI_toL (by omega) (by omega)]
      rfl
    · refine RQ.val (Sm.refl w') rfl ?_
      rcases B w' hR' with ⟨s, s0, s1, s2, s3, s4⟩ | ⟨s3, s4⟩
      · have s4 : p_X11_planetByAngle_2 w' (jI x) 2000 (0 : Int32) = _ := s4
        have rs : s = r := by
          refine Decidable.byContradiction fun z => ?_
          by_cases q : s < r
          · exact r3 s s0 q s2
          · exact s3 r r0 (by omega) r2
        unfold f_X11_planetByAngle
        rw [s4, bs_p, zr_p, rs]
      · exact absurd r2 (s3 r r0 r1)
  · have r4 : p_X10_planetByAngle_2 w (jI x) 2000 (0 : Int32) = _ := r4
    refine lawQI (c := 1) (v := 0) hG hC hR (by decide) (by decide) ⟨by decide, by decide⟩ ?_ (fun w' hR' => ?_)
    · refine LQ.err (Sm.refl w) (by decide) ?_
      unfold f_L_planetByAngle f_X10_planetByAngle
      rw [r4, bs_p, zl_p, bs_p, zl_p]
      rfl
    · refine RQ.err (Sm.refl w') rfl (by decide) ?_
      rcases B w' hR' with ⟨s, s0, s1, s2, s3, s4⟩ | ⟨s3, s4⟩
      · exact absurd s2 (r3 s s0 s1)
      · have s4 : p_X11_planetByAngle_2 w' (jI x) 2000 (0 : Int32) = _ := s4
        unfold f_X11_planetByAngle
        rw [s4, bs_p, zl_p, s_fails]
        rfl
