/-! THE LAW over the two that are built: segments 10 to 310, and the last -/
theorem rat_ok {T : TS} (hG : InvG T) {w : Wd} (hC : InvC w T) {x b : Int} (q : 0 ≤ x ∧ x < tS T 0) (hb : b = 0 ∨ b = 1) : ∃ q1 : Int × Ab, (0 ≤ q1.1 ∧ q1.1 < 1000 ∧ Good q1.2) ∧ tS T 0 ≤ q1.2 0 ∧ (∀ w, CSt w 1 (tS T) → ∃ r w', f_X1_putRatchet w (jI x) (jI b) = some (r, w') ∧ CO w w' r (tS T) (.inr q1)) ∧ ∀ w, InvC w T → ∃ w' r, f_X10_setRatchet w (jI x) (jI b) = some (.inr r, w') ∧ InvC w' (psh T q1.2) := by
  have hg := hG.1.1
  obtain ⟨es, o, h5, hO, hM, hc, k⟩ := mu_ratchet hG (jI x) hb
  rcases o with e | q1
  · exfalso
    obtain ⟨r, w2, e2, s2, c2⟩ := hc w hC.1
    have c2 : r = jI (-(e : Int) - 1) ∧ _ := c2
    have e5 := h5 e hO
    have hr : ∃ v : Int, (v = 0 ∨ v = 1) ∧ r = jI v := by
      have e2 : f_X1_putRatchet w (jI x) (jI b) = some (r, w2) := e2
      have ig : f_X7_isGear w (jI x) = some (jI 1) := by
        rw [s_isGear hC.1 hG.1 (by omega) (by omega), bZ_pos q]
      unfold f_X1_putRatchet at e2
      rw [ig, bs_p, if_neg (show ¬ jI 1 = 0 by decide +kernel), if_pos (show inR (jI x) 10 = true by rw [inR_j (by omega) (by omega)]; omega), if_pos (show inR (jI x) 10 = true by rw [inR_j (by omega) (by omega)]; omega), wl_p] at e2
      split at e2
      · cases e2
        exact ⟨0, Or.inl rfl, rfl⟩
      · cases e2
        exact ⟨1, Or.inr rfl, rfl⟩
    obtain ⟨v, hv, rfl⟩ := hr
    have := (iff_of_eq (jI_eq (by omega) (by omega) (by omega) (by omega))).mp c2.1
    omega
  · refine ⟨q1, hO, hM, hc, fun w hw => ?_⟩
    obtain ⟨w', e, c⟩ := k w hw
    exact ⟨w', _, e, c⟩
theorem rat_co {S : Ab} {x b : Int} {q1 : Int × Ab} (h : ∀ w, CSt w 1 S → ∃ r w', f_X1_putRatchet w (jI x) (jI b) = some (r, w') ∧ CO w w' r S (.inr q1)) {h1 : Int → Int} {N k : Nat} {w : Wd} (hk : k < 60) (hkN : k < N) (hw : RN N h1 k S w) (hv : (cv h1 (stt h1 k) = 8 ∧ b = 1) ∨ (cv h1 (stt h1 k) = 9 ∧ b = 0)) (ha : cA h1 (stt h1 k) = x) : ∃ r w', f_X10_carryOut w (jI (k : Int)) = some (r, w') ∧ CO w w' r S (.inr (q1.1, q1.2)) := by
  obtain ⟨r, w', e, c⟩ := h w hw.1
  obtain ⟨l1, l2, l3⟩ := hw.2.1 k hkN
  rw [ha] at l2
  refine ⟨r, w', ?_, c⟩
  rcases hv with ⟨v, rfl⟩ | ⟨v, rfl⟩
  · rw [v] at l1
    rw [co_ratchet hk l1 l2 l3]
    exact e
  · rw [v] at l1
    rw [co_free hk l1 l2 l3]
    exact e
/-- the last entries of the log -/
def Dk (T : TS) (k : Int) (f : Int → Ab) : Prop := k ≤ tN T ∧ ∀ j, 0 ≤ j → j < k → tL T (tN T - 1 - j) = f j
theorem Dk.psh {T : TS} {k : Int} {f : Int → Ab} (h : Dk T k f) (hk : k ≤ 7) (n0 : 0 ≤ tN T) (n8 : tN T ≤ 8) (S' : Ab) : Dk (psh T S') (k + 1) (fun j => if j = 0 then tS T else f (j - 1)) := by
  refine ⟨?_, fun j j0 j1 => ?_⟩
  · show k + 1 ≤ (if tN T = 8 then 8 else tN T + 1)
    have := h.1
    split <;> omega
  · show (if tN T = 8 then (if (if tN T = 8 then 8 else tN T + 1) - 1 - j < 7 then tL T ((if tN T = 8 then 8 else tN T + 1) - 1 - j + 1) else tS T) else (if (if tN T = 8 then 8 else tN T + 1) - 1 - j = tN T then tS T else tL T ((if tN T = 8 then 8 else tN T + 1) - 1 - j))) = if j = 0 then tS T else f (j - 1)
    have k1 := h.1
    by_cases q : tN T = 8
    · rw [if_pos q, if_pos q]
      by_cases y : j = 0
      · rw [if_neg (by omega), if_pos y]
      · rw [if_pos (by omega), if_neg y, ← h.2 (j - 1) (by omega) (by omega), q]
        exact congrArg (tL T) (by omega)
    · rw [if_neg q, if_neg q]
      by_cases y : j = 0
      · rw [if_pos (by omega), if_pos y]
      · rw [if_neg (by omega), if_neg y, ← h.2 (j - 1) (by omega) (by omega)]
        exact congrArg (tL T) (by omega)
theorem Dk.z (T : TS) (f : Int → Ab) (n0 : 0 ≤ tN T) : Dk T 0 f := ⟨n0, fun j j0 j1 => by omega⟩
theorem k_undo {w : Wd} {T : TS} {k : Int} {f : Int → Ab} (hG : InvG T) (hC : InvC w T) (h : Dk T (k + 1) f) (k0 : 0 ≤ k) : ∃ w' r, f_X10_undo w = some (.inr r, w') ∧ ¬ r < 0 ∧ InvC w' (cutL T (tN T - 1) (f 0)) ∧ InvG (cutL T (tN T - 1) (f 0)) ∧ Dk (cutL T (tN T - 1) (f 0)) k (fun j => f (j + 1)) := by
  have n8 := hG.2.2.2.1
  have k1 := h.1
  have e0 : tL T (tN T - 1) = f 0 := by
    have := h.2 0 (by omega) (by omega)
    rw [show tN T - 1 - 0 = tN T - 1 by omega] at this
    exact this
  obtain ⟨w3, e, -, c⟩ := s_cUndo hG hC (by omega)
  rw [e0] at c
  refine ⟨w3, _, e, ?_, c, hG.cutL (by rw [← e0]; exact hG.2.2.2.2.1 _ (by omega) (by omega)) (by omega) (by omega), ?_, fun j j0 j1 => ?_⟩
  · rw [show (0 : Int32) = jI 0 from rfl, jI_lt (by omega) (by omega) (by omega) (by omega)]
    omega
  · show k ≤ tN T - 1
    omega
  · show tL T (tN T - 1 - 1 - j) = f (j + 1)
    rw [← h.2 (j + 1) (by omega) (by omega)]
    exact congrArg (tL T) (by omega)
/-- the state's number -/
def SV (S : Ab) (v : Int32) : Prop := ∀ w, CSt w 1 S → ∃ w', f_L_state w = some (v, w') ∧ Sm KY w w'
theorem SV.at {S : Ab} {v : Int32} (h : SV S v) {w : Wd} {T : TS} (hC : InvC w T) (e : tS T = S) : ∃ w', f_L_state w = some (v, w') ∧ InvC w' T := by
  obtain ⟨w', a, b⟩ := h w (by rw [← e]; exact hC.1)
  exact ⟨w', a, hC.read b⟩
/-- what holds of the first object from here on -/
def XI (S : Ab) (F : Int) (w : Wd) : Prop := ∃ T, InvG T ∧ InvC w T ∧ tS T = S ∧ tC T = 0 ∧ tH T = 1 ∧ tP T = S ∧ tF T = F
def l13 : List Int := [114, 97, 116, 99, 104, 101, 116, 32, 48, 59, 102, 114, 101, 101, 32, 48, 59, 114, 97, 116, 99, 104, 101, 116, 32, 49]
theorem t13 : txK 13 l13 = true := by decide +kernel
theorem p13 : prs l13 2 (-1) = true := by decide +kernel
theorem x_10 {w : Wd} {T : TS} (hG : InvG T) (hC : InvC w T) (h4 : 4 ≤ tS T 0) (hz : tC T = 0) : ∃ (x y : Wd) (v : Int32) (TX TY : TS) (S1 S2 S3 : Ab), f_law_10 w w = some (x, y, jI (tS T 0), v) ∧ SV (tS T) v ∧ InvG TX ∧ InvC x TX ∧ TX = psh (emp (wtx (putP T) l13)) S3 ∧ InvG TY ∧ InvC y TY ∧ TY = psh (psh (psh T S1) S2) S3 := by
  have hg := hG.1.1
  obtain ⟨v, hv⟩ := k_state hG.1
  have hv : SV (tS T) v := hv
  obtain ⟨q1, o1, m1, a1, b1⟩ := rat_ok hG hC (x := 0) (b := 1) ⟨by decide, by omega⟩ (Or.inr rfl)
  obtain ⟨y1, r1, f1, c1⟩ := b1 w hC
  have G1 := hG.psh o1.2.2
  obtain ⟨q2, o2, m2, a2, b2⟩ := rat_ok G1 c1 (x := 0) (b := 0) ⟨by decide, by show 0 < q1.2 0; omega⟩ (Or.inl rfl)
  have m2 : q1.2 0 ≤ q2.2 0 := m2
  have a2 : ∀ w, CSt w 1 q1.2 → ∃ r w', f_X1_putRatchet w (jI 0) (jI 0) = some (r, w') ∧ CO w w' r q1.2 (.inr q2) := a2
  obtain ⟨y2, r2, f2, c2⟩ := b2 y1 c1
  have G2 := G1.psh o2.2.2
  obtain ⟨q3, o3, m3, a3, b3⟩ := rat_ok G2 c2 (x := 1) (b := 1) ⟨by decide, by show 1 < q2.2 0; omega⟩ (Or.inr rfl)
  have a3 : ∀ w, CSt w 1 q2.2 → ∃ r w', f_X1_putRatchet w (jI 1) (jI 1) = some (r, w') ∧ CO w w' r q2.2 (.inr q3) := a3
  obtain ⟨y3, r3, f3, c3⟩ := b3 y2 c2
  have G3 := G2.psh o3.2.2
  obtain ⟨v3, hv3⟩ := k_state o3.2.2
  have hv3 : SV q3.2 v3 := hv3
  obtain ⟨y4, f4, c4⟩ := hv3.at c3 rfl
  obtain ⟨x1, e1, d1⟩ := k_save hG hC
  obtain ⟨x2, e2, d2⟩ := hv.at d1 rfl
  obtain ⟨x3, e3, d3⟩ := k_put t13 hG.putP d2 hz
  have ok := txK_c t13
  obtain ⟨z0, z1, z2, z3, go⟩ := k_begin ok p13 hG.putP d3
  have z1 : RN 3 (hl l13) 0 (tS T) z0 := z1
  obtain ⟨s1, u1, g1, i1⟩ := rat_co a1 (k := 0) (by decide) (by decide) z1 (Or.inl ⟨by decide +kernel, rfl⟩) (by decide +kernel)
  obtain ⟨j1, k1, n1⟩ := rn_step (f := 1999) (by decide) (by decide) z1 g1 i1 o1.1 o1.2.1
  obtain ⟨s2, u2, g2, i2⟩ := rat_co a2 (k := 1) (by decide) (by decide) k1 (Or.inr ⟨by decide +kernel, rfl⟩) (by decide +kernel)
  obtain ⟨j2, k2, n2⟩ := rn_step (f := 1998) (by decide) (by decide) k1 g2 i2 o2.1 o2.2.1
  obtain ⟨s3, u3, g3, i3⟩ := rat_co a3 (k := 2) (by decide) (by decide) k2 (Or.inl ⟨by decide +kernel, rfl⟩) (by decide +kernel)
  obtain ⟨j3, k3, n3⟩ := rn_step (f := 1997) (by decide) (by decide) k2 g3 i3 o3.1 o3.2.1
  have j4 := rn_end (f := 1996) (by decide) k3
  obtain ⟨x4, e4, d4⟩ := k_fin (K := 2) hG.putP (by decide) z2 z3 z1.2.2 go (j1.trans (j2.trans (j3.trans j4))) ((n1.tr n2).tr n3) k3.1
  obtain ⟨x5, e5, d5⟩ := hv3.at d4 rfl
  have GX : InvG (psh (emp (wtx (putP T) l13)) q3.2) := (hG.putP.wtx ok).emp.psh o3.2.2
  refine ⟨x5, y4, v, _, _, q1.2, q2.2, q3.2, ?_, hv, GX, d5, rfl, G3, c4, rfl⟩
  have f1 : f_X10_setRatchet w (0 : Int32) (1 : Int32) = some (.inr r1, y1) := f1
  have f2 : f_X10_setRatchet y1 (0 : Int32) (0 : Int32) = some (.inr r2, y2) := f2
  have f3 : f_X10_setRatchet y2 (1 : Int32) (1 : Int32) = some (.inr r3, y3) := f3
  unfold f_law_10
  rw [e1, bs_p, u2_p, e2, bs_p, u2_p, e3, bs_p, f1, bs_p, u2_p, zr_p, f2, bs_p, u2_p, zr_p, f3, bs_p, u2_p, zr_p, e4, bs_p, u2_p, zr_p, if_pos (show jI ((2 + 1 : Nat) : Int) = (3 : Int32) from rfl), e5, bs_p, u2_p, f4, bs_p, u2_p, if_pos rfl]
theorem x_72 {x y : Wd} {v r : Int32} {T TX TY : TS} {S1 S2 S3 : Ab} (hG : InvG T) (hv : SV (tS T) v) (GX : InvG TX) (cx : InvC x TX) (eX : TX = psh (emp (wtx (putP T) l13)) S3) (GY : InvG TY) (cy : InvC y TY) (eY : TY = psh (psh (psh T S1) S2) S3) : ∃ x2 y2, f_law_72 x y r v = some (x2, y2) ∧ ∃ F, XI (tS T) F x2 := by
  have n8 := hG.2.2.2.1
  have DX : Dk TX (0 + 1) (fun j => if j = 0 then tS T else (fun _ => tS T) (j - 1)) := by
    rw [eX]
    exact (Dk.z (emp (wtx (putP T) l13)) (fun _ => tS T) n8.1).psh (by decide) n8.1 n8.2 S3
  have m1 : 0 ≤ tN (psh T S1) ∧ tN (psh T S1) ≤ 8 := by
    show 0 ≤ (if tN T = 8 then 8 else tN T + 1) ∧ (if tN T = 8 then 8 else tN T + 1) ≤ 8
    split <;> omega
  have m2 : 0 ≤ tN (psh (psh T S1) S2) ∧ tN (psh (psh T S1) S2) ≤ 8 := by
    show 0 ≤ (if tN (psh T S1) = 8 then 8 else tN (psh T S1) + 1) ∧ (if tN (psh T S1) = 8 then 8 else tN (psh T S1) + 1) ≤ 8
    split <;> omega
  have D1 := (Dk.z T (fun _ => tS T) n8.1).psh (by decide) n8.1 n8.2 S1
  have D2 := D1.psh (by decide) m1.1 m1.2 S2
  have D3 := D2.psh (by decide) m2.1 m2.2 S3
  rw [← eY] at D3
  obtain ⟨x1, r1, e1, p1, c1, g1, -⟩ := k_undo GX cx DX (by decide)
  obtain ⟨x2, e2, c2⟩ := hv.at c1 rfl
  obtain ⟨y1, s1, f1, u1, d1, h1, D4⟩ := k_undo (k := 0 + 1 + 1) GY cy D3 (by decide)
  obtain ⟨y2, s2, f2, u2, d2, h2, D5⟩ := k_undo (k := 0 + 1) h1 d1 D4 (by decide)
  obtain ⟨y3, s3, f3, u3, d3, h3, -⟩ := k_undo (k := 0) h2 d2 D5 (by decide)
  obtain ⟨y4, f4, d4⟩ := hv.at d3 rfl
  refine ⟨x2, y4, ?_, tF TX, _, g1, c2, rfl, ?_, ?_, ?_, rfl⟩
  · unfold f_law_72
    rw [e1, bs_p, u2_p, zr_p, if_neg p1, e2, bs_p, u2_p, if_pos rfl, f1, bs_p, u2_p, zr_p, if_neg u1, f2, bs_p, u2_p, zr_p, if_neg u2, f3, bs_p, u2_p, zr_p, if_neg u3, f4, bs_p, u2_p, if_pos rfl]
  · rw [eX]; rfl
  · rw [eX]; rfl
  · rw [eX]; rfl
/-- a script that is refused at a command -/
def l14 : List Int := [102, 114, 101, 101, 32, 48, 59, 103, 101, 97, 114, 32, 55]
def l15 : List Int := [99, 117, 116, 32, 48, 48]
theorem t14 : txK 14 l14 = true := by decide +kernel
theorem p14 : prs l14 1 (-1) = true := by decide +kernel
theorem t15 : txK 15 l15 = true := by decide +kernel
theorem p15 : prs l15 0 (-1) = true := by decide +kernel
theorem k_failed {w : Wd} {T : TS} (hC : InvC w T) (f0 : 0 ≤ tF T) (f1 : tF T ≤ 60) : f_X10_failedCommand w = some (.inr (jI (tF T))) := by
  unfold f_X10_failedCommand
  have e : gI w 0 12 = jI (tF T) := hC.2.2.2.2.2.2.2.1
  rw [e, if_neg (by rw [show (-1 : Int32) = jI (-1) from rfl, jI_eq (by omega) (by omega) (by omega) (by omega)]; omega)]
theorem k_errpos {w : Wd} {T : TS} (hC : InvC w T) (f0 : 0 ≤ tE T) (f1 : tE T ≤ 60) : f_X10_errorPosition w = some (.inr (jI (tE T))) := by
  unfold f_X10_errorPosition
  have e : gI w 0 11 = jI (tE T) := hC.2.2.2.2.2.2.1
  rw [e, if_neg (by rw [show (-1 : Int32) = jI (-1) from rfl, jI_eq (by omega) (by omega) (by omega) (by omega)]; omega)]
theorem runs_2 {w w' : Wd} (e : f_X10_runScript w = some (.inl 2, w')) : f_L_runs w = some ((-2 : Int32), w') := by
  unfold f_L_runs
  rw [e, bs_p, u2_p, zl_p, if_neg (by decide), if_pos rfl]
theorem runs_1 {w w' : Wd} (e : f_X10_runScript w = some (.inl 1, w')) : f_L_runs w = some ((-1 : Int32), w') := by
  unfold f_L_runs
  rw [e, bs_p, u2_p, zl_p, if_pos rfl]
theorem x_120 {S : Ab} {F : Int} {x y : Wd} {v r : Int32} (h4 : 4 ≤ S 0) (hv : SV S v) (h : XI S F x) : ∃ x2, f_law_120 x y r v = some (x2, y) ∧ XI S 1 x2 := by
  obtain ⟨T, hG, hC, rfl, hz, hH, hP, -⟩ := h
  have hg := hG.1.1
  obtain ⟨w1, e1, d1⟩ := k_put t14 hG hC hz
  have ok := txK_c t14
  obtain ⟨z0, z1, z2, z3, go⟩ := k_begin ok p14 hG d1
  have z1 : RN 2 (hl l14) 0 (tS T) z0 := z1
  obtain ⟨q1, o1, m1, a1, -⟩ := rat_ok hG hC (x := 0) (b := 0) ⟨by decide, by omega⟩ (Or.inl rfl)
  obtain ⟨s1, u1, g1, i1⟩ := rat_co a1 (k := 0) (by decide) (by decide) z1 (Or.inr ⟨by decide +kernel, rfl⟩) (by decide +kernel)
  obtain ⟨j1, k1, n1⟩ := rn_step (f := 1999) (by decide) (by decide) z1 g1 i1 o1.1 o1.2.1
  obtain ⟨l1, l2, l3⟩ := k1.2.1 1 (by decide)
  have g2 : f_X10_carryOut u1 (jI ((1 : Nat) : Int)) = some (jI (-2), u1) := by
    rw [show cv (hl l14) (stt (hl l14) 1) = 0 by decide +kernel] at l1
    rw [show cA (hl l14) (stt (hl l14) 1) = 7 by decide +kernel] at l2
    rw [co_gear (by decide) l1 l2 l3]
    obtain ⟨r3, hr, ⟨rfl, hx⟩ | ⟨rfl, hx⟩⟩ := s_tooth (w := u1) (t := 7) (by decide) (by decide)
    · unfold f_X1_putGear
      rw [hr, bs_p, if_pos (show jI 0 = 0 from rfl)]
      rfl
    · exact absurd hx (by unfold tooth; omega)
  have j2 := rn_no (f := 1998) (by decide) (by decide) k1 g2 (by decide) (by decide)
  obtain ⟨w2, e2, d2⟩ := k_ref hG z2 z3 go (j1.trans j2) n1
  obtain ⟨w3, e3, d3⟩ := hv.at d2 rfl
  have fc := k_failed d2 (by show (0 : Int) ≤ ((1 : Nat) : Int); decide) (by show ((1 : Nat) : Int) ≤ 60; decide)
  have fc : f_X10_failedCommand w2 = some (.inr (1 : Int32)) := fc
  refine ⟨w3, ?_, _, ((hG.wtx ok).emp).fai (e := ((1 : Nat) : Int)) ⟨by decide, by decide⟩, d3, rfl, rfl, hH, hP, rfl⟩
  unfold f_law_120
  rw [e1, bs_p, runs_2 e2, bs_p, u2_p, if_pos rfl, fc, bs_p, zr_p, if_pos rfl, e3, bs_p, u2_p, if_pos rfl]
theorem x_154 {S : Ab} {F : Int} {x y : Wd} {v r : Int32} (h4 : 4 ≤ S 0) (hv : SV S v) (h : XI S F x) : ∃ x2, f_law_154 x y r v = some (x2, y) ∧ XI S 0 x2 := by
  obtain ⟨T, hG, hC, rfl, hz, hH, hP, -⟩ := h
  have hg := hG.1.1
  obtain ⟨w1, e1, d1⟩ := k_put t15 hG hC hz
  have ok := txK_c t15
  obtain ⟨z0, z1, z2, z3, go⟩ := k_begin ok p15 hG d1
  have z1 : RN 1 (hl l15) 0 (tS T) z0 := z1
  obtain ⟨l1, l2, l3⟩ := z1.2.1 0 (by decide)
  have g2 : f_X10_carryOut z0 (jI ((0 : Nat) : Int)) = some (jI (-5), z0) := by
    rw [show cv (hl l15) (stt (hl l15) 0) = 3 by decide +kernel] at l1
    rw [show cA (hl l15) (stt (hl l15) 0) = 0 by decide +kernel] at l2
    rw [show cB (hl l15) (stt (hl l15) 0) = 0 by decide +kernel] at l3
    rw [co_cut (by decide) l1 l2 l3]
    have ig : f_X7_isGear z0 (jI 0) = some (jI 1) := by
      rw [s_isGear z1.1 hG.1 (by decide) (by decide), bZ_pos ⟨by decide, by omega⟩]
    have z : tS T (92 + 10 * 0 + 0) = 0 := by
      have k := hG.1.2.2.2.1 0 0 (by decide) (by decide) (by decide) (by decide)
      by_cases y : tS T (92 + 10 * 0 + 0) = 0
      · exact y
      · exact absurd rfl (k.2.2 y).1
    have jo := s_jointOf z1.1 (a := 0) (b := 0) (by decide) (by decide) (by decide) (by decide)
    rw [z] at jo
    unfold f_X1_cut
    rw [ig, bs_p, if_neg (show ¬ jI 1 = 0 by decide +kernel), bs_p, if_neg (show ¬ jI 1 = 0 by decide +kernel), jo, bs_p, if_pos (show jI (jk 0) = 0 from rfl)]
    rfl
  have j2 := rn_no (f := 1999) (by decide) (by decide) z1 g2 (by decide) (by decide)
  obtain ⟨w2, e2, d2⟩ := k_ref hG z2 z3 go j2 (Sm.refl z0)
  obtain ⟨w3, e3, d3⟩ := hv.at d2 rfl
  have fc := k_failed d2 (by show (0 : Int) ≤ ((0 : Nat) : Int); decide) (by show ((0 : Nat) : Int) ≤ 60; decide)
  have fc : f_X10_failedCommand w2 = some (.inr (0 : Int32)) := fc
  refine ⟨w3, ?_, _, ((hG.wtx ok).emp).fai (e := ((0 : Nat) : Int)) ⟨by decide, by decide⟩, d3, rfl, rfl, hH, hP, rfl⟩
  unfold f_law_154
  rw [e1, bs_p, runs_2 e2, bs_p, u2_p, if_pos rfl, fc, bs_p, zr_p, if_pos rfl, e3, bs_p, u2_p, if_pos rfl]
/-- a malformed text -/
theorem x_bad {S : Ab} {F : Int} {x : Wd} {i K : Nat} {l : List Int} {p : Int} (ht : txK i l = true) (hp : prs l K p = true) (p0 : 0 ≤ p) (p1 : p ≤ 60) (h : XI S F x) : ∃ x2, f_L_fails x i (jI p) = some ((1 : Int32), x2) ∧ XI S F x2 := by
  obtain ⟨T, hG, hC, rfl, hz, hH, hP, rfl⟩ := h
  obtain ⟨w1, e1, d1⟩ := k_put ht hG hC hz
  have ok := txK_c ht
  obtain ⟨w2, e2, d2⟩ := k_bad ok hp p0 p1 d1
  have ep := k_errpos d2 p0 p1
  have ep : f_X10_errorPosition w2 = some (.inr (jI p)) := ep
  refine ⟨w2, ?_, _, ((hG.wtx ok).emp).erp ⟨by omega, p1⟩, d2, rfl, rfl, hH, hP, rfl⟩
  unfold f_L_fails
  rw [e1, bs_p, runs_1 e2, bs_p, u2_p, if_pos rfl, ep, bs_p, zr_p, if_pos rfl]
theorem t16 : txK 16 [114] = true := by decide +kernel
theorem p16 : prs [114] 0 1 = true := by decide +kernel
theorem t17 : txK 17 [114, 101] = true := by decide +kernel
theorem p17 : prs [114, 101] 0 2 = true := by decide +kernel
theorem t18 : txK 18 [109, 101, 115, 104, 32, 48] = true := by decide +kernel
theorem p18 : prs [109, 101, 115, 104, 32, 48] 0 6 = true := by decide +kernel
theorem t19 : txK 19 [115, 112, 114, 105, 110, 103, 32, 48] = true := by decide +kernel
theorem p19 : prs [115, 112, 114, 105, 110, 103, 32, 48] 0 8 = true := by decide +kernel
theorem t20 : txK 20 [103, 101, 97, 114, 32, 49, 50, 51, 52] = true := by decide +kernel
theorem p20 : prs [103, 101, 97, 114, 32, 49, 50, 51, 52] 0 8 = true := by decide +kernel
theorem t21 : txK 21 [] = true := by decide +kernel
theorem p21 : prs [] 0 0 = true := by decide +kernel
theorem t22 : txK 22 [111, 105, 108, 32, 48, 59] = true := by decide +kernel
theorem p22 : prs [111, 105, 108, 32, 48, 59] 1 6 = true := by decide +kernel
theorem t23 : txK 23 [114, 120] = true := by decide +kernel
theorem p23 : prs [114, 120] 0 1 = true := by decide +kernel
theorem t24 : txK 24 [114, 117, 110, 32, 48, 32, 49, 50, 51, 52] = true := by decide +kernel
theorem p24 : prs [114, 117, 110, 32, 48, 32, 49, 50, 51, 52] 0 9 = true := by decide +kernel
theorem t25 : txK 25 [122] = true := by decide +kernel
theorem p25 : prs [122] 0 0 = true := by decide +kernel
theorem one_n0 : ¬ (1 : Int32) = 0 := by decide +kernel
theorem x_187 {S : Ab} {x y : Wd} {v r : Int32} (hv : SV S v) (h : XI S 0 x) : ∃ x2, f_law_187 x y r v = some (x2, y) ∧ XI S 0 x2 := by
  obtain ⟨x1, e1, h1⟩ := x_bad t16 p16 (by decide) (by decide) h
  have e1 : f_L_fails x 16 (1 : Int32) = some ((1 : Int32), x1) := e1
  obtain ⟨x2, e2, h2⟩ := x_bad t17 p17 (by decide) (by decide) h1
  have e2 : f_L_fails x1 17 (2 : Int32) = some ((1 : Int32), x2) := e2
  obtain ⟨x3, e3, h3⟩ := x_bad t18 p18 (by decide) (by decide) h2
  have e3 : f_L_fails x2 18 (6 : Int32) = some ((1 : Int32), x3) := e3
  obtain ⟨x4, e4, h4⟩ := x_bad t19 p19 (by decide) (by decide) h3
  have e4 : f_L_fails x3 19 (8 : Int32) = some ((1 : Int32), x4) := e4
  obtain ⟨x5, e5, h5⟩ := x_bad t20 p20 (by decide) (by decide) h4
  have e5 : f_L_fails x4 20 (8 : Int32) = some ((1 : Int32), x5) := e5
  obtain ⟨x6, e6, h6⟩ := x_bad t21 p21 (by decide) (by decide) h5
  have e6 : f_L_fails x5 21 (0 : Int32) = some ((1 : Int32), x6) := e6
  obtain ⟨x7, e7, h7⟩ := x_bad t22 p22 (by decide) (by decide) h6
  have e7 : f_L_fails x6 22 (6 : Int32) = some ((1 : Int32), x7) := e7
  obtain ⟨x8, e8, h8⟩ := x_bad t23 p23 (by decide) (by decide) h7
  have e8 : f_L_fails x7 23 (1 : Int32) = some ((1 : Int32), x8) := e8
  obtain ⟨x9, e9, h9⟩ := x_bad t24 p24 (by decide) (by decide) h8
  have e9 : f_L_fails x8 24 (9 : Int32) = some ((1 : Int32), x9) := e9
  obtain ⟨x10, e10, h10⟩ := x_bad t25 p25 (by decide) (by decide) h9
  have e10 : f_L_fails x9 25 (0 : Int32) = some ((1 : Int32), x10) := e10
  obtain ⟨T, hG, hC, rfl, hz, hH, hP, hF⟩ := h10
  have fc := k_failed hC (by rw [hF]; decide) (by rw [hF]; decide)
  rw [hF] at fc
  have fc : f_X10_failedCommand x10 = some (.inr (0 : Int32)) := fc
  obtain ⟨w3, e11, d3⟩ := hv.at hC rfl
  refine ⟨w3, ?_, T, hG, d3, rfl, hz, hH, hP, hF⟩
  unfold f_law_187
  rw [e1, bs_p, u2_p, if_neg one_n0, e2, bs_p, u2_p, if_neg one_n0, e3, bs_p, u2_p, if_neg one_n0, e4, bs_p, u2_p, if_neg one_n0, e5, bs_p, u2_p, if_neg one_n0, e6, bs_p, u2_p, if_neg one_n0, e7, bs_p, u2_p, if_neg one_n0, e8, bs_p, u2_p, if_neg one_n0, e9, bs_p, u2_p, if_neg one_n0, e10, bs_p, u2_p, if_neg one_n0, fc, bs_p, zr_p, if_pos rfl, e11, bs_p, u2_p, if_pos rfl]
theorem x_310 {sc : Sc} (hL : sc.1 ≤ 1000) {x y : Wd} {l3 l4 : Int32} : ∃ n : Int, 1 ≤ n ∧ n ≤ 4 ∧ f_law_310 x y l3 l4 sc = some (x, y, jI n) := by
  obtain ⟨r, hr⟩ := b_at hL (k := 13) (by decide) (by decide)
  have hr : f_L_at sc (13 : Int32) = some r := hr
  obtain ⟨n, hn, e⟩ := pk_andE r (m := (3 : Int32)) 2 (by decide +kernel)
  refine ⟨1 + (n : Int), by omega, by omega, ?_⟩
  unfold f_law_310
  rw [hr, bs_p, e, nI_j, l32_1, jI_add]
theorem x_1385 {S : Ab} {F : Int} {x y z : Wd} {v l6 : Int32} (hv : SV S v) (h : XI S F x) : ∃ x2, f_law_1385 x y z (jI (S 0)) v l6 = some (x2, y, z) := by
  obtain ⟨T, hG, hC, rfl, hz, hH, hP, -⟩ := h
  obtain ⟨w1, e1, d1⟩ := k_restore hG hC hH
  rw [hP] at e1
  obtain ⟨w2, e2, d2⟩ := hv.at d1 hP
  refine ⟨w2, ?_⟩
  unfold f_law_1385
  rw [e1, bs_p, u2_p, zr_p, if_pos rfl, e2, bs_p, u2_p, if_pos rfl]
