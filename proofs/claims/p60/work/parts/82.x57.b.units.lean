/-! THE LAW over the units -/
section
variable {w : Wd} {S : Ab}
theorem st_a (h : CSt w 1 S) (hG : Good S) {x : Int} (y : Int32) (xb1 : -2147483648 ≤ x) (xb2 : x < 2147483648) (q : ¬ (0 ≤ x ∧ x < S 0)) : f_X10_checkSameTrain w (jI x) y = some (.inl 0, w) := by
  unfold f_X10_checkSameTrain
  rw [cg_F h hG xb1 xb2 q, bs_p, zl_p]
theorem st_b (h : CSt w 1 S) (hG : Good S) {x y : Int} (q : 0 ≤ x ∧ x < S 0) (yb1 : -2147483648 ≤ y) (yb2 : y < 2147483648) (q2 : ¬ (0 ≤ y ∧ y < S 0)) : f_X10_checkSameTrain w (jI x) (jI y) = some (.inl 0, w) := by
  unfold f_X10_checkSameTrain
  rw [cg_T h hG q, bs_p, zr_p, cg_F h hG yb1 yb2 q2, bs_p, zl_p]
theorem st_0 (h : CSt w 1 S) (hG : Good S) {x y : Int} (q : 0 ≤ x ∧ x < S 0) (q2 : 0 ≤ y ∧ y < S 0) (z : TU S x y = 0) : ∃ w9, f_X10_checkSameTrain w (jI x) (jI y) = some (.inl 4, w9) ∧ Sm KT w w9 ∧ CSt w9 1 S := by
  have hg := hG.1
  obtain ⟨w3, m, e3, s3, t3, c3⟩ := s_trace hG h q.1 q.2
  refine ⟨w3, ?_, s3, c3⟩
  unfold f_X10_checkSameTrain
  rw [cg_T h hG q, bs_p, zr_p, cg_T h hG q2, bs_p, zr_p, e3, bs_p, s_holds t3 (tu_b hG q.1 q.2) q2.1 (by omega), bs_p]
  exact if_pos (bz_z (fun c => c z))
theorem stu_1 (h : CSt w 1 S) (hG : Good S) {x y : Int} (q : 0 ≤ x ∧ x < S 0) (q2 : 0 ≤ y ∧ y < S 0) (z : TU S x y ≠ 0) : ∃ w9, f_X10_checkSameTrain w (jI x) (jI y) = some (.inr (), w9) ∧ Sm KT w w9 ∧ CSt w9 1 S := by
  have hg := hG.1
  obtain ⟨w3, m, e3, s3, t3, c3⟩ := s_trace hG h q.1 q.2
  refine ⟨w3, ?_, s3, c3⟩
  unfold f_X10_checkSameTrain
  rw [cg_T h hG q, bs_p, zr_p, cg_T h hG q2, bs_p, zr_p, e3, bs_p, s_holds t3 (tu_b hG q.1 q.2) q2.1 (by omega), bs_p]
  exact if_neg (bz_n z)
theorem ur_E (h : RSt w 142 0 S) (hG : Good S) {x y : Int} (xb1 : -2147483648 ≤ x) (xb2 : x < 2147483648) (yb1 : -2147483648 ≤ y) (yb2 : y < 2147483648) (q : ¬ ((0 ≤ x ∧ x < S 0) ∧ 0 ≤ y ∧ y < S 0)) : f_X11_unitsPerTurn w (jI x) (jI y) = some (jL 0, uI w 141 12 (jI 1)) := by
  unfold f_X11_unitsPerTurn
  rw [s_rAreGears h hG xb1 xb2 yb1 yb2, bs_p, if_pos (bz_z q)]
  show (wl (uI w 141 12 (jI 1)) fun w4 => _) = _
  rw [wl_p, if_neg (by rw [gI_uI, if_pos ⟨rfl, rfl⟩]; decide +kernel)]
  rfl
theorem ur_V (h : RSt w 142 0 S) (hG : Good S) {x y : Int} (q : 0 ≤ x ∧ x < S 0) (q2 : 0 ≤ y ∧ y < S 0) : ∃ w8, Sm KU (uI w 141 12 (jI 0)) w8 ∧ f_X11_unitsPerTurn w (jI x) (jI y) = some (jL (TU S x y), uI w8 141 12 (jI (if TU S x y = 0 then 2 else 0))) := by
  have hg := hG.1
  obtain ⟨w6, e6, s6, t6, r6⟩ := s_rTurns hG (u12 (v := jI 0) h) q.1 q.2
  refine ⟨w6, s6, ?_⟩
  have k := t6 y q2.1 (by omega)
  have ci : (jI y).toNatClampNeg = y.toNat := jI_clamp (by omega) (by omega)
  have ir : inR (jI y) 10 = true := by rw [inR_j (by omega) (by omega)]; omega
  unfold f_X11_unitsPerTurn
  rw [s_rAreGears h hG (by omega) (by omega) (by omega) (by omega), bs_p, if_neg (bz_n ⟨q, q2⟩)]
  show (wl (uI w 141 12 (jI 0)) fun w15 => _) = _
  rw [wl_p, if_pos (by rw [gI_uI, if_pos ⟨rfl, rfl⟩]; decide +kernel), e6, bs_p, if_pos ir, ci, k.2]
  by_cases z : TU S x y = 0
  · rw [if_pos (bz_z (fun c => c z)), if_pos z, wl_p, if_pos ir]
    show some (gL w6 148 y.toNat, _) = _
    rw [k.1]
    rfl
  · rw [if_neg (bz_n z), if_neg z, wl_p, if_pos ir]
    show some (gL w6 148 y.toNat, _) = _
    rw [k.1]
    rfl
end
theorem RQ.val3 {α : Type} {f : Int → α} {w w6 : Wd} {M : Option (α × Wd)} {v : Int} (hs : Sm KU (uI w 141 12 (jI 0)) w6) (h : M = some (f v, uI w6 141 12 (jI 0))) : RQ f w M 0 v :=
  ⟨f v, _, h, ((Sm.wI w (Or.inl rfl)).tr (hs.mono fun _ => KU_N)).tr (Sm.wI w6 (Or.inl rfl)), fun i hi _ _ => by rw [gI_uI, if_neg (fun z => hi z.2), hs.iK (by unfold KU; omega), gI_uI, if_neg (fun z => hi z.2)], by rw [gI_uI, if_pos ⟨rfl, rfl⟩], fun _ => rfl⟩
theorem RQ.err3 {α : Type} {f : Int → α} {w w6 : Wd} {M : Option (α × Wd)} {r : α} {c v : Int} (hs : Sm KU (uI w 141 12 (jI 0)) w6) (hc : c ≠ 0) (h : M = some (r, uI w6 141 12 (jI c))) : RQ f w M c v :=
  ⟨r, _, h, ((Sm.wI w (Or.inl rfl)).tr (hs.mono fun _ => KU_N)).tr (Sm.wI w6 (Or.inl rfl)), fun i hi _ _ => by rw [gI_uI, if_neg (fun z => hi z.2), hs.iK (by unfold KU; omega), gI_uI, if_neg (fun z => hi z.2)], by rw [gI_uI, if_pos ⟨rfl, rfl⟩], fun z => absurd z hc⟩
theorem lq_unitsPerTurn {w : Wd} (h : Inv w) (x1 x2 x3 : Int32) : ∃ w1, f_law_1355 w x1 x2 x3 = some w1 ∧ Inv w1 := by
  obtain ⟨T, hG, hC, hR⟩ := h
  obtain ⟨x, rfl, xb1, xb2⟩ := jI_ex x1
  obtain ⟨y, rfl, yb1, yb2⟩ := jI_ex x2
  have hS := hG.1
  have c1 := hC.1
  have R : ∀ w' (r : Int64 × Wd), f_X11_unitsPerTurn w' (jI x) (jI y) = some r → f_X11_unitsPerTurn w' (jI x) (jI y) = some r := by
    intro w' r e
    exact e
  have L : ∀ (r : Nat ⊕ Unit) (w3 : Wd), f_X10_checkSameTrain w (jI x) (jI y) = some (r, w3) → f_X10_unitsPerTurn w (jI x) (jI y) = zc r (fun k => some (.inl k, w3)) (fun _ => ((f_X10_unitsByChain w3 (jI x) (jI y)).bind fun z => u2 z fun r6 w7 => (some ((.inr r6), w7)))) := by
    intro r w3 e
    unfold f_X10_unitsPerTurn
    rw [e, bs_p, u2_p]
  unfold f_law_1355
  by_cases q : (0 ≤ x ∧ x < tS T 0) ∧ 0 ≤ y ∧ y < tS T 0
  · by_cases z : TU (tS T) x y = 0
    · refine lawQL (c := 2) (v := 0) hG hC hR (by decide) (by decide) ?_ (fun w' hR' => ?_)
      · obtain ⟨w9, e9, s9, c9⟩ := st_0 c1 hS q.1 q.2 z
        refine LQ.err (s9.mono fun _ => KT_Y) (by decide) ?_
        unfold f_L_unitsPerTurn
        rw [L _ _ e9]
        rfl
      · obtain ⟨w8, s8, e8⟩ := ur_V hR'.1 hS q.1 q.2
        rw [if_pos z] at e8
        exact RQ.err3 s8 (by decide) (R _ _ e8)
    · refine lawQL (c := 0) (v := TU (tS T) x y) hG hC hR (by decide) (by decide) ?_ (fun w' hR' => ?_)
      · obtain ⟨w9, e9, s9, c9⟩ := stu_1 c1 hS q.1 q.2 z
        obtain ⟨w7, e7, s7, c7⟩ := s_chain hS c9 q.1 q.2
        refine LQ.val ((s9.tr s7).mono fun _ => KT_Y) ?_
        unfold f_L_unitsPerTurn
        rw [L _ _ e9, zr_p, e7]
        rfl
      · obtain ⟨w8, s8, e8⟩ := ur_V hR'.1 hS q.1 q.2
        rw [if_neg z] at e8
        exact RQ.val3 s8 (R _ _ e8)
  · refine lawQL (c := 1) (v := 0) hG hC hR (by decide) (by decide) ?_ (fun w' hR' => ?_)
    · refine LQ.err (Sm.refl w) (by decide) ?_
      have e9 : f_X10_checkSameTrain w (jI x) (jI y) = some (.inl 0, w) := by
        by_cases qx : 0 ≤ x ∧ x < tS T 0
        · exact st_b c1 hS qx yb1 yb2 (fun c => q ⟨qx, c⟩)
        · exact st_a c1 hS _ xb1 xb2 qx
      unfold f_L_unitsPerTurn
      rw [L _ _ e9]
      rfl
    · exact RQ.err (Sm.refl w') rfl (by decide) (R _ _ (ur_E hR'.1 hS xb1 xb2 yb1 yb2 q))
theorem lq_unitsPerTurnByLowest {w : Wd} (h : Inv w) (x1 x2 x3 : Int32) : ∃ w1, f_law_1422 w x1 x2 x3 = some w1 ∧ Inv w1 := by
  obtain ⟨T, hG, hC, hR⟩ := h
  obtain ⟨x, rfl, xb1, xb2⟩ := jI_ex x1
  obtain ⟨y, rfl, yb1, yb2⟩ := jI_ex x2
  have hS := hG.1
  have c1 := hC.1
  have R : ∀ w' (r : Int64 × Wd), f_X11_unitsPerTurn w' (jI x) (jI y) = some r → f_X11_unitsPerTurnByLowest w' (jI x) (jI y) = some r := by
    intro w' r e
    unfold f_X11_unitsPerTurnByLowest; rw [e]; rfl
  have L : ∀ (r : Nat ⊕ Unit) (w3 : Wd), f_X10_checkSameTrain w (jI x) (jI y) = some (r, w3) → f_X10_unitsPerTurnByLowest w (jI x) (jI y) = zc r (fun k => some (.inl k, w3)) (fun _ => ((f_X10_unitsByLowest w3 (jI x) (jI y)).bind fun z => u2 z fun r6 w7 => (some ((.inr r6), w7)))) := by
    intro r w3 e
    unfold f_X10_unitsPerTurnByLowest
    rw [e, bs_p, u2_p]
  unfold f_law_1422
  by_cases q : (0 ≤ x ∧ x < tS T 0) ∧ 0 ≤ y ∧ y < tS T 0
  · by_cases z : TU (tS T) x y = 0
    · refine lawQL (c := 2) (v := 0) hG hC hR (by decide) (by decide) ?_ (fun w' hR' => ?_)
      · obtain ⟨w9, e9, s9, c9⟩ := st_0 c1 hS q.1 q.2 z
        refine LQ.err (s9.mono fun _ => KT_Y) (by decide) ?_
        unfold f_L_unitsPerTurnByLowest
        rw [L _ _ e9]
        rfl
      · obtain ⟨w8, s8, e8⟩ := ur_V hR'.1 hS q.1 q.2
        rw [if_pos z] at e8
        exact RQ.err3 s8 (by decide) (R _ _ e8)
    · refine lawQL (c := 0) (v := TU (tS T) x y) hG hC hR (by decide) (by decide) ?_ (fun w' hR' => ?_)
      · obtain ⟨w9, e9, s9, c9⟩ := stu_1 c1 hS q.1 q.2 z
        obtain ⟨w7, e7, s7, c7⟩ := s_lowest hS c9 q.1 q.2 z
        refine LQ.val ((s9.tr s7).mono fun _ => KT_Y) ?_
        unfold f_L_unitsPerTurnByLowest
        rw [L _ _ e9, zr_p, e7]
        rfl
      · obtain ⟨w8, s8, e8⟩ := ur_V hR'.1 hS q.1 q.2
        rw [if_neg z] at e8
        exact RQ.val3 s8 (R _ _ e8)
  · refine lawQL (c := 1) (v := 0) hG hC hR (by decide) (by decide) ?_ (fun w' hR' => ?_)
    · refine LQ.err (Sm.refl w) (by decide) ?_
      have e9 : f_X10_checkSameTrain w (jI x) (jI y) = some (.inl 0, w) := by
        by_cases qx : 0 ≤ x ∧ x < tS T 0
        · exact st_b c1 hS qx yb1 yb2 (fun c => q ⟨qx, c⟩)
        · exact st_a c1 hS _ xb1 xb2 qx
      unfold f_L_unitsPerTurnByLowest
      rw [L _ _ e9]
      rfl
    · exact RQ.err (Sm.refl w') rfl (by decide) (R _ _ (ur_E hR'.1 hS xb1 xb2 yb1 yb2 q))
