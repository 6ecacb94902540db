/-! A COMMAND carried out, both sides -/
theorem bu_p {α β : Type} (o : Option (α × β)) : (o.bind fun z => u2 z fun r w => some (r, w)) = o := by
  cases o with
  | none => rfl
  | some q => rfl
def OpS (S : Ab) (k i : Nat) (a b : Int) : Prop := ∃ o : Oc, (∀ e, o = .inl e → e < 5) ∧ (∀ q, o = .inr q → 0 ≤ q.1 ∧ q.1 < 1000 ∧ Good q.2) ∧
  (∀ w, CSt w 1 S → gV w k = some i → gI w 137 k = jI a → gI w 138 k = jI b → ∃ r w', f_X10_carryOut w (jI (k : Int)) = some (r, w') ∧ CO w w' r S o) ∧
  ∀ w, RSt w 142 0 S → gI w 150 (3 * k) = jI (cde i) → gI w 150 (3 * k + 1) = jI a → (2 ≤ shp i → gI w 150 (3 * k + 2) = jI b) → ∃ r w', f_X11_carriesOut w (jI ((3 * k : Nat) : Int)) = some (r, w') ∧ Sm KM w w' ∧ (∀ i, i ≠ 12 → gI w' 141 i = gI w 141 i) ∧ zc o (fun _ => ∃ c, 1 ≤ c ∧ c < 100 ∧ gI w' 141 12 = jI c) (fun q => gI w' 141 12 = jI 0 ∧ RSt w' 142 0 q.2)
theorem OpS.of {S : Ab} {k i : Nat} {a b : Int} {es : List Nat} {cd : Nat → Int} {cf rf : Wd → Option (Int32 × Wd)} (h : Op S es cd cf rf) (h5 : ∀ e ∈ es, e < 5) (hcd : ∀ e ∈ es, 0 < cd e ∧ cd e < 100) (hc : ∀ w, gV w k = some i → gI w 137 k = jI a → gI w 138 k = jI b → f_X10_carryOut w (jI (k : Int)) = cf w) (hr : ∀ w, gI w 150 (3 * k) = jI (cde i) → gI w 150 (3 * k + 1) = jI a → (2 ≤ shp i → gI w 150 (3 * k + 2) = jI b) → f_X11_carriesOut w (jI ((3 * k : Nat) : Int)) = rf w) : OpS S k i a b := by
  obtain ⟨o, hO, kc, kr⟩ := h
  refine ⟨o, fun e he => ?_, fun q hq => ?_, fun w g1 g2 g3 g4 => ?_, fun w g1 g2 g3 g4 => ?_⟩
  · subst he
    exact h5 e hO
  · subst hq
    exact hO
  · rw [hc w g2 g3 g4]
    exact kc w g1
  · rw [hr w g2 g3 g4]
    obtain ⟨r, w', e, s, f, z⟩ := kr w g1
    refine ⟨r, w', e, s, f, ?_⟩
    rcases o with e | q
    · have c := hcd e hO
      exact ⟨cd e, by omega, c.2, z⟩
    · exact z.2
section
variable {S : Ab} {k : Nat} {a b : Int}
theorem ops_gear (hG : Good S) (hk : k < 60) (a1 : -2147483648 ≤ a) (a2 : a < 2147483648) (b1 : -2147483648 ≤ b) (b2 : b < 2147483648) : OpS S k 0 a b := by
  have ir : inR (jI (k : Int)) 60 = true := by rw [inR_j (by omega) (by omega)]; omega
  have ck : (jI (k : Int)).toNatClampNeg = k := by rw [jI_clamp (by omega) (by omega)]; omega
  have e1 : jI ((3 * k : Nat) : Int) + (1 : Int32) = jI ((3 * k + 1 : Nat) : Int) := by rw [l32_1, jI_add]; rfl
  have e2 : jI ((3 * k : Nat) : Int) + (2 : Int32) = jI ((3 * k + 2 : Nat) : Int) := by rw [l32_2, jI_add]; rfl
  have c0 : (jI ((3 * k : Nat) : Int)).toNatClampNeg = 3 * k := by rw [jI_clamp (by omega) (by omega)]; omega
  have c1 : (jI ((3 * k + 1 : Nat) : Int)).toNatClampNeg = 3 * k + 1 := by rw [jI_clamp (by omega) (by omega)]; omega
  have c2 : (jI ((3 * k + 2 : Nat) : Int)).toNatClampNeg = 3 * k + 2 := by rw [jI_clamp (by omega) (by omega)]; omega
  refine OpS.of (op_gear hG a1 a2) (by decide) (by decide) (fun w g2 g3 g4 => ?_) (fun w g2 g3 g4 => ?_)
  · show f_X10_carryOut w (jI (k : Int)) = f_X1_putGear w (jI a)
    unfold f_X10_carryOut
    rw [if_pos ir, if_pos ir, if_pos ir, ck, g2, ms_p, if_pos (by decide), if_pos (show inR (nI 0) 13 = true by decide +kernel), if_pos (show nI ((nI 0).toNatClampNeg + 1) = _ by decide +kernel), g3, bu_p]
  · show f_X11_carriesOut w (jI ((3 * k : Nat) : Int)) = f_X11_addsGear w (jI a)
    have g2 : gI w 150 (3 * k) = jI 103 := g2
    unfold f_X11_carriesOut
    rw [e1, e2, if_pos (by rw [inR_j (by omega) (by omega)]; omega), if_pos (by rw [inR_j (by omega) (by omega)]; omega), if_pos (by rw [inR_j (by omega) (by omega)]; omega), c0, c1, g2, if_neg (by decide +kernel), if_neg (by decide +kernel), if_neg (by decide +kernel), if_neg (by decide +kernel), if_pos (show jI 103 = (103 : Int32) from rfl), g3, bu_p]
theorem ops_mesh (hG : Good S) (hk : k < 60) (a1 : -2147483648 ≤ a) (a2 : a < 2147483648) (b1 : -2147483648 ≤ b) (b2 : b < 2147483648) : OpS S k 1 a b := by
  have ir : inR (jI (k : Int)) 60 = true := by rw [inR_j (by omega) (by omega)]; omega
  have ck : (jI (k : Int)).toNatClampNeg = k := by rw [jI_clamp (by omega) (by omega)]; omega
  have e1 : jI ((3 * k : Nat) : Int) + (1 : Int32) = jI ((3 * k + 1 : Nat) : Int) := by rw [l32_1, jI_add]; rfl
  have e2 : jI ((3 * k : Nat) : Int) + (2 : Int32) = jI ((3 * k + 2 : Nat) : Int) := by rw [l32_2, jI_add]; rfl
  have c0 : (jI ((3 * k : Nat) : Int)).toNatClampNeg = 3 * k := by rw [jI_clamp (by omega) (by omega)]; omega
  have c1 : (jI ((3 * k + 1 : Nat) : Int)).toNatClampNeg = 3 * k + 1 := by rw [jI_clamp (by omega) (by omega)]; omega
  have c2 : (jI ((3 * k + 2 : Nat) : Int)).toNatClampNeg = 3 * k + 2 := by rw [jI_clamp (by omega) (by omega)]; omega
  refine OpS.of (op_join hG a1 a2 b1 b2 (k := 1) (Or.inl rfl)) (by decide) (by decide) (fun w g2 g3 g4 => ?_) (fun w g2 g3 g4 => ?_)
  · show f_X10_carryOut w (jI (k : Int)) = f_X1_join w (jI a) (jI b) (jI (jk 1))
    unfold f_X10_carryOut
    rw [if_pos ir, if_pos ir, if_pos ir, ck, g2, ms_p, if_pos (by decide), if_pos (show inR (nI 1) 13 = true by decide +kernel), if_neg (by decide +kernel), if_pos (show nI ((nI 1).toNatClampNeg + 1) = _ by decide +kernel), g3, g4, bu_p]
    rfl
  · show f_X11_carriesOut w (jI ((3 * k : Nat) : Int)) = f_X11_joins w (jI a) (jI b) (jI 1)
    have g2 : gI w 150 (3 * k) = jI 109 := g2
    have g4 := g4 (by decide)
    unfold f_X11_carriesOut
    rw [e1, e2, if_pos (by rw [inR_j (by omega) (by omega)]; omega), if_pos (by rw [inR_j (by omega) (by omega)]; omega), if_pos (by rw [inR_j (by omega) (by omega)]; omega), c0, c1, c2, g2, if_neg (by decide +kernel), if_neg (by decide +kernel), if_neg (by decide +kernel), if_neg (by decide +kernel), if_neg (by decide +kernel), if_pos (show jI 109 = (109 : Int32) from rfl), g3, g4, bu_p]
    rfl
theorem ops_axle (hG : Good S) (hk : k < 60) (a1 : -2147483648 ≤ a) (a2 : a < 2147483648) (b1 : -2147483648 ≤ b) (b2 : b < 2147483648) : OpS S k 2 a b := by
  have ir : inR (jI (k : Int)) 60 = true := by rw [inR_j (by omega) (by omega)]; omega
  have ck : (jI (k : Int)).toNatClampNeg = k := by rw [jI_clamp (by omega) (by omega)]; omega
  have e1 : jI ((3 * k : Nat) : Int) + (1 : Int32) = jI ((3 * k + 1 : Nat) : Int) := by rw [l32_1, jI_add]; rfl
  have e2 : jI ((3 * k : Nat) : Int) + (2 : Int32) = jI ((3 * k + 2 : Nat) : Int) := by rw [l32_2, jI_add]; rfl
  have c0 : (jI ((3 * k : Nat) : Int)).toNatClampNeg = 3 * k := by rw [jI_clamp (by omega) (by omega)]; omega
  have c1 : (jI ((3 * k + 1 : Nat) : Int)).toNatClampNeg = 3 * k + 1 := by rw [jI_clamp (by omega) (by omega)]; omega
  have c2 : (jI ((3 * k + 2 : Nat) : Int)).toNatClampNeg = 3 * k + 2 := by rw [jI_clamp (by omega) (by omega)]; omega
  refine OpS.of (op_join hG a1 a2 b1 b2 (k := 2) (Or.inr rfl)) (by decide) (by decide) (fun w g2 g3 g4 => ?_) (fun w g2 g3 g4 => ?_)
  · show f_X10_carryOut w (jI (k : Int)) = f_X1_join w (jI a) (jI b) (jI (jk 2))
    unfold f_X10_carryOut
    rw [if_pos ir, if_pos ir, if_pos ir, ck, g2, ms_p, if_pos (by decide), if_pos (show inR (nI 2) 13 = true by decide +kernel), if_neg (by decide +kernel), if_neg (by decide +kernel), if_pos (show nI ((nI 2).toNatClampNeg + 1) = _ by decide +kernel), g3, g4, bu_p]
    rfl
  · show f_X11_carriesOut w (jI ((3 * k : Nat) : Int)) = f_X11_joins w (jI a) (jI b) (jI 2)
    have g2 : gI w 150 (3 * k) = jI 97 := g2
    have g4 := g4 (by decide)
    unfold f_X11_carriesOut
    rw [e1, e2, if_pos (by rw [inR_j (by omega) (by omega)]; omega), if_pos (by rw [inR_j (by omega) (by omega)]; omega), if_pos (by rw [inR_j (by omega) (by omega)]; omega), c0, c1, c2, g2, if_pos (show jI 97 = (97 : Int32) from rfl), g3, g4, bu_p]
    rfl
theorem ops_cut (hG : Good S) (hk : k < 60) (a1 : -2147483648 ≤ a) (a2 : a < 2147483648) (b1 : -2147483648 ≤ b) (b2 : b < 2147483648) : OpS S k 3 a b := by
  have ir : inR (jI (k : Int)) 60 = true := by rw [inR_j (by omega) (by omega)]; omega
  have ck : (jI (k : Int)).toNatClampNeg = k := by rw [jI_clamp (by omega) (by omega)]; omega
  have e1 : jI ((3 * k : Nat) : Int) + (1 : Int32) = jI ((3 * k + 1 : Nat) : Int) := by rw [l32_1, jI_add]; rfl
  have e2 : jI ((3 * k : Nat) : Int) + (2 : Int32) = jI ((3 * k + 2 : Nat) : Int) := by rw [l32_2, jI_add]; rfl
  have c0 : (jI ((3 * k : Nat) : Int)).toNatClampNeg = 3 * k := by rw [jI_clamp (by omega) (by omega)]; omega
  have c1 : (jI ((3 * k + 1 : Nat) : Int)).toNatClampNeg = 3 * k + 1 := by rw [jI_clamp (by omega) (by omega)]; omega
  have c2 : (jI ((3 * k + 2 : Nat) : Int)).toNatClampNeg = 3 * k + 2 := by rw [jI_clamp (by omega) (by omega)]; omega
  refine OpS.of (op_cut hG a1 a2 b1 b2) (by decide) (by decide) (fun w g2 g3 g4 => ?_) (fun w g2 g3 g4 => ?_)
  · show f_X10_carryOut w (jI (k : Int)) = f_X1_cut w (jI a) (jI b)
    unfold f_X10_carryOut
    rw [if_pos ir, if_pos ir, if_pos ir, ck, g2, ms_p, if_pos (by decide), if_pos (show inR (nI 3) 13 = true by decide +kernel), if_neg (by decide +kernel), if_neg (by decide +kernel), if_neg (by decide +kernel), if_pos (show nI ((nI 3).toNatClampNeg + 1) = _ by decide +kernel), g3, g4, bu_p]
  · show f_X11_carriesOut w (jI ((3 * k : Nat) : Int)) = f_X11_parts w (jI a) (jI b)
    have g2 : gI w 150 (3 * k) = jI 99 := g2
    have g4 := g4 (by decide)
    unfold f_X11_carriesOut
    rw [e1, e2, if_pos (by rw [inR_j (by omega) (by omega)]; omega), if_pos (by rw [inR_j (by omega) (by omega)]; omega), if_pos (by rw [inR_j (by omega) (by omega)]; omega), c0, c1, c2, g2, if_neg (by decide +kernel), if_neg (by decide +kernel), if_pos (show jI 99 = (99 : Int32) from rfl), g3, g4, bu_p]
theorem ops_spring (hG : Good S) (hk : k < 60) (a1 : -2147483648 ≤ a) (a2 : a < 2147483648) (b1 : -2147483648 ≤ b) (b2 : b < 2147483648) : OpS S k 4 a b := by
  have ir : inR (jI (k : Int)) 60 = true := by rw [inR_j (by omega) (by omega)]; omega
  have ck : (jI (k : Int)).toNatClampNeg = k := by rw [jI_clamp (by omega) (by omega)]; omega
  have e1 : jI ((3 * k : Nat) : Int) + (1 : Int32) = jI ((3 * k + 1 : Nat) : Int) := by rw [l32_1, jI_add]; rfl
  have e2 : jI ((3 * k : Nat) : Int) + (2 : Int32) = jI ((3 * k + 2 : Nat) : Int) := by rw [l32_2, jI_add]; rfl
  have c0 : (jI ((3 * k : Nat) : Int)).toNatClampNeg = 3 * k := by rw [jI_clamp (by omega) (by omega)]; omega
  have c1 : (jI ((3 * k + 1 : Nat) : Int)).toNatClampNeg = 3 * k + 1 := by rw [jI_clamp (by omega) (by omega)]; omega
  have c2 : (jI ((3 * k + 2 : Nat) : Int)).toNatClampNeg = 3 * k + 2 := by rw [jI_clamp (by omega) (by omega)]; omega
  refine OpS.of (op_spring hG a1 a2 b1 b2) (by decide) (by decide) (fun w g2 g3 g4 => ?_) (fun w g2 g3 g4 => ?_)
  · show f_X10_carryOut w (jI (k : Int)) = f_X1_putSpring w (jI a) (jI b)
    unfold f_X10_carryOut
    rw [if_pos ir, if_pos ir, if_pos ir, ck, g2, ms_p, if_pos (by decide), if_pos (show inR (nI 4) 13 = true by decide +kernel), if_neg (by decide +kernel), if_neg (by decide +kernel), if_neg (by decide +kernel), if_neg (by decide +kernel), if_pos (show nI ((nI 4).toNatClampNeg + 1) = _ by decide +kernel), g3, g4, bu_p]
  · show f_X11_carriesOut w (jI ((3 * k : Nat) : Int)) = f_X11_sets w (jI a) (jI b)
    have g2 : gI w 150 (3 * k) = jI 115 := g2
    have g4 := g4 (by decide)
    unfold f_X11_carriesOut
    rw [e1, e2, if_pos (by rw [inR_j (by omega) (by omega)]; omega), if_pos (by rw [inR_j (by omega) (by omega)]; omega), if_pos (by rw [inR_j (by omega) (by omega)]; omega), c0, c1, c2, g2, if_neg (by decide +kernel), if_neg (by decide +kernel), if_neg (by decide +kernel), if_neg (by decide +kernel), if_neg (by decide +kernel), if_neg (by decide +kernel), if_neg (by decide +kernel), if_neg (by decide +kernel), if_pos (show jI 115 = (115 : Int32) from rfl), g3, g4, bu_p]
theorem ops_wind (hG : Good S) (hk : k < 60) (a1 : -2147483648 ≤ a) (a2 : a < 2147483648) (b1 : -2147483648 ≤ b) (b2 : b < 2147483648) : OpS S k 5 a b := by
  have ir : inR (jI (k : Int)) 60 = true := by rw [inR_j (by omega) (by omega)]; omega
  have ck : (jI (k : Int)).toNatClampNeg = k := by rw [jI_clamp (by omega) (by omega)]; omega
  have e1 : jI ((3 * k : Nat) : Int) + (1 : Int32) = jI ((3 * k + 1 : Nat) : Int) := by rw [l32_1, jI_add]; rfl
  have e2 : jI ((3 * k : Nat) : Int) + (2 : Int32) = jI ((3 * k + 2 : Nat) : Int) := by rw [l32_2, jI_add]; rfl
  have c0 : (jI ((3 * k : Nat) : Int)).toNatClampNeg = 3 * k := by rw [jI_clamp (by omega) (by omega)]; omega
  have c1 : (jI ((3 * k + 1 : Nat) : Int)).toNatClampNeg = 3 * k + 1 := by rw [jI_clamp (by omega) (by omega)]; omega
  have c2 : (jI ((3 * k + 2 : Nat) : Int)).toNatClampNeg = 3 * k + 2 := by rw [jI_clamp (by omega) (by omega)]; omega
  refine OpS.of (op_wind hG a1 a2 b1 b2) (by decide) (by decide) (fun w g2 g3 g4 => ?_) (fun w g2 g3 g4 => ?_)
  · show f_X10_carryOut w (jI (k : Int)) = f_X1_tighten w (jI a) (jI b)
    unfold f_X10_carryOut
    rw [if_pos ir, if_pos ir, if_pos ir, ck, g2, ms_p, if_pos (by decide), if_pos (show inR (nI 5) 13 = true by decide +kernel), if_neg (by decide +kernel), if_neg (by decide +kernel), if_neg (by decide +kernel), if_neg (by decide +kernel), if_neg (by decide +kernel), if_pos (show nI ((nI 5).toNatClampNeg + 1) = _ by decide +kernel), g3, g4, bu_p]
  · show f_X11_carriesOut w (jI ((3 * k : Nat) : Int)) = f_X11_winds w (jI a) (jI b)
    have g2 : gI w 150 (3 * k) = jI 119 := g2
    have g4 := g4 (by decide)
    unfold f_X11_carriesOut
    rw [e1, e2, if_pos (by rw [inR_j (by omega) (by omega)]; omega), if_pos (by rw [inR_j (by omega) (by omega)]; omega), if_pos (by rw [inR_j (by omega) (by omega)]; omega), c0, c1, c2, g2, if_neg (by decide +kernel), if_neg (by decide +kernel), if_neg (by decide +kernel), if_neg (by decide +kernel), if_neg (by decide +kernel), if_neg (by decide +kernel), if_neg (by decide +kernel), if_neg (by decide +kernel), if_neg (by decide +kernel), if_neg (by decide +kernel), if_neg (by decide +kernel), if_pos (show jI 119 = (119 : Int32) from rfl), g3, g4, bu_p]
theorem ops_rev (hG : Good S) (hk : k < 60) (a1 : -2147483648 ≤ a) (a2 : a < 2147483648) (b1 : -2147483648 ≤ b) (b2 : b < 2147483648) : OpS S k 6 a b := by
  have ir : inR (jI (k : Int)) 60 = true := by rw [inR_j (by omega) (by omega)]; omega
  have ck : (jI (k : Int)).toNatClampNeg = k := by rw [jI_clamp (by omega) (by omega)]; omega
  have e1 : jI ((3 * k : Nat) : Int) + (1 : Int32) = jI ((3 * k + 1 : Nat) : Int) := by rw [l32_1, jI_add]; rfl
  have e2 : jI ((3 * k : Nat) : Int) + (2 : Int32) = jI ((3 * k + 2 : Nat) : Int) := by rw [l32_2, jI_add]; rfl
  have c0 : (jI ((3 * k : Nat) : Int)).toNatClampNeg = 3 * k := by rw [jI_clamp (by omega) (by omega)]; omega
  have c1 : (jI ((3 * k + 1 : Nat) : Int)).toNatClampNeg = 3 * k + 1 := by rw [jI_clamp (by omega) (by omega)]; omega
  have c2 : (jI ((3 * k + 2 : Nat) : Int)).toNatClampNeg = 3 * k + 2 := by rw [jI_clamp (by omega) (by omega)]; omega
  refine OpS.of (op_reverse hG a1 a2) (by decide) (by decide) (fun w g2 g3 g4 => ?_) (fun w g2 g3 g4 => ?_)
  · show f_X10_carryOut w (jI (k : Int)) = f_X1_turnRound w (jI a)
    unfold f_X10_carryOut
    rw [if_pos ir, if_pos ir, if_pos ir, ck, g2, ms_p, if_pos (by decide), if_pos (show inR (nI 6) 13 = true by decide +kernel), if_neg (by decide +kernel), if_neg (by decide +kernel), if_neg (by decide +kernel), if_neg (by decide +kernel), if_neg (by decide +kernel), if_neg (by decide +kernel), if_pos (show nI ((nI 6).toNatClampNeg + 1) = _ by decide +kernel), g3, bu_p]
  · show f_X11_carriesOut w (jI ((3 * k : Nat) : Int)) = f_X11_reverses w (jI a)
    have g2 : gI w 150 (3 * k) = jI 114 := g2
    unfold f_X11_carriesOut
    rw [e1, e2, if_pos (by rw [inR_j (by omega) (by omega)]; omega), if_pos (by rw [inR_j (by omega) (by omega)]; omega), if_pos (by rw [inR_j (by omega) (by omega)]; omega), c0, c1, g2, if_neg (by decide +kernel), if_neg (by decide +kernel), if_neg (by decide +kernel), if_neg (by decide +kernel), if_neg (by decide +kernel), if_neg (by decide +kernel), if_neg (by decide +kernel), if_pos (show jI 114 = (114 : Int32) from rfl), g3, bu_p]
theorem ops_run (hG : Good S) (hk : k < 60) (a1 : -2147483648 ≤ a) (a2 : a < 2147483648) (b1 : -2147483648 ≤ b) (b2 : b < 2147483648) : OpS S k 7 a b := by
  have ir : inR (jI (k : Int)) 60 = true := by rw [inR_j (by omega) (by omega)]; omega
  have ck : (jI (k : Int)).toNatClampNeg = k := by rw [jI_clamp (by omega) (by omega)]; omega
  have e1 : jI ((3 * k : Nat) : Int) + (1 : Int32) = jI ((3 * k + 1 : Nat) : Int) := by rw [l32_1, jI_add]; rfl
  have e2 : jI ((3 * k : Nat) : Int) + (2 : Int32) = jI ((3 * k + 2 : Nat) : Int) := by rw [l32_2, jI_add]; rfl
  have c0 : (jI ((3 * k : Nat) : Int)).toNatClampNeg = 3 * k := by rw [jI_clamp (by omega) (by omega)]; omega
  have c1 : (jI ((3 * k + 1 : Nat) : Int)).toNatClampNeg = 3 * k + 1 := by rw [jI_clamp (by omega) (by omega)]; omega
  have c2 : (jI ((3 * k + 2 : Nat) : Int)).toNatClampNeg = 3 * k + 2 := by rw [jI_clamp (by omega) (by omega)]; omega
  refine OpS.of (op_release hG a1 a2 b1 b2) (by decide) (by decide) (fun w g2 g3 g4 => ?_) (fun w g2 g3 g4 => ?_)
  · show f_X10_carryOut w (jI (k : Int)) = f_X1_letGo w (jI a) (jI b)
    unfold f_X10_carryOut
    rw [if_pos ir, if_pos ir, if_pos ir, ck, g2, ms_p, if_pos (by decide), if_pos (show inR (nI 7) 13 = true by decide +kernel), if_neg (by decide +kernel), if_neg (by decide +kernel), if_neg (by decide +kernel), if_neg (by decide +kernel), if_neg (by decide +kernel), if_neg (by decide +kernel), if_neg (by decide +kernel), if_pos (show nI ((nI 7).toNatClampNeg + 1) = _ by decide +kernel), g3, g4, bu_p]
  · show f_X11_carriesOut w (jI ((3 * k : Nat) : Int)) = f_X11_releases w (jI a) (jI b)
    have g2 : gI w 150 (3 * k) = jI 117 := g2
    have g4 := g4 (by decide)
    unfold f_X11_carriesOut
    rw [e1, e2, if_pos (by rw [inR_j (by omega) (by omega)]; omega), if_pos (by rw [inR_j (by omega) (by omega)]; omega), if_pos (by rw [inR_j (by omega) (by omega)]; omega), c0, c1, c2, g2, if_neg (by decide +kernel), if_neg (by decide +kernel), if_neg (by decide +kernel), if_neg (by decide +kernel), if_neg (by decide +kernel), if_neg (by decide +kernel), if_neg (by decide +kernel), if_neg (by decide +kernel), if_neg (by decide +kernel), if_neg (by decide +kernel), if_pos (show jI 117 = (117 : Int32) from rfl), g3, g4, bu_p]
theorem ops_ratchet (hG : Good S) (hk : k < 60) (a1 : -2147483648 ≤ a) (a2 : a < 2147483648) (b1 : -2147483648 ≤ b) (b2 : b < 2147483648) : OpS S k 8 a b := by
  have ir : inR (jI (k : Int)) 60 = true := by rw [inR_j (by omega) (by omega)]; omega
  have ck : (jI (k : Int)).toNatClampNeg = k := by rw [jI_clamp (by omega) (by omega)]; omega
  have e1 : jI ((3 * k : Nat) : Int) + (1 : Int32) = jI ((3 * k + 1 : Nat) : Int) := by rw [l32_1, jI_add]; rfl
  have e2 : jI ((3 * k : Nat) : Int) + (2 : Int32) = jI ((3 * k + 2 : Nat) : Int) := by rw [l32_2, jI_add]; rfl
  have c0 : (jI ((3 * k : Nat) : Int)).toNatClampNeg = 3 * k := by rw [jI_clamp (by omega) (by omega)]; omega
  have c1 : (jI ((3 * k + 1 : Nat) : Int)).toNatClampNeg = 3 * k + 1 := by rw [jI_clamp (by omega) (by omega)]; omega
  have c2 : (jI ((3 * k + 2 : Nat) : Int)).toNatClampNeg = 3 * k + 2 := by rw [jI_clamp (by omega) (by omega)]; omega
  refine OpS.of (op_ratchet hG a1 a2 (b := 1) (Or.inr rfl)) (by decide) (by decide) (fun w g2 g3 g4 => ?_) (fun w g2 g3 g4 => ?_)
  · show f_X10_carryOut w (jI (k : Int)) = f_X1_putRatchet w (jI a) (jI 1)
    unfold f_X10_carryOut
    rw [if_pos ir, if_pos ir, if_pos ir, ck, g2, ms_p, if_pos (by decide), if_pos (show inR (nI 8) 13 = true by decide +kernel), if_neg (by decide +kernel), if_neg (by decide +kernel), if_neg (by decide +kernel), if_neg (by decide +kernel), if_neg (by decide +kernel), if_neg (by decide +kernel), if_neg (by decide +kernel), if_neg (by decide +kernel), if_pos (show nI ((nI 8).toNatClampNeg + 1) = _ by decide +kernel), g3, bu_p]
    rfl
  · show f_X11_carriesOut w (jI ((3 * k : Nat) : Int)) = f_X11_ratchets w (jI a) (jI 1)
    have g2 : gI w 150 (3 * k) = jI 116 := g2
    unfold f_X11_carriesOut
    rw [e1, e2, if_pos (by rw [inR_j (by omega) (by omega)]; omega), if_pos (by rw [inR_j (by omega) (by omega)]; omega), if_pos (by rw [inR_j (by omega) (by omega)]; omega), c0, c1, g2, if_neg (by decide +kernel), if_neg (by decide +kernel), if_neg (by decide +kernel), if_neg (by decide +kernel), if_neg (by decide +kernel), if_neg (by decide +kernel), if_neg (by decide +kernel), if_neg (by decide +kernel), if_neg (by decide +kernel), if_pos (show jI 116 = (116 : Int32) from rfl), g3, bu_p]
    rfl
theorem ops_free (hG : Good S) (hk : k < 60) (a1 : -2147483648 ≤ a) (a2 : a < 2147483648) (b1 : -2147483648 ≤ b) (b2 : b < 2147483648) : OpS S k 9 a b := by
  have ir : inR (jI (k : Int)) 60 = true := by rw [inR_j (by omega) (by omega)]; omega
  have ck : (jI (k : Int)).toNatClampNeg = k := by rw [jI_clamp (by omega) (by omega)]; omega
  have e1 : jI ((3 * k : Nat) : Int) + (1 : Int32) = jI ((3 * k + 1 : Nat) : Int) := by rw [l32_1, jI_add]; rfl
  have e2 : jI ((3 * k : Nat) : Int) + (2 : Int32) = jI ((3 * k + 2 : Nat) : Int) := by rw [l32_2, jI_add]; rfl
  have c0 : (jI ((3 * k : Nat) : Int)).toNatClampNeg = 3 * k := by rw [jI_clamp (by omega) (by omega)]; omega
  have c1 : (jI ((3 * k + 1 : Nat) : Int)).toNatClampNeg = 3 * k + 1 := by rw [jI_clamp (by omega) (by omega)]; omega
  have c2 : (jI ((3 * k + 2 : Nat) : Int)).toNatClampNeg = 3 * k + 2 := by rw [jI_clamp (by omega) (by omega)]; omega
  refine OpS.of (op_ratchet hG a1 a2 (b := 0) (Or.inl rfl)) (by decide) (by decide) (fun w g2 g3 g4 => ?_) (fun w g2 g3 g4 => ?_)
  · show f_X10_carryOut w (jI (k : Int)) = f_X1_putRatchet w (jI a) (jI 0)
    unfold f_X10_carryOut
    rw [if_pos ir, if_pos ir, if_pos ir, ck, g2, ms_p, if_pos (by decide), if_pos (show inR (nI 9) 13 = true by decide +kernel), if_neg (by decide +kernel), if_neg (by decide +kernel), if_neg (by decide +kernel), if_neg (by decide +kernel), if_neg (by decide +kernel), if_neg (by decide +kernel), if_neg (by decide +kernel), if_neg (by decide +kernel), if_neg (by decide +kernel), if_pos (show nI ((nI 9).toNatClampNeg + 1) = _ by decide +kernel), g3, bu_p]
    rfl
  · show f_X11_carriesOut w (jI ((3 * k : Nat) : Int)) = f_X11_ratchets w (jI a) (jI 0)
    have g2 : gI w 150 (3 * k) = jI 102 := g2
    unfold f_X11_carriesOut
    rw [e1, e2, if_pos (by rw [inR_j (by omega) (by omega)]; omega), if_pos (by rw [inR_j (by omega) (by omega)]; omega), if_pos (by rw [inR_j (by omega) (by omega)]; omega), c0, c1, g2, if_neg (by decide +kernel), if_neg (by decide +kernel), if_neg (by decide +kernel), if_pos (show jI 102 = (102 : Int32) from rfl), g3, bu_p]
    rfl
theorem ops_oil (hG : Good S) (hk : k < 60) (a1 : -2147483648 ≤ a) (a2 : a < 2147483648) (b1 : -2147483648 ≤ b) (b2 : b < 2147483648) : OpS S k 10 a b := by
  have ir : inR (jI (k : Int)) 60 = true := by rw [inR_j (by omega) (by omega)]; omega
  have ck : (jI (k : Int)).toNatClampNeg = k := by rw [jI_clamp (by omega) (by omega)]; omega
  have e1 : jI ((3 * k : Nat) : Int) + (1 : Int32) = jI ((3 * k + 1 : Nat) : Int) := by rw [l32_1, jI_add]; rfl
  have e2 : jI ((3 * k : Nat) : Int) + (2 : Int32) = jI ((3 * k + 2 : Nat) : Int) := by rw [l32_2, jI_add]; rfl
  have c0 : (jI ((3 * k : Nat) : Int)).toNatClampNeg = 3 * k := by rw [jI_clamp (by omega) (by omega)]; omega
  have c1 : (jI ((3 * k + 1 : Nat) : Int)).toNatClampNeg = 3 * k + 1 := by rw [jI_clamp (by omega) (by omega)]; omega
  have c2 : (jI ((3 * k + 2 : Nat) : Int)).toNatClampNeg = 3 * k + 2 := by rw [jI_clamp (by omega) (by omega)]; omega
  refine OpS.of (op_oil hG a1 a2) (by decide) (by decide) (fun w g2 g3 g4 => ?_) (fun w g2 g3 g4 => ?_)
  · show f_X10_carryOut w (jI (k : Int)) = f_X1_putOil w (jI a)
    unfold f_X10_carryOut
    rw [if_pos ir, if_pos ir, if_pos ir, ck, g2, ms_p, if_pos (by decide), if_pos (show inR (nI 10) 13 = true by decide +kernel), if_neg (by decide +kernel), if_neg (by decide +kernel), if_neg (by decide +kernel), if_neg (by decide +kernel), if_neg (by decide +kernel), if_neg (by decide +kernel), if_neg (by decide +kernel), if_neg (by decide +kernel), if_neg (by decide +kernel), if_neg (by decide +kernel), if_pos (show nI ((nI 10).toNatClampNeg + 1) = _ by decide +kernel), g3, bu_p]
  · show f_X11_carriesOut w (jI ((3 * k : Nat) : Int)) = f_X11_oils w (jI a)
    have g2 : gI w 150 (3 * k) = jI 111 := g2
    unfold f_X11_carriesOut
    rw [e1, e2, if_pos (by rw [inR_j (by omega) (by omega)]; omega), if_pos (by rw [inR_j (by omega) (by omega)]; omega), if_pos (by rw [inR_j (by omega) (by omega)]; omega), c0, c1, g2, if_neg (by decide +kernel), if_neg (by decide +kernel), if_neg (by decide +kernel), if_neg (by decide +kernel), if_neg (by decide +kernel), if_neg (by decide +kernel), if_pos (show jI 111 = (111 : Int32) from rfl), g3, bu_p]
theorem ops_buy (hG : Good S) (hk : k < 60) (a1 : -2147483648 ≤ a) (a2 : a < 2147483648) (b1 : -2147483648 ≤ b) (b2 : b < 2147483648) : OpS S k 11 a b := by
  have ir : inR (jI (k : Int)) 60 = true := by rw [inR_j (by omega) (by omega)]; omega
  have ck : (jI (k : Int)).toNatClampNeg = k := by rw [jI_clamp (by omega) (by omega)]; omega
  have e1 : jI ((3 * k : Nat) : Int) + (1 : Int32) = jI ((3 * k + 1 : Nat) : Int) := by rw [l32_1, jI_add]; rfl
  have e2 : jI ((3 * k : Nat) : Int) + (2 : Int32) = jI ((3 * k + 2 : Nat) : Int) := by rw [l32_2, jI_add]; rfl
  have c0 : (jI ((3 * k : Nat) : Int)).toNatClampNeg = 3 * k := by rw [jI_clamp (by omega) (by omega)]; omega
  have c1 : (jI ((3 * k + 1 : Nat) : Int)).toNatClampNeg = 3 * k + 1 := by rw [jI_clamp (by omega) (by omega)]; omega
  have c2 : (jI ((3 * k + 2 : Nat) : Int)).toNatClampNeg = 3 * k + 2 := by rw [jI_clamp (by omega) (by omega)]; omega
  refine OpS.of (op_buy hG a1 a2) (by decide) (by decide) (fun w g2 g3 g4 => ?_) (fun w g2 g3 g4 => ?_)
  · show f_X10_carryOut w (jI (k : Int)) = f_X1_addDrops w (jI a)
    unfold f_X10_carryOut
    rw [if_pos ir, if_pos ir, if_pos ir, ck, g2, ms_p, if_pos (by decide), if_pos (show inR (nI 11) 13 = true by decide +kernel), if_neg (by decide +kernel), if_neg (by decide +kernel), if_neg (by decide +kernel), if_neg (by decide +kernel), if_neg (by decide +kernel), if_neg (by decide +kernel), if_neg (by decide +kernel), if_neg (by decide +kernel), if_neg (by decide +kernel), if_neg (by decide +kernel), if_neg (by decide +kernel), if_pos (show nI ((nI 11).toNatClampNeg + 1) = _ by decide +kernel), g3, bu_p]
  · show f_X11_carriesOut w (jI ((3 * k : Nat) : Int)) = f_X11_buys w (jI a)
    have g2 : gI w 150 (3 * k) = jI 98 := g2
    unfold f_X11_carriesOut
    rw [e1, e2, if_pos (by rw [inR_j (by omega) (by omega)]; omega), if_pos (by rw [inR_j (by omega) (by omega)]; omega), if_pos (by rw [inR_j (by omega) (by omega)]; omega), c0, c1, g2, if_neg (by decide +kernel), if_pos (show jI 98 = (98 : Int32) from rfl), g3, bu_p]
theorem ops_planet (hG : Good S) (hk : k < 60) (a1 : -2147483648 ≤ a) (a2 : a < 2147483648) (b1 : -2147483648 ≤ b) (b2 : b < 2147483648) : OpS S k 12 a b := by
  have ir : inR (jI (k : Int)) 60 = true := by rw [inR_j (by omega) (by omega)]; omega
  have ck : (jI (k : Int)).toNatClampNeg = k := by rw [jI_clamp (by omega) (by omega)]; omega
  have e1 : jI ((3 * k : Nat) : Int) + (1 : Int32) = jI ((3 * k + 1 : Nat) : Int) := by rw [l32_1, jI_add]; rfl
  have e2 : jI ((3 * k : Nat) : Int) + (2 : Int32) = jI ((3 * k + 2 : Nat) : Int) := by rw [l32_2, jI_add]; rfl
  have c0 : (jI ((3 * k : Nat) : Int)).toNatClampNeg = 3 * k := by rw [jI_clamp (by omega) (by omega)]; omega
  have c1 : (jI ((3 * k + 1 : Nat) : Int)).toNatClampNeg = 3 * k + 1 := by rw [jI_clamp (by omega) (by omega)]; omega
  have c2 : (jI ((3 * k + 2 : Nat) : Int)).toNatClampNeg = 3 * k + 2 := by rw [jI_clamp (by omega) (by omega)]; omega
  refine OpS.of (op_planet hG a1 a2) (by decide) (by decide) (fun w g2 g3 g4 => ?_) (fun w g2 g3 g4 => ?_)
  · show f_X10_carryOut w (jI (k : Int)) = f_X1_putPlanet w (jI a)
    unfold f_X10_carryOut
    rw [if_pos ir, if_pos ir, if_pos ir, ck, g2, ms_p, if_pos (by decide), if_pos (show inR (nI 12) 13 = true by decide +kernel), if_neg (by decide +kernel), if_neg (by decide +kernel), if_neg (by decide +kernel), if_neg (by decide +kernel), if_neg (by decide +kernel), if_neg (by decide +kernel), if_neg (by decide +kernel), if_neg (by decide +kernel), if_neg (by decide +kernel), if_neg (by decide +kernel), if_neg (by decide +kernel), if_neg (by decide +kernel), if_pos (show nI ((nI 12).toNatClampNeg + 1) = _ by decide +kernel), g3, bu_p]
  · show f_X11_carriesOut w (jI ((3 * k : Nat) : Int)) = f_X11_addsPlanet w (jI a)
    have g2 : gI w 150 (3 * k) = jI 112 := g2
    unfold f_X11_carriesOut
    rw [e1, e2, if_pos (by rw [inR_j (by omega) (by omega)]; omega), if_pos (by rw [inR_j (by omega) (by omega)]; omega), if_pos (by rw [inR_j (by omega) (by omega)]; omega), c0, c1, g2, if_neg (by decide +kernel), if_neg (by decide +kernel), if_neg (by decide +kernel), if_neg (by decide +kernel), if_neg (by decide +kernel), if_neg (by decide +kernel), if_neg (by decide +kernel), if_neg (by decide +kernel), if_neg (by decide +kernel), if_neg (by decide +kernel), if_neg (by decide +kernel), if_neg (by decide +kernel), g3, bu_p]
end
theorem ops_all {S : Ab} {k i : Nat} {a b : Int} (hG : Good S) (hk : k < 60) (hi : i < 13) (a1 : -2147483648 ≤ a) (a2 : a < 2147483648) (b1 : -2147483648 ≤ b) (b2 : b < 2147483648) : OpS S k i a b := by
  have hs : i = 0 ∨ i = 1 ∨ i = 2 ∨ i = 3 ∨ i = 4 ∨ i = 5 ∨ i = 6 ∨ i = 7 ∨ i = 8 ∨ i = 9 ∨ i = 10 ∨ i = 11 ∨ i = 12 := by omega
  rcases hs with rfl | rfl | rfl | rfl | rfl | rfl | rfl | rfl | rfl | rfl | rfl | rfl | rfl
  · exact ops_gear hG hk a1 a2 b1 b2
  · exact ops_mesh hG hk a1 a2 b1 b2
  · exact ops_axle hG hk a1 a2 b1 b2
  · exact ops_cut hG hk a1 a2 b1 b2
  · exact ops_spring hG hk a1 a2 b1 b2
  · exact ops_wind hG hk a1 a2 b1 b2
  · exact ops_rev hG hk a1 a2 b1 b2
  · exact ops_run hG hk a1 a2 b1 b2
  · exact ops_ratchet hG hk a1 a2 b1 b2
  · exact ops_free hG hk a1 a2 b1 b2
  · exact ops_oil hG hk a1 a2 b1 b2
  · exact ops_buy hG hk a1 a2 b1 b2
  · exact ops_planet hG hk a1 a2 b1 b2
