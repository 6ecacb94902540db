/-! THE CHANGES, at the object: what is answered and what is left does not hang on anything but the state -/
def rs (o : Oc) : Nat ⊕ Int32 := zc o (fun e => .inl e) (fun q => .inr (jI q.1))
def rb (o : Oc) : Nat ⊕ Int32 := zc o (fun e => .inl e) (fun q => .inr (if jI q.1 = (1 : Int32) then 1 else 0))
def ts (T : TS) (o : Oc) : TS := zc o (fun _ => T) (fun q => psh T q.2)
theorem ts_G {T : TS} {es : List Nat} {o : Oc} (hG : InvG T) (hO : OK es o) : InvG (ts T o) := by
  rcases o with e | q
  · exact hG
  · exact hG.psh hO.2.2
theorem ts_M {T : TS} {o : Oc} (hM : Mn (tS T) o) : tS T 0 ≤ tS (ts T o) 0 := by
  rcases o with e | q
  · exact Int.le_refl _
  · exact hM
def MU (T : TS) (rr : Oc → Nat ⊕ Int32) (cf : Wd → Option (Int32 × Wd)) (F : Wd → Option ((Nat ⊕ Int32) × Wd)) : Prop := ∃ (es : List Nat) (o : Oc), (∀ e ∈ es, e < 5) ∧ OK es o ∧ Mn (tS T) o ∧ (∀ w, CSt w 1 (tS T) → ∃ r w', cf w = some (r, w') ∧ CO w w' r (tS T) o) ∧ ∀ w, InvC w T → ∃ w', F w = some (rr o, w') ∧ InvC w' (ts T o)
theorem mu_gen {T : TS} {cf rf : Wd → Option (Int32 × Wd)} {es : List Nat} {cd : Nat → Int} (hG : InvG T) (h : OpM (tS T) es cd cf rf) (h5 : ∀ e ∈ es, e < 5) : MU T rs cf (fun w => (f_X7_copyFrom w 12 1).bind fun w3 => ((cf w3).bind fun z => u2 z fun r5 w6 => ((f_X10_settle w6 r5).bind fun z => u2 z fun z w10 => zc z (fun k => (some ((.inl k), w10))) (fun r9 => (some ((.inr r9), w10)))))) := by
  obtain ⟨o, hO, hm, hc, -⟩ := h
  refine ⟨es, o, h5, hO, hm, hc, fun w hw => ?_⟩
  obtain ⟨w3, e3, -, c3⟩ := chg_c (fun z => u2 z fun z w10 => zc z (fun k => (some ((.inl k : Nat ⊕ Int32), w10))) (fun r9 => (some ((.inr r9), w10)))) hG h5 hO hc hw
  refine ⟨w3, e3.trans ?_, c3⟩
  rcases o with e | q <;> rfl
theorem mu_genB {T : TS} {cf rf : Wd → Option (Int32 × Wd)} {es : List Nat} {cd : Nat → Int} (hG : InvG T) (h : OpM (tS T) es cd cf rf) (h5 : ∀ e ∈ es, e < 5) : MU T rb cf (fun w => (f_X7_copyFrom w 12 1).bind fun w3 => ((cf w3).bind fun z => u2 z fun r5 w6 => ((f_X10_settle w6 r5).bind fun z => u2 z fun z w10 => zc z (fun k => (some ((.inl k), w10))) (fun r9 => (if r9 = (1 : Int32) then (some ((.inr (1 : Int32)), w10)) else (some ((.inr (0 : Int32)), w10))))))) := by
  obtain ⟨o, hO, hm, hc, -⟩ := h
  refine ⟨es, o, h5, hO, hm, hc, fun w hw => ?_⟩
  obtain ⟨w3, e3, -, c3⟩ := chg_c (fun z => u2 z fun z w10 => zc z (fun k => (some ((.inl k : Nat ⊕ Int32), w10))) (fun r9 => (if r9 = (1 : Int32) then (some ((.inr (1 : Int32)), w10)) else (some ((.inr (0 : Int32)), w10))))) hG h5 hO hc hw
  refine ⟨w3, e3.trans ?_, c3⟩
  rcases o with e | q
  · rfl
  · show (if jI q.1 = (1 : Int32) then some ((Sum.inr (1 : Int32) : Nat ⊕ Int32), w3) else some ((.inr (0 : Int32)), w3)) = some (Sum.inr (if jI q.1 = (1 : Int32) then 1 else 0), w3)
    by_cases y : jI q.1 = (1 : Int32)
    · rw [if_pos y, if_pos y]
    · rw [if_neg y, if_neg y]
theorem mu_addGear {T : TS} (hG : InvG T) (x : Int32) : MU T rs (fun w => f_X1_putGear w x) (fun w => f_X10_addGear w x) := by
  obtain ⟨x, rfl, xb1, xb2⟩ := jI_ex x
  exact mu_gen hG (opm_gear hG.1 xb1 xb2) (by decide)
theorem mu_mesh {T : TS} (hG : InvG T) (x y : Int32) : MU T rs (fun w => f_X1_join w x y (109 : Int32)) (fun w => f_X10_mesh w x y) := by
  obtain ⟨x, rfl, xb1, xb2⟩ := jI_ex x
  obtain ⟨y, rfl, yb1, yb2⟩ := jI_ex y
  exact mu_gen hG (opm_join (k := 1) hG.1 xb1 xb2 yb1 yb2 (Or.inl rfl)) (by decide)
theorem mu_shareAxle {T : TS} (hG : InvG T) (x y : Int32) : MU T rs (fun w => f_X1_join w x y (97 : Int32)) (fun w => f_X10_shareAxle w x y) := by
  obtain ⟨x, rfl, xb1, xb2⟩ := jI_ex x
  obtain ⟨y, rfl, yb1, yb2⟩ := jI_ex y
  exact mu_gen hG (opm_join (k := 2) hG.1 xb1 xb2 yb1 yb2 (Or.inr rfl)) (by decide)
theorem mu_separate {T : TS} (hG : InvG T) (x y : Int32) : MU T rs (fun w => f_X1_cut w x y) (fun w => f_X10_separate w x y) := by
  obtain ⟨x, rfl, xb1, xb2⟩ := jI_ex x
  obtain ⟨y, rfl, yb1, yb2⟩ := jI_ex y
  exact mu_gen hG (opm_cut hG.1 xb1 xb2 yb1 yb2) (by decide)
theorem mu_setSpring {T : TS} (hG : InvG T) (x y : Int32) : MU T rs (fun w => f_X1_putSpring w x y) (fun w => f_X10_setSpring w x y) := by
  obtain ⟨x, rfl, xb1, xb2⟩ := jI_ex x
  obtain ⟨y, rfl, yb1, yb2⟩ := jI_ex y
  exact mu_gen hG (opm_spring hG.1 xb1 xb2 yb1 yb2) (by decide)
theorem mu_wind {T : TS} (hG : InvG T) (x y : Int32) : MU T rs (fun w => f_X1_tighten w x y) (fun w => f_X10_wind w x y) := by
  obtain ⟨x, rfl, xb1, xb2⟩ := jI_ex x
  obtain ⟨y, rfl, yb1, yb2⟩ := jI_ex y
  exact mu_gen hG (opm_wind hG.1 xb1 xb2 yb1 yb2) (by decide)
theorem mu_reverse {T : TS} (hG : InvG T) (x : Int32) : MU T rb (fun w => f_X1_turnRound w x) (fun w => f_X10_reverse w x) := by
  obtain ⟨x, rfl, xb1, xb2⟩ := jI_ex x
  exact mu_genB hG (opm_reverse hG.1 xb1 xb2) (by decide)
theorem mu_release {T : TS} (hG : InvG T) (x y : Int32) : MU T rs (fun w => f_X1_letGo w x y) (fun w => f_X10_release w x y) := by
  obtain ⟨x, rfl, xb1, xb2⟩ := jI_ex x
  obtain ⟨y, rfl, yb1, yb2⟩ := jI_ex y
  exact mu_gen hG (opm_release hG.1 xb1 xb2 yb1 yb2) (by decide)
theorem mu_oil {T : TS} (hG : InvG T) (x : Int32) : MU T rs (fun w => f_X1_putOil w x) (fun w => f_X10_oil w x) := by
  obtain ⟨x, rfl, xb1, xb2⟩ := jI_ex x
  exact mu_gen hG (opm_oil hG.1 xb1 xb2) (by decide)
theorem mu_addPlanet {T : TS} (hG : InvG T) (x : Int32) : MU T rs (fun w => f_X1_putPlanet w x) (fun w => f_X10_addPlanet w x) := by
  obtain ⟨x, rfl, xb1, xb2⟩ := jI_ex x
  exact mu_gen hG (opm_planet hG.1 xb1 xb2) (by decide)
theorem mu_buyOil {T : TS} (hG : InvG T) (x : Int32) : MU T rs (fun w => f_X1_addDrops w x) (fun w => f_X10_buyOil w x) := by
  obtain ⟨x, rfl, xb1, xb2⟩ := jI_ex x
  exact mu_gen hG (opm_buy hG.1 xb1 xb2) (by decide)
theorem mu_ratchet {T : TS} (hG : InvG T) (x : Int32) {b : Int} (hb : b = 0 ∨ b = 1) : MU T rb (fun w => f_X1_putRatchet w x (jI b)) (fun w => f_X10_setRatchet w x (jI b)) := by
  obtain ⟨x, rfl, xb1, xb2⟩ := jI_ex x
  exact mu_genB hG (opm_ratchet hG.1 xb1 xb2 hb) (by decide)
/-! .. and by act: it never fails, and takes no gear away -/
def BI (g : Int) (w : Wd) : Prop := ∃ T, InvG T ∧ InvC w T ∧ g ≤ tS T 0 ∧ tC T = 0
theorem ts_C {T : TS} {o : Oc} : tC (ts T o) = tC T := by rcases o with e | q <;> rfl
def aB (z : Nat ⊕ Int32) (w : Wd) : Option (Int32 × Wd) := zc z (fun k => (if k = 0 then (some ((-1 : Int32), w)) else (if k = 1 then (some ((-2 : Int32), w)) else (if k = 2 then (some ((-3 : Int32), w)) else (if k = 3 then (some ((-4 : Int32), w)) else (if k = 4 then (some ((-5 : Int32), w)) else none)))))) (fun r => (if r = 0 then (some ((0 : Int32), w)) else (some ((1 : Int32), w))))
theorem aB_e {k : Nat} (h : k < 5) (w : Wd) : aB (.inl k) w = some (jI (-(k : Int) - 1), w) := by
  rcases (show k = 0 ∨ k = 1 ∨ k = 2 ∨ k = 3 ∨ k = 4 by omega) with rfl | rfl | rfl | rfl | rfl <;> rfl
theorem aB_r (r : Int32) (w : Wd) : ∃ v, aB (.inr r) w = some (v, w) := by
  by_cases y : r = 0
  · exact ⟨0, if_pos y⟩
  · exact ⟨1, if_neg y⟩
theorem bi_x {g : Int} {rr : Oc → Nat ⊕ Int32} {ax : Nat ⊕ Int32 → Wd → Option (Int32 × Wd)} {cf : Wd → Option (Int32 × Wd)} {F : Wd → Option ((Nat ⊕ Int32) × Wd)} (hx : ∀ (es : List Nat) (o : Oc) (w : Wd), (∀ e ∈ es, e < 5) → OK es o → ∃ v, ax (rr o) w = some (v, w)) (hm : ∀ T, InvG T → MU T rr cf F) {w : Wd} (h : BI g w) : ∃ v w', ((F w).bind fun z => u2 z fun z w1 => ax z w1) = some (v, w') ∧ BI g w' := by
  obtain ⟨T, hG, hC, h0, hz⟩ := h
  obtain ⟨es, o, h5, hO, hM, -, k⟩ := hm T hG
  obtain ⟨w', e, c⟩ := k w hC
  obtain ⟨v, hv⟩ := hx es o w' h5 hO
  refine ⟨v, w', ?_, ts T o, ts_G hG hO, c, ?_, ts_C.trans hz⟩
  · rw [e, bs_p, u2_p, hv]
  · have := ts_M hM
    omega
theorem hx_X (es : List Nat) (o : Oc) (w : Wd) (h5 : ∀ e ∈ es, e < 5) (hO : OK es o) : ∃ v, aX (rs o) w = some (v, w) := by
  rcases o with e | q
  · exact ⟨_, aX_e (h5 e hO) w⟩
  · exact ⟨_, aX_r _ w⟩
theorem hx_B (es : List Nat) (o : Oc) (w : Wd) (h5 : ∀ e ∈ es, e < 5) (hO : OK es o) : ∃ v, aB (rb o) w = some (v, w) := by
  rcases o with e | q
  · exact ⟨_, aB_e (h5 e hO) w⟩
  · exact aB_r _ w
theorem act_6 (w : Wd) (x y : Int32) : f_L_act w (6 : Int32) x y = ((f_X10_reverse w x).bind fun z => u2 z fun z w1 => aB z w1) := by
  unfold f_L_act
  rw [if_neg (show ¬ (6 : Int32) = (0 : Int32) by decide +kernel), if_neg (show ¬ (6 : Int32) = (1 : Int32) by decide +kernel), if_neg (show ¬ (6 : Int32) = (2 : Int32) by decide +kernel), if_neg (show ¬ (6 : Int32) = (3 : Int32) by decide +kernel), if_neg (show ¬ (6 : Int32) = (4 : Int32) by decide +kernel), if_neg (show ¬ (6 : Int32) = (5 : Int32) by decide +kernel), if_pos rfl]
  rfl
theorem act_91 (w : Wd) (x : Int32) : f_L_act w (9 : Int32) x (1 : Int32) = ((f_X10_setRatchet w x (1 : Int32)).bind fun z => u2 z fun z w1 => aB z w1) := by
  unfold f_L_act
  rw [if_neg (show ¬ (9 : Int32) = (0 : Int32) by decide +kernel), if_neg (show ¬ (9 : Int32) = (1 : Int32) by decide +kernel), if_neg (show ¬ (9 : Int32) = (2 : Int32) by decide +kernel), if_neg (show ¬ (9 : Int32) = (3 : Int32) by decide +kernel), if_neg (show ¬ (9 : Int32) = (4 : Int32) by decide +kernel), if_neg (show ¬ (9 : Int32) = (5 : Int32) by decide +kernel), if_neg (show ¬ (9 : Int32) = (6 : Int32) by decide +kernel), if_neg (show ¬ (9 : Int32) = (7 : Int32) by decide +kernel), if_neg (show ¬ (9 : Int32) = (8 : Int32) by decide +kernel), if_pos rfl, if_pos rfl]
  rfl
theorem act_90 (w : Wd) (x : Int32) : f_L_act w (9 : Int32) x (0 : Int32) = ((f_X10_setRatchet w x (0 : Int32)).bind fun z => u2 z fun z w1 => aB z w1) := by
  unfold f_L_act
  rw [if_neg (show ¬ (9 : Int32) = (0 : Int32) by decide +kernel), if_neg (show ¬ (9 : Int32) = (1 : Int32) by decide +kernel), if_neg (show ¬ (9 : Int32) = (2 : Int32) by decide +kernel), if_neg (show ¬ (9 : Int32) = (3 : Int32) by decide +kernel), if_neg (show ¬ (9 : Int32) = (4 : Int32) by decide +kernel), if_neg (show ¬ (9 : Int32) = (5 : Int32) by decide +kernel), if_neg (show ¬ (9 : Int32) = (6 : Int32) by decide +kernel), if_neg (show ¬ (9 : Int32) = (7 : Int32) by decide +kernel), if_neg (show ¬ (9 : Int32) = (8 : Int32) by decide +kernel), if_pos rfl, if_neg (show ¬ (0 : Int32) = (1 : Int32) by decide +kernel)]
  rfl
theorem b_0 {g : Int} {w : Wd} (h : BI g w) (x y : Int32) : ∃ v w', f_L_act w (0 : Int32) x y = some (v, w') ∧ BI g w' := by
  rw [act_0]
  exact bi_x hx_X (fun T hG => mu_addGear hG x) h
theorem b_1 {g : Int} {w : Wd} (h : BI g w) (x y : Int32) : ∃ v w', f_L_act w (1 : Int32) x y = some (v, w') ∧ BI g w' := by
  rw [act_1]
  exact bi_x hx_X (fun T hG => mu_mesh hG x y) h
theorem b_2 {g : Int} {w : Wd} (h : BI g w) (x y : Int32) : ∃ v w', f_L_act w (2 : Int32) x y = some (v, w') ∧ BI g w' := by
  rw [act_2]
  exact bi_x hx_X (fun T hG => mu_shareAxle hG x y) h
theorem b_3 {g : Int} {w : Wd} (h : BI g w) (x y : Int32) : ∃ v w', f_L_act w (3 : Int32) x y = some (v, w') ∧ BI g w' := by
  rw [act_3]
  exact bi_x hx_X (fun T hG => mu_separate hG x y) h
theorem b_4 {g : Int} {w : Wd} (h : BI g w) (x y : Int32) : ∃ v w', f_L_act w (4 : Int32) x y = some (v, w') ∧ BI g w' := by
  rw [act_4]
  exact bi_x hx_X (fun T hG => mu_setSpring hG x y) h
theorem b_5 {g : Int} {w : Wd} (h : BI g w) (x y : Int32) : ∃ v w', f_L_act w (5 : Int32) x y = some (v, w') ∧ BI g w' := by
  rw [act_5]
  exact bi_x hx_X (fun T hG => mu_wind hG x y) h
theorem b_7 {g : Int} {w : Wd} (h : BI g w) (x y : Int32) : ∃ v w', f_L_act w (7 : Int32) x y = some (v, w') ∧ BI g w' := by
  rw [act_7]
  exact bi_x hx_X (fun T hG => mu_release hG x y) h
theorem b_8 {g : Int} {w : Wd} (h : BI g w) (x y : Int32) : ∃ v w', f_L_act w (8 : Int32) x y = some (v, w') ∧ BI g w' := by
  rw [act_8]
  exact bi_x hx_X (fun T hG => mu_oil hG x) h
theorem b_10 {g : Int} {w : Wd} (h : BI g w) (x y : Int32) : ∃ v w', f_L_act w (10 : Int32) x y = some (v, w') ∧ BI g w' := by
  rw [act_10]
  exact bi_x hx_X (fun T hG => mu_addPlanet hG x) h
theorem b_11 {g : Int} {w : Wd} (h : BI g w) (x y : Int32) : ∃ v w', f_L_act w (11 : Int32) x y = some (v, w') ∧ BI g w' := by
  rw [act_11]
  exact bi_x hx_X (fun T hG => mu_buyOil hG x) h
theorem b_6 {g : Int} {w : Wd} (h : BI g w) (x y : Int32) : ∃ v w', f_L_act w (6 : Int32) x y = some (v, w') ∧ BI g w' := by
  rw [act_6]
  exact bi_x hx_B (fun T hG => mu_reverse hG x) h
theorem b_91 {g : Int} {w : Wd} (h : BI g w) (x : Int32) : ∃ v w', f_L_act w (9 : Int32) x (1 : Int32) = some (v, w') ∧ BI g w' := by
  rw [act_91]
  exact bi_x hx_B (fun T hG => mu_ratchet hG x (b := 1) (Or.inr rfl)) h
theorem b_90 {g : Int} {w : Wd} (h : BI g w) (x : Int32) : ∃ v w', f_L_act w (9 : Int32) x (0 : Int32) = some (v, w') ∧ BI g w' := by
  rw [act_90]
  exact bi_x hx_B (fun T hG => mu_ratchet hG x (b := 0) (Or.inl rfl)) h
theorem b_has {g : Int} {w : Wd} (h : BI g w) (x : Int32) : ∃ v, f_L_has w x = some (v, w) := by
  obtain ⟨T, hG, hC, -⟩ := h
  obtain ⟨x, rfl, xb1, xb2⟩ := jI_ex x
  have k : ∃ r : Int32, f_L_act w (12 : Int32) (jI x) (0 : Int32) = some (r, w) := by
    rw [act_12]
    by_cases q : 0 ≤ x ∧ x < tS T 0
    · by_cases q2 : 0 < tS T (26 + x)
      · exact ⟨jI (tS T (36 + x)), by rw [k_tension hC.1 hG.1 q q2, bs_p, aX_r]⟩
      · exact ⟨jI (-((4 : Nat) : Int) - 1), by rw [k_tensionN hC.1 hG.1 q q2, bs_p, aX_e (by decide)]⟩
    · exact ⟨jI (-((0 : Nat) : Int) - 1), by rw [k_tensionF hC.1 hG.1 xb1 xb2 q, bs_p, aX_e (by decide)]⟩
  obtain ⟨r, k⟩ := k
  unfold f_L_has
  rw [k, bs_p, u2_p]
  by_cases y : r < 0
  · exact ⟨0, if_pos y⟩
  · exact ⟨1, if_neg y⟩
