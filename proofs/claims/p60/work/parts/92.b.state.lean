/-! WHAT ONLY READS answers by the state alone; the law's state -/
theorem CSt.ky {w w' : Wd} {S : Ab} (h : CSt w 1 S) (hs : Sm KY w w') : CSt w' 1 S := h.kept (fun r hr => hs.1 _ (by unfold KY; omega))
def SD {ι β : Type} (S : Ab) (mk : ι → Wd → β) (f : Wd → Option β) : Prop := ∃ i, ∀ w, CSt w 1 S → ∃ w', f w = some (mk i w') ∧ Sm KY w w'
section
variable {ι α β γ ε ρ : Type} {S : Ab} {mk : ι → Wd → β}
theorem SD.step {f : Wd → Option (α × Wd)} {g : α → Wd → Option β} {a : α} (h : ∀ w, CSt w 1 S → ∃ w', f w = some (a, w') ∧ Sm KY w w') (k : SD S mk (g a)) : SD S mk (fun w => (f w).bind fun z => u2 z fun r w' => g r w') := by
  obtain ⟨i, k⟩ := k
  refine ⟨i, fun w hw => ?_⟩
  obtain ⟨w1, e1, s1⟩ := h w hw
  obtain ⟨w2, e2, s2⟩ := k w1 (hw.ky s1)
  refine ⟨w2, ?_, s1.tr s2⟩
  show ((f w).bind fun z => u2 z fun r w' => g r w') = _
  rw [e1, bs_p, u2_p, e2]
theorem SD.stepR {f : Wd → Option ((ε ⊕ α) × Wd)} {e : Wd → ε → Option β} {g : α → Wd → Option β} {a : α} (h : ∀ w, CSt w 1 S → ∃ w', f w = some (.inr a, w') ∧ Sm KY w w') (k : SD S mk (g a)) : SD S mk (fun w => (f w).bind fun z => u2 z fun z w' => zc z (e w') (fun r => g r w')) := by
  obtain ⟨i, k⟩ := k
  refine ⟨i, fun w hw => ?_⟩
  obtain ⟨w1, e1, s1⟩ := h w hw
  obtain ⟨w2, e2, s2⟩ := k w1 (hw.ky s1)
  refine ⟨w2, ?_, s1.tr s2⟩
  show ((f w).bind fun z => u2 z fun z w' => zc z (e w') (fun r => g r w')) = _
  rw [e1, bs_p, u2_p, zr_p, e2]
theorem SD.read {f : Wd → Option α} {g : α → Wd → Option β} {a : α} (h : ∀ w, CSt w 1 S → f w = some a) (k : SD S mk (g a)) : SD S mk (fun w => (f w).bind fun z => g z w) := by
  obtain ⟨i, k⟩ := k
  refine ⟨i, fun w hw => ?_⟩
  obtain ⟨w2, e2, s2⟩ := k w hw
  refine ⟨w2, ?_, s2⟩
  show ((f w).bind fun z => g z w) = _
  rw [h w hw, bs_p, e2]
theorem SD.readR {f : Wd → Option (ε ⊕ α)} {e : Wd → ε → Option β} {g : α → Wd → Option β} {a : α} (h : ∀ w, CSt w 1 S → f w = some (.inr a)) (k : SD S mk (g a)) : SD S mk (fun w => (f w).bind fun z => zc z (e w) (fun r => g r w)) := by
  obtain ⟨i, k⟩ := k
  refine ⟨i, fun w hw => ?_⟩
  obtain ⟨w2, e2, s2⟩ := k w hw
  refine ⟨w2, ?_, s2⟩
  show ((f w).bind fun z => zc z (e w) (fun r => g r w)) = _
  rw [h w hw, bs_p, zr_p, e2]
theorem SD.loop3 {f : Wd → Option ((α × γ × Wd) ⊕ ρ)} {e : ρ → Option β} {g : α → γ → Wd → Option β} {a : α} {b : γ} (h : ∀ w, CSt w 1 S → ∃ w', f w = some (.inl (a, b, w')) ∧ Sm KY w w') (k : SD S mk (g a b)) : SD S mk (fun w => (f w).bind fun z => zc z (fun q => u3 q fun y1 y2 w' => g y1 y2 w') e) := by
  obtain ⟨i, k⟩ := k
  refine ⟨i, fun w hw => ?_⟩
  obtain ⟨w1, e1, s1⟩ := h w hw
  obtain ⟨w2, e2, s2⟩ := k w1 (hw.ky s1)
  refine ⟨w2, ?_, s1.tr s2⟩
  show ((f w).bind fun z => zc z (fun q => u3 q fun y1 y2 w' => g y1 y2 w') e) = _
  rw [e1, bs_p, zl_p, u3_p, e2]
theorem SD.loop2 {f : Wd → Option ((α × γ) ⊕ ρ)} {e : ρ → Option β} {g : α → γ → Wd → Option β} {a : α} {b : γ} (h : ∀ w, CSt w 1 S → f w = some (.inl (a, b))) (k : SD S mk (g a b)) : SD S mk (fun w => (f w).bind fun z => zc z (fun q => u2 q fun y1 y2 => g y1 y2 w) e) := by
  obtain ⟨i, k⟩ := k
  refine ⟨i, fun w hw => ?_⟩
  obtain ⟨w2, e2, s2⟩ := k w hw
  refine ⟨w2, ?_, s2⟩
  show ((f w).bind fun z => zc z (fun q => u2 q fun y1 y2 => g y1 y2 w) e) = _
  rw [h w hw, bs_p, zl_p, u2_p, e2]
theorem SD.ifp {c : Prop} {hd : Decidable c} {a b : Wd → Option β} (hc : c) (k : SD S mk a) : SD S mk (fun w => if c then a w else b w) := by
  obtain ⟨i, k⟩ := k
  refine ⟨i, fun w hw => ?_⟩
  obtain ⟨w2, e2, s2⟩ := k w hw
  exact ⟨w2, (if_pos hc).trans e2, s2⟩
theorem SD.ifn {c : Prop} {hd : Decidable c} {a b : Wd → Option β} (hc : ¬ c) (k : SD S mk b) : SD S mk (fun w => if c then a w else b w) := by
  obtain ⟨i, k⟩ := k
  refine ⟨i, fun w hw => ?_⟩
  obtain ⟨w2, e2, s2⟩ := k w hw
  exact ⟨w2, (if_neg hc).trans e2, s2⟩
theorem SD.ret (i : ι) : SD S mk (fun w => some (mk i w)) := ⟨i, fun w _ => ⟨w, rfl, Sm.refl w⟩⟩
end
section
variable {S : Ab} {x y : Int}
theorem k_a12 (hG : Good S) (q : 0 ≤ x ∧ x < S 0) : ∃ r : Int32, ∀ w, CSt w 1 S → f_L_act w (12 : Int32) (jI x) (0 : Int32) = some (r, w) := by
  by_cases q2 : 0 < S (26 + x)
  · exact ⟨jI (S (36 + x)), fun w h => by rw [act_12, k_tension h hG q q2, bs_p, aX_r]⟩
  · exact ⟨jI (-((4 : Nat) : Int) - 1), fun w h => by rw [act_12, k_tensionN h hG q q2, bs_p, aX_e (by decide)]⟩
theorem k_a13 (hG : Good S) (q : 0 ≤ x ∧ x < S 0) : ∃ r : Int32, ∀ w, CSt w 1 S → f_L_act w (13 : Int32) (jI x) (0 : Int32) = some (r, w) := by
  by_cases q2 : 0 < S (26 + x)
  · exact ⟨jI (S (26 + x)), fun w h => by rw [act_13, k_springSize h hG q q2, bs_p, aX_r]⟩
  · exact ⟨jI (-((4 : Nat) : Int) - 1), fun w h => by rw [act_13, k_springSizeN h hG q q2, bs_p, aX_e (by decide)]⟩
theorem k_a14 (hG : Good S) (q : 0 ≤ x ∧ x < S 0) : ∃ r : Int32, ∀ w, CSt w 1 S → f_L_act w (14 : Int32) (jI x) (0 : Int32) = some (r, w) := by
  have hg := hG.1
  rcases (hG.2.1 x q.1 (by omega)).2.2.2.1 with z | z
  · exact ⟨jI (-((4 : Nat) : Int) - 1), fun w h => by rw [act_14, k_wearN h hG q z, bs_p, aX_e (by decide)]⟩
  · exact ⟨jI (S (76 + x) / 24883200000), fun w h => by rw [act_14, k_wear h hG q z, bs_p, aX_r]⟩
theorem k_a15 (hG : Good S) (q : 0 ≤ x ∧ x < S 0) (q2 : 0 ≤ y ∧ y < S 0) : ∃ r : Int32, ∀ w, CSt w 1 S → f_L_act w (15 : Int32) (jI x) (jI y) = some (r, w) := by
  by_cases z : S (92 + 10 * x + y) = 0
  · exact ⟨jI (-((4 : Nat) : Int) - 1), fun w h => by rw [act_15, k_jointN h hG q q2 z, bs_p, aX_e (by decide)]⟩
  · exact ⟨jI (jk (S (92 + 10 * x + y))), fun w h => by rw [act_15, k_joint h hG q q2 z, bs_p, aX_r]⟩
theorem k_147 (hG : Good S) (q : 0 ≤ x ∧ x < S 0) : ∀ (m n : Nat) (o : Int), 0 ≤ o → o + m = x → m < n → ∀ v : Int32, ∃ v' : Int32, ∀ w, CSt w 1 S → p_L_state_147 (jI x) n v (jI o) w = some (.inl (v', jI x, w)) := by
  have hg := hG.1
  intro m
  induction m with
  | zero =>
    intro n o o0 e hn v
    obtain ⟨n, rfl⟩ : ∃ n', n = n' + 1 := ⟨n - 1, by omega⟩
    have e : o = x := by omega
    subst e
    exact ⟨v, fun w h => by rw [p_L_state_147, if_pos (by rw [jI_le (by omega) (by omega) (by omega) (by omega)]; omega)]⟩
  | succ m ih =>
    intro n o o0 e hn v
    obtain ⟨n, rfl⟩ : ∃ n', n = n' + 1 := ⟨n - 1, by omega⟩
    obtain ⟨r, hr⟩ := k_a15 hG q (y := o) ⟨o0, by omega⟩
    obtain ⟨v', hv⟩ := ih n (o + 1) (by omega) (by omega) (by omega) ((31 : Int32) * v + r)
    refine ⟨v', fun w h => ?_⟩
    rw [p_L_state_147, if_neg (by rw [jI_le (by omega) (by omega) (by omega) (by omega)]; omega), hr w h, bs_p, u2_p, show jI o + (1 : Int32) = jI (o + 1) by rw [l32_1, jI_add]]
    exact hv w h
theorem k_201 (hG : Good S) : ∀ (m n : Nat) (p : Int), 0 ≤ p → p + m = S 1 → m < n → ∀ v : Int32, ∃ v' : Int32, ∀ w, CSt w 1 S → p_L_state_201 w n v (jI p) = some (.inl (v', jI (S 1))) := by
  have hg := hG.1
  intro m
  induction m with
  | zero =>
    intro n p p0 e hn v
    obtain ⟨n, rfl⟩ : ∃ n', n = n' + 1 := ⟨n - 1, by omega⟩
    have e : p = S 1 := by omega
    subst e
    exact ⟨v, fun w h => by rw [p_L_state_201, k_planetCount h, bs_p, if_pos (by rw [jI_le (by omega) (by omega) (by omega) (by omega)]; omega)]⟩
  | succ m ih =>
    intro n p p0 e hn v
    obtain ⟨n, rfl⟩ : ∃ n', n = n' + 1 := ⟨n - 1, by omega⟩
    obtain ⟨v', hv⟩ := ih n (p + 1) (by omega) (by omega) (by omega) ((31 : Int32) * v + jI (S (86 + p)))
    refine ⟨v', fun w h => ?_⟩
    rw [p_L_state_201, k_planetCount h, bs_p, if_neg (by rw [jI_le (by omega) (by omega) (by omega) (by omega)]; omega), k_gearOf h hG ⟨p0, by omega⟩, bs_p, zr_p, show jI p + (1 : Int32) = jI (p + 1) by rw [l32_1, jI_add]]
    exact hv w h
def mk39 (S : Ab) (i : Int32) (w : Wd) : (Int32 × Int32 × Wd) ⊕ Unit := .inl (i, jI (S 0), w)
theorem k_39 (hG : Good S) : ∀ (m n : Nat) (k : Int), 0 ≤ k → k + m = S 0 → m < n → ∀ v : Int32, SD S (mk39 S) (fun w => p_L_state_39 n v (jI k) w) := by
  have hg := hG.1
  intro m
  induction m with
  | zero =>
    intro n k k0 e hn v
    obtain ⟨n, rfl⟩ : ∃ n', n = n' + 1 := ⟨n - 1, by omega⟩
    have e : k = S 0 := by omega
    subst e
    exact ⟨v, fun w h => ⟨w, by show p_L_state_39 (n + 1) v (jI (S 0)) w = some (mk39 S v w); rw [p_L_state_39, k_gearCount h, bs_p, if_pos (by rw [jI_le (by omega) (by omega) (by omega) (by omega)]; omega)]; rfl, Sm.refl w⟩⟩
  | succ m ih =>
    intro n k k0 e hn v
    obtain ⟨n, rfl⟩ : ∃ n', n = n' + 1 := ⟨n - 1, by omega⟩
    have q : 0 ≤ k ∧ k < S 0 := ⟨k0, by omega⟩
    have K := hG.2.1 k q.1 (by omega)
    obtain ⟨r12, h12⟩ := k_a12 hG q
    obtain ⟨r13, h13⟩ := k_a13 hG q
    obtain ⟨r14, h14⟩ := k_a14 hG q
    obtain ⟨rc, hc⟩ := k_canRelease hG q
    obtain ⟨F, hF⟩ : ∃ F : Int32 → Int32, ∀ v w, CSt w 1 S → p_L_state_147 (jI k) 12 v (0 : Int32) w = some (.inl (F v, jI k, w)) :=
      ⟨fun v => Classical.choose (k_147 hG q k.toNat 12 0 (by omega) (by omega) (by omega) v), fun v => Classical.choose_spec (k_147 hG q k.toNat 12 0 (by omega) (by omega) (by omega) v)⟩
    have e1 : jI k + (1 : Int32) = jI (k + 1) := by rw [l32_1, jI_add]
    have nx := ih n (k + 1) (by omega) (by omega) (by omega)
    simp only [p_L_state_39, e1]
    refine SD.read (fun w h => k_gearCount h) ?_
    refine SD.ifn (by rw [jI_le (by omega) (by omega) (by omega) (by omega)]; omega) ?_
    refine SD.readR (fun w h => k_angle h hG q) ?_
    refine SD.readR (fun w h => k_teeth h hG q) ?_
    rcases K.2.2.2.2.2.1 with z5 | z5
    · refine SD.readR (fun w h => k_hasRatchet0 h hG q z5) ?_
      refine SD.ifp (by decide +kernel) ?_
      rcases K.2.2.2.1 with z4 | z4
      · refine SD.readR (fun w h => k_isDry0 h hG q z4) ?_
        refine SD.ifn (by decide +kernel) ?_
        refine SD.step (fun w h => ⟨w, h12 w h, Sm.refl w⟩) ?_
        refine SD.step (fun w h => ⟨w, h13 w h, Sm.refl w⟩) ?_
        refine SD.step (fun w h => ⟨w, h14 w h, Sm.refl w⟩) ?_
        refine SD.loop3 (fun w h => ⟨w, hF _ w h, Sm.refl w⟩) ?_
        refine SD.stepR (fun w h => hc w h) ?_
        by_cases zr : rc = 0
        · exact SD.ifp zr (nx _)
        · exact SD.ifn zr (nx _)
      · refine SD.readR (fun w h => k_isDry1 h hG q z4) ?_
        refine SD.ifp (by decide +kernel) ?_
        refine SD.step (fun w h => ⟨w, h12 w h, Sm.refl w⟩) ?_
        refine SD.step (fun w h => ⟨w, h13 w h, Sm.refl w⟩) ?_
        refine SD.step (fun w h => ⟨w, h14 w h, Sm.refl w⟩) ?_
        refine SD.loop3 (fun w h => ⟨w, hF _ w h, Sm.refl w⟩) ?_
        refine SD.stepR (fun w h => hc w h) ?_
        by_cases zr : rc = 0
        · exact SD.ifp zr (nx _)
        · exact SD.ifn zr (nx _)
    · refine SD.readR (fun w h => k_hasRatchet1 h hG q z5) ?_
      refine SD.ifn (by decide +kernel) ?_
      rcases K.2.2.2.1 with z4 | z4
      · refine SD.readR (fun w h => k_isDry0 h hG q z4) ?_
        refine SD.ifn (by decide +kernel) ?_
        refine SD.step (fun w h => ⟨w, h12 w h, Sm.refl w⟩) ?_
        refine SD.step (fun w h => ⟨w, h13 w h, Sm.refl w⟩) ?_
        refine SD.step (fun w h => ⟨w, h14 w h, Sm.refl w⟩) ?_
        refine SD.loop3 (fun w h => ⟨w, hF _ w h, Sm.refl w⟩) ?_
        refine SD.stepR (fun w h => hc w h) ?_
        by_cases zr : rc = 0
        · exact SD.ifp zr (nx _)
        · exact SD.ifn zr (nx _)
      · refine SD.readR (fun w h => k_isDry1 h hG q z4) ?_
        refine SD.ifp (by decide +kernel) ?_
        refine SD.step (fun w h => ⟨w, h12 w h, Sm.refl w⟩) ?_
        refine SD.step (fun w h => ⟨w, h13 w h, Sm.refl w⟩) ?_
        refine SD.step (fun w h => ⟨w, h14 w h, Sm.refl w⟩) ?_
        refine SD.loop3 (fun w h => ⟨w, hF _ w h, Sm.refl w⟩) ?_
        refine SD.stepR (fun w h => hc w h) ?_
        by_cases zr : rc = 0
        · exact SD.ifp zr (nx _)
        · exact SD.ifn zr (nx _)
theorem k_state (hG : Good S) : ∃ v : Int32, ∀ w, CSt w 1 S → ∃ w', f_L_state w = some (v, w') ∧ Sm KY w w' := by
  have hg := hG.1
  have h39 := k_39 hG (S 0).toNat 12 0 (by omega) (by omega) (by omega)
  have h201 := k_201 hG (S 1).toNat 8 0 (by omega) (by omega) (by omega)
  obtain ⟨F, hF⟩ : ∃ F : Int32 → Int32, ∀ v w, CSt w 1 S → ∃ w', p_L_state_39 12 v (0 : Int32) w = some (.inl (F v, jI (S 0), w')) ∧ Sm KY w w' := ⟨fun v => Classical.choose (h39 v), fun v => Classical.choose_spec (h39 v)⟩
  obtain ⟨F2, hF2⟩ : ∃ F : Int32 → Int32, ∀ v w, CSt w 1 S → p_L_state_201 w 8 v (0 : Int32) = some (.inl (F v, jI (S 1))) := ⟨fun v => Classical.choose (h201 v), fun v => Classical.choose_spec (h201 v)⟩
  have K : SD S (fun (i : Int32) (w : Wd) => (i, w)) (fun w => f_L_state w) := by
    simp only [f_L_state]
    refine SD.read (fun w h => k_gearCount h) ?_
    refine SD.read (fun w h => k_drops h) ?_
    refine SD.read (fun w h => k_woundTotal h) ?_
    refine SD.read (fun w h => k_releaseTotal h) ?_
    refine SD.read (fun w h => k_tensionByAccounts h) ?_
    refine SD.loop3 (fun w h => hF _ w h) ?_
    refine SD.loop2 (fun w h => hF2 _ w h) ?_
    exact SD.ret _
  exact K
end
