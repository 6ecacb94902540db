/-! THE REFERENCE's loop over the commands -/
def RLs (w : Wd) (h : Int → Int) (k : Nat) : Prop := ∀ j, j < k → gI w 150 (3 * j) = jI (cde (cv h (stt h j))) ∧ gI w 150 (3 * j + 1) = jI (cA h (stt h j)) ∧ (2 ≤ shp (cv h (stt h j)) → gI w 150 (3 * j + 2) = jI (cB h (stt h j)))
def RG (w w' : Wd) : Prop := Sm (fun k => k = 141 ∨ k = 150) w w' ∧ ∀ i, i ≠ 15 → i ≠ 16 → gI w' 141 i = gI w 141 i
theorem RG.tr {w w1 w2 : Wd} (h : RG w w1) (k : RG w1 w2) : RG w w2 := ⟨h.1.tr k.1, fun i a b => (k.2 i a b).trans (h.2 i a b)⟩
theorem RFp.g {z : Nat} {w w' : Wd} (h : RFp z w w') : RG w w' := ⟨h.1, h.2.1⟩
theorem RG.w5 (w : Wd) (v : Int32) : RG w (uI w 141 15 v) := ⟨Sm.wI w (Or.inl rfl), fun i a _ => by rw [gI_uI, if_neg (fun z => a z.2)]⟩
theorem RG.w6 (w : Wd) (v : Int32) : RG w (uI w 141 16 v) := ⟨Sm.wI w (Or.inl rfl), fun i _ a => by rw [gI_uI, if_neg (fun z => a z.2)]⟩
theorem RLs.nx {w w1 : Wd} {X : Int → Int} {C : Int} {k : Nat} (h : RLs w (hr X C) k) (r : RC (3 * k) w w1 X C (stt (hr X C) k)) (z : (cQ (hr X C) (stt (hr X C) k)).2 = 0) (v : Int32) : RLs (uI w1 141 15 v) (hr X C) (k + 1) := by
  obtain ⟨r1, r2, r3⟩ := r
  have r3 := r3 z
  intro j hj
  rw [gI_uI, if_neg (by omega), gI_uI, if_neg (by omega), gI_uI, if_neg (by omega)]
  by_cases y : j = k
  · rw [y]
    exact r3
  · rw [r1.2.2 (3 * j) (by omega), r1.2.2 (3 * j + 1) (by omega), r1.2.2 (3 * j + 2) (by omega)]
    exact h j (by omega)
theorem s_rLast (f : Nat) (a : Int32) (w : Wd) : p_X11_runScript_14 (f + 1) a (0 : Int32) w = some (.inl (a, 0, w)) := by
  rw [p_X11_runScript_14]
  exact if_pos rfl
section
variable {X : Int → Int} {C : Int}
theorem s_rParse (hB : TXb X C) {K : Nat} (hK : K ≤ 30) (hg : ∀ j, j < K → gon (hr X C) j) (hn : ¬ gon (hr X C) K) : ∀ (n k f : Nat) (w : Wd), k + n = K → n + 1 < f → RP w X C (stt (hr X C) k, 0) → RLs w (hr X C) k →
    ∃ w', p_X11_runScript_14 f (jI (k : Int)) (1 : Int32) w = some (.inl (jI ((K + 1 : Nat) : Int), 0, w')) ∧ RG w w' ∧ RTx w' X C ∧ gI w' 141 15 = jI (cQ (hr X C) (stt (hr X C) K)).1 ∧ gI w' 141 16 = jI (cQ (hr X C) (stt (hr X C) K)).2 ∧ ((cQ (hr X C) (stt (hr X C) K)).2 = 0 → RLs w' (hr X C) (K + 1)) := by
  intro n
  induction n with
  | zero =>
    intro k f w hk hf h hL
    obtain ⟨f, rfl⟩ : ∃ f', f = f' + 1 + 1 := ⟨f - 2, by omega⟩
    have e : k = K := by omega
    subst e
    have e3 : (3 : Int32) * jI (k : Int) = jI ((3 * k : Nat) : Int) := by rw [l32_3, jI_mul]; rfl
    have e1 : jI (k : Int) + (1 : Int32) = jI ((k + 1 : Nat) : Int) := by rw [l32_1, jI_add]; rfl
    obtain ⟨w1, a1, a2⟩ := s_rCmd hB (z := 3 * k) (by omega) h
    have r2 := a2.2.1
    have hh := s_here hB r2
    have hi := hr_i hB r2.2.2.2.1.1
    have c60 := hB.1
    have r24 := r2.2.2.2.1
    rw [p_X11_runScript_14, if_neg (show ¬ (1 : Int32) = 0 by decide +kernel), e3, a1, bs_p, r2.2.2.1, r2.2.1]
    have R3 : RTx (uI w1 141 15 (jI (cQ (hr X C) (stt (hr X C) k)).1)) X C := r2.1.fn (RFn.w5 w1 _)
    have G3 := a2.1.g.tr (RG.w5 w1 (jI (cQ (hr X C) (stt (hr X C) k)).1))
    have e6 : gI (uI w1 141 15 (jI (cQ (hr X C) (stt (hr X C) k)).1)) 141 16 = jI (cQ (hr X C) (stt (hr X C) k)).2 := by rw [gI_uI, if_neg (by omega)]; exact r2.2.2.1
    have e5 : gI (uI w1 141 15 (jI (cQ (hr X C) (stt (hr X C) k)).1)) 141 15 = jI (cQ (hr X C) (stt (hr X C) k)).1 := by rw [gI_uI, if_pos ⟨rfl, rfl⟩]
    have L3 : (cQ (hr X C) (stt (hr X C) k)).2 = 0 → RLs (uI w1 141 15 (jI (cQ (hr X C) (stt (hr X C) k)).1)) (hr X C) (k + 1) := fun z => hL.nx a2 z _
    have ez : jI (cQ (hr X C) (stt (hr X C) k)).1 + (0 : Int32) = jI (cQ (hr X C) (stt (hr X C) k)).1 := by rw [l32_0, jI_add, Int.add_zero]
    rcases r2.2.2.2.2 with z | z
    · have n59 : ¬ hr X C (cQ (hr X C) (stt (hr X C) k)).1 = 59 := fun a => hn ⟨z, a⟩
      rw [if_pos (by rw [z]; rfl), hh, bs_p, if_neg (by rw [l32_59, jI_eq (by omega) (by omega) (by omega) (by omega)]; exact n59), ez, wl_p, e1, s_rLast]
      exact ⟨_, rfl, G3, R3, e5, e6, L3⟩
    · rw [if_neg (by rw [z]; decide +kernel), ez, wl_p, e1, s_rLast]
      exact ⟨_, rfl, G3, R3, e5, e6, L3⟩
  | succ n ih =>
    intro k f w hk hf h hL
    obtain ⟨f, rfl⟩ : ∃ f', f = f' + 1 := ⟨f - 1, by omega⟩
    have e3 : (3 : Int32) * jI (k : Int) = jI ((3 * k : Nat) : Int) := by rw [l32_3, jI_mul]; rfl
    have e1 : jI (k : Int) + (1 : Int32) = jI ((k + 1 : Nat) : Int) := by rw [l32_1, jI_add]; rfl
    obtain ⟨w1, a1, a2⟩ := s_rCmd hB (z := 3 * k) (by omega) h
    have g := hg k (by omega)
    have z := g.1
    have r2 := a2.2.1
    have hh := s_here hB r2
    have r24 := r2.2.2.2.1
    have hi := hr_b hB r24.1
    have g2 := g.2
    have c60 := hB.1
    have G3 := a2.1.g.tr (RG.w5 w1 (jI ((cQ (hr X C) (stt (hr X C) k)).1 + 1)))
    have R3 : RP (uI w1 141 15 (jI ((cQ (hr X C) (stt (hr X C) k)).1 + 1))) X C (stt (hr X C) (k + 1), 0) :=
      ⟨r2.1.fn (RFn.w5 w1 _), by rw [gI_uI, if_pos ⟨rfl, rfl⟩]; rfl, by rw [gI_uI, if_neg (by omega), r2.2.2.1, z], ⟨by show 0 ≤ (cQ (hr X C) (stt (hr X C) k)).1 + 1; omega, by show (cQ (hr X C) (stt (hr X C) k)).1 + 1 ≤ C; omega⟩, Or.inl rfl⟩
    obtain ⟨w', b1, b2, b3⟩ := ih (k + 1) f _ (by omega) (by omega) R3 (hL.nx a2 z _)
    refine ⟨w', ?_, G3.tr b2, b3⟩
    rw [p_X11_runScript_14, if_neg (show ¬ (1 : Int32) = 0 by decide +kernel), e3, a1, bs_p, r2.2.2.1, r2.2.1, if_pos (by rw [z]; rfl), hh, bs_p, if_pos (by rw [g2]; rfl), e1]
    rw [show jI (cQ (hr X C) (stt (hr X C) k)).1 + (1 : Int32) = jI ((cQ (hr X C) (stt (hr X C) k)).1 + 1) by rw [l32_1, jI_add], wl_p]
    exact b1
end
