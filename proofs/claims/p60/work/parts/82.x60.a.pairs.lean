/-! PAIRS -/
def P1 (S : Ab) (a b : Int) : Prop := ∃ p q, (0 ≤ p ∧ p < S 0) ∧ (0 ≤ q ∧ q < S 0) ∧ p ≠ q ∧ S (6 + p) * b = S (6 + q) * a
def P2 (S : Ab) (a b : Int) : Prop := ∃ p q r s, ((0 ≤ p ∧ p < S 0) ∧ (0 ≤ q ∧ q < S 0) ∧ (0 ≤ r ∧ r < S 0) ∧ 0 ≤ s ∧ s < S 0) ∧ (p ≠ q ∧ r ≠ s ∧ r ≠ p ∧ r ≠ q ∧ s ≠ p ∧ s ≠ q) ∧ S (6 + p) * b * S (6 + r) = S (6 + q) * a * S (6 + s)
def IsN (S : Ab) (a b r : Int) : Prop := (r = 1 ∧ P1 S a b) ∨ (r = 2 ∧ ¬ P1 S a b ∧ P2 S a b) ∨ (r = 0 ∧ ¬ P1 S a b ∧ ¬ P2 S a b)
theorem IsN.uniq {S : Ab} {a b r s : Int} (h : IsN S a b r) (k : IsN S a b s) : r = s := by
  rcases h with ⟨h1, h2⟩ | ⟨h1, h2, h3⟩ | ⟨h1, h2, h3⟩ <;> rcases k with ⟨k1, k2⟩ | ⟨k1, k2, k3⟩ | ⟨k1, k2, k3⟩
  · omega
  · exact absurd h2 k2
  · exact absurd h2 k2
  · exact absurd k2 h2
  · omega
  · exact absurd h3 k3
  · exact absurd k2 h2
  · exact absurd k3 h3
  · omega
/-- a search that answers one thing -/
theorem lpEx {ρ : Type} (F : Nat → Int32 → Option (Int32 ⊕ ρ)) (p : Int → Prop) (N : Nat) (c : ρ)
    (hs : ∀ i n : Nat, i < N → ¬ p i → F (n + 1) (jI i) = F n (jI ((i + 1 : Nat) : Int)))
    (hf : ∀ i n : Nat, i < N → p i → F (n + 1) (jI i) = some (.inr c))
    (he : ∀ n : Nat, F (n + 1) (jI N) = some (.inl (jI N))) (hN : N < 2000) :
    ((∃ j : Int, 0 ≤ j ∧ j < N ∧ p j) ∧ F 2000 (0 : Int32) = some (.inr c)) ∨ ((∀ j : Int, 0 ≤ j → j < N → ¬ p j) ∧ F 2000 (0 : Int32) = some (.inl (jI N))) := by
  rcases lpFind F p N (fun _ => c) hs hf he 2000 hN with ⟨r, r0, r1, r2, -, r4⟩ | ⟨r3, r4⟩
  · exact Or.inl ⟨⟨r, r0, r1, r2⟩, r4⟩
  · exact Or.inr ⟨r3, r4⟩
theorem tt_b {S : Ab} (hG : Good S) {i : Int} (i0 : 0 ≤ i) (i1 : i < S 0) : 6 ≤ S (6 + i) ∧ S (6 + i) ≤ 60 := by
  have hg := hG.1
  exact tooth_b ((hG.2.1 i i0 (by omega)).1 i1)
theorem mulb {x y a b : Int} (x0 : 0 ≤ x) (x1 : x ≤ a) (y0 : 0 ≤ y) (y1 : y ≤ b) : 0 ≤ x * y ∧ x * y ≤ a * b := ⟨Int.mul_nonneg x0 y0, Int.mul_le_mul x1 y1 y0 (by omega)⟩
theorem s_try2 {w : Wd} {S : Ab} (hG : Good S) (h : CSt w 1 S) {a b : Int} (a0 : 1 ≤ a ∧ a ≤ 60) (b0 : 1 ≤ b ∧ b ≤ 60) :
    (P1 S a b ∧ p_X5_byTrying_2 w (jI b) (jI a) 2000 (0 : Int32) = some (.inr (1 : Int32))) ∨ (¬ P1 S a b ∧ ∃ z, p_X5_byTrying_2 w (jI b) (jI a) 2000 (0 : Int32) = some (.inl z)) := by
  have hg := hG.1
  have e1 : (((S 0).toNat : Nat) : Int) = S 0 := by omega
  have inner : ∀ p : Int, 0 ≤ p → p < S 0 → ((∃ q : Int, 0 ≤ q ∧ q < ((S 0).toNat : Nat) ∧ (p ≠ q ∧ S (6 + p) * b = S (6 + q) * a)) ∧ p_X5_byTrying_16 w (jI p) (jI b) (jI a) 2000 (0 : Int32) = some (.inr (1 : Int32))) ∨ ((∀ q : Int, 0 ≤ q → q < ((S 0).toNat : Nat) → ¬ (p ≠ q ∧ S (6 + p) * b = S (6 + q) * a)) ∧ p_X5_byTrying_16 w (jI p) (jI b) (jI a) 2000 (0 : Int32) = some (.inl (jI ((S 0).toNat : Nat)))) := by
    intro p p0 p1
    have tp := tt_b hG p0 p1
    have m1 := mulb (x := S (6 + p)) (y := b) (a := 60) (b := 60) (by omega) (by omega) (by omega) (by omega)
    have st : ∀ i n : Nat, i < (S 0).toNat → p_X5_byTrying_16 w (jI p) (jI b) (jI a) (n + 1) (jI (i : Int)) = if p ≠ (i : Int) ∧ S (6 + p) * b = S (6 + (i : Int)) * a then some (.inr (1 : Int32)) else p_X5_byTrying_16 w (jI p) (jI b) (jI a) n (jI ((i + 1 : Nat) : Int)) := by
      intro i n hi
      have ti := tt_b hG (i := i) (by omega) (by omega)
      have m2 := mulb (x := S (6 + (i : Int))) (y := a) (a := 60) (b := 60) (by omega) (by omega) (by omega) (by omega)
      rw [p_X5_byTrying_16, c_g h, if_neg (show ¬ jI (S 0) ≤ jI (i : Int) by rw [jI_le (by omega) (by omega) (by omega) (by omega)]; omega), l32_1, jI_add]
      by_cases q : p = (i : Int)
      · rw [if_pos (by rw [q]), if_neg (fun c => c.1 q)]
        rfl
      · rw [if_neg (by rw [jI_eq (by omega) (by omega) (by omega) (by omega)]; exact q), if_pos (by rw [inR_j (by omega) (by omega)]; omega), if_pos (by rw [inR_j (by omega) (by omega)]; omega), jI_clamp (by omega) (by omega), jI_clamp (by omega) (by omega), c_t h p p0 (by omega), c_t h i (by omega) (by omega), jI_mul, jI_mul]
        by_cases v : S (6 + p) * b = S (6 + (i : Int)) * a
        · rw [if_pos (by rw [v]), if_pos ⟨q, v⟩]
        · rw [if_neg (by rw [jI_eq (by omega) (by omega) (by omega) (by omega)]; exact v), if_neg (fun c => v c.2)]
          rfl
    exact lpEx (p_X5_byTrying_16 w (jI p) (jI b) (jI a)) (fun q => p ≠ q ∧ S (6 + p) * b = S (6 + q) * a) (S 0).toNat (1 : Int32)
      (fun i n hi hp => by rw [st i n hi]; exact if_neg hp) (fun i n hi hp => by rw [st i n hi]; exact if_pos hp)
      (fun n => by
        rw [p_X5_byTrying_16, e1, c_g h]
        exact if_pos (show jI (S 0) ≤ jI (S 0) by rw [jI_le (by omega) (by omega) (by omega) (by omega)]; omega)) (by omega)
  have outer := lpEx (p_X5_byTrying_2 w (jI b) (jI a)) (fun p => ∃ q : Int, 0 ≤ q ∧ q < ((S 0).toNat : Nat) ∧ (p ≠ q ∧ S (6 + p) * b = S (6 + q) * a)) (S 0).toNat (1 : Int32)
    (fun i n hi hp => by
      rw [p_X5_byTrying_2, c_g h, if_neg (show ¬ jI (S 0) ≤ jI (i : Int) by rw [jI_le (by omega) (by omega) (by omega) (by omega)]; omega), l32_1, jI_add]
      rcases inner i (by omega) (by omega) with ⟨k, -⟩ | ⟨-, k⟩
      · exact absurd k hp
      · rw [k, bs_p, zl_p]
        rfl)
    (fun i n hi hp => by
      rw [p_X5_byTrying_2, c_g h, if_neg (show ¬ jI (S 0) ≤ jI (i : Int) by rw [jI_le (by omega) (by omega) (by omega) (by omega)]; omega)]
      rcases inner i (by omega) (by omega) with ⟨-, k⟩ | ⟨k, -⟩
      · rw [k, bs_p, zr_p]
      · obtain ⟨q, q0, q1, q2⟩ := hp
        exact absurd q2 (k q q0 q1))
    (fun n => by
      rw [p_X5_byTrying_2, e1, c_g h]
      exact if_pos (show jI (S 0) ≤ jI (S 0) by rw [jI_le (by omega) (by omega) (by omega) (by omega)]; omega)) (by omega)
  rcases outer with ⟨⟨p, p0, p1, q, q0, q1, q2, q3⟩, k⟩ | ⟨k1, k⟩
  · exact Or.inl ⟨⟨p, q, ⟨p0, by omega⟩, ⟨q0, by omega⟩, q2, q3⟩, k⟩
  · exact Or.inr ⟨fun ⟨p, q, hp, hq, q2, q3⟩ => k1 p hp.1 (by omega) ⟨q, hq.1, by omega, q2, q3⟩, _, k⟩
