def Q4 (S : Ab) (p q A B r s : Int) : Prop := (r ≠ s ∧ r ≠ p ∧ r ≠ q ∧ s ≠ p ∧ s ≠ q) ∧ A * S (6 + r) = B * S (6 + s)
theorem s_second {w : Wd} {S : Ab} (hG : Good S) (h : CSt w 1 S) {p q a b : Int} (p0 : 0 ≤ p ∧ p < S 0) (q0 : 0 ≤ q ∧ q < S 0) (a0 : 1 ≤ a ∧ a ≤ 60) (b0 : 1 ≤ b ∧ b ≤ 60) :
    ((∃ r s, (0 ≤ r ∧ r < S 0) ∧ (0 ≤ s ∧ s < S 0) ∧ Q4 S p q (S (6 + p) * b) (S (6 + q) * a) r s) ∧ f_X5_hasSecondPair w (jI p) (jI q) (jI a) (jI b) = some (jI 1)) ∨ ((¬ ∃ r s, (0 ≤ r ∧ r < S 0) ∧ (0 ≤ s ∧ s < S 0) ∧ Q4 S p q (S (6 + p) * b) (S (6 + q) * a) r s) ∧ f_X5_hasSecondPair w (jI p) (jI q) (jI a) (jI b) = some (jI 0)) := by
  have hg := hG.1
  have e1 : (((S 0).toNat : Nat) : Int) = S 0 := by omega
  have tp := tt_b hG p0.1 p0.2
  have tq := tt_b hG q0.1 q0.2
  have mA := mulb (x := S (6 + p)) (y := b) (a := 60) (b := 60) (by omega) (by omega) (by omega) (by omega)
  have mB := mulb (x := S (6 + q)) (y := a) (a := 60) (b := 60) (by omega) (by omega) (by omega) (by omega)
  have P : f_X5_hasSecondPair w (jI p) (jI q) (jI a) (jI b) = ((p_X5_hasSecondPair_30 w (jI p) (jI q) (jI (S (6 + p) * b)) (jI (S (6 + q) * a)) 2000 (0 : Int32)).bind fun z => zc z (fun y3 => (some (0 : Int32))) (fun r => (some r))) := by
    unfold f_X5_hasSecondPair
    rw [if_pos (by rw [inR_j (by omega) (by omega)]; omega), if_pos (by rw [inR_j (by omega) (by omega)]; omega), jI_clamp (by omega) (by omega), jI_clamp (by omega) (by omega), c_t h p p0.1 (by omega), c_t h q q0.1 (by omega), jI_mul, jI_mul]
  generalize S (6 + p) * b = A at *
  generalize S (6 + q) * a = B at *
  have eqn : ∀ x y : Int, 0 ≤ x → x ≤ 10 → 0 ≤ y → y ≤ 10 → (jI x = jI y) = (x = y) := fun x y _ _ _ _ => jI_eq (by omega) (by omega) (by omega) (by omega)
  have inner : ∀ r : Int, 0 ≤ r → r < S 0 → ((∃ s : Int, 0 ≤ s ∧ s < ((S 0).toNat : Nat) ∧ Q4 S p q A B r s) ∧ p_X5_hasSecondPair_45 w (jI r) (jI p) (jI q) (jI A) (jI B) 2000 (0 : Int32) = some (.inr (1 : Int32))) ∨ ((∀ s : Int, 0 ≤ s → s < ((S 0).toNat : Nat) → ¬ Q4 S p q A B r s) ∧ p_X5_hasSecondPair_45 w (jI r) (jI p) (jI q) (jI A) (jI B) 2000 (0 : Int32) = some (.inl (jI ((S 0).toNat : Nat)))) := by
    intro r r0 r1
    have tr := tt_b hG r0 r1
    have m1 := mulb (x := A) (y := S (6 + r)) (a := 3600) (b := 60) (by omega) (by omega) (by omega) (by omega)
    have st : ∀ i n : Nat, i < (S 0).toNat → (Q4 S p q A B r i → p_X5_hasSecondPair_45 w (jI r) (jI p) (jI q) (jI A) (jI B) (n + 1) (jI (i : Int)) = some (.inr (1 : Int32))) ∧ (¬ Q4 S p q A B r i → p_X5_hasSecondPair_45 w (jI r) (jI p) (jI q) (jI A) (jI B) (n + 1) (jI (i : Int)) = p_X5_hasSecondPair_45 w (jI r) (jI p) (jI q) (jI A) (jI B) n (jI ((i + 1 : Nat) : Int))) := by
      intro i n hi
      have ti := tt_b hG (i := i) (by omega) (by omega)
      have m2 := mulb (x := B) (y := S (6 + (i : Int))) (a := 3600) (b := 60) (by omega) (by omega) (by omega) (by omega)
      have nx : jI (i : Int) + jI 1 = jI ((i + 1 : Nat) : Int) := by rw [jI_add]; rfl
      rw [p_X5_hasSecondPair_45, c_g h, if_neg (show ¬ jI (S 0) ≤ jI (i : Int) by rw [jI_le (by omega) (by omega) (by omega) (by omega)]; omega), l32_1, nx]
      by_cases v1 : r = (i : Int)
      · rw [if_pos (by rw [v1])]
        exact ⟨fun c => absurd v1 c.1.1, fun _ => rfl⟩
      rw [if_neg (by rw [eqn _ _ (by omega) (by omega) (by omega) (by omega)]; exact v1)]
      by_cases v2 : r = p
      · rw [if_pos (by rw [v2])]
        exact ⟨fun c => absurd v2 c.1.2.1, fun _ => rfl⟩
      rw [if_neg (by rw [eqn _ _ (by omega) (by omega) (by omega) (by omega)]; exact v2)]
      by_cases v3 : r = q
      · rw [if_pos (by rw [v3])]
        exact ⟨fun c => absurd v3 c.1.2.2.1, fun _ => rfl⟩
      rw [if_neg (by rw [eqn _ _ (by omega) (by omega) (by omega) (by omega)]; exact v3)]
      by_cases v4 : (i : Int) = p
      · rw [if_pos (by rw [v4])]
        exact ⟨fun c => absurd v4 c.1.2.2.2.1, fun _ => rfl⟩
      rw [if_neg (by rw [eqn _ _ (by omega) (by omega) (by omega) (by omega)]; exact v4)]
      by_cases v5 : (i : Int) = q
      · rw [if_pos (by rw [v5])]
        exact ⟨fun c => absurd v5 c.1.2.2.2.2, fun _ => rfl⟩
      rw [if_neg (by rw [eqn _ _ (by omega) (by omega) (by omega) (by omega)]; exact v5), if_pos (by rw [inR_j (by omega) (by omega)]; omega), if_pos (by rw [inR_j (by omega) (by omega)]; omega), jI_clamp (by omega) (by omega), jI_clamp (by omega) (by omega), c_t h r r0 (by omega), c_t h i (by omega) (by omega), jI_mul, jI_mul]
      by_cases v : A * S (6 + r) = B * S (6 + (i : Int))
      · rw [if_pos (by rw [v])]
        exact ⟨fun _ => rfl, fun c => absurd ⟨⟨v1, v2, v3, v4, v5⟩, v⟩ c⟩
      · rw [if_neg (by rw [jI_eq (by omega) (by omega) (by omega) (by omega)]; exact v)]
        exact ⟨fun c => absurd c.2 v, fun _ => rfl⟩
    exact lpEx (p_X5_hasSecondPair_45 w (jI r) (jI p) (jI q) (jI A) (jI B)) (fun s => Q4 S p q A B r s) (S 0).toNat (1 : Int32)
      (fun i n hi hp => (st i n hi).2 hp) (fun i n hi hp => (st i n hi).1 hp)
      (fun n => by
        rw [p_X5_hasSecondPair_45, e1, c_g h]
        exact if_pos (show jI (S 0) ≤ jI (S 0) by rw [jI_le (by omega) (by omega) (by omega) (by omega)]; omega)) (by omega)
  have outer := lpEx (p_X5_hasSecondPair_30 w (jI p) (jI q) (jI A) (jI B)) (fun r => ∃ s : Int, 0 ≤ s ∧ s < ((S 0).toNat : Nat) ∧ Q4 S p q A B r s) (S 0).toNat (1 : Int32)
    (fun i n hi hp => by
      rw [p_X5_hasSecondPair_30, c_g h, if_neg (show ¬ jI (S 0) ≤ jI (i : Int) by rw [jI_le (by omega) (by omega) (by omega) (by omega)]; omega), l32_1, jI_add]
      rcases inner i (by omega) (by omega) with ⟨k, -⟩ | ⟨-, k⟩
      · exact absurd k hp
      · rw [k, bs_p, zl_p]
        rfl)
    (fun i n hi hp => by
      rw [p_X5_hasSecondPair_30, c_g h, if_neg (show ¬ jI (S 0) ≤ jI (i : Int) by rw [jI_le (by omega) (by omega) (by omega) (by omega)]; omega)]
      rcases inner i (by omega) (by omega) with ⟨-, k⟩ | ⟨k, -⟩
      · rw [k, bs_p, zr_p]
      · obtain ⟨s, s0, s1, s2⟩ := hp
        exact absurd s2 (k s s0 s1))
    (fun n => by
      rw [p_X5_hasSecondPair_30, e1, c_g h]
      exact if_pos (show jI (S 0) ≤ jI (S 0) by rw [jI_le (by omega) (by omega) (by omega) (by omega)]; omega)) (by omega)
  rw [P]
  rcases outer with ⟨⟨r, r0, r1, s, s0, s1, s2⟩, k⟩ | ⟨k1, k⟩
  · exact Or.inl ⟨⟨r, s, ⟨r0, by omega⟩, ⟨s0, by omega⟩, s2⟩, by rw [k]; rfl⟩
  · exact Or.inr ⟨fun ⟨r, s, hr, hs, h2⟩ => k1 r hr.1 (by omega) ⟨s, hs.1, by omega, h2⟩, by rw [k]; rfl⟩
theorem s_trying {w : Wd} {S : Ab} (hG : Good S) (h : CSt w 1 S) {a b : Int} (a0 : 1 ≤ a ∧ a ≤ 60) (b0 : 1 ≤ b ∧ b ≤ 60) : ∃ r, f_X5_byTrying w (jI a) (jI b) = some (jI r) ∧ IsN S a b r := by
  have hg := hG.1
  have e1 : (((S 0).toNat : Nat) : Int) = S 0 := by omega
  unfold f_X5_byTrying
  rcases s_try2 hG h a0 b0 with ⟨k1, k⟩ | ⟨k1, z, k⟩
  · exact ⟨1, by rw [k]; rfl, Or.inl ⟨rfl, k1⟩⟩
  · rw [k, bs_p, zl_p]
    have inner : ∀ p : Int, 0 ≤ p → p < S 0 → ((∃ q : Int, 0 ≤ q ∧ q < ((S 0).toNat : Nat) ∧ (p ≠ q ∧ ∃ r s, (0 ≤ r ∧ r < S 0) ∧ (0 ≤ s ∧ s < S 0) ∧ Q4 S p q (S (6 + p) * b) (S (6 + q) * a) r s)) ∧ p_X5_byTrying_90 w (jI p) (jI a) (jI b) 2000 (0 : Int32) = some (.inr (2 : Int32))) ∨ ((∀ q : Int, 0 ≤ q → q < ((S 0).toNat : Nat) → ¬ (p ≠ q ∧ ∃ r s, (0 ≤ r ∧ r < S 0) ∧ (0 ≤ s ∧ s < S 0) ∧ Q4 S p q (S (6 + p) * b) (S (6 + q) * a) r s)) ∧ p_X5_byTrying_90 w (jI p) (jI a) (jI b) 2000 (0 : Int32) = some (.inl (jI ((S 0).toNat : Nat)))) := by
      intro p p0 p1
      refine lpEx (p_X5_byTrying_90 w (jI p) (jI a) (jI b)) (fun q => p ≠ q ∧ ∃ r s, (0 ≤ r ∧ r < S 0) ∧ (0 ≤ s ∧ s < S 0) ∧ Q4 S p q (S (6 + p) * b) (S (6 + q) * a) r s) (S 0).toNat (2 : Int32) (fun i n hi hp => ?_) (fun i n hi hp => ?_) (fun n => ?_) (by omega)
      · have nx : jI (i : Int) + jI 1 = jI ((i + 1 : Nat) : Int) := by rw [jI_add]; rfl
        rw [p_X5_byTrying_90, c_g h, if_neg (show ¬ jI (S 0) ≤ jI (i : Int) by rw [jI_le (by omega) (by omega) (by omega) (by omega)]; omega), l32_1, nx]
        by_cases v : p = (i : Int)
        · rw [if_pos (by rw [v])]
        · rw [if_neg (by rw [jI_eq (by omega) (by omega) (by omega) (by omega)]; exact v)]
          rcases s_second hG h ⟨p0, p1⟩ (q := i) ⟨by omega, by omega⟩ a0 b0 with ⟨c, -⟩ | ⟨-, c⟩
          · exact absurd ⟨v, c⟩ hp
          · rw [c, bs_p]
            exact if_pos rfl
      · rw [p_X5_byTrying_90, c_g h, if_neg (show ¬ jI (S 0) ≤ jI (i : Int) by rw [jI_le (by omega) (by omega) (by omega) (by omega)]; omega), if_neg (by rw [jI_eq (by omega) (by omega) (by omega) (by omega)]; exact hp.1)]
        rcases s_second hG h ⟨p0, p1⟩ (q := i) ⟨by omega, by omega⟩ a0 b0 with ⟨-, c⟩ | ⟨c, -⟩
        · rw [c, bs_p]
          exact if_neg (by decide +kernel)
        · exact absurd hp.2 c
      · rw [p_X5_byTrying_90, e1, c_g h]
        exact if_pos (show jI (S 0) ≤ jI (S 0) by rw [jI_le (by omega) (by omega) (by omega) (by omega)]; omega)
    have outer := lpEx (p_X5_byTrying_76 w (jI a) (jI b)) (fun p => ∃ q : Int, 0 ≤ q ∧ q < ((S 0).toNat : Nat) ∧ (p ≠ q ∧ ∃ r s, (0 ≤ r ∧ r < S 0) ∧ (0 ≤ s ∧ s < S 0) ∧ Q4 S p q (S (6 + p) * b) (S (6 + q) * a) r s)) (S 0).toNat (2 : Int32)
      (fun i n hi hp => by
        rw [p_X5_byTrying_76, c_g h, if_neg (show ¬ jI (S 0) ≤ jI (i : Int) by rw [jI_le (by omega) (by omega) (by omega) (by omega)]; omega), l32_1, jI_add]
        rcases inner i (by omega) (by omega) with ⟨k, -⟩ | ⟨-, k⟩
        · exact absurd k hp
        · rw [k, bs_p, zl_p]
          rfl)
      (fun i n hi hp => by
        rw [p_X5_byTrying_76, c_g h, if_neg (show ¬ jI (S 0) ≤ jI (i : Int) by rw [jI_le (by omega) (by omega) (by omega) (by omega)]; omega)]
        rcases inner i (by omega) (by omega) with ⟨-, k⟩ | ⟨k, -⟩
        · rw [k, bs_p, zr_p]
        · obtain ⟨s, s0, s1, s2⟩ := hp
          exact absurd s2 (k s s0 s1))
      (fun n => by
        rw [p_X5_byTrying_76, e1, c_g h]
        exact if_pos (show jI (S 0) ≤ jI (S 0) by rw [jI_le (by omega) (by omega) (by omega) (by omega)]; omega)) (by omega)
    rcases outer with ⟨⟨p, p0, p1, q, q0, q1, q2, r, s, hr, hs, h4⟩, c⟩ | ⟨c1, c⟩
    · refine ⟨2, by rw [c]; rfl, Or.inr (Or.inl ⟨rfl, k1, p, q, r, s, ⟨⟨p0, by omega⟩, ⟨q0, by omega⟩, hr, hs⟩, ⟨q2, h4.1⟩, h4.2⟩)⟩
    · refine ⟨0, by rw [c]; rfl, Or.inr (Or.inr ⟨rfl, k1, fun ⟨p, q, r, s, hb, hd, he⟩ => c1 p hb.1.1 (by omega) ⟨q, hb.2.1.1, by omega, hd.1, r, s, hb.2.2.1, hb.2.2.2, hd.2, he⟩⟩)⟩
