/-! the reference's way -/
theorem ten_q {x : Int} (x0 : 0 ≤ x) (x1 : x < 100) : jI x / (10 : Int32) = jI (x / 10) ∧ jI x - jI x / (10 : Int32) * (10 : Int32) = jI (x % 10) := by
  have e : jI x / (10 : Int32) = jI (x / 10) := by
    rw [l32_10, jI_div (by omega) (by omega) (by omega) (by omega), Int.tdiv_eq_ediv_of_nonneg x0]
  refine ⟨e, ?_⟩
  rw [e, l32_10, jI_mul, jI_sub]
  congr 1
  omega
def T1 (S : Ab) (a b x : Int) : Prop := (x / 10 < S 0 ∧ x % 10 < S 0) ∧ x / 10 ≠ x % 10 ∧ S (6 + x / 10) * b = S (6 + x % 10) * a
def T2 (S : Ab) (a b x y : Int) : Prop := (x / 10 ≠ x % 10 ∧ x / 10 ≠ y / 10 ∧ x / 10 ≠ y % 10 ∧ x % 10 ≠ y / 10 ∧ x % 10 ≠ y % 10 ∧ y / 10 ≠ y % 10) ∧ (x / 10 < S 0 ∧ x % 10 < S 0 ∧ y / 10 < S 0 ∧ y % 10 < S 0) ∧ S (6 + x / 10) * S (6 + y / 10) * b = S (6 + x % 10) * S (6 + y % 10) * a
theorem P1_iff {S : Ab} (hG : Good S) {a b : Int} : P1 S a b ↔ ∃ x, 0 ≤ x ∧ x < 100 ∧ T1 S a b x := by
  have hg := hG.1
  constructor
  · intro ⟨p, q, hp, hq, hn, he⟩
    refine ⟨10 * p + q, by omega, by omega, ?_⟩
    unfold T1
    rw [show (10 * p + q) / 10 = p by omega, show (10 * p + q) % 10 = q by omega]
    exact ⟨⟨hp.2, hq.2⟩, hn, he⟩
  · intro ⟨x, x0, x1, h1, h2, h3⟩
    exact ⟨x / 10, x % 10, ⟨by omega, h1.1⟩, ⟨by omega, h1.2⟩, h2, h3⟩
theorem P2_iff {S : Ab} (hG : Good S) {a b : Int} : P2 S a b ↔ ∃ x y, (0 ≤ x ∧ x < 100) ∧ (0 ≤ y ∧ y < 100) ∧ T2 S a b x y := by
  have hg := hG.1
  constructor
  · intro ⟨p, q, r, s, ⟨hp, hq, hr, hs⟩, hn, he⟩
    refine ⟨10 * p + q, 10 * r + s, by omega, by omega, ?_⟩
    unfold T2
    rw [show (10 * p + q) / 10 = p by omega, show (10 * p + q) % 10 = q by omega, show (10 * r + s) / 10 = r by omega, show (10 * r + s) % 10 = s by omega]
    refine ⟨by omega, ⟨hp.2, hq.2, hr.2, hs.2⟩, by grind⟩
  · intro ⟨x, y, hx, hy, h1, h2, h3⟩
    exact ⟨x / 10, x % 10, y / 10, y % 10, ⟨⟨by omega, h2.1⟩, ⟨by omega, h2.2.1⟩, ⟨by omega, h2.2.2.1⟩, ⟨by omega, h2.2.2.2⟩⟩, by omega, by grind⟩
section
variable {w : Wd} {S : Ab} {a b : Int}
theorem s_areTwo (hG : Good S) (h : RSt w 142 0 S) (a0 : 1 ≤ a ∧ a ≤ 60) (b0 : 1 ≤ b ∧ b ≤ 60) {x y : Int} (x0 : 0 ≤ x) (x1 : x < 100) (y0 : 0 ≤ y) (y1 : y < 100) :
    (T2 S a b x y ∧ f_X11_areTwoPairs w (jI x) (jI y) (jI a) (jI b) = some (jI 1)) ∨ (¬ T2 S a b x y ∧ f_X11_areTwoPairs w (jI x) (jI y) (jI a) (jI b) = some (jI 0)) := by
  have hg := hG.1
  have tx := ten_q x0 x1
  have ty := ten_q y0 y1
  have n10 : ¬ (10 : Int32) = 0 := by decide +kernel
  have eqn : ∀ x y : Int, 0 ≤ x → x ≤ 10 → 0 ≤ y → y ≤ 10 → (jI x = jI y) = (x = y) := fun x y _ _ _ _ => jI_eq (by omega) (by omega) (by omega) (by omega)
  unfold f_X11_areTwoPairs T2
  rw [tx.2, ty.2, tx.1, ty.1, if_pos n10, if_pos n10, if_pos n10, if_pos n10]
  have p0 : 0 ≤ x / 10 ∧ x / 10 ≤ 9 := by omega
  have q0 : 0 ≤ x % 10 ∧ x % 10 ≤ 9 := by omega
  have r0 : 0 ≤ y / 10 ∧ y / 10 ≤ 9 := by omega
  have s0 : 0 ≤ y % 10 ∧ y % 10 ≤ 9 := by omega
  generalize x / 10 = p at *
  generalize x % 10 = q at *
  generalize y / 10 = r at *
  generalize y % 10 = s at *
  by_cases v1 : p = q
  · rw [if_pos (by rw [v1])]; exact Or.inr ⟨fun c => absurd v1 c.1.1, rfl⟩
  rw [if_neg (by rw [eqn _ _ (by omega) (by omega) (by omega) (by omega)]; exact v1)]
  by_cases v2 : p = r
  · rw [if_pos (by rw [v2])]; exact Or.inr ⟨fun c => absurd v2 c.1.2.1, rfl⟩
  rw [if_neg (by rw [eqn _ _ (by omega) (by omega) (by omega) (by omega)]; exact v2)]
  by_cases v3 : p = s
  · rw [if_pos (by rw [v3])]; exact Or.inr ⟨fun c => absurd v3 c.1.2.2.1, rfl⟩
  rw [if_neg (by rw [eqn _ _ (by omega) (by omega) (by omega) (by omega)]; exact v3)]
  by_cases v4 : q = r
  · rw [if_pos (by rw [v4])]; exact Or.inr ⟨fun c => absurd v4 c.1.2.2.2.1, rfl⟩
  rw [if_neg (by rw [eqn _ _ (by omega) (by omega) (by omega) (by omega)]; exact v4)]
  by_cases v5 : q = s
  · rw [if_pos (by rw [v5])]; exact Or.inr ⟨fun c => absurd v5 c.1.2.2.2.2.1, rfl⟩
  rw [if_neg (by rw [eqn _ _ (by omega) (by omega) (by omega) (by omega)]; exact v5)]
  by_cases v6 : r = s
  · rw [if_pos (by rw [v6])]; exact Or.inr ⟨fun c => absurd v6 c.1.2.2.2.2.2, rfl⟩
  rw [if_neg (by rw [eqn _ _ (by omega) (by omega) (by omega) (by omega)]; exact v6), s_rAreGears h hG (by omega) (by omega) (by omega) (by omega), bs_p]
  by_cases g1 : (0 ≤ p ∧ p < S 0) ∧ 0 ≤ q ∧ q < S 0
  · rw [if_neg (bz_n g1), s_rAreGears h hG (by omega) (by omega) (by omega) (by omega), bs_p]
    by_cases g2 : (0 ≤ r ∧ r < S 0) ∧ 0 ≤ s ∧ s < S 0
    · have tp := tt_b hG g1.1.1 g1.1.2
      have tq := tt_b hG g1.2.1 g1.2.2
      have tr := tt_b hG g2.1.1 g2.1.2
      have ts := tt_b hG g2.2.1 g2.2.2
      have m1 := mulb (x := S (6 + p)) (y := S (6 + r)) (a := 60) (b := 60) (by omega) (by omega) (by omega) (by omega)
      have m2 := mulb (x := S (6 + q)) (y := S (6 + s)) (a := 60) (b := 60) (by omega) (by omega) (by omega) (by omega)
      have m3 := mulb (x := S (6 + p) * S (6 + r)) (y := b) (a := 3600) (b := 60) (by omega) (by omega) (by omega) (by omega)
      have m4 := mulb (x := S (6 + q) * S (6 + s)) (y := a) (a := 3600) (b := 60) (by omega) (by omega) (by omega) (by omega)
      have ir : ∀ i : Int, 0 ≤ i → i ≤ 9 → inR ((6 : Int32) + jI i) 192 = true := fun i _ _ => by rw [l32_6, jI_add, inR_j (by omega) (by omega)]; omega
      have cl : ∀ i : Int, 0 ≤ i → i ≤ 9 → ((6 : Int32) + jI i).toNatClampNeg = (6 + i).toNat := fun i _ _ => by rw [l32_6, jI_add, jI_clamp (by omega) (by omega)]
      rw [if_neg (bz_n g2), if_pos (ir p (by omega) (by omega)), if_pos (ir r (by omega) (by omega)), if_pos (ir q (by omega) (by omega)), if_pos (ir s (by omega) (by omega)), cl p (by omega) (by omega), cl q (by omega) (by omega), cl r (by omega) (by omega), cl s (by omega) (by omega), r_g h _ (by omega) (by omega), r_g h _ (by omega) (by omega), r_g h _ (by omega) (by omega), r_g h _ (by omega) (by omega), jI_toL (by omega) (by omega), jI_toL (by omega) (by omega), jL_mul, jL_mul, jL_mul, jL_mul]
      by_cases v : S (6 + p) * S (6 + r) * b = S (6 + q) * S (6 + s) * a
      · rw [if_pos (by rw [v])]
        exact Or.inl ⟨⟨⟨v1, v2, v3, v4, v5, v6⟩, ⟨g1.1.2, g1.2.2, g2.1.2, g2.2.2⟩, v⟩, rfl⟩
      · rw [if_neg (by rw [jL_eq (by omega) (by omega) (by omega) (by omega)]; exact v)]
        exact Or.inr ⟨fun c => v c.2.2, rfl⟩
    · rw [if_pos (bz_z g2)]
      exact Or.inr ⟨fun c => g2 ⟨⟨r0.1, c.2.1.2.2.1⟩, s0.1, c.2.1.2.2.2⟩, rfl⟩
  · rw [if_pos (bz_z g1)]
    exact Or.inr ⟨fun c => g1 ⟨⟨p0.1, c.2.1.1⟩, q0.1, c.2.1.2.1⟩, rfl⟩
theorem s_p87 (hG : Good S) (h : RSt w 142 0 S) (a0 : 1 ≤ a ∧ a ≤ 60) (b0 : 1 ≤ b ∧ b ≤ 60) {x v : Int} (x0 : 0 ≤ x) (x1 : x < 100) :
    ∃ v' z, p_X11_fewestPairs_87 (jI 1) w (jI x) (jI a) (jI b) 2000 (jI v) (0 : Int32) = some (.inl (jI v', z)) ∧ ((v' = 2 ∧ ∃ y, (0 ≤ y ∧ y < 100) ∧ T2 S a b x y) ∨ (v' = v ∧ ∀ y, 0 ≤ y → y < 100 → ¬ T2 S a b x y)) := by
  obtain ⟨r, hr, hP⟩ := lp (fun n (s : Int32 × Int32) => p_X11_fewestPairs_87 (jI 1) w (jI x) (jI a) (jI b) n s.1 s.2)
    (fun i s => ∃ v', s = (jI v', jI i) ∧ ((v' = 2 ∧ ∃ y, (0 ≤ y ∧ y < 100) ∧ T2 S a b x y) ∨ (v' = v ∧ ∀ y : Int, 0 ≤ y → y < i → ¬ T2 S a b x y))) 100
    (fun r => ∃ v' z, r = .inl (jI v', z) ∧ ((v' = 2 ∧ ∃ y, (0 ≤ y ∧ y < 100) ∧ T2 S a b x y) ∨ (v' = v ∧ ∀ y, 0 ≤ y → y < 100 → ¬ T2 S a b x y)))
    (fun i n s hi hI => by
      obtain ⟨v', rfl, hv⟩ := hI
      have nx : jI (i : Int) + jI 1 = jI ((i + 1 : Nat) : Int) := by rw [jI_add]; rfl
      have st : p_X11_fewestPairs_87 (jI 1) w (jI x) (jI a) (jI b) (n + 1) (jI v') (jI (i : Int)) = ((f_X11_areTwoPairs w (jI x) (jI i) (jI a) (jI b)).bind fun r26 => (if r26 = 0 then (p_X11_fewestPairs_87 (jI 1) w (jI x) (jI a) (jI b) n (jI v') (jI ((i + 1 : Nat) : Int))) else (p_X11_fewestPairs_87 (jI 1) w (jI x) (jI a) (jI b) n (jI 2) (jI ((i + 1 : Nat) : Int))))) := by
        rw [p_X11_fewestPairs_87, l32_100, if_neg (show ¬ jI 100 ≤ jI (i : Int) by rw [jI_le (by omega) (by omega) (by omega) (by omega)]; omega), if_neg (show ¬ jI 1 = 0 by decide +kernel), l32_1, nx]
        rfl
      rcases s_areTwo hG h a0 b0 x0 x1 (y := i) (by omega) (by omega) with ⟨k, e⟩ | ⟨k, e⟩
      · refine Or.inl ⟨(jI 2, jI ((i + 1 : Nat) : Int)), ⟨2, rfl, Or.inl ⟨rfl, i, ⟨by omega, by omega⟩, k⟩⟩, ?_⟩
        show p_X11_fewestPairs_87 _ _ _ _ _ (n + 1) _ _ = _
        rw [st, e, bs_p]
        exact if_neg (by decide +kernel)
      · refine Or.inl ⟨(jI v', jI ((i + 1 : Nat) : Int)), ⟨v', rfl, ?_⟩, ?_⟩
        · rcases hv with hv | ⟨hv, hn⟩
          · exact Or.inl hv
          · refine Or.inr ⟨hv, fun y y0 y1 => ?_⟩
            by_cases z : y = i
            · rw [z]; exact k
            · exact hn y y0 (by omega)
        · show p_X11_fewestPairs_87 _ _ _ _ _ (n + 1) _ _ = _
          rw [st, e, bs_p]
          exact if_pos rfl)
    (fun n s hI => by
      obtain ⟨v', rfl, hv⟩ := hI
      refine ⟨.inl (jI v', jI ((100 : Nat) : Int)), ?_, v', _, rfl, ?_⟩
      · show p_X11_fewestPairs_87 _ _ _ _ _ (n + 1) _ _ = _
        rw [p_X11_fewestPairs_87]
        exact if_pos (show jI 100 ≤ jI 100 by rw [jI_le (by omega) (by omega) (by omega) (by omega)]; omega)
      · rcases hv with hv | ⟨hv, hn⟩
        · exact Or.inl hv
        · exact Or.inr ⟨hv, fun y y0 y1 => hn y y0 (by omega)⟩) 2000 0 (jI v, jI 0) (by omega) (by omega) ⟨v, rfl, Or.inr ⟨rfl, fun y y0 y1 => by omega⟩⟩
  obtain ⟨v', z, rfl, hv⟩ := hP
  exact ⟨v', z, hr, hv⟩
end
