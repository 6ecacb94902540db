/-! ECLIPSES -/
def IsE (e D r : Int) : Prop := (1 ≤ r ∧ r ≤ 999 ∧ (e + r * D) % 24883200000 = 0 ∧ ∀ j, 1 ≤ j → j < r → ¬ (e + j * D) % 24883200000 = 0) ∨ (r = 0 ∧ ∀ j, 1 ≤ j → j ≤ 999 → ¬ (e + j * D) % 24883200000 = 0)
theorem IsE.uniq {e D r s : Int} (h : IsE e D r) (k : IsE e D s) : r = s := by
  rcases h with ⟨h1, h2, h3, h4⟩ | ⟨h1, h2⟩
  · rcases k with ⟨k1, k2, k3, k4⟩ | ⟨k1, k2⟩
    · refine Decidable.byContradiction fun z => ?_
      by_cases q : r < s
      · exact k4 r h1 q h3
      · exact h4 s k1 (by omega) k3
    · exact absurd h3 (k2 r h1 h2)
  · rcases k with ⟨k1, k2, k3, k4⟩ | ⟨k1, k2⟩
    · exact absurd k3 (h2 s k1 k2)
    · omega
theorem IsE.b {e D r : Int} (h : IsE e D r) : 0 ≤ r ∧ r ≤ 999 := by
  rcases h with ⟨h1, h2, -⟩ | ⟨h1, -⟩ <;> omega
theorem E_iff (e D k : Int) : (e + k * D) % 24883200000 = 0 ↔ (24883200000 : Int) ∣ k * (D % 24883200000) - (-e) % 24883200000 := by
  have h1 := Int.emod_add_mul_ediv D 24883200000
  have h2 := Int.emod_add_mul_ediv (-e) 24883200000
  constructor
  · intro h
    obtain ⟨t, ht⟩ := Int.dvd_of_emod_eq_zero h
    exact ⟨t - k * (D / 24883200000) + (-e) / 24883200000, by grind⟩
  · intro ⟨t, ht⟩
    refine Int.emod_eq_zero_of_dvd ⟨t + k * (D / 24883200000) - (-e) / 24883200000, by grind⟩
theorem solve {s d : Int} (s0 : 0 ≤ s) (s1 : s < 24883200000) (d0 : 0 ≤ d) (d1 : d < 24883200000) {g p : Int} (hg : g = (Int.gcd s 24883200000 : Nat)) (hp : p = 24883200000 / g) :
    0 < g ∧ g ≤ 24883200000 ∧ 0 < p ∧ p ≤ 24883200000 ∧ ((d % g ≠ 0 ∧ ∀ k, ¬ (24883200000 : Int) ∣ k * s - d) ∨ (d % g = 0 ∧ ∃ i, f_X4_inverse (jL (s / g)) (jL p) = some (jL i) ∧ 0 ≤ i ∧ i < p ∧ ∀ k, ((24883200000 : Int) ∣ k * s - d ↔ p ∣ k - (d / g * i) % p))) := by
  have gp : 0 < Int.gcd s 24883200000 := Nat.pos_of_ne_zero (fun z => absurd (Int.gcd_eq_zero_iff.mp z).2 (by decide))
  have g0 : 0 < g := by omega
  obtain ⟨s', hs⟩ : g ∣ s := by rw [hg]; exact Int.gcd_dvd_left s 24883200000
  obtain ⟨G', hG⟩ : g ∣ 24883200000 := by rw [hg]; exact Int.gcd_dvd_right s 24883200000
  have hc := Int.gcd_ediv_gcd_ediv_gcd gp
  rw [← hg] at hc
  have ep : p = G' := by rw [hp]; exact Int.ediv_eq_of_eq_mul_right (by omega) hG
  have es : s / g = s' := Int.ediv_eq_of_eq_mul_right (by omega) hs
  have p0 : 0 < p := by
    refine Decidable.byContradiction fun z => ?_
    have : g * G' ≤ 0 := Int.mul_nonpos_of_nonneg_of_nonpos (by omega) (by omega)
    omega
  have gl : g * 1 ≤ g * G' := Int.mul_le_mul_of_nonneg_left (by omega) (by omega)
  have pl : 1 * G' ≤ g * G' := Int.mul_le_mul_of_nonneg_right (by omega) (by omega)
  have s'0 : 0 ≤ s' := by rw [← es]; exact Int.ediv_nonneg s0 (by omega)
  have s'1 : s' ≤ s := by rw [← es]; exact Int.ediv_le_self _ s0
  refine ⟨g0, by omega, p0, by omega, ?_⟩
  by_cases q : d % g = 0
  · refine Or.inr ⟨q, ?_⟩
    obtain ⟨d', hd⟩ := Int.dvd_of_emod_eq_zero q
    have ed : d / g = d' := Int.ediv_eq_of_eq_mul_right (by omega) hd
    rw [es, ← hp] at hc
    obtain ⟨i, e1, i0, i1, ⟨t, ht⟩⟩ := s_inverse (n := s') (m := p) s'0 (by omega) p0 (by omega) hc
    refine ⟨i, by rw [es]; exact e1, i0, i1, fun k => ?_⟩
    rw [ed]
    have em := Int.emod_add_mul_ediv (d' * i) p
    constructor
    · intro ⟨v, hv⟩
      have hv2 : k * s' - d' = p * v := Int.eq_of_mul_eq_mul_left (show g ≠ 0 by omega) (by rw [ep]; grind)
      exact ⟨k * t + v * i + (d' * i) / p, by grind⟩
    · intro ⟨v, hv⟩
      refine ⟨(v - (d' * i) / p) * s' - d' * t, ?_⟩
      have hv2 : k * s' - d' = p * ((v - (d' * i) / p) * s' - d' * t) := by grind
      rw [hs, hd, show k * (g * s') - g * d' = g * (k * s' - d') by grind, hv2, ← Int.mul_assoc, ep, ← hG]
  · refine Or.inl ⟨q, fun k ⟨v, hv⟩ => q (Int.emod_eq_zero_of_dvd ⟨k * s' - G' * v, by grind⟩)⟩
