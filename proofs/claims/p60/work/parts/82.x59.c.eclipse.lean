theorem solved {e D g p i : Int} (hg : g = (Int.gcd (D % 24883200000) 24883200000 : Nat)) (p0 : 0 < p) (h : ∀ k, ((24883200000 : Int) ∣ k * (D % 24883200000) - (-e) % 24883200000 ↔ p ∣ k - ((-e) % 24883200000 / g * i) % p)) :
    IsE e D (if ((-e) % 24883200000 / g * i) % p = 0 then (if p ≤ 999 then p else 0) else (if ((-e) % 24883200000 / g * i) % p ≤ 999 then ((-e) % 24883200000 / g * i) % p else 0)) := by
  have x0 := Int.emod_nonneg ((-e) % 24883200000 / g * i) (show p ≠ 0 by omega)
  have x1 := Int.emod_lt_of_pos ((-e) % 24883200000 / g * i) p0
  generalize ((-e) % 24883200000 / g * i) % p = X at *
  have E : ∀ k, (e + k * D) % 24883200000 = 0 ↔ p ∣ k - X := fun k => (E_iff e D k).trans (h k)
  have small : ∀ z : Int, 0 < z → z < p → ¬ p ∣ z := fun z z0 z1 hd => by
    have := Int.le_of_dvd z0 hd
    omega
  by_cases q : X = 0
  · rw [if_pos q]
    have nj : ∀ j, 1 ≤ j → j < p → ¬ (e + j * D) % 24883200000 = 0 := fun j j0 j1 hj => small j (by omega) j1 (by have := (E j).mp hj; rw [q, Int.sub_zero] at this; exact this)
    by_cases q2 : p ≤ 999
    · rw [if_pos q2]
      exact Or.inl ⟨by omega, q2, (E p).mpr (by rw [q, Int.sub_zero]; exact Int.dvd_refl p), nj⟩
    · rw [if_neg q2]
      exact Or.inr ⟨rfl, fun j j0 j1 => nj j j0 (by omega)⟩
  · rw [if_neg q]
    have nj : ∀ j, 1 ≤ j → j < X → ¬ (e + j * D) % 24883200000 = 0 := fun j j0 j1 hj => by
      have h1 := (E j).mp hj
      have h2 : p ∣ X - j := by
        have := (Int.dvd_neg (a := p) (b := j - X)).mpr h1
        rw [Int.neg_sub] at this
        exact this
      exact small (X - j) (by omega) (by omega) h2
    by_cases q2 : X ≤ 999
    · rw [if_pos q2]
      exact Or.inl ⟨by omega, q2, (E X).mpr (by rw [Int.sub_self]; exact Int.dvd_zero p), nj⟩
    · rw [if_neg q2]
      exact Or.inr ⟨rfl, fun j j0 j1 => nj j j0 (by omega)⟩
theorem s_solving {w : Wd} {S : Ab} (hG : Good S) (h : CSt w 1 S) {a b z : Int} (a0 : 0 ≤ a ∧ a < S 1) (b0 : 0 ≤ b ∧ b < S 1) (z0 : 0 ≤ z ∧ z < S 0) : ∃ r w', f_X2_bySolving w (jI a) (jI b) (jI z) = some (jI r, w') ∧ Sm KT w w' ∧ CSt w' 1 S ∧ IsE (aO S a - aO S b) (TU S z (S (86 + a)) - TU S z (S (86 + b))) r := by
  have hg := hG.1
  obtain ⟨w3, m, e3, s3, t3, c3⟩ := s_trace hG h z0.1 z0.2
  have ka := hG.2.2.1 a a0.1 a0.2
  have kb := hG.2.2.1 b b0.1 b0.2
  have ba := aO_b hG a0.1 a0.2
  have bb := aO_b hG b0.1 b0.2
  have ua := tu_b hG z0.1 z0.2 (S (86 + a)) ka.1 (by omega)
  have ub := tu_b hG z0.1 z0.2 (S (86 + b)) kb.1 (by omega)
  have ea : gL w3 3 (S (86 + a)).toNat = jL (aO S a) := c_a c3 _ ka.1 (by omega)
  have eb : gL w3 3 (S (86 + b)).toNat = jL (aO S b) := c_a c3 _ kb.1 (by omega)
  have va := t3.1 (S (86 + a)) ka.1 (by omega)
  have vb := t3.1 (S (86 + b)) kb.1 (by omega)
  have ca := c_c c3 a a0.1 (by omega)
  have cb := c_c c3 b b0.1 (by omega)
  have ia : inR (jI a) 6 = true := by rw [inR_j (by omega) (by omega)]; omega
  have ib : inR (jI b) 6 = true := by rw [inR_j (by omega) (by omega)]; omega
  have ja : inR (jI (S (86 + a))) 10 = true := by rw [inR_j (by omega) (by omega)]; omega
  have jb : inR (jI (S (86 + b))) 10 = true := by rw [inR_j (by omega) (by omega)]; omega
  have na : (jI a).toNatClampNeg = a.toNat := jI_clamp (by omega) (by omega)
  have nb : (jI b).toNatClampNeg = b.toNat := jI_clamp (by omega) (by omega)
  have ma : (jI (S (86 + a))).toNatClampNeg = (S (86 + a)).toNat := jI_clamp (by omega) (by omega)
  have mb : (jI (S (86 + b))).toNatClampNeg = (S (86 + b)).toNat := jI_clamp (by omega) (by omega)
  generalize hD : TU S z (S (86 + a)) - TU S z (S (86 + b)) = D at *
  generalize he : aO S a - aO S b = e at *
  have he2 : aO S b - aO S a = -e := by omega
  have P : f_X2_bySolving w (jI a) (jI b) (jI z) = ((f_X4_remainder (jL D) (24883200000 : Int64)).bind fun r9 => ((f_X4_remainder (jL (-e)) (24883200000 : Int64)).bind fun r13 => ((f_X4_commonDivisor r9 (24883200000 : Int64)).bind fun r15 => ((f_X4_remainder r13 r15).bind fun r17 => (if r17 = (0 : Int64) then ((f_X4_quotient (24883200000 : Int64) r15).bind fun r20 => ((f_X4_quotient r13 r15).bind fun r22 => ((f_X4_quotient r9 r15).bind fun r24 => ((f_X4_inverse r24 r20).bind fun r26 => ((f_X4_product r22 r26 r20).bind fun r28 => (if r28 = (0 : Int64) then (if r20 ≤ (999 : Int64) then (some ((r20).toInt32, w3)) else (some ((0 : Int32), w3))) else (if r28 ≤ (999 : Int64) then (some ((r28).toInt32, w3)) else (some ((0 : Int32), w3))))))))) else (some ((0 : Int32), w3))))))) := by
    unfold f_X2_bySolving
    rw [e3, bs_p, if_pos ia, if_pos ib, na, nb, ca, cb, if_pos ja, if_pos jb, ma, mb, va, vb, ea, eb, jL_sub, jL_sub, hD, he2]
    simp only [if_pos jb, if_pos ja]
  have d0 : 0 ≤ D % 24883200000 ∧ D % 24883200000 < 24883200000 := by omega
  have f0 : 0 ≤ (-e) % 24883200000 ∧ (-e) % 24883200000 < 24883200000 := by omega
  obtain ⟨g, hgg⟩ : ∃ g : Int, g = (Int.gcd (D % 24883200000) 24883200000 : Nat) := ⟨_, rfl⟩
  obtain ⟨p, hp⟩ : ∃ p : Int, p = 24883200000 / g := ⟨_, rfl⟩
  obtain ⟨g0, g1, p0, p1, k⟩ := solve d0.1 d0.2 f0.1 f0.2 hgg hp
  rw [l64_24883200000, s_rem (by omega) (by omega) (by omega) (by omega), bs_p, s_rem (by omega) (by omega) (by omega) (by omega), bs_p, s_gcd (by omega) (by omega) (by omega) (by omega), bs_p, ← hgg, s_rem (by omega) (by omega) (by omega) (by omega), bs_p] at P
  rcases k with ⟨q, k⟩ | ⟨q, i, e1, i0, i1, k⟩
  · have l0 := Int.emod_nonneg ((-e) % 24883200000) (show g ≠ 0 by omega)
    have l1 := Int.emod_lt_of_pos ((-e) % 24883200000) g0
    rw [l64_0, if_neg (show ¬ jL ((-e) % 24883200000 % g) = jL 0 by rw [jL_eq (by omega) (by omega) (by omega) (by omega)]; exact q)] at P
    exact ⟨0, w3, P, s3, c3, Or.inr ⟨rfl, fun j _ _ hj => k j ((E_iff e D j).mp hj)⟩⟩
  · have i2 : 0 ≤ (-e) % 24883200000 / g := Int.ediv_nonneg f0.1 (by omega)
    have i3 : (-e) % 24883200000 / g ≤ (-e) % 24883200000 := Int.ediv_le_self _ f0.1
    have x0 := Int.emod_nonneg ((-e) % 24883200000 / g * i) (show p ≠ 0 by omega)
    have x1 := Int.emod_lt_of_pos ((-e) % 24883200000 / g * i) p0
    have R := solved hgg p0 k
    rw [q, l64_0, if_pos rfl, s_quot (by omega) (by omega) (by omega) (by omega), bs_p, s_quot (by omega) (by omega) (by omega) (by omega), bs_p, s_quot (by omega) (by omega) (by omega) (by omega), bs_p, ← hp, e1, bs_p, s_product i2 (by omega) i0 (by omega) p0 p1, bs_p, l64_999] at P
    generalize ((-e) % 24883200000 / g * i) % p = X at *
    by_cases y : X = 0
    · rw [if_pos y] at R
      rw [if_pos (show jL X = jL 0 by rw [y])] at P
      by_cases v : p ≤ 999
      · rw [if_pos v] at R
        rw [if_pos (show jL p ≤ jL 999 by rw [jL_le (by omega) (by omega) (by omega) (by omega)]; exact v), jL_toI] at P
        exact ⟨p, w3, P, s3, c3, R⟩
      · rw [if_neg v] at R
        rw [if_neg (show ¬ jL p ≤ jL 999 by rw [jL_le (by omega) (by omega) (by omega) (by omega)]; exact v)] at P
        exact ⟨0, w3, P, s3, c3, R⟩
    · rw [if_neg y] at R
      rw [if_neg (show ¬ jL X = jL 0 by rw [jL_eq (by omega) (by omega) (by omega) (by omega)]; exact y)] at P
      by_cases v : X ≤ 999
      · rw [if_pos v] at R
        rw [if_pos (show jL X ≤ jL 999 by rw [jL_le (by omega) (by omega) (by omega) (by omega)]; exact v), jL_toI] at P
        exact ⟨X, w3, P, s3, c3, R⟩
      · rw [if_neg v] at R
        rw [if_neg (show ¬ jL X ≤ jL 999 by rw [jL_le (by omega) (by omega) (by omega) (by omega)]; exact v)] at P
        exact ⟨0, w3, P, s3, c3, R⟩
