/-! NUMBERS MODULO A NUMBER -/
theorem shr20 {z : Int} (h0 : 0 ≤ z) (h1 : z < 4611686018427387904) : (jL z) >>> (((20 : Int32)).toInt64 &&& 63) = jL (z / 1048576) := by
  have e : ((20 : Int32)).toInt64 &&& 63 = (20 : Int64) := by decide +kernel
  rw [e]
  apply Int64.toInt_inj.mp
  rw [jL_toInt (by omega) (by omega)]
  show ((jL z >>> (20 : Int64)).toBitVec).toInt = _
  rw [Int64.toBitVec_shiftRight, show (20 : Int64).toBitVec.smod 64 = 20#64 by decide]
  show ((jL z).toBitVec.sshiftRight 20).toInt = _
  rw [BitVec.toInt_sshiftRight, Int.shiftRight_eq_div_pow]
  show (jL z).toInt / 1048576 = _
  rw [jL_toInt (by omega) (by omega)]
theorem shl20 (z : Int) : (jL z) <<< (((20 : Int32)).toInt64 &&& 63) = jL (z * 1048576) := by
  have e : ((20 : Int32)).toInt64 &&& 63 = (20 : Int64) := by decide +kernel
  rw [e, ← jL_mul]
  apply Int64.toBitVec_inj.mp
  rw [Int64.toBitVec_shiftLeft, show (20 : Int64).toBitVec.smod 64 = 20#64 by decide, Int64.toBitVec_mul]
  show (jL z).toBitVec <<< (20 : Nat) = _
  rw [BitVec.shiftLeft_eq_mul_twoPow]
  rfl
theorem s_product {a b m : Int} (a0 : 0 ≤ a) (a1 : a < 24883200000) (b0 : 0 ≤ b) (b1 : b < 24883200000) (m0 : 0 < m) (m1 : m ≤ 24883200000) : f_X4_product (jL a) (jL b) (jL m) = some (jL ((a * b) % m)) := by
  have h0 : 0 ≤ b / 1048576 := Int.ediv_nonneg b0 (by decide)
  have h1 : b / 1048576 < 23731 := by omega
  have p0 : 0 ≤ a * (b / 1048576) := Int.mul_nonneg a0 h0
  have p1 : a * (b / 1048576) ≤ 24883200000 * 23731 := Int.mul_le_mul (by omega) (by omega) h0 (by decide)
  have l0 : 0 ≤ b - b / 1048576 * 1048576 := by omega
  have l1 : b - b / 1048576 * 1048576 < 1048576 := by omega
  have q0 : 0 ≤ a * (b - b / 1048576 * 1048576) := Int.mul_nonneg a0 l0
  have q1 : a * (b - b / 1048576 * 1048576) ≤ 24883200000 * 1048576 := Int.mul_le_mul (by omega) (by omega) l0 (by decide)
  have r0 := Int.emod_nonneg (a * (b / 1048576)) (show m ≠ 0 by omega)
  have r1 := Int.emod_lt_of_pos (a * (b / 1048576)) m0
  unfold f_X4_product
  rw [shr20 b0 (by omega), jL_mul, s_rem (by omega) (by omega) m0 (by omega), bs_p, shl20, shl20, jL_sub, jL_mul, jL_add, s_rem (by omega) (by omega) m0 (by omega), bs_p]
  congr 2
  have e : a * b = a * (b / 1048576) * 1048576 + a * (b - b / 1048576 * 1048576) := by grind
  rw [e, Int.add_emod, Int.mul_emod, Int.emod_emod_of_dvd _ (Int.dvd_refl m), ← Int.mul_emod, ← Int.add_emod]
def IV (n m : Int) (i : Nat) (x y : Nat) (σ a b : Int) : Prop := GI 1 i x y ∧ 1 ≤ x ∧ (σ = 1 ∨ σ = -1) ∧ (0 ≤ a ∧ a ≤ m) ∧ 0 ≤ b ∧ b * x + a * y = m ∧ m ∣ (x + σ * a * n) ∧ m ∣ (y - σ * b * n)
theorem IV.step {n m : Int} {i x y : Nat} {σ a b : Int} (h : IV n m i x y σ a b) (y0 : y ≠ 0) : IV n m (i + 1) y (x % y) (-σ) b (a + (x / y : Nat) * b) := by
  obtain ⟨h1, h2, h3, h4, h5, h6, ⟨k, h7⟩, ⟨l, h8⟩⟩ := h
  have e : ((x % y : Nat) : Int) = x - (x / y : Nat) * y := by
    have := Nat.div_add_mod x y
    have e2 : ((y * (x / y) + x % y : Nat) : Int) = (x : Int) := by rw [this]
    rw [Int.natCast_add, Int.natCast_mul] at e2
    grind
  have tn : 0 ≤ ((x / y : Nat) : Int) * b := Int.mul_nonneg (Int.natCast_nonneg _) h5
  have k1 : b * 1 ≤ b * x := Int.mul_le_mul_of_nonneg_left (by omega) h5
  have k3 : 0 ≤ a * y := Int.mul_nonneg h4.1 (by omega)
  refine ⟨h1.step y0, by omega, by omega, ⟨h5, by omega⟩, Int.add_nonneg h4.1 tn, ?_, ⟨l, ?_⟩, ⟨k - (x / y : Nat) * l, ?_⟩⟩
  · rw [e]; grind
  · grind
  · rw [e]; grind
theorem IV.b {n m : Int} {i x y : Nat} {σ a b : Int} (h : IV n m i x y σ a b) (y0 : y ≠ 0) : a ≤ m ∧ b ≤ m ∧ (x / y : Nat) * b ≤ m := by
  obtain ⟨h1, h2, h3, h4, h5, h6, -⟩ := h
  have k1 : b * 1 ≤ b * x := Int.mul_le_mul_of_nonneg_left (by omega) h5
  have k2 : a * 1 ≤ a * y := Int.mul_le_mul_of_nonneg_left (by omega) h4.1
  have k3 : 0 ≤ a * y := Int.mul_nonneg h4.1 (by omega)
  have k4 : 0 ≤ b * x := Int.mul_nonneg h5 (by omega)
  have k5 : ((x / y : Nat) : Int) ≤ x := by
    have := Nat.div_le_self x y
    omega
  have k6 : b * ((x / y : Nat) : Int) ≤ b * x := Int.mul_le_mul_of_nonneg_left k5 h5
  rw [Int.mul_comm b ((x / y : Nat) : Int)] at k6
  omega
theorem IV.done {n m : Int} {i x : Nat} {σ a b : Int} (h : IV n m i x 0 σ a b) (m1 : m ≤ 24883200000) : m ∣ (1 - (-(σ * a)) * n) ∧ -24883200000 ≤ -(σ * a) ∧ -(σ * a) ≤ 24883200000 := by
  obtain ⟨h1, h2, h3, h4, h5, h6, h7, h8⟩ := h
  have e : x = 1 := by rw [← h1.1, Nat.gcd_zero_right]
  subst e
  refine ⟨?_, ?_, ?_⟩
  · rw [show 1 - (-(σ * a)) * n = ((1 : Nat) : Int) + σ * a * n by grind]; exact h7
  · rcases h3 with rfl | rfl <;> omega
  · rcases h3 with rfl | rfl <;> omega
theorem IV.start {n m : Int} (n0 : 0 ≤ n) (m0 : 0 < m) (m1 : m ≤ 24883200000) (hg : Int.gcd n m = 1) : IV n m 0 m.toNat (n % m).toNat 1 0 1 := by
  have r0 := Int.emod_nonneg n (show m ≠ 0 by omega)
  have r1 := Int.emod_lt_of_pos n m0
  have e : (n % m).toNat = n.toNat % m.toNat := Int.toNat_emod n0 (by omega)
  refine ⟨⟨?_, by omega, by omega, Or.inr (Or.inl rfl)⟩, by omega, Or.inl rfl, ⟨by omega, by omega⟩, by omega, by omega, ?_, ⟨-(n / m), ?_⟩⟩
  · rw [e, Nat.gcd_comm, ← Nat.gcd_rec, Nat.gcd_comm]
    have k : Nat.gcd n.natAbs m.natAbs = 1 := hg
    rw [show n.natAbs = n.toNat by omega, show m.natAbs = m.toNat by omega] at k
    exact k
  · rw [show ((m.toNat : Nat) : Int) = m by omega, Int.mul_zero, Int.zero_mul, Int.add_zero]; exact Int.dvd_refl m
  · have := Int.emod_add_mul_ediv n m
    rw [show (((n % m).toNat : Nat) : Int) = n % m by omega]
    grind
theorem s_inverse {n m : Int} (n0 : 0 ≤ n) (n1 : n < 24883200000) (m0 : 0 < m) (m1 : m ≤ 24883200000) (hg : Int.gcd n m = 1) : ∃ i, f_X4_inverse (jL n) (jL m) = some (jL i) ∧ 0 ≤ i ∧ i < m ∧ m ∣ (1 - i * n) := by
  have r0 := Int.emod_nonneg n (show m ≠ 0 by omega)
  have r1 := Int.emod_lt_of_pos n m0
  obtain ⟨r, hr, hP⟩ := lp (fun n (s : Int64 × Int64 × Int64 × Int64 × Int32) => p_X4_inverse_19 n s.1 s.2.1 s.2.2.1 s.2.2.2.1 s.2.2.2.2)
    (fun i s => ∃ (x y : Nat) (σ a b : Int), s = (jL x, jL y, jL (-(σ * a)), jL (σ * b), jI i) ∧ IV n m i x y σ a b) 200
    (fun r => ∃ y3 y4 f y6 y7, r = .inl (y3, y4, jL f, y6, y7) ∧ m ∣ (1 - f * n) ∧ -24883200000 ≤ f ∧ f ≤ 24883200000)
    (fun i k s hi hI => by
      obtain ⟨x, y, σ, a, b, rfl, hv⟩ := hI
      have g2 := hv.1.2.1
      have g3 := hv.1.2.2.1
      have t1 : ¬ jI 200 ≤ jI (i : Int) := by rw [jI_le (by omega) (by omega) (by omega) (by omega)]; omega
      by_cases q : y = 0
      · subst q
        refine Or.inr ⟨.inl (jL (x : Int), jL ((0 : Nat) : Int), jL (-(σ * a)), jL (σ * b), jI i), ?_, _, _, _, _, _, rfl, ?_, ?_⟩
        · show p_X4_inverse_19 (k + 1) (jL x) (jL ((0 : Nat) : Int)) (jL (-(σ * a))) (jL (σ * b)) (jI i) = _
          rw [p_X4_inverse_19, l32_200, if_neg t1]
          exact if_pos rfl
        · exact (hv.done m1).1
        · exact (hv.done m1).2
      · have bb := hv.b q
        have sg := hv.2.2.1
        have a0 := hv.2.2.2.1.1
        have b0 := hv.2.2.2.2.1
        refine Or.inl ⟨(jL y, jL ((x % y : Nat) : Int), jL (-(-σ * b)), jL (-σ * (a + (x / y : Nat) * b)), jI ((i + 1 : Nat) : Int)), ⟨y, x % y, -σ, b, _, rfl, hv.step q⟩, ?_⟩
        show p_X4_inverse_19 (k + 1) (jL x) (jL y) (jL (-(σ * a))) (jL (σ * b)) (jI i) = p_X4_inverse_19 k (jL y) (jL ((x % y : Nat) : Int)) (jL (-(-σ * b))) (jL (-σ * (a + (x / y : Nat) * b))) (jI ((i + 1 : Nat) : Int))
        have e : ((x % y : Nat) : Int) = x - (x / y : Nat) * y := by
          have := Nat.div_add_mod x y
          have e2 : ((y * (x / y) + x % y : Nat) : Int) = (x : Int) := by rw [this]
          rw [Int.natCast_add, Int.natCast_mul] at e2
          grind
        rw [p_X4_inverse_19, l32_200, if_neg t1, l64_0, if_neg (show ¬ jL y = jL 0 by rw [jL_eq (by omega) (by omega) (by omega) (by omega)]; omega), s_quot (by omega) (by omega) (by omega) (by omega), bs_p, jL_mul, jL_sub, jL_mul, jL_sub, l32_1, jI_add, e, Int.natCast_ediv]
        congr 2
        · grind
        · grind)
    (fun k s hI => by
      obtain ⟨x, y, σ, a, b, rfl, hv⟩ := hI
      have q := hv.1.done
      subst q
      refine ⟨.inl (jL (x : Int), jL ((0 : Nat) : Int), jL (-(σ * a)), jL (σ * b), jI ((200 : Nat) : Int)), ?_, _, _, _, _, _, rfl, ?_, ?_⟩
      · show p_X4_inverse_19 (k + 1) (jL x) (jL ((0 : Nat) : Int)) (jL (-(σ * a))) (jL (σ * b)) (jI ((200 : Nat) : Int)) = _
        rw [p_X4_inverse_19]
        exact if_pos (show jI 200 ≤ jI 200 by rw [jI_le (by omega) (by omega) (by omega) (by omega)]; omega)
      · exact (hv.done m1).1
      · exact (hv.done m1).2) 2000 0 (jL m, jL (n % m), jL (-(1 * 0)), jL (1 * 1), jI 0) (by omega) (by omega) ⟨m.toNat, (n % m).toNat, 1, 0, 1, by rw [show ((m.toNat : Nat) : Int) = m by omega, show (((n % m).toNat : Nat) : Int) = n % m by omega]; rfl, IV.start n0 m0 m1 hg⟩
  obtain ⟨y3, y4, f, y6, y7, rfl, hf, f0, f1⟩ := hP
  have hr : p_X4_inverse_19 2000 (jL m) (jL (n % m)) (0 : Int64) (1 : Int64) (0 : Int32) = _ := hr
  refine ⟨f % m, ?_, Int.emod_nonneg f (by omega), Int.emod_lt_of_pos f m0, ?_⟩
  · unfold f_X4_inverse
    rw [s_rem (by omega) (by omega) m0 (by omega), bs_p, hr, bs_p, zl_p, u5_p, s_rem (by omega) (by omega) m0 (by omega), bs_p]
  · obtain ⟨k, hk⟩ := hf
    have := Int.emod_add_mul_ediv f m
    exact ⟨k + (f / m) * n, by grind⟩
