/-! ARITHMETIC of the written functions -/
theorem xor_sign {a b : Int} (h1 : -9223372036854775808 ≤ a) (h2 : a < 9223372036854775808) (h3 : -9223372036854775808 ≤ b) (h4 : b < 9223372036854775808) : (jL 0 ≤ (jL a ^^^ jL b)) = (0 ≤ a ↔ 0 ≤ b) := by
  have e : (jL a ^^^ jL b).toBitVec.msb = ((jL a).toBitVec.msb ^^ (jL b).toBitVec.msb) := by
    rw [Int64.toBitVec_xor, BitVec.msb_xor]
  simp only [BitVec.msb_eq_toInt] at e
  have ea : (jL a).toBitVec.toInt = a := jL_toInt h1 h2
  have eb : (jL b).toBitVec.toInt = b := jL_toInt h3 h4
  rw [ea, eb] at e
  rw [Int64.le_iff_toInt_le]
  apply propext
  show (0 : Int) ≤ (jL a ^^^ jL b).toBitVec.toInt ↔ _
  generalize (jL a ^^^ jL b).toBitVec.toInt = x at e ⊢
  by_cases q1 : a < 0 <;> by_cases q2 : b < 0 <;> by_cases q3 : x < 0 <;> simp [q1, q2, q3] at e ⊢ <;> omega
def bZ (c : Prop) [Decidable c] : Int := if c then 1 else 0
theorem bZ_pos {c : Prop} [Decidable c] (h : c) : bZ c = 1 := if_pos h
theorem bZ_neg {c : Prop} [Decidable c] (h : ¬ c) : bZ c = 0 := if_neg h
theorem bZ_01 {c : Prop} [Decidable c] : bZ c = 0 ∨ bZ c = 1 := by
  unfold bZ; split <;> simp
theorem bZ_lo {c : Prop} [Decidable c] : 0 ≤ bZ c := by
  unfold bZ; split <;> decide
theorem bZ_hi {c : Prop} [Decidable c] : bZ c ≤ 1 := by
  unfold bZ; split <;> decide
theorem bZ_eq0 {c : Prop} [Decidable c] : (jI (bZ c) = jI 0) = ¬ c := by
  by_cases h : c
  · rw [bZ_pos h]; apply propext; exact ⟨fun z => absurd z (by decide +kernel), fun z => absurd h z⟩
  · rw [bZ_neg h]; apply propext; exact ⟨fun _ => h, fun _ => rfl⟩
theorem bZ_nar {c : Prop} [Decidable c] : vp_nar .boolean (jI (bZ c)) = jI (bZ c) := by
  by_cases h : c
  · rw [bZ_pos h]; rfl
  · rw [bZ_neg h]; rfl
theorem bZ_congr {c d : Prop} [Decidable c] [Decidable d] (h : c ↔ d) : bZ c = bZ d := by
  by_cases q : c
  · rw [bZ_pos q, bZ_pos (h.mp q)]
  · rw [bZ_neg q, bZ_neg (fun z => q (h.mpr z))]
theorem s_floorDiv {a b : Int} (h1 : -4611686018427387904 ≤ a) (h2 : a < 4611686018427387904) (h3 : 0 < b) (h4 : b < 4611686018427387904) : f_J9_floorDiv_f86c9 (jL a) (jL b) = some (jL (a / b)) := by
  unfold f_J9_floorDiv_f86c9
  have e1 := Int.emod_add_mul_ediv a b
  have e2 := Int.emod_nonneg a (show b ≠ 0 by omega)
  have e3 := Int.emod_lt_of_pos a h3
  rw [l64_0, l64_1, if_pos (by rw [jL_eq (by omega) (by omega) (by omega) (by omega)]; omega), jL_div (by omega) (by omega) (by omega) (by omega)]
  by_cases h : 0 ≤ a
  · rw [if_pos (by rw [xor_sign (by omega) (by omega) (by omega) (by omega)]; omega), Int.tdiv_eq_ediv_of_nonneg h]
  · rw [if_neg (by rw [xor_sign (by omega) (by omega) (by omega) (by omega)]; omega), Int.tdiv_eq_ediv, Int.sign_eq_one_of_pos h3, jL_mul]
    by_cases hd : b ∣ a
    · rw [if_pos (show 0 ≤ a ∨ b ∣ a from Or.inr hd), Int.add_zero, Int.ediv_mul_cancel hd, if_pos rfl]
    · have e4 : (a / b + 1) * b = a - a % b + b := by rw [Int.add_mul, Int.one_mul, Int.mul_comm]; omega
      have e5 : a % b ≠ 0 := fun z => hd (Int.dvd_of_emod_eq_zero z)
      rw [if_neg (show ¬ (0 ≤ a ∨ b ∣ a) from fun z => z.elim h hd), e4, if_neg (by rw [jL_eq (by omega) (by omega) (by omega) (by omega)]; omega), jL_sub, Int.add_sub_cancel]
theorem s_floorMod {a b : Int} (h1 : -4611686018427387904 ≤ a) (h2 : a < 4611686018427387904) (h3 : 0 < b) (h4 : b < 4611686018427387904) : f_J9_floorMod_f86c9 (jL a) (jL b) = some (jL (a % b)) := by
  unfold f_J9_floorMod_f86c9
  have e1 := Int.emod_add_mul_ediv a b
  have e2 := Int.emod_nonneg a (show b ≠ 0 by omega)
  have e3 := Int.emod_lt_of_pos a h3
  rw [l64_0, if_pos (by rw [jL_eq (by omega) (by omega) (by omega) (by omega)]; omega), jL_div (by omega) (by omega) (by omega) (by omega), jL_mul, jL_sub]
  by_cases h : 0 ≤ a
  · rw [if_pos (by rw [xor_sign (by omega) (by omega) (by omega) (by omega)]; omega), Int.tdiv_eq_ediv_of_nonneg h, Int.mul_comm, show a - b * (a / b) = a % b by omega]
  · rw [if_neg (by rw [xor_sign (by omega) (by omega) (by omega) (by omega)]; omega), Int.tdiv_eq_ediv, Int.sign_eq_one_of_pos h3]
    by_cases hd : b ∣ a
    · have e5 : a % b = 0 := Int.emod_eq_zero_of_dvd hd
      rw [if_pos (show 0 ≤ a ∨ b ∣ a from Or.inr hd), Int.add_zero, Int.ediv_mul_cancel hd, Int.sub_self, if_pos rfl, e5]
    · have e4 : (a / b + 1) * b = a - a % b + b := by rw [Int.add_mul, Int.one_mul, Int.mul_comm]; omega
      have e5 : a % b ≠ 0 := fun z => hd (Int.dvd_of_emod_eq_zero z)
      rw [if_neg (show ¬ (0 ≤ a ∨ b ∣ a) from fun z => z.elim h hd), e4, if_neg (by rw [jL_eq (by omega) (by omega) (by omega) (by omega)]; omega), jL_add, show a - (a - a % b + b) + b = a % b by omega]
theorem s_quot {a b : Int} (h1 : -4611686018427387904 ≤ a) (h2 : a < 4611686018427387904) (h3 : 0 < b) (h4 : b < 4611686018427387904) : f_X4_quotient (jL a) (jL b) = some (jL (a / b)) := by
  unfold f_X4_quotient
  rw [l64_0, if_neg (by rw [jL_eq (by omega) (by omega) (by omega) (by omega)]; omega), s_floorDiv h1 h2 h3 h4]
  rfl
theorem s_rem {a b : Int} (h1 : -4611686018427387904 ≤ a) (h2 : a < 4611686018427387904) (h3 : 0 < b) (h4 : b < 4611686018427387904) : f_X4_remainder (jL a) (jL b) = some (jL (a % b)) := by
  unfold f_X4_remainder
  rw [l64_0, if_neg (by rw [jL_eq (by omega) (by omega) (by omega) (by omega)]; omega), s_floorMod h1 h2 h3 h4]
  rfl
/-- an exact division, by a number of either sign -/
theorem s_quot_ex {b c : Int} (h1 : -4611686018427387904 ≤ b * c) (h2 : b * c < 4611686018427387904) (h3 : b ≠ 0) (h4 : -4611686018427387904 ≤ b) (h5 : b < 4611686018427387904) : f_X4_quotient (jL (b * c)) (jL b) = some (jL c) := by
  unfold f_X4_quotient f_J9_floorDiv_f86c9
  rw [l64_0, l64_1, if_neg (by rw [jL_eq (by omega) (by omega) (by omega) (by omega)]; omega), if_pos (by rw [jL_eq (by omega) (by omega) (by omega) (by omega)]; omega), jL_div (by omega) (by omega) (by omega) (by omega), Int.mul_tdiv_cancel_left c h3, jL_mul, Int.mul_comm c b]
  split
  · rfl
  · rw [if_pos rfl]; rfl
theorem s_rest (w : Wd) {a : Int} (h1 : -4611686018427387904 ≤ a) (h2 : a < 4611686018427387904) : f_X11_rest w (jL a) = some (jL (a % 24883200000)) := by
  unfold f_X11_rest
  rw [if_pos (by decide +kernel), if_pos (by decide +kernel), l64_24883200000, jL_div (by omega) (by omega) (by omega) (by omega), jL_mul, jL_sub, jL_add]
  have e : a.tdiv 24883200000 = a / 24883200000 + (if 0 ≤ a ∨ (24883200000 : Int) ∣ a then 0 else 1) := Int.tdiv_eq_ediv
  have e2 : 0 ≤ a - a.tdiv 24883200000 * 24883200000 + 24883200000 ∧ a - a.tdiv 24883200000 * 24883200000 + 24883200000 < 49766400000 := by
    rw [e]; split <;> omega
  rw [jL_div (by omega) (by omega) (by omega) (by omega), jL_mul, jL_sub, Int.tdiv_eq_ediv_of_nonneg e2.1, e]
  congr 2
  split <;> omega
theorem s_size (w : Wd) {a : Int} (h1 : -4611686018427387904 ≤ a) (h2 : a < 4611686018427387904) : f_X11_size w (jL a) = some (jL (a.natAbs : Int)) := by
  unfold f_X11_size
  rw [l64_0, jL_neg]
  by_cases h : 0 ≤ a
  · rw [if_pos (by rw [jL_le (by omega) (by omega) (by omega) (by omega)]; exact h)]; congr 2; omega
  · rw [if_neg (by rw [jL_le (by omega) (by omega) (by omega) (by omega)]; exact h)]; congr 2; omega
theorem s_in (w : Wd) {a b c : Int} (h1 : -2147483648 ≤ a) (h2 : a < 2147483648) (h3 : -2147483648 ≤ b) (h4 : b < 2147483648) (h5 : -2147483648 ≤ c) (h6 : c < 2147483648) : f_X11_in w (jI a) (jI b) (jI c) = some (jI (bZ (b ≤ a ∧ a ≤ c))) := by
  unfold f_X11_in
  have e1 := jI_lt h1 h2 h3 h4
  have e2 := jI_lt h5 h6 h1 h2
  by_cases q : b ≤ a ∧ a ≤ c
  · rw [if_neg (by rw [e1]; omega), if_neg (by rw [e2]; omega), bZ_pos q]; rfl
  · rw [bZ_neg q]
    by_cases q2 : a < b
    · rw [if_pos (by rw [e1]; exact q2)]; rfl
    · rw [if_neg (by rw [e1]; exact q2), if_pos (by rw [e2]; omega)]; rfl
/-! LOOPS -/
theorem lp {σ τ : Type} (F : Nat → τ → Option σ) (I : Nat → τ → Prop) (N : Nat) (Post : σ → Prop)
    (hs : ∀ i n s, i < N → I i s → (∃ s', I (i + 1) s' ∧ F (n + 1) s = F n s') ∨ (∃ r, F (n + 1) s = some r ∧ Post r))
    (he : ∀ n s, I N s → ∃ r, F (n + 1) s = some r ∧ Post r) : ∀ (fuel i : Nat) (s : τ), i ≤ N → N - i < fuel → I i s → ∃ r, F fuel s = some r ∧ Post r := by
  intro fuel
  induction fuel with
  | zero => intro i s h1 h2; omega
  | succ n ih =>
    intro i s h1 h2 hI
    by_cases h : i < N
    · rcases hs i n s h hI with ⟨s', h3, h4⟩ | h3
      · rw [h4]
        exact ih (i + 1) s' h (by omega) h3
      · exact h3
    · have : i = N := by omega
      subst this
      exact he n s hI
/-- the same with a state that is known after each turn -/
theorem lpF {σ τ : Type} (F : Nat → τ → Option σ) (N : Nat) (st : Nat → τ) (r : σ)
    (hs : ∀ i n, i < N → F (n + 1) (st i) = F n (st (i + 1))) (he : ∀ n, F (n + 1) (st N) = some r) : ∀ (fuel : Nat), N < fuel → F fuel (st 0) = some r := by
  intro fuel hf
  obtain ⟨r', h1, h2⟩ := lp F (fun i s => s = st i) N (fun x => x = r) (fun i n s hi hI => Or.inl ⟨st (i + 1), rfl, by rw [hI]; exact hs i n hi⟩) (fun n s hI => ⟨r, by rw [hI]; exact he n, rfl⟩) fuel 0 (st 0) (Nat.zero_le _) (by omega) rfl
  rw [h1, h2]
/-! SUMS -/
def sm (g : Int → Int) : Nat → Int
  | 0 => 0
  | n + 1 => sm g n + g n
theorem sm_congr {g h : Int → Int} : ∀ {n : Nat}, (∀ i : Int, 0 ≤ i → i < n → g i = h i) → sm g n = sm h n
  | 0, _ => rfl
  | n + 1, e => by
    show sm g n + g n = sm h n + h n
    rw [sm_congr (fun i h0 h1 => e i h0 (by omega)), e n (by omega) (by omega)]
theorem sm_lo {g : Int → Int} {c : Int} : ∀ {n : Nat}, (∀ i : Int, 0 ≤ i → i < n → c ≤ g i) → c * n ≤ sm g n
  | 0, _ => by show c * 0 ≤ 0; omega
  | n + 1, e => by
    show c * ((n + 1 : Nat) : Int) ≤ sm g n + g n
    have h1 := sm_lo (g := g) (c := c) (n := n) (fun i h0 h1 => e i h0 (by omega))
    have h2 := e n (by omega) (by omega)
    rw [Int.natCast_add, Int.mul_add]
    omega
theorem sm_hi {g : Int → Int} {c : Int} : ∀ {n : Nat}, (∀ i : Int, 0 ≤ i → i < n → g i ≤ c) → sm g n ≤ c * n
  | 0, _ => by show 0 ≤ c * 0; omega
  | n + 1, e => by
    show sm g n + g n ≤ c * ((n + 1 : Nat) : Int)
    have h1 := sm_hi (g := g) (c := c) (n := n) (fun i h0 h1 => e i h0 (by omega))
    have h2 := e n (by omega) (by omega)
    rw [Int.natCast_add, Int.mul_add]
    omega
theorem sm_up {g h : Int → Int} {k : Int} : ∀ {n : Nat}, 0 ≤ k → k < n → (∀ i : Int, 0 ≤ i → i < n → i ≠ k → g i = h i) → sm g n = sm h n + (g k - h k)
  | 0, h0, h1, _ => by omega
  | n + 1, h0, h1, e => by
    show sm g n + g n = sm h n + h n + (g k - h k)
    by_cases q : k = n
    · rw [sm_congr (g := g) (h := h) (n := n) (fun i h2 h3 => e i h2 (by omega) (by omega)), q]
      omega
    · rw [sm_up (g := g) (h := h) (k := k) (n := n) h0 (by omega) (fun i h2 h3 h4 => e i h2 (by omega) h4), e n (by omega) (by omega) (by omega)]
      omega
theorem sm_tail {g : Int → Int} : ∀ {n m : Nat}, m ≤ n → (∀ i : Int, m ≤ i → i < n → g i = 0) → sm g n = sm g m
  | 0, m, h, _ => by rw [show m = 0 by omega]
  | n + 1, m, h, e => by
    by_cases q : m = n + 1
    · rw [q]
    · show sm g n + g n = sm g m
      rw [sm_tail (n := n) (m := m) (by omega) (fun i h2 h3 => e i h2 (by omega)), e n (by omega) (by omega)]
      omega
