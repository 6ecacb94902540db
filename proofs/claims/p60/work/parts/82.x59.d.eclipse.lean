theorem s_turning {w : Wd} {S : Ab} (hG : Good S) (h : CSt w 1 S) {a b z : Int} (a0 : 0 ≤ a ∧ a < S 1) (b0 : 0 ≤ b ∧ b < S 1) (z0 : 0 ≤ z ∧ z < S 0) : ∃ r w', f_X2_byTurning w (jI a) (jI b) (jI z) = some (jI r, w') ∧ Sm KT w w' ∧ CSt w' 1 S ∧ IsE (aO S a - aO S b) (TU S z (S (86 + a)) - TU S z (S (86 + b))) r := by
  have hg := hG.1
  obtain ⟨w3, m, e3, s3, t3, c3⟩ := s_trace hG h z0.1 z0.2
  have ka := hG.2.2.1 a a0.1 a0.2
  have kb := hG.2.2.1 b b0.1 b0.2
  have ba := aO_b hG a0.1 a0.2
  have bb := aO_b hG b0.1 b0.2
  have ua := tu_b hG z0.1 z0.2 (S (86 + a)) ka.1 (by omega)
  have ub := tu_b hG z0.1 z0.2 (S (86 + b)) kb.1 (by omega)
  have ea : gL w3 3 (S (86 + a)).toNat = jL (aO S a) := c_a c3 _ ka.1 (by omega)
  have eb : gL w3 3 (S (86 + b)).toNat = jL (aO S b) := c_a c3 _ kb.1 (by omega)
  have va := t3.1 (S (86 + a)) ka.1 (by omega)
  have vb := t3.1 (S (86 + b)) kb.1 (by omega)
  have ca := c_c c3 a a0.1 (by omega)
  have cb := c_c c3 b b0.1 (by omega)
  have ia : inR (jI a) 6 = true := by rw [inR_j (by omega) (by omega)]; omega
  have ib : inR (jI b) 6 = true := by rw [inR_j (by omega) (by omega)]; omega
  have ja : inR (jI (S (86 + a))) 10 = true := by rw [inR_j (by omega) (by omega)]; omega
  have jb : inR (jI (S (86 + b))) 10 = true := by rw [inR_j (by omega) (by omega)]; omega
  have na : (jI a).toNatClampNeg = a.toNat := jI_clamp (by omega) (by omega)
  have nb : (jI b).toNatClampNeg = b.toNat := jI_clamp (by omega) (by omega)
  have ma : (jI (S (86 + a))).toNatClampNeg = (S (86 + a)).toNat := jI_clamp (by omega) (by omega)
  have mb : (jI (S (86 + b))).toNatClampNeg = (S (86 + b)).toNat := jI_clamp (by omega) (by omega)
  generalize aO S a = A at *
  generalize aO S b = B at *
  generalize TU S z (S (86 + a)) = U at *
  generalize TU S z (S (86 + b)) = V at *
  obtain ⟨r, hr, hP⟩ := lp (fun n (s : Int64 × Int64 × Int32) => p_X2_byTurning_61 (jI (S (86 + a))) w3 (jI (S (86 + b))) n s.1 s.2.1 s.2.2)
    (fun i s => s = (jL ((A + i * U) % 24883200000), jL ((B + i * V) % 24883200000), jI ((i : Int) + 1)) ∧ ∀ j : Int, 1 ≤ j → j ≤ i → ¬ ((A - B) + j * (U - V)) % 24883200000 = 0) 999
    (fun r => (∃ q, r = .inl q ∧ IsE (A - B) (U - V) 0) ∨ ∃ k, r = .inr (jI k, w3) ∧ IsE (A - B) (U - V) k)
    (fun i n s hi hI => by
      obtain ⟨rfl, hj⟩ := hI
      have f1 : ((A + (i : Int) * U) % 24883200000 + U) % 24883200000 = (A + ((i + 1 : Nat) : Int) * U) % 24883200000 := by
        rw [show A + ((i + 1 : Nat) : Int) * U = A + (i : Int) * U + U by rw [Int.natCast_add]; grind]
        omega
      have f2 : ((B + (i : Int) * V) % 24883200000 + V) % 24883200000 = (B + ((i + 1 : Nat) : Int) * V) % 24883200000 := by
        rw [show B + ((i + 1 : Nat) : Int) * V = B + (i : Int) * V + V by rw [Int.natCast_add]; grind]
        omega
      have f3 : (A - B) + ((i : Int) + 1) * (U - V) = (A + ((i + 1 : Nat) : Int) * U) - (B + ((i + 1 : Nat) : Int) * V) := by rw [Int.natCast_add]; grind
      have st : p_X2_byTurning_61 (jI (S (86 + a))) w3 (jI (S (86 + b))) (n + 1) (jL ((A + i * U) % 24883200000)) (jL ((B + i * V) % 24883200000)) (jI ((i : Int) + 1)) = if jL ((A + ((i + 1 : Nat) : Int) * U) % 24883200000) = jL ((B + ((i + 1 : Nat) : Int) * V) % 24883200000) then some (.inr (jI ((i : Int) + 1), w3)) else p_X2_byTurning_61 (jI (S (86 + a))) w3 (jI (S (86 + b))) n (jL ((A + ((i + 1 : Nat) : Int) * U) % 24883200000)) (jL ((B + ((i + 1 : Nat) : Int) * V) % 24883200000)) (jI (((i + 1 : Nat) : Int) + 1)) := by
        rw [p_X2_byTurning_61, l32_999, if_neg (show ¬ jI 999 < jI ((i : Int) + 1) by rw [jI_lt (by omega) (by omega) (by omega) (by omega)]; omega), if_pos ja, ma, va, l64_24883200000, jL_add, s_rem (by omega) (by omega) (by omega) (by omega), bs_p, if_pos jb, mb, vb, jL_add, s_rem (by omega) (by omega) (by omega) (by omega), bs_p, f1, f2, l32_1, jI_add]
        rfl
      by_cases q : (A + ((i + 1 : Nat) : Int) * U) % 24883200000 = (B + ((i + 1 : Nat) : Int) * V) % 24883200000
      · refine Or.inr ⟨.inr (jI ((i : Int) + 1), w3), ?_, Or.inr ⟨(i : Int) + 1, rfl, Or.inl ⟨by omega, by omega, ?_, fun j j0 j1 => hj j j0 (by omega)⟩⟩⟩
        · show p_X2_byTurning_61 _ _ _ (n + 1) _ _ _ = _
          rw [st, q]
          exact if_pos rfl
        · rw [f3]; omega
      · refine Or.inl ⟨(jL ((A + ((i + 1 : Nat) : Int) * U) % 24883200000), jL ((B + ((i + 1 : Nat) : Int) * V) % 24883200000), jI (((i + 1 : Nat) : Int) + 1)), ⟨rfl, fun j j0 j1 => ?_⟩, ?_⟩
        · by_cases y : j = (i : Int) + 1
          · rw [y, f3]; omega
          · exact hj j j0 (by omega)
        · show p_X2_byTurning_61 _ _ _ (n + 1) _ _ _ = _
          rw [st]
          exact if_neg (by rw [jL_eq (by omega) (by omega) (by omega) (by omega)]; exact q))
    (fun n s hI => by
      obtain ⟨rfl, hj⟩ := hI
      refine ⟨.inl (jL ((A + ((999 : Nat) : Int) * U) % 24883200000), jL ((B + ((999 : Nat) : Int) * V) % 24883200000), jI (((999 : Nat) : Int) + 1)), ?_, Or.inl ⟨_, rfl, Or.inr ⟨rfl, fun j j0 j1 => hj j j0 (by omega)⟩⟩⟩
      show p_X2_byTurning_61 _ _ _ (n + 1) _ _ _ = _
      rw [p_X2_byTurning_61]
      exact if_pos (show jI 999 < jI (((999 : Nat) : Int) + 1) by rw [jI_lt (by omega) (by omega) (by omega) (by omega)]; omega)) 2000 0 (jL ((A + ((0 : Nat) : Int) * U) % 24883200000), jL ((B + ((0 : Nat) : Int) * V) % 24883200000), jI (((0 : Nat) : Int) + 1)) (by omega) (by omega) ⟨rfl, fun j j0 j1 => by omega⟩
  have hr : p_X2_byTurning_61 (jI (S (86 + a))) w3 (jI (S (86 + b))) 2000 (jL ((A + ((0 : Nat) : Int) * U) % 24883200000)) (jL ((B + ((0 : Nat) : Int) * V) % 24883200000)) (1 : Int32) = some r := hr
  rw [show (A + ((0 : Nat) : Int) * U) % 24883200000 = A by omega, show (B + ((0 : Nat) : Int) * V) % 24883200000 = B by omega] at hr
  have P : f_X2_byTurning w (jI a) (jI b) (jI z) = ((some r).bind fun z => zc z (fun q => u3 q fun y8 y9 y10 => (some ((0 : Int32), w3))) (fun r => (some r))) := by
    unfold f_X2_byTurning
    rw [e3, bs_p, if_pos ia, if_pos ib, na, nb, ca, cb, if_pos ja, if_pos jb, ma, mb, ea, eb, hr]
  rcases hP with ⟨q, rfl, hE⟩ | ⟨k, rfl, hE⟩
  · exact ⟨0, w3, P, s3, c3, hE⟩
  · exact ⟨k, w3, P, s3, c3, hE⟩
