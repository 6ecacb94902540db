/-! THE START holds the invariant -/
def S0 : Ab := fun z => if z = 2 then 12 else 0
theorem S0_z {z : Int} (h : z ≠ 2) : S0 z = 0 := if_neg h
theorem S0_n (i : Nat) (k : Int) (h : 3 ≤ k) : S0 (k + (i : Int)) = 0 := S0_z (by omega)
theorem S0_jc : jc S0 = 0 := by
  have e : jc S0 = sm (fun _ => 0) 100 := sm_congr (fun i h0 h1 => by
    show (if S0 (92 + i) = 0 then (0 : Int) else 1) = 0
    rw [S0_z (by omega)]
    rfl)
  rw [e]
  decide +kernel
theorem S0_good : Good S0 := by
  have e0 : S0 0 = 0 := S0_z (by decide)
  refine ⟨⟨by rw [e0]; decide, by rw [e0]; decide, by rw [S0_z (by decide)]; decide, by rw [S0_z (by decide)]; decide, by decide, by decide⟩, fun i i0 i1 => ?_, fun p p0 p1 => ?_, fun a b a0 a1 b0 b1 => ?_, ?_, ?_, fun _ => 1, fun a a0 a1 => ⟨show ¬ (1 : Int) = 0 by decide, fun b b0 b1 => ?_⟩⟩
  · unfold Gg
    rw [e0, S0_z (z := 6 + i) (by omega), S0_z (z := 16 + i) (by omega), S0_z (z := 26 + i) (by omega), S0_z (z := 36 + i) (by omega), S0_z (z := 46 + i) (by omega), S0_z (z := 56 + i) (by omega), S0_z (z := 66 + i) (by omega)]
    exact ⟨fun h => by omega, fun _ => ⟨rfl, rfl⟩, by omega, Or.inl rfl, fun h => by omega, Or.inl rfl, Or.inl rfl, by omega, by omega⟩
  · rw [S0_z (z := 1) (by decide)] at p1
    omega
  · unfold Gj
    rw [S0_z (z := 92 + 10 * a + b) (by omega), S0_z (z := 92 + 10 * b + a) (by omega)]
    exact ⟨rfl, Or.inl rfl, fun h => absurd rfl h⟩
  · rw [S0_jc]
    decide
  · rw [S0_z (z := 3) (by decide), S0_z (z := 4) (by decide)]
    have e : sm (fun i => S0 (36 + i)) 10 = sm (fun _ => 0) 10 := sm_congr (fun i h0 h1 => S0_z (by omega))
    rw [e]
    decide +kernel
  · unfold Rl
    rw [S0_z (z := 92 + 10 * a + b) (by omega)]
    exact ⟨fun h => by omega, fun h => by omega⟩
def T0 : TS := (S0, 0, S0, 0, fun _ => S0, 0, fun _ => 0, -1, -1, 0, fun _ => 0)
theorem T0_g : InvG T0 :=
  ⟨S0_good, Or.inl rfl, fun _ => S0_good, ⟨by decide, by decide⟩, fun _ _ _ => S0_good, ⟨by decide, by decide⟩, fun i i0 i1 => by have i1 : i < 0 := i1; omega, ⟨by decide, by decide⟩, ⟨by decide, by decide⟩, ⟨by decide, by decide⟩, fun i i0 i1 => by have i1 : i < 0 := i1; omega⟩
theorem w0_I {k : Nat} (h : k = 1 ∨ k = 12 ∨ k = 23 ∨ k = 36 ∨ k = 47 ∨ k = 58 ∨ k = 69 ∨ k = 80 ∨ k = 91 ∨ k = 102 ∨ k = 113) (i : Nat) : gI w0 k i = if i = 13 then 12 else 0 := by
  show (if k = 1 ∨ k = 12 ∨ k = 23 ∨ k = 36 ∨ k = 47 ∨ k = 58 ∨ k = 69 ∨ k = 80 ∨ k = 91 ∨ k = 102 ∨ k = 113 then (fun i => if i = 13 then (12 : Int32) else 0) else if k = 0 then (fun i => if i = 11 ∨ i = 12 then -1 else 0) else if k = 141 then (fun i => if i = 8 ∨ i = 9 then -1 else 0) else fun _ => 0) i = _
  rw [if_pos h]
theorem w0_O {k : Nat} (h : ¬ (k = 1 ∨ k = 12 ∨ k = 23 ∨ k = 36 ∨ k = 47 ∨ k = 58 ∨ k = 69 ∨ k = 80 ∨ k = 91 ∨ k = 102 ∨ k = 113)) (h0 : k ≠ 0) (h1 : k ≠ 141) (i : Nat) : gI w0 k i = 0 := by
  show (if k = 1 ∨ k = 12 ∨ k = 23 ∨ k = 36 ∨ k = 47 ∨ k = 58 ∨ k = 69 ∨ k = 80 ∨ k = 91 ∨ k = 102 ∨ k = 113 then (fun i => if i = 13 then (12 : Int32) else 0) else if k = 0 then (fun i => if i = 11 ∨ i = 12 then -1 else 0) else if k = 141 then (fun i => if i = 8 ∨ i = 9 then -1 else 0) else fun _ => 0) i = _
  rw [if_neg h, if_neg h0, if_neg h1]
theorem w0_L {k : Nat} (h : k ≠ 142) (i : Nat) : gL w0 k i = 0 := by
  show (if k = 142 then vp_updL (fun _ => (0 : Int64)) (Int32.toNatClampNeg 2) 12 else fun _ => 0) i = 0
  rw [if_neg h]
theorem w0_c {b : Nat} (h : b = 1 ∨ b = 12 ∨ b = 23) : CSt w0 b S0 := by
  have z : (0 : Int32) = jI 0 := rfl
  have zl : (0 : Int64) = jL 0 := rfl
  refine ⟨fun i i0 i1 => ?_, fun k k0 k1 => ?_, fun i i0 i1 => ?_, ?_, ?_, ?_, ?_, ?_, ?_, ?_⟩
  · rw [w0_O (by omega) (by omega) (by omega), w0_L (by omega), w0_O (by omega) (by omega) (by omega), w0_L (by omega), w0_O (by omega) (by omega) (by omega), w0_O (by omega) (by omega) (by omega), w0_O (by omega) (by omega) (by omega), w0_O (by omega) (by omega) (by omega), S0_z (z := 6 + i) (by omega), S0_z (z := 16 + i) (by omega), S0_z (z := 26 + i) (by omega), S0_z (z := 36 + i) (by omega), S0_z (z := 46 + i) (by omega), S0_z (z := 56 + i) (by omega), S0_z (z := 66 + i) (by omega), S0_z (z := 76 + i) (by omega)]
    exact ⟨z, zl, z, fun _ => zl, z, z, z, z⟩
  · rw [w0_O (by omega) (by omega) (by omega), S0_z (by omega)]
    rfl
  · rw [w0_O (by omega) (by omega) (by omega), S0_z (by omega)]
    exact z
  · rw [w0_I (by omega), S0_z (by decide)]; rfl
  · rw [w0_I (by omega), S0_jc]; rfl
  · rw [w0_I (by omega), S0_z (by decide)]; rfl
  · rw [w0_I (by omega)]; rfl
  · rw [w0_I (by omega), S0_z (by decide)]; rfl
  · rw [w0_I (by omega), S0_z (by decide)]; rfl
  · rw [w0_I (by omega), S0_z (by decide)]; rfl
theorem inv_w0 : Inv w0 := by
  refine ⟨T0, T0_g, ⟨w0_c (Or.inl rfl), rfl, fun h => ?_, ⟨0, ⟨by decide, by decide⟩, ?_, ?_, fun i i0 i1 => ?_⟩, ?_, fun i i0 i1 => ?_, rfl, rfl, ?_⟩, ?_⟩
  · exact absurd (show (0 : Int) = 1 from h) (by decide)
  · exact w0_O (by decide) (by decide) (by decide) 1
  · exact w0_O (by decide) (by decide) (by decide) 2
  · have i1 : i < 0 := i1
    omega
  · exact w0_O (by decide) (by decide) (by decide) 1
  · have i1 : i < 0 := i1
    omega
  · refine ⟨w0_O (by decide) (by decide) (by decide) 1, w0_O (by decide) (by decide) (by decide) 3, Or.inl rfl, by decide, fun i i0 i1 => ?_, fun i hi => ⟨0, by decide, by decide, w0_O (by decide) (by decide) (by decide) i⟩⟩
    have i1 : i < 0 := i1
    omega
  · refine ⟨fun z z0 z1 => ?_, rfl, fun h => ?_, ⟨rfl, fun i i0 i1 => ?_⟩, rfl, fun i i0 i1 => ?_, rfl, rfl, rfl, fun i i0 i1 => ?_⟩
    · rw [Int.zero_add]
      show (if (142 : Nat) = 142 then vp_updL (fun _ => (0 : Int64)) (Int32.toNatClampNeg 2) 12 else fun _ => 0) z.toNat = _
      rw [if_pos rfl]
      have e2 : Int32.toNatClampNeg 2 = 2 := rfl
      have es : tS T0 z = if z = 2 then 12 else 0 := rfl
      unfold vp_updL
      rw [e2, es]
      by_cases q : z = 2
      · rw [if_pos q, if_pos (by omega)]
        rfl
      · rw [if_neg q, if_neg (by omega)]
        rfl
    · exact absurd (show (0 : Int) = 1 from h) (by decide)
    · have i1 : i < 0 := i1
      omega
    · have i1 : i < 0 := i1
      omega
    · have i1 : i < 0 := i1
      omega
