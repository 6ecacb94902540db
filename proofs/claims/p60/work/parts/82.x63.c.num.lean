/-! the class's number -/
theorem nd_all : (List.range 10).all (fun d => vp_nar .byte (nI (48 + d)) == jI ((48 + d : Nat) : Int)) = true := by decide +kernel
theorem nar_d {d : Nat} (h : d < 10) : vp_nar .byte (nI (48 + d)) = jI ((48 : Int) + d) := by
  have k := List.all_eq_true.mp nd_all d (List.mem_range.mpr h)
  have k := eq_of_beq k
  rw [k, Int.natCast_add]
  rfl
theorem pu_at (Y : Int → Int) (n c i : Int) : pu Y n c i = if i = n then c else Y i := rfl
/-- signs put into the room that is there, the last first -/
theorem OC.set {w : Wd} {n m c : Int} {Y : Int → Int} (h1 : ∀ i : Int, 0 ≤ i → i < n → gI w 140 i.toNat = jI (Y i)) (n0 : 0 ≤ n) (m0 : n ≤ m) : ∀ i : Int, 0 ≤ i → i < n → gI (uI w 140 m.toNat (jI c)) 140 i.toNat = jI (Y i) := fun i i0 i1 => by
  rw [gI_uI, if_neg (by omega)]
  exact h1 i i0 i1
theorem by_set {w : Wd} {m c : Int} (h : ∀ i : Nat, i < gC w → ∃ z, -128 ≤ z ∧ z ≤ 127 ∧ gI w 140 i = jI z) (c0 : 0 ≤ c) (c1 : c ≤ 127) : ∀ i : Nat, i < gC (uI w 140 m.toNat (jI c)) → ∃ z, -128 ≤ z ∧ z ≤ 127 ∧ gI (uI w 140 m.toNat (jI c)) 140 i = jI z := fun i hi => by
  rw [gI_uI]
  by_cases y : i = m.toNat
  · rw [if_pos ⟨rfl, y⟩]; exact ⟨c, by omega, c1, rfl⟩
  · rw [if_neg (fun z => y z.2)]; exact h i hi
/-- the last signs of a number under a hundred -/
theorem s_low {w : Wd} {v e : Int} (v0 : 0 ≤ v) (v1 : v < 100) (e0 : (if v < 10 then 1 else 2) ≤ e) (e1 : e ≤ gC w) (g64 : gC w ≤ 64) (K : Int32 × Wd → Option (Int32 × Wd)) :
    (if inR (-(jI (-v))) 100 then (if inR (jI e + (-1 : Int32)) (gC w) then (wl (uI w 140 ((jI e + (-1 : Int32))).toNatClampNeg (vp_nar .byte (nI (48 + ((-(jI (-v)))).toNatClampNeg % 10)))) fun w18 => (if (-9 : Int32) ≤ jI (-v) then (some ((jI e + (-1 : Int32)), w18)) else (if inR (-(jI (-v))) 100 then (if inR ((jI e + (-1 : Int32)) + (-1 : Int32)) (gC w18) then (wl (uI w18 140 (((jI e + (-1 : Int32)) + (-1 : Int32))).toNatClampNeg (vp_nar .byte (nI (48 + ((-(jI (-v)))).toNatClampNeg / 10)))) fun w22 => (some (((jI e + (-1 : Int32)) + (-1 : Int32)), w22))) else none) else none))) else none) else none) = if v < 10 then some (jI (e - 1), uI w 140 (e - 1).toNat (jI (48 + v))) else some (jI (e - 2), uI (uI w 140 (e - 1).toNat (jI (48 + v % 10))) 140 (e - 2).toNat (jI (48 + v / 10))) := by
  have a1 : -(jI (-v)) = jI v := by rw [jI_neg, Int.neg_neg]
  have a2 : (-1 : Int32) = jI (-1) := rfl
  have a3 : (-9 : Int32) = jI (-9) := rfl
  have ev : e ≥ 1 := by
    split at e0 <;> omega
  have c1 : (jI v).toNatClampNeg = v.toNat := jI_clamp (by omega) (by omega)
  have i1 : inR (jI v) 100 = true := by rw [inR_j (by omega) (by omega)]; omega
  have i2 : inR (jI (e + -1)) (gC w) = true := by rw [inR_j (by omega) (by omega)]; omega
  rw [a1, a2, a3, jI_add, if_pos i1, if_pos i2, c1, jI_clamp (by omega) (by omega), nar_d (Nat.mod_lt _ (by decide)), wl_p]
  by_cases q : v < 10
  · rw [if_pos (by rw [jI_le (by omega) (by omega) (by omega) (by omega)]; omega), if_pos q, show (48 : Int) + ((v.toNat % 10 : Nat) : Int) = 48 + v by omega]
    rfl
  · have i3 : inR (jI (e + -1 + -1)) (gC (uI w 140 (e + -1).toNat (jI (48 + ((v.toNat % 10 : Nat) : Int))))) = true := by
      show inR (jI (e + -1 + -1)) (gC w) = true
      rw [if_neg q] at e0
      rw [inR_j (by omega) (by omega)]; omega
    rw [if_neg (by rw [jI_le (by omega) (by omega) (by omega) (by omega)]; omega), if_pos i1, jI_add, if_pos i3, jI_clamp (by omega) (by omega), nar_d (by omega), wl_p, if_neg q, show (48 : Int) + ((v.toNat % 10 : Nat) : Int) = 48 + v % 10 by omega, show (48 : Int) + ((v.toNat / 10 : Nat) : Int) = 48 + v / 10 by omega, show e + -1 + -1 = e - 2 by omega]
    rfl
