theorem s_get {w : Wd} {v e : Int} (v0 : 0 ≤ v) (v1 : v < 1000) (e0 : nd v ≤ e) (e1 : e ≤ gC w) (g64 : gC w ≤ 64) :
    ∃ r w', f_J6_getChars_ba4f3 w (jI v) (jI e) = some (r, w') ∧ w' = (if v < 10 then uI w 140 (e - 1).toNat (jI (48 + v)) else if v < 100 then uI (uI w 140 (e - 1).toNat (jI (48 + v % 10))) 140 (e - 2).toNat (jI (48 + v / 10)) else uI (uI (uI w 140 (e - 1).toNat (jI (48 + v % 10))) 140 (e - 2).toNat (jI (48 + v / 10 % 10))) 140 (e - 3).toNat (jI (48 + v / 100))) := by
  have sm100 : ∀ (m : Nat) (u e : Int) (w : Wd), 0 ≤ u → u < 100 → p_J6_getChars_ba4f3_22 (m + 1) (jI (-u)) (jI e) w = some (.inl (jI (-u), jI e, w)) := by
    intro m u e w u0 u1
    rw [p_J6_getChars_ba4f3_22]
    exact if_pos (show jI (-100) < jI (-u) by rw [jI_lt (by omega) (by omega) (by omega) (by omega)]; omega)
  unfold nd at e0
  unfold f_J6_getChars_ba4f3
  rw [l32_0, if_pos (by rw [jI_le (by omega) (by omega) (by omega) (by omega)]; exact v0), jI_neg]
  by_cases q : v < 100
  · rw [show (2000 : Nat) = 1999 + 1 from rfl, sm100 1999 v e w v0 q, bs_p, zl_p, u3_p, s_low (w := w) (e := e) v0 q (by split <;> split at e0 <;> omega) e1 g64 (fun z => some z)]
    by_cases q2 : v < 10
    · rw [if_pos q2, if_pos q2]; exact ⟨_, _, rfl, rfl⟩
    · rw [if_neg q2, if_neg q2, if_pos q]; exact ⟨_, _, rfl, rfl⟩
  · rw [if_neg (by omega), if_neg q] at e0
    have st : p_J6_getChars_ba4f3_22 2000 (jI (-v)) (jI e) w = p_J6_getChars_ba4f3_22 1999 (jI (-(v / 100))) (jI (e - 2)) (uI (uI w 140 (e - 1).toNat (jI (48 + v % 10))) 140 (e - 2).toNat (jI (48 + v / 10 % 10))) := by
      have td : (-v).tdiv 100 = -(v / 100) := by rw [Int.neg_tdiv, Int.tdiv_eq_ediv_of_nonneg v0]
      have a2 : (-1 : Int32) = jI (-1) := rfl
      have a4 : (-100 : Int32) = jI (-100) := rfl
      have rr : -(v / 100) * 100 - -v = v % 100 := by omega
      have i1 : inR (jI (v % 100)) 100 = true := by rw [inR_j (by omega) (by omega)]; omega
      have i2 : inR (jI (e + -1)) (gC w) = true := by rw [inR_j (by omega) (by omega)]; omega
      have c1 : (jI (v % 100)).toNatClampNeg = (v % 100).toNat := jI_clamp (by omega) (by omega)
      have i3 : inR (jI (e + -1 + -1)) (gC (uI w 140 (e + -1).toNat (jI (48 + (((v % 100).toNat % 10 : Nat) : Int))))) = true := by
        show inR (jI (e + -1 + -1)) (gC w) = true
        rw [inR_j (by omega) (by omega)]; omega
      rw [show (2000 : Nat) = 1999 + 1 from rfl, p_J6_getChars_ba4f3_22, a4, if_neg (by rw [jI_lt (by omega) (by omega) (by omega) (by omega)]; omega), if_pos (by decide +kernel), l32_100, jI_div (by omega) (by omega) (by omega) (by omega), td, jI_mul, jI_sub, rr, if_pos i1, a2, jI_add, if_pos i2, c1, jI_clamp (by omega) (by omega), nar_d (Nat.mod_lt _ (by decide)), wl_p, if_pos i1, jI_add, if_pos i3, jI_clamp (by omega) (by omega), nar_d (by omega), wl_p, show (48 : Int) + (((v % 100).toNat % 10 : Nat) : Int) = 48 + v % 10 by omega, show (48 : Int) + (((v % 100).toNat / 10 : Nat) : Int) = 48 + v / 10 % 10 by omega, show e + -1 + -1 = e - 2 by omega, show e + -1 = e - 1 by omega]
    rw [st, show (1999 : Nat) = 1998 + 1 from rfl, sm100 1998 (v / 100) (e - 2) _ (by omega) (by omega), bs_p, zl_p, u3_p, s_low (w := uI (uI w 140 (e - 1).toNat (jI (48 + v % 10))) 140 (e - 2).toNat (jI (48 + v / 10 % 10))) (e := e - 2) (by omega) (by omega) (by rw [if_pos (by omega)]; omega) (by show e - 2 ≤ gC w; omega) g64 (fun z => some z), if_pos (by omega), if_neg (by omega), if_neg q, show e - 2 - 1 = e - 3 by omega]
    exact ⟨_, _, rfl, rfl⟩
theorem s_appN {w : Wd} {n v : Int} {Y : Int → Int} (h : OC w n Y) (n0 : 0 ≤ n) (v0 : 0 ≤ v) (v1 : v < 1000) (n1 : n + 3 ≤ 34) : ∃ w', f_J4_append_bf812 w (jI v) = some w' ∧ Sm KO w w' ∧ OC w' (n + nd v) (num v n Y) := by
  have nb := nd_b v
  obtain ⟨w5, e5, s5, h5, g5⟩ := s_ensure (k := n + nd v) h (by omega) (by omega)
  have g64 : gC w5 ≤ 64 := by have := h5.2.2.1; omega
  obtain ⟨r, w', e6, hw⟩ := s_get (w := w5) (e := n + nd v) v0 v1 (by omega) g5 g64
  have lat : f_J5_isLatin1_aae02 w5 = some (jI 1) := by
    unfold f_J5_isLatin1_aae02
    rw [h5.1]
    rfl
  have P : f_J4_append_bf812 w (jI v) = some (uI w' 139 3 (jI (n + nd v))) := by
    unfold f_J4_append_bf812 f_J5_append_c97b9
    rw [s_ssize v0 v1, bs_p, h.2.1, jI_add, e5, bs_p, lat, bs_p, if_neg (show ¬ jI 1 = 0 by decide +kernel), e6, bs_p, u2_p, wl_p, bs_p]
  refine ⟨_, P, ?_, ?_⟩
  · have k : Sm KO w5 w' := by
      rw [hw]
      split
      · exact Sm.wI _ (Or.inr rfl)
      · split
        · exact (Sm.wI _ (Or.inr rfl)).tr (Sm.wI _ (Or.inr rfl))
        · exact ((Sm.wI _ (Or.inr rfl)).tr (Sm.wI _ (Or.inr rfl))).tr (Sm.wI _ (Or.inr rfl))
    exact (s5.tr k).tr (Sm.wI _ (Or.inl rfl))
  · obtain ⟨a1, a2, a3, a4, a5, a6⟩ := h5
    have key : gI w' 139 1 = jI 0 ∧ gC w' = gC w5 ∧ (∀ i : Int, 0 ≤ i → i < n + nd v → gI w' 140 i.toNat = jI (num v n Y i)) ∧ ∀ i : Nat, i < gC w' → ∃ z, -128 ≤ z ∧ z ≤ 127 ∧ gI w' 140 i = jI z := by
      rw [hw]
      unfold num nd at *
      by_cases q : v < 10
      · simp only [if_pos q] at *
        refine ⟨by rw [gI_uI, if_neg (by omega)]; exact a1, rfl, fun i i0 i1 => ?_, by_set a6 (by omega) (by omega)⟩
        rw [pu_at, gI_uI]
        by_cases y : i = n
        · rw [if_pos ⟨rfl, by omega⟩, if_pos y]
        · rw [if_neg (by omega), if_neg y]; exact a5 i i0 (by omega)
      · simp only [if_neg q] at *
        by_cases q2 : v < 100
        · simp only [if_pos q2] at *
          refine ⟨by rw [gI_uI, if_neg (by omega), gI_uI, if_neg (by omega)]; exact a1, rfl, fun i i0 i1 => ?_, by_set (by_set a6 (by omega) (by omega)) (by omega) (by omega)⟩
          rw [pu_at, pu_at, gI_uI, gI_uI]
          by_cases y : i = n
          · rw [if_pos ⟨rfl, by omega⟩, if_neg (by omega), if_pos y]
          · by_cases y2 : i = n + 1
            · rw [if_neg (by omega), if_pos ⟨rfl, by omega⟩, if_pos y2]
            · rw [if_neg (by omega), if_neg (by omega), if_neg y2, if_neg y]; exact a5 i i0 (by omega)
        · simp only [if_neg q2] at *
          refine ⟨by rw [gI_uI, if_neg (by omega), gI_uI, if_neg (by omega), gI_uI, if_neg (by omega)]; exact a1, rfl, fun i i0 i1 => ?_, by_set (by_set (by_set a6 (by omega) (by omega)) (by omega) (by omega)) (by omega) (by omega)⟩
          rw [pu_at, pu_at, pu_at, gI_uI, gI_uI, gI_uI]
          by_cases y : i = n
          · rw [if_pos ⟨rfl, by omega⟩, if_neg (by omega), if_neg (by omega), if_pos y]
          · by_cases y2 : i = n + 1
            · rw [if_neg (by omega), if_pos ⟨rfl, by omega⟩, if_neg (by omega), if_pos y2]
            · by_cases y3 : i = n + 2
              · rw [if_neg (by omega), if_neg (by omega), if_pos ⟨rfl, by omega⟩, if_pos y3]
              · rw [if_neg (by omega), if_neg (by omega), if_neg (by omega), if_neg y3, if_neg y2, if_neg y]; exact a5 i i0 (by omega)
    obtain ⟨k1, k2, k3, k4⟩ := key
    refine ⟨by rw [gI_uI, if_neg (by omega)]; exact k1, by rw [gI_uI, if_pos ⟨rfl, rfl⟩], by show gC w' = 16 ∨ (34 ≤ gC w' ∧ gC w' ≤ 64); rw [k2]; exact a3, by show n + nd v ≤ gC w'; rw [k2]; exact g5, fun i i0 i1 => by rw [gI_uI, if_neg (by omega)]; exact k3 i i0 i1, fun i hi => by rw [gI_uI, if_neg (by omega)]; exact k4 i hi⟩
