/-! THE CLASS'S TEXT: room, signs -/
def KO (k : Nat) : Prop := k = 139 ∨ k = 140
theorem fb_all : (List.range 256).all (fun n => fits .byte (.int (jI ((n : Nat) - 128)))) = true := by decide +kernel
theorem fits_b {z : Int} (z0 : -128 ≤ z) (z1 : z ≤ 127) : fits .byte (.int (jI z)) = true := by
  have h := List.all_eq_true.mp fb_all (z + 128).toNat (List.mem_range.mpr (by omega))
  rw [show (((z + 128).toNat : Nat) : Int) - 128 = z by omega] at h
  exact h
theorem Sm.wG (w : Wd) (n : Nat) : Sm KO w (uG w n) :=
  ⟨fun k hk => ⟨by funext j; show (if k = 140 ∧ gC w ≤ j then (0 : Int32) else gI w k j) = gI w k j; exact if_neg (fun z => hk (Or.inr z.1)), rfl⟩, fun _ => rfl, fun h => absurd (Or.inr rfl) h⟩
theorem s_ensure {w : Wd} {n k : Int} {Y : Int → Int} (h : OC w n Y) (k0 : 0 ≤ k) (k1 : k ≤ 34) : ∃ w', f_J5_ensureCapacityInternal_d00df w (jI k) = some w' ∧ Sm KO w w' ∧ OC w' n Y ∧ k ≤ gC w' := by
  obtain ⟨h1, h2, h3, h4, h5, h6⟩ := h
  unfold f_J5_ensureCapacityInternal_d00df
  rw [h1, sh0, nI_j, jI_sub]
  by_cases q : k ≤ gC w
  · refine ⟨w, if_pos (show jI (k - gC w) ≤ jI 0 by rw [jI_le (by omega) (by omega) (by omega) (by omega)]; omega), Sm.refl w, ⟨h1, h2, h3, h4, h5, h6⟩, q⟩
  · have g16 : gC w = 16 := by omega
    have nc : f_J5_newCapacity_0f7a4 w (jI k) = some (jI 34) := by
      unfold f_J5_newCapacity_0f7a4 f_J8_newLength_cabcc
      rw [h1, sl0, sl0, nI_j, g16, jI_sub, show (((16 : Nat) : Int)) = 16 from rfl]
      have e2 : jI 16 + (2 : Int32) = jI 18 := rfl
      rw [e2]
      have e3 : jI 16 + (if jI (k - 16) < jI 18 then jI 18 else jI (k - 16)) = jI 34 := by
        by_cases y : k - 16 < 18
        · rw [if_pos (by rw [jI_lt (by omega) (by omega) (by omega) (by omega)]; exact y)]
          rfl
        · rw [if_neg (by rw [jI_lt (by omega) (by omega) (by omega) (by omega)]; exact y), show k - 16 = 18 by omega]
          rfl
      rw [e3]
      rfl
    have ok : gK w (jI 34) = true := by
      unfold gK
      rw [g16, Bool.and_eq_true, Bool.and_eq_true, Bool.and_eq_true]
      refine ⟨by decide +kernel, by decide +kernel, by decide +kernel, List.all_eq_true.mpr (fun i hi => ?_)⟩
      obtain ⟨z, z0, z1, e⟩ := h6 i (by rw [g16]; exact List.mem_range.mp hi)
      rw [e]
      exact fits_b z0 z1
    have e34 : (jI 34).toNatClampNeg = 34 := rfl
    have g140 : ∀ i, i < 16 → gI (uG w 34) 140 i = gI w 140 i := fun i hi => by
      show (if (140 : Nat) = 140 ∧ gC w ≤ i then (0 : Int32) else gI w 140 i) = gI w 140 i
      exact if_neg (by omega)
    have g139 : gI (uG w 34) 139 = gI w 139 := by
      funext j
      show (if (139 : Nat) = 140 ∧ gC w ≤ j then (0 : Int32) else gI w 139 j) = gI w 139 j
      exact if_neg (by omega)
    refine ⟨uG w 34, ?_, Sm.wG w 34, ⟨by rw [g139]; exact h1, by rw [g139]; exact h2, Or.inr ⟨by show 34 ≤ 34; omega, by show 34 ≤ 64; omega⟩, by show n ≤ ((34 : Nat) : Int); omega, fun i i0 i1 => ?_, fun i hi => ?_⟩, by show k ≤ ((34 : Nat) : Int); omega⟩
    · rw [if_neg (show ¬ jI (k - gC w) ≤ 0 by rw [show (0 : Int32) = jI 0 from rfl, jI_le (by omega) (by omega) (by omega) (by omega)]; omega), nc, bs_p, sl0, if_pos ok, e34]
    · rw [g140 _ (by omega)]
      exact h5 i i0 i1
    · by_cases y : i < 16
      · rw [g140 i y]
        exact h6 i (by omega)
      · refine ⟨0, by decide, by decide, ?_⟩
        show (if (140 : Nat) = 140 ∧ gC w ≤ i then (0 : Int32) else gI w 140 i) = jI 0
        exact if_pos ⟨rfl, by omega⟩
theorem nby_all : (List.range 128).all (fun n => vp_nar .byte (jI (n : Nat)).toInt8.toInt32 == jI (n : Nat)) = true := by decide +kernel
theorem nar_by {z : Int} (z0 : 0 ≤ z) (z1 : z ≤ 127) : vp_nar .byte (jI z).toInt8.toInt32 = jI z := by
  have h := List.all_eq_true.mp nby_all z.toNat (List.mem_range.mpr (by omega))
  rw [show ((z.toNat : Nat) : Int) = z by omega] at h
  exact eq_of_beq h
theorem OC.put {w : Wd} {n c : Int} {Y : Int → Int} (h : OC w n Y) (n0 : 0 ≤ n) (hn : n + 1 ≤ gC w) (c0 : 0 ≤ c) (c1 : c ≤ 127) : OC (uI (uI w 139 3 (jI (n + 1))) 140 n.toNat (jI c)) (n + 1) (fun i => if i = n then c else Y i) := by
  obtain ⟨h1, h2, h3, h4, h5, h6⟩ := h
  refine ⟨by rw [gI_uI, if_neg (by omega), gI_uI, if_neg (by omega)]; exact h1, by rw [gI_uI, if_neg (by omega), gI_uI, if_pos ⟨rfl, rfl⟩], h3, hn, fun i i0 i1 => ?_, fun i hi => ?_⟩
  · show gI _ 140 i.toNat = jI (if i = n then c else Y i)
    rw [gI_uI]
    by_cases y : i = n
    · rw [if_pos ⟨rfl, by rw [y]⟩, if_pos y]
    · rw [if_neg (by omega), if_neg y, gI_uI, if_neg (by omega)]
      exact h5 i i0 (by omega)
  · rw [gI_uI]
    by_cases y : i = n.toNat
    · rw [if_pos ⟨rfl, y⟩]
      exact ⟨c, by omega, c1, rfl⟩
    · rw [if_neg (fun z => y z.2), gI_uI, if_neg (by omega)]
      exact h6 i hi
theorem s_app1 {w : Wd} {n c : Int} {Y : Int → Int} (h : OC w n Y) (n0 : 0 ≤ n) (n1 : n + 1 ≤ 34) (c0 : 0 ≤ c) (c1 : c ≤ 127) : ∃ w', f_J4_append_cf468 w (jI c) = some w' ∧ Sm KO w w' ∧ OC w' (n + 1) (fun i => if i = n then c else Y i) := by
  obtain ⟨w3, e3, s3, h3, g3⟩ := s_ensure (k := n + 1) h (by omega) n1
  have h2 := h.2.1
  have a1 := h3.1
  have a2 := h3.2.1
  have a3 := h3.2.2.1
  refine ⟨uI (uI w3 139 3 (jI (n + 1))) 140 n.toNat (jI c), ?_, (s3.tr (Sm.wI _ (Or.inl rfl))).tr (Sm.wI _ (Or.inr rfl)), h3.put n0 g3 c0 c1⟩
  have lat : f_J5_isLatin1_aae02 w3 = some (jI 1) := by
    unfold f_J5_isLatin1_aae02
    rw [a1]
    rfl
  have can : f_J1_canEncode_fc78d (jI c) = some (jI 1) := by
    unfold f_J1_canEncode_fc78d
    rw [l32_255, if_neg (by rw [jI_lt (by omega) (by omega) (by omega) (by omega)]; omega)]
    rfl
  have ir : inR (jI n) (gC (uI w3 139 3 (jI (n + 1)))) = true := by
    show inR (jI n) (gC w3) = true
    rw [inR_j (by omega) (by omega)]
    omega
  unfold f_J4_append_cf468 f_J5_append_3fe6f
  rw [h2, l32_1, jI_add, e3, bs_p, lat, bs_p, if_neg (show ¬ jI 1 = 0 by decide +kernel), can, bs_p, if_neg (show ¬ jI 1 = 0 by decide +kernel), a2, jI_add, wl_p, if_pos ir, jI_clamp (by omega) (by omega), nar_by c0 c1, wl_p, bs_p]
