/-! TYPING, AND READING WHAT WAS SHOWN -/
theorem nc_all : (List.range 128).all (fun n => vp_nar .char (jI (n : Nat)) == jI (n : Nat)) = true := by decide +kernel
theorem narC {z : Int} (z0 : 0 ≤ z) (z1 : z ≤ 127) : vp_nar .char (jI z) = jI z := by
  have h := List.all_eq_true.mp nc_all z.toNat (List.mem_range.mpr (by omega))
  rw [show ((z.toNat : Nat) : Int) = z by omega] at h
  exact eq_of_beq h
theorem nb_all : (List.range 128).all (fun n => vp_nar .char ((((jI (n : Nat) &&& (255 : Int32))).toUInt32 % 65536).toInt32) == jI (n : Nat)) = true := by decide +kernel
theorem narB {z : Int} (z0 : 0 ≤ z) (z1 : z ≤ 127) : vp_nar .char ((((jI z &&& (255 : Int32))).toUInt32 % 65536).toInt32) = jI z := by
  have h := List.all_eq_true.mp nb_all z.toNat (List.mem_range.mpr (by omega))
  rw [show ((z.toNat : Nat) : Int) = z by omega] at h
  exact eq_of_beq h
def typ (T : TS) (z : Int) : TS := (tS T, tH T, tP T, tN T, tL T, tC T + 1, (fun i => if i = tC T then z else tX T i), tE T, tF T, tO T, tY T)
theorem InvG.typ {T : TS} {z : Int} (h : InvG T) (z0 : 32 ≤ z ∧ z ≤ 126) (c : tC T < 60) : InvG (typ T z) := by
  obtain ⟨h1, h2, h3, h4, h5, h6, h7, h8⟩ := h
  refine ⟨h1, h2, h3, h4, h5, ⟨by show 0 ≤ tC T + 1; omega, by show tC T + 1 ≤ 60; omega⟩, fun i i0 i1 => ?_, h8⟩
  have i1 : i < tC T + 1 := i1
  show 32 ≤ (if i = tC T then z else tX T i) ∧ (if i = tC T then z else tX T i) ≤ 126
  split
  · exact z0
  · exact h7 i i0 (by omega)
theorem lw_type {w : Wd} (h : Inv w) (x1 x2 x3 : Int32) : ∃ w1, f_law_3019 w x1 x2 x3 = some w1 ∧ Inv w1 := by
  obtain ⟨T, hG, hC, hR⟩ := h
  unfold f_law_3019
  obtain ⟨z, hz, zb1, zb2⟩ := jI_ex (((x1).toUInt32 % 65536).toInt32)
  rw [hz]
  have hc := hG.2.2.2.2.2.1
  have c5 := hC.2.2.2.2.1
  by_cases q : 32 ≤ z ∧ z ≤ 126
  · by_cases q2 : tC T < 60
    · have L : f_L_type w (jI z) = some (jI 0, uL (uI (uI w 135 (tC T).toNat (jI z)) 134 1 (jI (tC T + 1))) 151 0 (jL (tC T + 1))) := by
        have f1 : gI (uI w 135 (tC T).toNat (jI z)) 134 1 = jI (tC T) := by rw [gI_uI, if_neg (by omega)]; exact c5
        unfold f_L_type f_X10_type f_X6_add
        rw [l32_32, if_neg (by rw [jI_lt (by omega) (by omega) (by omega) (by omega)]; omega), l32_126, if_pos (by rw [jI_le (by omega) (by omega) (by omega) (by omega)]; omega), c5, l32_60, if_pos (by rw [jI_lt (by omega) (by omega) (by omega) (by omega)]; omega), if_neg (by rw [jI_le (by omega) (by omega) (by omega) (by omega)]; omega), if_pos (by rw [inR_j (by omega) (by omega)]; omega), wl_p, jI_clamp (by omega) (by omega), narC (by omega) (by omega), f1, wl_p, bs_p, l32_1, jI_add]
        show ((some ((Sum.inr (gI (uI (uI w 135 (tC T).toNat (jI z)) 134 1 (jI (tC T + 1))) 134 1) : Nat ⊕ Int32), uI (uI w 135 (tC T).toNat (jI z)) 134 1 (jI (tC T + 1)))).bind _) = _
        rw [gI_uI, if_pos ⟨rfl, rfl⟩, bs_p, u2_p, zr_p, if_pos (show inR (0 : Int32) 1 = true by decide +kernel), wl_p, jI_toL (by omega) (by omega)]
        rfl
      have s3 : Sm KL w (uL (uI (uI w 135 (tC T).toNat (jI z)) 134 1 (jI (tC T + 1))) 151 0 (jL (tC T + 1))) := ((Sm.wI w (by unfold KL; omega)).tr (Sm.wI _ (by unfold KL; omega))).tr (sm_out _ _)
      have c3 : InvC (uL (uI (uI w 135 (tC T).toNat (jI z)) 134 1 (jI (tC T + 1))) 151 0 (jL (tC T + 1))) (typ T z) := by
        refine InvC.out ?_ _
        obtain ⟨g1, g2, g3, ⟨f, g4⟩, g5, g6, g7, g8, g9⟩ := hC
        have k : Sm (fun k => k = 134 ∨ k = 135) w (uI (uI w 135 (tC T).toNat (jI z)) 134 1 (jI (tC T + 1))) := (Sm.wI w (by omega)).tr (Sm.wI _ (by omega))
        refine ⟨g1.kept (fun r hr => k.1 _ (by omega)), by rw [k.iK (by omega)]; exact g2, fun y => (g3 y).kept (fun r hr => k.1 _ (by omega)), ⟨f, g4.kept (k.1 34 (by omega)).1 (fun i i0 i1 => k.1 i (by omega))⟩, by rw [gI_uI, if_pos ⟨rfl, rfl⟩]; rfl, fun i i0 i1 => ?_, by rw [k.iK (by omega)]; exact g7, by rw [k.iK (by omega)]; exact g8, g9.kept (k.1 139 (by omega)).1 (k.1 140 (by omega)).1 (k.2.2 (by omega))⟩
        have i1 : i < tC T + 1 := i1
        show gI _ 135 i.toNat = jI (if i = tC T then z else tX T i)
        rw [gI_uI, if_neg (by omega), gI_uI]
        by_cases y : i = tC T
        · rw [if_pos ⟨rfl, by rw [y]⟩, if_pos y]
        · rw [if_neg (by omega), if_neg y]; exact g6 i i0 (by omega)
      have R3 := hR.far s3
      have o4 : gL (uL (uI (uI w 135 (tC T).toNat (jI z)) 134 1 (jI (tC T + 1))) 151 0 (jL (tC T + 1))) 151 0 = jL (tC T + 1) := by rw [gL_uL, if_pos ⟨rfl, rfl⟩]
      generalize uL (uI (uI w 135 (tC T).toNat (jI z)) 134 1 (jI (tC T + 1))) 151 0 (jL (tC T + 1)) = w3 at L c3 R3 o4
      obtain ⟨h1, h2, h3, h4, h5, h6, h7, h8, h9, h10⟩ := R3
      have f2 : gI (uI w3 146 (tC T).toNat (jI z)) 141 7 = jI (tC T) := by rw [gI_uI, if_neg (by omega)]; exact h5
      have B : f_X11_type w3 (jI z) = some (jI (tC T + 1), uI (uI (uI w3 146 (tC T).toNat (jI z)) 141 7 (jI (tC T + 1))) 141 12 (jI 0)) := by
        unfold f_X11_type
        rw [l32_32, l32_126, s_in w3 (by omega) (by omega) (by omega) (by omega) (by omega) (by omega), bs_p, if_neg (bz_n q), h5, l32_60, if_neg (by rw [jI_eq (by omega) (by omega) (by omega) (by omega)]; omega), if_pos (by rw [inR_j (by omega) (by omega)]; omega), wl_p, jI_clamp (by omega) (by omega), narC (by omega) (by omega), f2, wl_p, l32_1, jI_add, gI_uI, if_pos ⟨rfl, rfl⟩, s_done]
        rfl
      have s6 : Sm KR w3 (uI (uI (uI w3 146 (tC T).toNat (jI z)) 141 7 (jI (tC T + 1))) 141 12 (jI 0)) := ((Sm.wI w3 (by unfold KR; omega)).tr (Sm.wI _ (by unfold KR; omega))).tr (Sm.wI _ (by unfold KR; omega))
      refine ⟨_, lawA L B (by rw [gI_uI, if_pos ⟨rfl, rfl⟩]) (fun _ => by rw [s6.lK (by unfold KR; omega), o4, jI_toL (by omega) (by omega)]), typ T z, hG.typ q q2, c3.far s6, ?_⟩
      have kk : ∀ i, i ≠ 12 → i ≠ 7 → gI (uI (uI (uI w3 146 (tC T).toNat (jI z)) 141 7 (jI (tC T + 1))) 141 12 (jI 0)) 141 i = gI w3 141 i := fun i a b => by rw [gI_uI, if_neg (by omega), gI_uI, if_neg (by omega), gI_uI, if_neg (by omega)]
      refine ⟨h1.kept rfl, by rw [kk 5 (by decide) (by decide)]; exact h2, fun y => (h3 y).kept rfl, h4.kept (kk 3 (by decide) (by decide)) rfl, by rw [gI_uI, if_neg (by omega), gI_uI, if_pos ⟨rfl, rfl⟩]; rfl, fun i i0 i1 => ?_, by rw [kk 8 (by decide) (by decide)]; exact h7, by rw [kk 9 (by decide) (by decide)]; exact h8, by rw [kk 11 (by decide) (by decide)]; exact h9, fun i i0 i1 => by rw [gI_uI, if_neg (by omega), gI_uI, if_neg (by omega), gI_uI, if_neg (by omega)]; exact h10 i i0 i1⟩
      have i1 : i < tC T + 1 := i1
      show gI _ 146 i.toNat = jI (if i = tC T then z else tX T i)
      rw [gI_uI, if_neg (by omega), gI_uI, if_neg (by omega), gI_uI]
      by_cases y : i = tC T
      · rw [if_pos ⟨rfl, by rw [y]⟩, if_pos y]
      · rw [if_neg (by omega), if_neg y]; exact h6 i i0 (by omega)
    · refine lawQI (c := 2) (v := 0) hG hC hR (by decide) (by decide) ⟨by decide, by decide⟩ ?_ (fun w' hR' => ?_)
      · refine LQ.err (Sm.refl w) (by decide) ?_
        unfold f_L_type f_X10_type
        rw [l32_32, if_neg (by rw [jI_lt (by omega) (by omega) (by omega) (by omega)]; omega), l32_126, if_pos (by rw [jI_le (by omega) (by omega) (by omega) (by omega)]; omega), c5, l32_60, if_neg (by rw [jI_lt (by omega) (by omega) (by omega) (by omega)]; omega)]
        rfl
      · refine RQ.errU (Sm.refl w') (by decide) ?_
        have h5 := hR'.2.2.2.2.1
        have e60 : tC T = 60 := by omega
        unfold f_X11_type
        rw [l32_32, l32_126, s_in w' (by omega) (by omega) (by omega) (by omega) (by omega) (by omega), bs_p, if_neg (bz_n q), h5, e60, if_pos (show jI 60 = (60 : Int32) from rfl), s_fails]
        rfl
  · refine lawQI (c := 1) (v := 0) hG hC hR (by decide) (by decide) ⟨by decide, by decide⟩ ?_ (fun w' hR' => ?_)
    · refine LQ.err (Sm.refl w) (by decide) ?_
      have A : f_X10_type w (jI z) = some (.inl 1, w) := by
        unfold f_X10_type
        by_cases y : z < 32
        · rw [l32_32, if_pos (by rw [jI_lt (by omega) (by omega) (by omega) (by omega)]; exact y)]
        · rw [l32_32, if_neg (by rw [jI_lt (by omega) (by omega) (by omega) (by omega)]; exact y), l32_126, if_neg (by rw [jI_le (by omega) (by omega) (by omega) (by omega)]; omega)]
      unfold f_L_type
      rw [A]
      rfl
    · refine RQ.errU (Sm.refl w') (by decide) ?_
      unfold f_X11_type
      rw [l32_32, l32_126, s_in w' (by omega) (by omega) (by omega) (by omega) (by omega) (by omega), bs_p, if_pos (bz_z q), s_fails]
      rfl
