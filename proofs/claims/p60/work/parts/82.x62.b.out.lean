theorem sh0 (x : Int32) : x >>> (jI 0 &&& 31) = x := by
  have e : jI 0 &&& 31 = 0 := by decide +kernel
  rw [e]
  apply Int32.toBitVec_inj.mp
  rw [Int32.toBitVec_shiftRight, show (0 : Int32).toBitVec.smod 32 = 0#32 by decide]
  show x.toBitVec.sshiftRight 0 = x.toBitVec
  exact BitVec.sshiftRight_zero
theorem sl0 (x : Int32) : x <<< (jI 0 &&& 31) = x := by
  have e : jI 0 &&& 31 = 0 := by decide +kernel
  rw [e]
  apply Int32.toBitVec_inj.mp
  rw [Int32.toBitVec_shiftLeft, show (0 : Int32).toBitVec.smod 32 = 0#32 by decide]
  show x.toBitVec <<< (0 : Nat) = x.toBitVec
  exact BitVec.shiftLeft_zero _
theorem s_charAt {w : Wd} {n : Int} {Y : Int → Int} (h : OC w n Y) {x : Int} (x0 : 0 ≤ x) (x1 : x < n) (hy : 0 ≤ Y x ∧ Y x ≤ 127) : f_J4_charAt_5068e w (jI x) = some (jI (Y x)) := by
  obtain ⟨h1, h2, h3, h4, h5, h6⟩ := h
  have hk : f_J0_checkIndex_df160 (jI x) (jI n) = some () := by
    unfold f_J0_checkIndex_df160 f_J3_checkIndex_8e157
    rw [l32_0, if_neg (by rw [jI_lt (by omega) (by omega) (by omega) (by omega)]; omega), if_pos (by rw [jI_lt (by omega) (by omega) (by omega) (by omega)]; exact x1)]
    rfl
  unfold f_J4_charAt_5068e f_J5_charAt_5068e
  rw [h1, sh0, h2, nI_j]
  by_cases y : ((gC w : Nat) : Int) < n
  · omega
  · rw [if_neg (by rw [jI_lt (by omega) (by omega) (by omega) (by omega)]; exact y), hk, bs_p, if_pos (show jI 0 = 0 from rfl), if_pos (by rw [inR_j (by omega) (by omega)]; omega), jI_clamp (by omega) (by omega), h5 x x0 x1, narB hy.1 hy.2, bs_p, narC hy.1 hy.2]
theorem lq_outputAt {w : Wd} (h : Inv w) (x1 x2 x3 : Int32) : ∃ w1, f_law_2963 w x1 x2 x3 = some w1 ∧ Inv w1 := by
  obtain ⟨T, hG, hC, hR⟩ := h
  obtain ⟨x, rfl, xb1, xb2⟩ := jI_ex x1
  have ho := hG.2.2.2.2.2.2.2.2.2
  have hO := hC.2.2.2.2.2.2.2.2
  have h2 := hO.2.1
  unfold f_law_2963
  have ln : f_J4_length_8abf5 w = some (jI (tO T)) := by
    unfold f_J4_length_8abf5 f_J5_length_8abf5
    rw [h2]
    rfl
  by_cases q : 0 ≤ x ∧ x < tO T
  · have y := ho.2 x q.1 q.2
    refine lawQI (c := 0) (v := tY T x) hG hC hR (by decide) (by decide) ⟨by omega, by omega⟩ ?_ (fun w' hR' => ?_)
    · refine LQ.val (Sm.refl w) ?_
      unfold f_L_outputAt f_X10_outputAt
      rw [l32_0, if_neg (by rw [jI_lt (by omega) (by omega) (by omega) (by omega)]; omega), ln, bs_p, if_pos (by rw [jI_lt (by omega) (by omega) (by omega) (by omega)]; exact q.2), s_charAt hO q.1 q.2 y, bs_p, narC y.1 y.2, bs_p, zr_p, if_pos (show inR (jI 0) 1 = true by decide +kernel), wl_p, jI_toL (by omega) (by omega)]
      rfl
    · have h11 := hR'.2.2.2.2.2.2.2.2.1
      have h10 := hR'.2.2.2.2.2.2.2.2.2
      refine RQ.valU (Sm.refl w') ?_
      have e10 : gI (uI w' 141 12 (jI 0)) 147 x.toNat = jI (tY T x) := by rw [gI_uI, if_neg (by omega)]; exact h10 x q.1 q.2
      unfold f_X11_outputAt
      rw [h11, l32_0, l32_1, jI_sub, s_in w' (by omega) (by omega) (by omega) (by omega) (by omega) (by omega), bs_p, if_neg (show ¬ jI (bZ (0 ≤ x ∧ x ≤ tO T - 1)) = jI 0 from bz_n (by omega)), wl_p, if_pos (by rw [gI_uI, if_pos ⟨rfl, rfl⟩]), if_pos (by rw [inR_j (by omega) (by omega)]; omega), jI_clamp (by omega) (by omega), e10, narC y.1 y.2]
  · refine lawQI (c := 1) (v := 0) hG hC hR (by decide) (by decide) ⟨by decide, by decide⟩ ?_ (fun w' hR' => ?_)
    · refine LQ.err (Sm.refl w) (by decide) ?_
      have A : f_X10_outputAt w (jI x) = some (.inl 0) := by
        unfold f_X10_outputAt
        by_cases y : x < 0
        · rw [l32_0, if_pos (by rw [jI_lt (by omega) (by omega) (by omega) (by omega)]; exact y)]
        · rw [l32_0, if_neg (by rw [jI_lt (by omega) (by omega) (by omega) (by omega)]; exact y), ln, bs_p, if_neg (by rw [jI_lt (by omega) (by omega) (by omega) (by omega)]; omega)]
      unfold f_L_outputAt
      rw [A]
      rfl
    · have h11 := hR'.2.2.2.2.2.2.2.2.1
      refine RQ.errU (Sm.refl w') (by decide) ?_
      unfold f_X11_outputAt
      rw [h11, l32_0, l32_1, jI_sub, s_in w' (by omega) (by omega) (by omega) (by omega) (by omega) (by omega), bs_p, if_pos (show jI (bZ (0 ≤ x ∧ x ≤ tO T - 1)) = jI 0 from bz_z (by omega)), wl_p, if_neg (by rw [gI_uI, if_pos ⟨rfl, rfl⟩]; decide +kernel)]
