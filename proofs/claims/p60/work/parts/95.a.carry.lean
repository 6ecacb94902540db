/-! A COMMAND carried out: the class's side alone -/
section
variable {w : Wd} {k : Nat} {a b : Int}
theorem co_gear (hk : k < 60) (g2 : gV w k = some 0) (g3 : gI w 137 k = jI a) (g4 : gI w 138 k = jI b) : f_X10_carryOut w (jI (k : Int)) = f_X1_putGear w (jI a) := by
  have ir : inR (jI (k : Int)) 60 = true := by rw [inR_j (by omega) (by omega)]; omega
  have ck : (jI (k : Int)).toNatClampNeg = k := by rw [jI_clamp (by omega) (by omega)]; omega
  unfold f_X10_carryOut
  rw [if_pos ir, if_pos ir, if_pos ir, ck, g2, ms_p, if_pos (by decide), if_pos (show inR (nI 0) 13 = true by decide +kernel), if_pos (show nI ((nI 0).toNatClampNeg + 1) = _ by decide +kernel), g3, bu_p]
theorem co_mesh (hk : k < 60) (g2 : gV w k = some 1) (g3 : gI w 137 k = jI a) (g4 : gI w 138 k = jI b) : f_X10_carryOut w (jI (k : Int)) = f_X1_join w (jI a) (jI b) (jI (jk 1)) := by
  have ir : inR (jI (k : Int)) 60 = true := by rw [inR_j (by omega) (by omega)]; omega
  have ck : (jI (k : Int)).toNatClampNeg = k := by rw [jI_clamp (by omega) (by omega)]; omega
  unfold f_X10_carryOut
  rw [if_pos ir, if_pos ir, if_pos ir, ck, g2, ms_p, if_pos (by decide), if_pos (show inR (nI 1) 13 = true by decide +kernel), if_neg (by decide +kernel), if_pos (show nI ((nI 1).toNatClampNeg + 1) = _ by decide +kernel), g3, g4, bu_p]
  rfl
theorem co_axle (hk : k < 60) (g2 : gV w k = some 2) (g3 : gI w 137 k = jI a) (g4 : gI w 138 k = jI b) : f_X10_carryOut w (jI (k : Int)) = f_X1_join w (jI a) (jI b) (jI (jk 2)) := by
  have ir : inR (jI (k : Int)) 60 = true := by rw [inR_j (by omega) (by omega)]; omega
  have ck : (jI (k : Int)).toNatClampNeg = k := by rw [jI_clamp (by omega) (by omega)]; omega
  unfold f_X10_carryOut
  rw [if_pos ir, if_pos ir, if_pos ir, ck, g2, ms_p, if_pos (by decide), if_pos (show inR (nI 2) 13 = true by decide +kernel), if_neg (by decide +kernel), if_neg (by decide +kernel), if_pos (show nI ((nI 2).toNatClampNeg + 1) = _ by decide +kernel), g3, g4, bu_p]
  rfl
theorem co_cut (hk : k < 60) (g2 : gV w k = some 3) (g3 : gI w 137 k = jI a) (g4 : gI w 138 k = jI b) : f_X10_carryOut w (jI (k : Int)) = f_X1_cut w (jI a) (jI b) := by
  have ir : inR (jI (k : Int)) 60 = true := by rw [inR_j (by omega) (by omega)]; omega
  have ck : (jI (k : Int)).toNatClampNeg = k := by rw [jI_clamp (by omega) (by omega)]; omega
  unfold f_X10_carryOut
  rw [if_pos ir, if_pos ir, if_pos ir, ck, g2, ms_p, if_pos (by decide), if_pos (show inR (nI 3) 13 = true by decide +kernel), if_neg (by decide +kernel), if_neg (by decide +kernel), if_neg (by decide +kernel), if_pos (show nI ((nI 3).toNatClampNeg + 1) = _ by decide +kernel), g3, g4, bu_p]
theorem co_spring (hk : k < 60) (g2 : gV w k = some 4) (g3 : gI w 137 k = jI a) (g4 : gI w 138 k = jI b) : f_X10_carryOut w (jI (k : Int)) = f_X1_putSpring w (jI a) (jI b) := by
  have ir : inR (jI (k : Int)) 60 = true := by rw [inR_j (by omega) (by omega)]; omega
  have ck : (jI (k : Int)).toNatClampNeg = k := by rw [jI_clamp (by omega) (by omega)]; omega
  unfold f_X10_carryOut
  rw [if_pos ir, if_pos ir, if_pos ir, ck, g2, ms_p, if_pos (by decide), if_pos (show inR (nI 4) 13 = true by decide +kernel), if_neg (by decide +kernel), if_neg (by decide +kernel), if_neg (by decide +kernel), if_neg (by decide +kernel), if_pos (show nI ((nI 4).toNatClampNeg + 1) = _ by decide +kernel), g3, g4, bu_p]
theorem co_wind (hk : k < 60) (g2 : gV w k = some 5) (g3 : gI w 137 k = jI a) (g4 : gI w 138 k = jI b) : f_X10_carryOut w (jI (k : Int)) = f_X1_tighten w (jI a) (jI b) := by
  have ir : inR (jI (k : Int)) 60 = true := by rw [inR_j (by omega) (by omega)]; omega
  have ck : (jI (k : Int)).toNatClampNeg = k := by rw [jI_clamp (by omega) (by omega)]; omega
  unfold f_X10_carryOut
  rw [if_pos ir, if_pos ir, if_pos ir, ck, g2, ms_p, if_pos (by decide), if_pos (show inR (nI 5) 13 = true by decide +kernel), if_neg (by decide +kernel), if_neg (by decide +kernel), if_neg (by decide +kernel), if_neg (by decide +kernel), if_neg (by decide +kernel), if_pos (show nI ((nI 5).toNatClampNeg + 1) = _ by decide +kernel), g3, g4, bu_p]
theorem co_rev (hk : k < 60) (g2 : gV w k = some 6) (g3 : gI w 137 k = jI a) (g4 : gI w 138 k = jI b) : f_X10_carryOut w (jI (k : Int)) = f_X1_turnRound w (jI a) := by
  have ir : inR (jI (k : Int)) 60 = true := by rw [inR_j (by omega) (by omega)]; omega
  have ck : (jI (k : Int)).toNatClampNeg = k := by rw [jI_clamp (by omega) (by omega)]; omega
  unfold f_X10_carryOut
  rw [if_pos ir, if_pos ir, if_pos ir, ck, g2, ms_p, if_pos (by decide), if_pos (show inR (nI 6) 13 = true by decide +kernel), if_neg (by decide +kernel), if_neg (by decide +kernel), if_neg (by decide +kernel), if_neg (by decide +kernel), if_neg (by decide +kernel), if_neg (by decide +kernel), if_pos (show nI ((nI 6).toNatClampNeg + 1) = _ by decide +kernel), g3, bu_p]
theorem co_run (hk : k < 60) (g2 : gV w k = some 7) (g3 : gI w 137 k = jI a) (g4 : gI w 138 k = jI b) : f_X10_carryOut w (jI (k : Int)) = f_X1_letGo w (jI a) (jI b) := by
  have ir : inR (jI (k : Int)) 60 = true := by rw [inR_j (by omega) (by omega)]; omega
  have ck : (jI (k : Int)).toNatClampNeg = k := by rw [jI_clamp (by omega) (by omega)]; omega
  unfold f_X10_carryOut
  rw [if_pos ir, if_pos ir, if_pos ir, ck, g2, ms_p, if_pos (by decide), if_pos (show inR (nI 7) 13 = true by decide +kernel), if_neg (by decide +kernel), if_neg (by decide +kernel), if_neg (by decide +kernel), if_neg (by decide +kernel), if_neg (by decide +kernel), if_neg (by decide +kernel), if_neg (by decide +kernel), if_pos (show nI ((nI 7).toNatClampNeg + 1) = _ by decide +kernel), g3, g4, bu_p]
theorem co_ratchet (hk : k < 60) (g2 : gV w k = some 8) (g3 : gI w 137 k = jI a) (g4 : gI w 138 k = jI b) : f_X10_carryOut w (jI (k : Int)) = f_X1_putRatchet w (jI a) (jI 1) := by
  have ir : inR (jI (k : Int)) 60 = true := by rw [inR_j (by omega) (by omega)]; omega
  have ck : (jI (k : Int)).toNatClampNeg = k := by rw [jI_clamp (by omega) (by omega)]; omega
  unfold f_X10_carryOut
  rw [if_pos ir, if_pos ir, if_pos ir, ck, g2, ms_p, if_pos (by decide), if_pos (show inR (nI 8) 13 = true by decide +kernel), if_neg (by decide +kernel), if_neg (by decide +kernel), if_neg (by decide +kernel), if_neg (by decide +kernel), if_neg (by decide +kernel), if_neg (by decide +kernel), if_neg (by decide +kernel), if_neg (by decide +kernel), if_pos (show nI ((nI 8).toNatClampNeg + 1) = _ by decide +kernel), g3, bu_p]
  rfl
theorem co_free (hk : k < 60) (g2 : gV w k = some 9) (g3 : gI w 137 k = jI a) (g4 : gI w 138 k = jI b) : f_X10_carryOut w (jI (k : Int)) = f_X1_putRatchet w (jI a) (jI 0) := by
  have ir : inR (jI (k : Int)) 60 = true := by rw [inR_j (by omega) (by omega)]; omega
  have ck : (jI (k : Int)).toNatClampNeg = k := by rw [jI_clamp (by omega) (by omega)]; omega
  unfold f_X10_carryOut
  rw [if_pos ir, if_pos ir, if_pos ir, ck, g2, ms_p, if_pos (by decide), if_pos (show inR (nI 9) 13 = true by decide +kernel), if_neg (by decide +kernel), if_neg (by decide +kernel), if_neg (by decide +kernel), if_neg (by decide +kernel), if_neg (by decide +kernel), if_neg (by decide +kernel), if_neg (by decide +kernel), if_neg (by decide +kernel), if_neg (by decide +kernel), if_pos (show nI ((nI 9).toNatClampNeg + 1) = _ by decide +kernel), g3, bu_p]
  rfl
theorem co_oil (hk : k < 60) (g2 : gV w k = some 10) (g3 : gI w 137 k = jI a) (g4 : gI w 138 k = jI b) : f_X10_carryOut w (jI (k : Int)) = f_X1_putOil w (jI a) := by
  have ir : inR (jI (k : Int)) 60 = true := by rw [inR_j (by omega) (by omega)]; omega
  have ck : (jI (k : Int)).toNatClampNeg = k := by rw [jI_clamp (by omega) (by omega)]; omega
  unfold f_X10_carryOut
  rw [if_pos ir, if_pos ir, if_pos ir, ck, g2, ms_p, if_pos (by decide), if_pos (show inR (nI 10) 13 = true by decide +kernel), if_neg (by decide +kernel), if_neg (by decide +kernel), if_neg (by decide +kernel), if_neg (by decide +kernel), if_neg (by decide +kernel), if_neg (by decide +kernel), if_neg (by decide +kernel), if_neg (by decide +kernel), if_neg (by decide +kernel), if_neg (by decide +kernel), if_pos (show nI ((nI 10).toNatClampNeg + 1) = _ by decide +kernel), g3, bu_p]
theorem co_buy (hk : k < 60) (g2 : gV w k = some 11) (g3 : gI w 137 k = jI a) (g4 : gI w 138 k = jI b) : f_X10_carryOut w (jI (k : Int)) = f_X1_addDrops w (jI a) := by
  have ir : inR (jI (k : Int)) 60 = true := by rw [inR_j (by omega) (by omega)]; omega
  have ck : (jI (k : Int)).toNatClampNeg = k := by rw [jI_clamp (by omega) (by omega)]; omega
  unfold f_X10_carryOut
  rw [if_pos ir, if_pos ir, if_pos ir, ck, g2, ms_p, if_pos (by decide), if_pos (show inR (nI 11) 13 = true by decide +kernel), if_neg (by decide +kernel), if_neg (by decide +kernel), if_neg (by decide +kernel), if_neg (by decide +kernel), if_neg (by decide +kernel), if_neg (by decide +kernel), if_neg (by decide +kernel), if_neg (by decide +kernel), if_neg (by decide +kernel), if_neg (by decide +kernel), if_neg (by decide +kernel), if_pos (show nI ((nI 11).toNatClampNeg + 1) = _ by decide +kernel), g3, bu_p]
theorem co_planet (hk : k < 60) (g2 : gV w k = some 12) (g3 : gI w 137 k = jI a) (g4 : gI w 138 k = jI b) : f_X10_carryOut w (jI (k : Int)) = f_X1_putPlanet w (jI a) := by
  have ir : inR (jI (k : Int)) 60 = true := by rw [inR_j (by omega) (by omega)]; omega
  have ck : (jI (k : Int)).toNatClampNeg = k := by rw [jI_clamp (by omega) (by omega)]; omega
  unfold f_X10_carryOut
  rw [if_pos ir, if_pos ir, if_pos ir, ck, g2, ms_p, if_pos (by decide), if_pos (show inR (nI 12) 13 = true by decide +kernel), if_neg (by decide +kernel), if_neg (by decide +kernel), if_neg (by decide +kernel), if_neg (by decide +kernel), if_neg (by decide +kernel), if_neg (by decide +kernel), if_neg (by decide +kernel), if_neg (by decide +kernel), if_neg (by decide +kernel), if_neg (by decide +kernel), if_neg (by decide +kernel), if_neg (by decide +kernel), if_pos (show nI ((nI 12).toNatClampNeg + 1) = _ by decide +kernel), g3, bu_p]
end
