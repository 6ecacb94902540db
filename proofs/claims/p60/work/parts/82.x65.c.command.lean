/-! THE CLASS reads a command -/
def KP (k : Nat) : Prop := k = 134 ∨ (136 ≤ k ∧ k ≤ 138)
def CF (k : Nat) (w w' : Wd) : Prop := Sm KP w w' ∧ (∀ i, i ≠ 2 → i ≠ 7 → gI w' 134 i = gI w 134 i) ∧ ∀ j, j ≠ k → gV w' j = gV w j ∧ gI w' 137 j = gI w 137 j ∧ gI w' 138 j = gI w 138 j
theorem CF.tr {k : Nat} {w w1 w2 : Wd} (h : CF k w w1) (g : CF k w1 w2) : CF k w w2 :=
  ⟨h.1.tr g.1, fun i a b => (g.2.1 i a b).trans (h.2.1 i a b), fun j a => ⟨(g.2.2 j a).1.trans (h.2.2 j a).1, (g.2.2 j a).2.1.trans (h.2.2 j a).2.1, (g.2.2 j a).2.2.trans (h.2.2 j a).2.2⟩⟩
theorem CD.vk {w w' : Wd} (h : CD w w') : gV w' = gV w := h.1.2.1 (by unfold KDi; omega)
theorem CD.cf {w w' : Wd} (h : CD w w') (k : Nat) : CF k w w' :=
  ⟨h.1.mono (fun j hj => by unfold KDi at hj; unfold KP; omega), h.2, fun j _ => ⟨congrFun h.vk j, h.1.iK (by unfold KDi; omega) j, h.1.iK (by unfold KDi; omega) j⟩⟩
theorem CF.wV (w : Wd) (k : Nat) (v : Option Nat) : CF k w (uV w k v) :=
  ⟨⟨fun _ _ => ⟨rfl, rfl⟩, fun h => absurd (Or.inr ⟨by decide, by decide⟩) h, fun _ => rfl⟩, fun _ _ _ => rfl, fun j a => ⟨by rw [gV_uV, if_neg a], rfl, rfl⟩⟩
theorem CF.w8 (w : Wd) (k : Nat) (v : Int32) : CF k w (uI w 138 k v) :=
  ⟨Sm.wI w (Or.inr ⟨by decide, by decide⟩), fun i _ _ => by rw [gI_uI, if_neg (by omega)], fun j a => ⟨rfl, by rw [gI_uI, if_neg (by omega)], by rw [gI_uI, if_neg (fun z => a z.2)]⟩⟩
theorem CF.w7 (w : Wd) (k : Nat) (v : Int32) : CF k w (uI w 137 k v) :=
  ⟨Sm.wI w (Or.inr ⟨by decide, by decide⟩), fun i _ _ => by rw [gI_uI, if_neg (by omega)], fun j a => ⟨rfl, by rw [gI_uI, if_neg (fun z => a z.2)], by rw [gI_uI, if_neg (by omega)]⟩⟩
theorem CTx.cf {w w' : Wd} {X : Int → Int} {C : Int} {k : Nat} (h : CTx w X C) (g : CF k w w') : CTx w' X C :=
  ⟨by rw [g.2.1 1 (by decide) (by decide)]; exact h.1, fun i a b => by rw [g.1.iK (by unfold KP; omega)]; exact h.2 i a b⟩
theorem shp_all : (List.range 13).all (fun i => cShapes.getD i 0 == jI ((shp i : Nat) : Int) && decide (shp i ≤ 3)) = true := by decide +kernel
theorem shp_is {i : Nat} (hi : i < 13) : cShapes.getD i 0 = jI ((shp i : Nat) : Int) ∧ shp i ≤ 3 := by
  have k := List.all_eq_true.mp shp_all i (List.mem_range.mpr hi)
  rw [Bool.and_eq_true] at k
  exact ⟨eq_of_beq k.1, of_decide_eq_true k.2⟩
/-- what stands behind the word -/
def cRest (w11 : Wd) (x1 s : Int32) : Option (Int32 × Wd) := (if s = 0 then ((f_X6_readDigits w11 (3 : Int32)).bind fun z => u2 z fun r46 w47 => (if inR x1 60 then (wl (uI w47 137 (x1).toNatClampNeg (gI w47 134 7)) fun w50 => (if r46 = 0 then (some ((vp_nar .boolean r46), w50)) else (if s = 0 then (some ((vp_nar .boolean r46), w50)) else (if s = (1 : Int32) then (some ((vp_nar .boolean r46), w50)) else (if s = (2 : Int32) then ((f_X6_readDigits w50 (1 : Int32)).bind fun z => u2 z fun r72 w73 => (if inR x1 60 then (wl (uI w73 138 (x1).toNatClampNeg (gI w73 134 7)) fun w76 => (some ((vp_nar .boolean r72), w76))) else none)) else ((f_X6_readSign w50 (32 : Int32)).bind fun z => u2 z fun r56 w57 => (if r56 = 0 then (if inR x1 60 then (wl (uI w57 138 (x1).toNatClampNeg (gI w57 134 7)) fun w61 => (some ((0 : Int32), w61))) else none) else ((f_X6_readDigits w57 (3 : Int32)).bind fun z => u2 z fun r63 w64 => (if r63 = 0 then (if inR x1 60 then (wl (uI w64 138 (x1).toNatClampNeg (gI w64 134 7)) fun w68 => (some ((0 : Int32), w68))) else none) else (if inR x1 60 then (wl (uI w64 138 (x1).toNatClampNeg (gI w64 134 7)) fun w70 => (some ((1 : Int32), w70))) else none)))))))))) else none)) else ((f_X6_readDigits w11 (1 : Int32)).bind fun z => u2 z fun r14 w15 => (if inR x1 60 then (wl (uI w15 137 (x1).toNatClampNeg (gI w15 134 7)) fun w18 => (if r14 = 0 then (some ((vp_nar .boolean r14), w18)) else (if s = 0 then (some ((vp_nar .boolean r14), w18)) else (if s = (1 : Int32) then (some ((vp_nar .boolean r14), w18)) else (if s = (2 : Int32) then ((f_X6_readDigits w18 (1 : Int32)).bind fun z => u2 z fun r40 w41 => (if inR x1 60 then (wl (uI w41 138 (x1).toNatClampNeg (gI w41 134 7)) fun w44 => (some ((vp_nar .boolean r40), w44))) else none)) else ((f_X6_readSign w18 (32 : Int32)).bind fun z => u2 z fun r24 w25 => (if r24 = 0 then (if inR x1 60 then (wl (uI w25 138 (x1).toNatClampNeg (gI w25 134 7)) fun w29 => (some ((0 : Int32), w29))) else none) else ((f_X6_readDigits w25 (3 : Int32)).bind fun z => u2 z fun r31 w32 => (if r31 = 0 then (if inR x1 60 then (wl (uI w32 138 (x1).toNatClampNeg (gI w32 134 7)) fun w36 => (some ((0 : Int32), w36))) else none) else (if inR x1 60 then (wl (uI w32 138 (x1).toNatClampNeg (gI w32 134 7)) fun w38 => (some ((1 : Int32), w38))) else none)))))))))) else none)))
/-- the command, from its word on: the place, and the two numbers where it is right -/
def cDone (w w' : Wd) (k : Nat) (r : Int32) (Q : Int × Int) (A B : Int) : Prop := CF k w w' ∧ gV w' k = gV w k ∧ r = jI (1 - Q.2) ∧ (Q.2 = 0 ∨ Q.2 = 1) ∧ gI w' 134 2 = jI Q.1 ∧ (Q.2 = 0 → gI w' 137 k = jI A ∧ gI w' 138 k = jI B)
section
variable {w : Wd} {X : Int → Int} {C p : Int} {k : Nat}
/-- a number is read and put away -/
theorem s_num7 (hB : TXb X C) (hT : CTx w X C) (hp : gI w 134 2 = jI p) (p0 : 0 ≤ p) (p1 : p ≤ C) {L : Nat} (hL : L ≤ 3) : ∃ w1, f_X6_readDigits w (jI (L : Int)) = some (jI (bZ (dc L (hr X C) p ≠ 0)), w1) ∧ CF k w (uI w1 137 k (gI w1 134 7)) ∧ gV (uI w1 137 k (gI w1 134 7)) k = gV w k ∧ gI (uI w1 137 k (gI w1 134 7)) 134 2 = jI (p + dc L (hr X C) p) ∧ gI (uI w1 137 k (gI w1 134 7)) 137 k = jI (dv L (hr X C) p 0) ∧ gI (uI w1 137 k (gI w1 134 7)) 138 k = gI w 138 k := by
  obtain ⟨w1, a1, a2, a3, a4⟩ := s_cdig hB hT hp p0 p1 hL
  refine ⟨w1, a1, (a2.cf k).tr (CF.w7 w1 k _), by rw [gV_uI]; exact congrFun a2.vk k, by rw [gI_uI, if_neg (by omega)]; exact a3, by rw [gI_uI, if_pos ⟨rfl, rfl⟩]; exact a4, by rw [gI_uI, if_neg (by omega)]; exact a2.1.iK (by unfold KDi; omega) k⟩
theorem s_num8 (hB : TXb X C) (hT : CTx w X C) (hp : gI w 134 2 = jI p) (p0 : 0 ≤ p) (p1 : p ≤ C) {L : Nat} (hL : L ≤ 3) : ∃ w1, f_X6_readDigits w (jI (L : Int)) = some (jI (bZ (dc L (hr X C) p ≠ 0)), w1) ∧ CF k w (uI w1 138 k (gI w1 134 7)) ∧ gV (uI w1 138 k (gI w1 134 7)) k = gV w k ∧ gI (uI w1 138 k (gI w1 134 7)) 134 2 = jI (p + dc L (hr X C) p) ∧ gI (uI w1 138 k (gI w1 134 7)) 138 k = jI (dv L (hr X C) p 0) ∧ gI (uI w1 138 k (gI w1 134 7)) 137 k = gI w 137 k := by
  obtain ⟨w1, a1, a2, a3, a4⟩ := s_cdig hB hT hp p0 p1 hL
  refine ⟨w1, a1, (a2.cf k).tr (CF.w8 w1 k _), by rw [gV_uI]; exact congrFun a2.vk k, by rw [gI_uI, if_neg (by omega)]; exact a3, by rw [gI_uI, if_pos ⟨rfl, rfl⟩]; exact a4, by rw [gI_uI, if_neg (by omega)]; exact a2.1.iK (by unfold KDi; omega) k⟩
theorem s_cRest (hB : TXb X C) (hT : CTx w X C) (hp : gI w 134 2 = jI p) (p0 : 0 ≤ p) (p1 : p ≤ C) (hk : k < 60) (h8 : gI w 138 k = jI 0) (s : Nat) (hs : s ≤ 3) : ∃ r w', cRest w (jI (k : Int)) (jI (s : Int)) = some (r, w') ∧ cDone w w' k r (pcQ s (hr X C) (p, 0)) (pcA s (hr X C) (p, 0)) (pcB s (hr X C) (p, 0)) := by
  have ir : inR (jI (k : Int)) 60 = true := by rw [inR_j (by omega) (by omega)]; omega
  have ck : (jI (k : Int)).toNatClampNeg = k := by rw [jI_clamp (by omega) (by omega)]; omega
  have n1 : ¬ jI 1 = 0 := by decide +kernel
  have z0 : jI 0 = 0 := rfl
  have hs : s = 0 ∨ s = 1 ∨ s = 2 ∨ s = 3 := by omega
  unfold cRest
  simp only [ck]
  rcases hs with rfl | rfl | rfl | rfl
  · obtain ⟨w1, a1, a2, a3, a4, a5, a6⟩ := s_num7 (k := k) hB hT hp p0 p1 (L := 3) (by omega)
    rw [if_pos (show jI ((0 : Nat) : Int) = 0 from rfl)]
    show ∃ r w', ((f_X6_readDigits w (jI ((3 : Nat) : Int))).bind _) = _ ∧ cDone w w' k r (dst 3 (hr X C) (p, 0)) (dvl 3 (hr X C) (p, 0)) 0
    rw [a1, bs_p, u2_p, if_pos ir, wl_p]
    by_cases q : dc 3 (hr X C) p ≠ 0
    · rw [bZ_pos q, if_neg n1, if_pos (show jI ((0 : Nat) : Int) = 0 from rfl), dst_T q, dvl_0]
      exact ⟨_, _, rfl, a2, a3, rfl, Or.inl rfl, a4, fun _ => ⟨a5, a6.trans h8⟩⟩
    · have q := Decidable.not_not.mp q
      rw [bZ_neg (fun z => z q), if_pos z0, dst_F q]
      refine ⟨_, _, rfl, a2, a3, rfl, Or.inr rfl, ?_, fun z => absurd z (show ¬ (1 : Int) = 0 by decide)⟩
      rw [a4, q]
      congr 1
      omega
  · obtain ⟨w1, a1, a2, a3, a4, a5, a6⟩ := s_num7 (k := k) hB hT hp p0 p1 (L := 1) (by omega)
    rw [if_neg (show ¬ jI ((1 : Nat) : Int) = 0 from n1)]
    show ∃ r w', ((f_X6_readDigits w (jI ((1 : Nat) : Int))).bind _) = _ ∧ cDone w w' k r (dst 1 (hr X C) (p, 0)) (dvl 1 (hr X C) (p, 0)) 0
    rw [a1, bs_p, u2_p, if_pos ir, wl_p]
    by_cases q : dc 1 (hr X C) p ≠ 0
    · rw [bZ_pos q, if_neg n1, if_neg (show ¬ jI ((1 : Nat) : Int) = 0 from n1), if_pos (show jI ((1 : Nat) : Int) = 1 from rfl), dst_T q, dvl_0]
      exact ⟨_, _, rfl, a2, a3, rfl, Or.inl rfl, a4, fun _ => ⟨a5, a6.trans h8⟩⟩
    · have q := Decidable.not_not.mp q
      rw [bZ_neg (fun z => z q), if_pos z0, dst_F q]
      refine ⟨_, _, rfl, a2, a3, rfl, Or.inr rfl, ?_, fun z => absurd z (show ¬ (1 : Int) = 0 by decide)⟩
      rw [a4, q]
      congr 1
      omega
  · obtain ⟨w1, a1, a2, a3, a4, a5, a6⟩ := s_num7 (k := k) hB hT hp p0 p1 (L := 1) (by omega)
    have t2 := hT.cf a2
    have dC := dc_C hB 1 p p0 p1
    rw [if_neg (show ¬ jI ((2 : Nat) : Int) = 0 by decide +kernel)]
    show ∃ r w', ((f_X6_readDigits w (jI ((1 : Nat) : Int))).bind _) = _ ∧ cDone w w' k r (dst 1 (hr X C) (dst 1 (hr X C) (p, 0))) (dvl 1 (hr X C) (p, 0)) (dvl 1 (hr X C) (dst 1 (hr X C) (p, 0)))
    rw [a1, bs_p, u2_p, if_pos ir, wl_p]
    by_cases q : dc 1 (hr X C) p ≠ 0
    · rw [bZ_pos q, if_neg n1, if_neg (show ¬ jI ((2 : Nat) : Int) = 0 by decide +kernel), if_neg (show ¬ jI ((2 : Nat) : Int) = 1 by decide +kernel), if_pos (show jI ((2 : Nat) : Int) = 2 from rfl), dst_T q, dvl_0, dvl_0]
      obtain ⟨w2, b1, b2, b3, b4, b5, b6⟩ := s_num8 (k := k) hB t2 a4 (by omega) dC (L := 1) (by omega)
      show ∃ r w', ((f_X6_readDigits _ (jI ((1 : Nat) : Int))).bind _) = _ ∧ _
      rw [b1, bs_p, u2_p, if_pos ir, wl_p, bZ_nar]
      by_cases q2 : dc 1 (hr X C) (p + dc 1 (hr X C) p) ≠ 0
      · rw [dst_T q2, bZ_pos q2]
        exact ⟨_, _, rfl, a2.tr b2, b3.trans a3, rfl, Or.inl rfl, b4, fun _ => ⟨b6.trans a5, b5⟩⟩
      · have q2 := Decidable.not_not.mp q2
        rw [dst_F q2, bZ_neg (fun z => z q2)]
        refine ⟨_, _, rfl, a2.tr b2, b3.trans a3, rfl, Or.inr rfl, ?_, fun z => absurd z (show ¬ (1 : Int) = 0 by decide)⟩
        rw [b4, q2]
        congr 1
        omega
    · have q := Decidable.not_not.mp q
      rw [bZ_neg (fun z => z q), if_pos z0, dst_F q, dst_w]
      refine ⟨_, _, rfl, a2, a3, rfl, Or.inr rfl, ?_, fun z => absurd z (show ¬ (1 : Int) = 0 by decide)⟩
      rw [a4, q]
      congr 1
      omega
  · obtain ⟨w1, a1, a2, a3, a4, a5, a6⟩ := s_num7 (k := k) hB hT hp p0 p1 (L := 1) (by omega)
    have t2 := hT.cf a2
    have dC := dc_C hB 1 p p0 p1
    rw [if_neg (show ¬ jI ((3 : Nat) : Int) = 0 by decide +kernel)]
    show ∃ r w', ((f_X6_readDigits w (jI ((1 : Nat) : Int))).bind _) = _ ∧ cDone w w' k r (dst 3 (hr X C) (nst (hr X C) 32 (dst 1 (hr X C) (p, 0)))) (dvl 1 (hr X C) (p, 0)) (dvl 3 (hr X C) (nst (hr X C) 32 (dst 1 (hr X C) (p, 0))))
    rw [a1, bs_p, u2_p, if_pos ir, wl_p]
    by_cases q : dc 1 (hr X C) p ≠ 0
    · rw [bZ_pos q, if_neg n1, if_neg (show ¬ jI ((3 : Nat) : Int) = 0 by decide +kernel), if_neg (show ¬ jI ((3 : Nat) : Int) = 1 by decide +kernel), if_neg (show ¬ jI ((3 : Nat) : Int) = 2 by decide +kernel), dst_T q, dvl_0, l32_32, s_sign hB t2 a4 (by omega) dC (c := 32) (by omega) (by omega)]
      by_cases q1 : hr X C (p + dc 1 (hr X C) p) = 32
      · have pC : p + dc 1 (hr X C) p < C := by
          have e := hr_b hB (p := p + dc 1 (hr X C) p) (by omega)
          omega
        have k3 := CD.w2 (uI w1 137 k (gI w1 134 7)) (jI (p + dc 1 (hr X C) p + 1))
        rw [if_pos q1, bs_p, u2_p, if_neg n1, nst_T q1, dvl_0]
        obtain ⟨w2, b1, b2, b3, b4, b5, b6⟩ := s_num8 (k := k) (p := p + dc 1 (hr X C) p + 1) hB (t2.cd k3) (by rw [gI_uI, if_pos ⟨rfl, rfl⟩]) (by omega) (by omega) (L := 3) (by omega)
        show ∃ r w', ((f_X6_readDigits _ (jI ((3 : Nat) : Int))).bind _) = _ ∧ _
        have b6' := b6.trans (k3.1.iK (by unfold KDi; omega) k)
        have b3' := b3.trans (congrFun k3.vk k)
        rw [b1, bs_p, u2_p]
        by_cases q2 : dc 3 (hr X C) (p + dc 1 (hr X C) p + 1) ≠ 0
        · rw [bZ_pos q2, if_neg n1, if_pos ir, wl_p, dst_T q2]
          exact ⟨_, _, rfl, (a2.tr (k3.cf k)).tr b2, b3'.trans a3, rfl, Or.inl rfl, b4, fun _ => ⟨b6'.trans a5, b5⟩⟩
        · have q2 := Decidable.not_not.mp q2
          rw [bZ_neg (fun z => z q2), if_pos z0, if_pos ir, wl_p, dst_F q2]
          refine ⟨_, _, rfl, (a2.tr (k3.cf k)).tr b2, b3'.trans a3, rfl, Or.inr rfl, ?_, fun z => absurd z (show ¬ (1 : Int) = 0 by decide)⟩
          rw [b4, q2]
          congr 1
          omega
      · have k5 := CF.w8 (uI w1 137 k (gI w1 134 7)) k (gI (uI w1 137 k (gI w1 134 7)) 134 7)
        rw [if_neg q1, bs_p, u2_p, if_pos z0, if_pos ir, wl_p, nst_F q1, dst_w]
        exact ⟨_, _, rfl, a2.tr k5, a3, rfl, Or.inr rfl, by rw [gI_uI, if_neg (by omega)]; exact a4, fun z => absurd z (show ¬ (1 : Int) = 0 by decide)⟩
    · have q := Decidable.not_not.mp q
      rw [bZ_neg (fun z => z q), if_pos z0, dst_F q, nst_w, dst_w]
      refine ⟨_, _, rfl, a2, a3, rfl, Or.inr rfl, ?_, fun z => absurd z (show ¬ (1 : Int) = 0 by decide)⟩
      rw [a4, q]
      congr 1
      omega
/-- a whole command -/
theorem s_cCmd (hB : TXb X C) (hT : CTx w X C) (hp : gI w 134 2 = jI p) (p0 : 0 ≤ p) (p1 : p ≤ C) (hk : k < 60) : ∃ r w', f_X6_readCommand w (jI (k : Int)) = some (r, w') ∧ CF k w w' ∧ r = jI (1 - (cQ (hr X C) p).2) ∧ ((cQ (hr X C) p).2 = 0 ∨ (cQ (hr X C) p).2 = 1) ∧ gI w' 134 2 = jI (cQ (hr X C) p).1 ∧ ((cQ (hr X C) p).2 = 0 → gV w' k = some (cv (hr X C) p) ∧ gI w' 137 k = jI (cA (hr X C) p) ∧ gI w' 138 k = jI (cB (hr X C) p)) := by
  have ir : inR (jI (k : Int)) 60 = true := by rw [inR_j (by omega) (by omega)]; omega
  have ck : (jI (k : Int)).toNatClampNeg = k := by rw [jI_clamp (by omega) (by omega)]; omega
  have ci := cv_lt (hr X C) p
  have e := s_readVerb hB hT hp p0 p1
  have ni := nf_is (hr X C) (Wi (cv (hr X C) p)) p
  have wC : ∀ (l : List Int) (a : Int), 0 ≤ a → a ≤ C → (∀ c ∈ l, 0 ≤ c) → a + cm l (hr X C) a ≤ C := by
    intro l
    induction l with
    | nil =>
      intro a a0 a1 _
      show a + ((0 : Nat) : Int) ≤ C
      omega
    | cons c l ih =>
      intro a a0 a1 hc
      show a + (((if hr X C a = c then cm l (hr X C) (a + 1) + 1 else 0) : Nat) : Int) ≤ C
      split
      · rename_i z
        have c0 := hc c (List.mem_cons_self ..)
        have y := hr_b hB a0
        have i := ih (a + 1) (by omega) (by omega) (fun d hd => hc d (List.mem_cons_of_mem _ hd))
        omega
      · omega
  have w0 : ∀ c ∈ Wi (cv (hr X C) p), 0 ≤ c := by
    have al := List.all_eq_true.mp (show (List.range 13).all (fun i => (Wi i).all (fun c => decide (0 ≤ c))) = true by decide +kernel) _ (List.mem_range.mpr ci)
    exact fun c hc => of_decide_eq_true (List.all_eq_true.mp al c hc)
  have pC := wC _ p p0 p1 w0
  unfold cQ cA cB cq
  obtain ⟨s1, s2⟩ := shp_is ci
  rw [ni]
  generalize cv (hr X C) p = i at ci e ni w0 pC s1 s2 ⊢
  unfold f_X6_readCommand
  rw [e, bs_p, u2_p]
  by_cases q : cm (Wi i) (hr X C) p = (Wi i).length
  · rw [if_pos q, ms_p, if_pos ci, if_pos ir, wl_p, if_pos ir, wl_p, s1, ck, if_pos q]
    have k0 := CD.w2 w (jI (p + (cm (Wi i) (hr X C) p : Nat)))
    have k1 := CF.wV (uI w 134 2 (jI (p + (cm (Wi i) (hr X C) p : Nat)))) k (some i)
    have k2 := CF.w8 (uV (uI w 134 2 (jI (p + (cm (Wi i) (hr X C) p : Nat)))) k (some i)) k (0 : Int32)
    have K := ((k0.cf k).tr k1).tr k2
    obtain ⟨r, w', a1, a2, a3, a4, a5, a6, a7⟩ := s_cRest (p := p + (cm (Wi i) (hr X C) p : Nat)) hB (hT.cf K) (by rw [gI_uI, if_neg (by omega), gI_uV, gI_uI, if_pos ⟨rfl, rfl⟩]) (by omega) pC hk (by rw [gI_uI, if_pos ⟨rfl, rfl⟩]; rfl) (shp i) s2
    unfold cRest at a1
    rw [ck] at a1
    exact ⟨r, w', a1, K.tr a2, a4, a5, a6, fun z => ⟨a3.trans (by rw [gV_uI, gV_uV, if_pos rfl]), a7 z⟩⟩
  · have k0 := CD.w2 w (jI (p + (cm (Wi i) (hr X C) p : Nat)))
    have W : ∀ a : Int, pcQ (shp i) (hr X C) (a, 1) = (a, 1) := by
      intro a
      unfold pcQ
      rw [dst_w, dst_w, dst_w, nst_w, dst_w]
      split
      · rfl
      · split
        · rfl
        · split <;> rfl
    rw [if_neg q, mn_p, if_neg q, W]
    exact ⟨_, _, rfl, k0.cf k, rfl, Or.inr rfl, by rw [gI_uI, if_pos ⟨rfl, rfl⟩], fun z => absurd z (show ¬ (1 : Int) = 0 by decide)⟩
end
