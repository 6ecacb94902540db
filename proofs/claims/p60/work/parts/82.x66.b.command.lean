/-! THE REFERENCE reads a command -/
def cde (i : Nat) : Int := [103, 109, 97, 99, 115, 119, 114, 117, 116, 102, 111, 98, 112].getD i 0
/-- the place and the cells behind a command -/
def RC (z : Nat) (w w' : Wd) (X : Int → Int) (C p : Int) : Prop := RFp z w w' ∧ RP w' X C (cQ (hr X C) p) ∧ ((cQ (hr X C) p).2 = 0 → gI w' 150 z = jI (cde (cv (hr X C) p)) ∧ gI w' 150 (z + 1) = jI (cA (hr X C) p) ∧ (2 ≤ shp (cv (hr X C) p) → gI w' 150 (z + 2) = jI (cB (hr X C) p)))
theorem cQ_of {h : Int → Int} {p c : Int} {i : Nat} {l : List Int} (e : cv h p = i) (hw : Wi i = c :: l) (hc : h p = c) : cQ h p = pcQ (shp i) h (nf h l (p + 1, 0)) ∧ cA h p = pcA (shp i) h (nf h l (p + 1, 0)) ∧ cB h p = pcB (shp i) h (nf h l (p + 1, 0)) := by
  have k : cq h p = nf h l (p + 1, 0) := by
    unfold cq
    rw [e, hw]
    show nf h l (nst h c (p, 0)) = _
    rw [nst_T hc]
  unfold cQ cA cB
  rw [e, k]
  exact ⟨rfl, rfl, rfl⟩
section
variable {w w1 w' : Wd} {X : Int → Int} {C p : Int} {z : Nat}
theorem RC.two {i : Nat} {c : Int} {l : List Int} {q : Int × Int} (e : cv (hr X C) p = i) (hw : Wi i = c :: l) (hc : hr X C p = c) (hq : nf (hr X C) l (p + 1, 0) = nst (hr X C) 32 q) (hs : shp i = 2) (f0 : RFp z w w1) (c0 : gI w1 150 z = jI (cde i)) (h : RFp z w1 w' ∧ RP w' X C (pcQ 2 (hr X C) (nst (hr X C) 32 q)) ∧ gI w' 150 z = gI w1 150 z ∧ gI w' 150 (z + 1) = jI (pcA 2 (hr X C) (nst (hr X C) 32 q)) ∧ gI w' 150 (z + 2) = jI (pcB 2 (hr X C) (nst (hr X C) 32 q))) : RC z w w' X C p := by
  obtain ⟨k1, k2, k3⟩ := cQ_of e hw hc
  obtain ⟨h1, h2, h3, h4, h5⟩ := h
  unfold RC
  rw [k1, k2, k3, e, hs, hq]
  exact ⟨f0.tr h1, h2, fun _ => ⟨h3.trans c0, h4, fun _ => h5⟩⟩
theorem RC.value {i : Nat} {c : Int} {l : List Int} {q : Int × Int} (e : cv (hr X C) p = i) (hw : Wi i = c :: l) (hc : hr X C p = c) (hq : nf (hr X C) l (p + 1, 0) = nst (hr X C) 32 q) (hs : shp i = 3) (f0 : RFp z w w1) (c0 : gI w1 150 z = jI (cde i)) (h : RFp z w1 w' ∧ RP w' X C (pcQ 3 (hr X C) (nst (hr X C) 32 q)) ∧ gI w' 150 z = gI w1 150 z ∧ gI w' 150 (z + 1) = jI (pcA 3 (hr X C) (nst (hr X C) 32 q)) ∧ gI w' 150 (z + 2) = jI (pcB 3 (hr X C) (nst (hr X C) 32 q))) : RC z w w' X C p := by
  obtain ⟨k1, k2, k3⟩ := cQ_of e hw hc
  obtain ⟨h1, h2, h3, h4, h5⟩ := h
  unfold RC
  rw [k1, k2, k3, e, hs, hq]
  exact ⟨f0.tr h1, h2, fun _ => ⟨h3.trans c0, h4, fun _ => h5⟩⟩
theorem RC.one {i n : Nat} {c : Int} {l : List Int} {q : Int × Int} (e : cv (hr X C) p = i) (hw : Wi i = c :: l) (hc : hr X C p = c) (hq : nf (hr X C) l (p + 1, 0) = nst (hr X C) 32 q) (hs : (shp i = 0 ∧ n = 2) ∨ (shp i = 1 ∧ n = 0)) (f0 : RFp z w w1) (c0 : gI w1 150 z = jI (cde i)) (h : RFp z w1 w' ∧ RP w' X C (dst (n + 1) (hr X C) (nst (hr X C) 32 q)) ∧ gI w' 150 z = gI w1 150 z ∧ gI w' 150 (z + 1) = jI (dvl (n + 1) (hr X C) (nst (hr X C) 32 q))) : RC z w w' X C p := by
  obtain ⟨k1, k2, k3⟩ := cQ_of e hw hc
  obtain ⟨h1, h2, h3, h4⟩ := h
  unfold RC
  rw [k1, k2, k3, e, hq]
  rcases hs with ⟨hs, rfl⟩ | ⟨hs, rfl⟩
  · rw [hs]
    exact ⟨f0.tr h1, h2, fun _ => ⟨h3.trans c0, h4, fun y => absurd y (by decide)⟩⟩
  · rw [hs]
    exact ⟨f0.tr h1, h2, fun _ => ⟨h3.trans c0, h4, fun y => absurd y (by decide)⟩⟩
theorem s_rR (hB : TXb X C) (hz : z + 2 < 180) (hp : hr X C p = 114) (f0 : RFp z w w1) (h : RP w1 X C (p + 1, 0)) (c0 : gI w1 150 z = jI 114) : ∃ w', f_X11_parsesR w1 (jI (z : Int)) = some w' ∧ RC z w w' X C p := by
  have c60 := hB.1
  have p0 : 0 ≤ p + 1 := h.2.2.2.1.1
  have hh : f_X11_here w1 = some (jI (hr X C (p + 1))) := s_here hB h
  have hi := hr_i hB p0
  have ir : inR (jI (z : Int)) 180 = true := by rw [inR_j (by omega) (by omega)]; omega
  have cz : (jI (z : Int)).toNatClampNeg = z := by rw [jI_clamp (by omega) (by omega)]; omega
  unfold f_X11_parsesR
  rw [hh, bs_p]
  by_cases a : hr X C (p + 1) = 117
  · obtain ⟨w2, x2, y2, z2⟩ := s_needs hB (h.w z (jI 117)) (c := 117) (by decide) (by decide)
    obtain ⟨w3, x3, y3, z3⟩ := s_needs hB z2 (c := 110) (by decide) (by decide)
    obtain ⟨w4, x4, k4⟩ := s_value hB hz z3
    rw [if_pos (by rw [a]; rfl), if_pos ir, cz, wl_p]
    show ∃ w', ((f_X11_needs (uI w1 150 z (jI 117)) (jI 117)).bind _) = _ ∧ _
    rw [x2, bs_p, l32_110, x3, bs_p, x4, bs_p]
    exact ⟨w4, rfl, RC.value (i := 7) (by simp [cv, hp, a]) rfl hp rfl rfl (f0.tr (((RFp.w w1 (jI 117) (Nat.le_refl z) (by omega)).tr (y2.fp z)).tr (y3.fp z))) (by rw [y3.at, y2.at, gI_uI, if_pos ⟨rfl, rfl⟩]; rfl) k4⟩
  · rw [if_neg (by rw [l32_117, jI_eq (by omega) (by omega) (by omega) (by omega)]; exact a), bs_p]
    by_cases b : hr X C (p + 1) = 97
    · obtain ⟨w2, x2, y2, z2⟩ := s_three hB (h.w z (jI 116)) (a := 97) (b := 116) (c := 99) (by decide) (by decide) (by decide) (by decide) (by decide) (by decide)
      obtain ⟨w3, x3, y3, z3⟩ := s_three hB z2 (a := 104) (b := 101) (c := 116) (by decide) (by decide) (by decide) (by decide) (by decide) (by decide)
      obtain ⟨w4, x4, k4⟩ := s_one hB hz z3 (n := 0) (by decide)
      rw [if_pos (by rw [b]; rfl), if_pos ir, cz, wl_p]
      show ∃ w', ((f_X11_needsThree (uI w1 150 z (jI 116)) (jI 97) (jI 116) (jI 99)).bind _) = _ ∧ _
      rw [x2, bs_p]
      show ∃ w', ((f_X11_needsThree w2 (jI 104) (jI 101) (jI 116)).bind _) = _ ∧ _
      rw [x3, bs_p]
      exact ⟨w4, x4, RC.one (i := 8) (by simp [cv, hp, b]) rfl hp rfl (Or.inr ⟨rfl, rfl⟩) (f0.tr (((RFp.w w1 (jI 116) (Nat.le_refl z) (by omega)).tr (y2.fp z)).tr (y3.fp z))) (by rw [y3.at, y2.at, gI_uI, if_pos ⟨rfl, rfl⟩]; rfl) k4⟩
    · obtain ⟨w2, x2, y2, z2⟩ := s_three hB h (a := 101) (b := 118) (c := 101) (by decide) (by decide) (by decide) (by decide) (by decide) (by decide)
      obtain ⟨w3, x3, y3, z3⟩ := s_three hB z2 (a := 114) (b := 115) (c := 101) (by decide) (by decide) (by decide) (by decide) (by decide) (by decide)
      obtain ⟨w4, x4, k4⟩ := s_one hB hz z3 (n := 0) (by decide)
      rw [if_neg (by rw [l32_97, jI_eq (by omega) (by omega) (by omega) (by omega)]; exact b)]
      show ∃ w', ((f_X11_needsThree w1 (jI 101) (jI 118) (jI 101)).bind _) = _ ∧ _
      rw [x2, bs_p]
      show ∃ w', ((f_X11_needsThree w2 (jI 114) (jI 115) (jI 101)).bind _) = _ ∧ _
      rw [x3, bs_p]
      exact ⟨w4, x4, RC.one (i := 6) (by simp [cv, hp, a, b]) rfl hp rfl (Or.inr ⟨rfl, rfl⟩) (f0.tr ((y2.fp z).tr (y3.fp z))) (by rw [y3.at, y2.at]; exact c0) k4⟩
theorem s_rCmd (hB : TXb X C) (hz : z + 2 < 180) (h : RP w X C (p, 0)) : ∃ w', f_X11_parsesCommand w (jI (z : Int)) = some w' ∧ RC z w w' X C p := by
  have c60 := hB.1
  have p0 : 0 ≤ p := h.2.2.2.1.1
  have p1 : p ≤ C := h.2.2.2.1.2
  have hh : f_X11_here w = some (jI (hr X C p)) := s_here hB h
  have hi := hr_i hB p0
  have hb := hr_b hB p0
  have ir : inR (jI (z : Int)) 180 = true := by rw [inR_j (by omega) (by omega)]; omega
  have cz : (jI (z : Int)).toNatClampNeg = z := by rw [jI_clamp (by omega) (by omega)]; omega
  have e5 : gI w 141 15 = jI p := h.2.1
  unfold f_X11_parsesCommand
  rw [hh, bs_p, e5, l32_1, jI_add, wl_p, if_pos ir, cz, wl_p]
  have f1 := (RFn.w5 w (jI (p + 1))).fp z
  have f2 := RFp.w (uI w 141 15 (jI (p + 1))) (z := z) (jI (hr X C p)) (Nat.le_refl z) (by omega)
  have F := f1.tr f2
  have cc : gI (uI (uI w 141 15 (jI (p + 1))) 150 z (jI (hr X C p))) 150 z = jI (hr X C p) := by rw [gI_uI, if_pos ⟨rfl, rfl⟩]
  have R : p < C → RP (uI (uI w 141 15 (jI (p + 1))) 150 z (jI (hr X C p))) X C (p + 1, 0) := fun y =>
    RP.w ⟨h.1.fn (RFn.w5 w _), by rw [gI_uI, if_pos ⟨rfl, rfl⟩], by rw [gI_uI, if_neg (by omega)]; exact h.2.2.1, ⟨by show 0 ≤ p + 1; omega, by show p + 1 ≤ C; omega⟩, Or.inl rfl⟩ _ _
  have bad : ∀ v : Int32, RP (uI (uI (uI (uI w 141 15 (jI (p + 1))) 150 z v) 141 16 (1 : Int32)) 141 15 (jI p)) X C (p, 1) := fun v =>
    ⟨⟨by rw [gI_uI, if_neg (by omega), gI_uI, if_neg (by omega), gI_uI, if_neg (by omega), gI_uI, if_neg (by omega)]; exact h.1.1, fun i i0 i1 => by rw [gI_uI, if_neg (by omega), gI_uI, if_neg (by omega), gI_uI, if_neg (by omega), gI_uI, if_neg (by omega)]; exact h.1.2 i i0 i1⟩, by rw [gI_uI, if_pos ⟨rfl, rfl⟩], by rw [gI_uI, if_neg (by omega), gI_uI, if_pos ⟨rfl, rfl⟩]; rfl, ⟨p0, p1⟩, Or.inr rfl⟩
  have ne : ∀ {c : Int}, 0 ≤ c → c ≤ 127 → hr X C p ≠ c → ¬ jI (hr X C p) = jI c := fun a b y => by rw [jI_eq (by omega) (by omega) (by omega) (by omega)]; exact y
  generalize ew : uI (uI w 141 15 (jI (p + 1))) 150 z (jI (hr X C p)) = w5 at F cc R ⊢
  by_cases y1 : hr X C p = 97
  · obtain ⟨w2, x2, b2, z2⟩ := s_three hB (R (by omega)) (a := 120) (b := 108) (c := 101) (by decide) (by decide) (by decide) (by decide) (by decide) (by decide)
    obtain ⟨w4, x4, k4⟩ := s_two hB hz z2
    rw [if_pos (by rw [y1]; rfl)]
    show ∃ w', ((f_X11_needsThree w5 (jI 120) (jI 108) (jI 101)).bind _) = _ ∧ _
    rw [x2, bs_p, x4, bs_p]
    exact ⟨w4, rfl, RC.two (i := 2) (by simp [cv, y1]) rfl y1 rfl rfl (F.tr (b2.fp z)) (by rw [b2.at, cc, y1]; rfl) k4⟩
  rw [if_neg (by rw [l32_97]; exact ne (by decide) (by decide) y1)]
  by_cases y2 : hr X C p = 98
  · obtain ⟨w2, x2, b2, z2⟩ := s_needs hB (R (by omega)) (c := 117) (by decide) (by decide)
    obtain ⟨w3, x3, b3, z3⟩ := s_needs hB z2 (c := 121) (by decide) (by decide)
    obtain ⟨w4, x4, k4⟩ := s_one hB hz z3 (n := 2) (by decide)
    rw [if_pos (by rw [y2]; rfl)]
    show ∃ w', ((f_X11_needs w5 (jI 117)).bind _) = _ ∧ _
    rw [x2, bs_p, l32_121, x3, bs_p]
    exact ⟨w4, x4, RC.one (i := 11) (by simp [cv, y2]) rfl y2 rfl (Or.inl ⟨rfl, rfl⟩) (F.tr ((b2.fp z).tr (b3.fp z))) (by rw [b3.at, b2.at, cc, y2]; rfl) k4⟩
  rw [if_neg (by rw [l32_98]; exact ne (by decide) (by decide) y2)]
  by_cases y3 : hr X C p = 99
  · obtain ⟨w2, x2, b2, z2⟩ := s_needs hB (R (by omega)) (c := 117) (by decide) (by decide)
    obtain ⟨w3, x3, b3, z3⟩ := s_needs hB z2 (c := 116) (by decide) (by decide)
    obtain ⟨w4, x4, k4⟩ := s_two hB hz z3
    rw [if_pos (by rw [y3]; rfl)]
    show ∃ w', ((f_X11_needs w5 (jI 117)).bind _) = _ ∧ _
    rw [x2, bs_p, l32_116, x3, bs_p, x4, bs_p]
    exact ⟨w4, rfl, RC.two (i := 3) (by simp [cv, y3]) rfl y3 rfl rfl (F.tr ((b2.fp z).tr (b3.fp z))) (by rw [b3.at, b2.at, cc, y3]; rfl) k4⟩
  rw [if_neg (by rw [l32_99]; exact ne (by decide) (by decide) y3)]
  by_cases y4 : hr X C p = 102
  · obtain ⟨w2, x2, b2, z2⟩ := s_three hB (R (by omega)) (a := 114) (b := 101) (c := 101) (by decide) (by decide) (by decide) (by decide) (by decide) (by decide)
    obtain ⟨w4, x4, k4⟩ := s_one hB hz z2 (n := 0) (by decide)
    rw [if_pos (by rw [y4]; rfl)]
    show ∃ w', ((f_X11_needsThree w5 (jI 114) (jI 101) (jI 101)).bind _) = _ ∧ _
    rw [x2, bs_p]
    exact ⟨w4, x4, RC.one (i := 9) (by simp [cv, y4]) rfl y4 rfl (Or.inr ⟨rfl, rfl⟩) (F.tr (b2.fp z)) (by rw [b2.at, cc, y4]; rfl) k4⟩
  rw [if_neg (by rw [l32_102]; exact ne (by decide) (by decide) y4)]
  by_cases y5 : hr X C p = 103
  · obtain ⟨w2, x2, b2, z2⟩ := s_three hB (R (by omega)) (a := 101) (b := 97) (c := 114) (by decide) (by decide) (by decide) (by decide) (by decide) (by decide)
    obtain ⟨w4, x4, k4⟩ := s_one hB hz z2 (n := 2) (by decide)
    rw [if_pos (by rw [y5]; rfl)]
    show ∃ w', ((f_X11_needsThree w5 (jI 101) (jI 97) (jI 114)).bind _) = _ ∧ _
    rw [x2, bs_p]
    exact ⟨w4, x4, RC.one (i := 0) (by simp [cv, y5]) rfl y5 rfl (Or.inl ⟨rfl, rfl⟩) (F.tr (b2.fp z)) (by rw [b2.at, cc, y5]; rfl) k4⟩
  rw [if_neg (by rw [l32_103]; exact ne (by decide) (by decide) y5)]
  by_cases y6 : hr X C p = 109
  · obtain ⟨w2, x2, b2, z2⟩ := s_three hB (R (by omega)) (a := 101) (b := 115) (c := 104) (by decide) (by decide) (by decide) (by decide) (by decide) (by decide)
    obtain ⟨w4, x4, k4⟩ := s_two hB hz z2
    rw [if_pos (by rw [y6]; rfl)]
    show ∃ w', ((f_X11_needsThree w5 (jI 101) (jI 115) (jI 104)).bind _) = _ ∧ _
    rw [x2, bs_p, x4, bs_p]
    exact ⟨w4, rfl, RC.two (i := 1) (by simp [cv, y6]) rfl y6 rfl rfl (F.tr (b2.fp z)) (by rw [b2.at, cc, y6]; rfl) k4⟩
  rw [if_neg (by rw [l32_109]; exact ne (by decide) (by decide) y6)]
  by_cases y7 : hr X C p = 111
  · obtain ⟨w2, x2, b2, z2⟩ := s_needs hB (R (by omega)) (c := 105) (by decide) (by decide)
    obtain ⟨w3, x3, b3, z3⟩ := s_needs hB z2 (c := 108) (by decide) (by decide)
    obtain ⟨w4, x4, k4⟩ := s_one hB hz z3 (n := 0) (by decide)
    rw [if_pos (by rw [y7]; rfl)]
    show ∃ w', ((f_X11_needs w5 (jI 105)).bind _) = _ ∧ _
    rw [x2, bs_p, l32_108, x3, bs_p]
    exact ⟨w4, x4, RC.one (i := 10) (by simp [cv, y7]) rfl y7 rfl (Or.inr ⟨rfl, rfl⟩) (F.tr ((b2.fp z).tr (b3.fp z))) (by rw [b3.at, b2.at, cc, y7]; rfl) k4⟩
  rw [if_neg (by rw [l32_111]; exact ne (by decide) (by decide) y7)]
  by_cases y8 : hr X C p = 112
  · obtain ⟨w1, x1, b1, z1⟩ := s_three hB (R (by omega)) (a := 108) (b := 97) (c := 110) (by decide) (by decide) (by decide) (by decide) (by decide) (by decide)
    obtain ⟨w2, x2, b2, z2⟩ := s_needs hB z1 (c := 101) (by decide) (by decide)
    obtain ⟨w3, x3, b3, z3⟩ := s_needs hB z2 (c := 116) (by decide) (by decide)
    obtain ⟨w4, x4, k4⟩ := s_one hB hz z3 (n := 0) (by decide)
    rw [if_pos (by rw [y8]; rfl)]
    show ∃ w', ((f_X11_needsThree w5 (jI 108) (jI 97) (jI 110)).bind _) = _ ∧ _
    rw [x1, bs_p, l32_101, x2, bs_p, l32_116, x3, bs_p]
    exact ⟨w4, x4, RC.one (i := 12) (by simp [cv, y8]) rfl y8 rfl (Or.inr ⟨rfl, rfl⟩) (F.tr (((b1.fp z).tr (b2.fp z)).tr (b3.fp z))) (by rw [b3.at, b2.at, b1.at, cc, y8]; rfl) k4⟩
  rw [if_neg (by rw [l32_112]; exact ne (by decide) (by decide) y8)]
  by_cases y9 : hr X C p = 114
  · obtain ⟨w4, x4, k4⟩ := s_rR (w := w) hB hz y9 F (R (by omega)) (by rw [cc, y9])
    rw [if_pos (by rw [y9]; rfl), x4, bs_p]
    exact ⟨w4, rfl, k4⟩
  rw [if_neg (by rw [l32_114]; exact ne (by decide) (by decide) y9)]
  by_cases y10 : hr X C p = 115
  · obtain ⟨w1, x1, b1, z1⟩ := s_three hB (R (by omega)) (a := 112) (b := 114) (c := 105) (by decide) (by decide) (by decide) (by decide) (by decide) (by decide)
    obtain ⟨w2, x2, b2, z2⟩ := s_needs hB z1 (c := 110) (by decide) (by decide)
    obtain ⟨w3, x3, b3, z3⟩ := s_needs hB z2 (c := 103) (by decide) (by decide)
    obtain ⟨w4, x4, k4⟩ := s_value hB hz z3
    rw [if_pos (by rw [y10]; rfl)]
    show ∃ w', ((f_X11_needsThree w5 (jI 112) (jI 114) (jI 105)).bind _) = _ ∧ _
    rw [x1, bs_p, l32_110, x2, bs_p, l32_103, x3, bs_p, x4, bs_p]
    exact ⟨w4, rfl, RC.value (i := 4) (by simp [cv, y10]) rfl y10 rfl rfl (F.tr (((b1.fp z).tr (b2.fp z)).tr (b3.fp z))) (by rw [b3.at, b2.at, b1.at, cc, y10]; rfl) k4⟩
  rw [if_neg (by rw [l32_115]; exact ne (by decide) (by decide) y10)]
  by_cases y11 : hr X C p = 119
  · obtain ⟨w2, x2, b2, z2⟩ := s_three hB (R (by omega)) (a := 105) (b := 110) (c := 100) (by decide) (by decide) (by decide) (by decide) (by decide) (by decide)
    obtain ⟨w4, x4, k4⟩ := s_value hB hz z2
    rw [if_pos (by rw [y11]; rfl)]
    show ∃ w', ((f_X11_needsThree w5 (jI 105) (jI 110) (jI 100)).bind _) = _ ∧ _
    rw [x2, bs_p, x4, bs_p]
    exact ⟨w4, rfl, RC.value (i := 5) (by simp [cv, y11]) rfl y11 rfl rfl (F.tr (b2.fp z)) (by rw [b2.at, cc, y11]; rfl) k4⟩
  rw [if_neg (by rw [l32_119]; exact ne (by decide) (by decide) y11)]
  have ev : cv (hr X C) p = 0 := by simp [cv, y1, y2, y3, y4, y5, y6, y7, y8, y9, y10, y11]
  have eq : cQ (hr X C) p = (p, 1) := by
    unfold cQ cq
    rw [ev]
    show pcQ 0 (hr X C) (nf (hr X C) [101, 97, 114, 32] (nst (hr X C) 103 (p, 0))) = _
    rw [nst_F y5, nf_w]
    exact dst_w (L := 3) (h := hr X C) (p := p)
  have e15 : gI (uI w5 141 16 (jI 1)) 141 15 = jI (p + 1) := by rw [gI_uI, if_neg (by omega), ← ew, gI_uI, if_neg (by omega), gI_uI, if_pos ⟨rfl, rfl⟩]
  rw [wl_p, e15, jI_sub, wl_p, show p + 1 - 1 = p by omega]
  refine ⟨_, rfl, F.tr (((RFn.w6 w5 (jI 1)).tr (RFn.w5 (uI w5 141 16 (jI 1)) (jI p))).fp z), ?_, fun y => ?_⟩
  · rw [eq, ← ew]
    exact bad _
  · rw [eq] at y
    exact absurd y (show ¬ (1 : Int) = 0 by decide)
end
