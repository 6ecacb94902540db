/-! the reference's way, what is judged first, and THE LAW -/
theorem s_rEcl {w : Wd} {S : Ab} (hG : Good S) (h : RSt w 142 0 S) {a b z : Int} (a0 : 0 ≤ a ∧ a < S 1) (b0 : 0 ≤ b ∧ b < S 1) (z0 : 0 ≤ z ∧ z < S 0) (hab : ¬ a = b) (ha : TU S z (S (86 + a)) ≠ 0) (hb : TU S z (S (86 + b)) ≠ 0) : ∃ r w8, Sm KU w w8 ∧ f_X11_nextEclipse w (jI a) (jI b) (jI z) = some (jI r, uI w8 141 12 (jI (if r = 0 then 4 else 0))) ∧ IsE (aO S a - aO S b) (TU S z (S (86 + a)) - TU S z (S (86 + b))) r := by
  have hg := hG.1
  obtain ⟨w6, e6, s6, t6, r6⟩ := s_rTurns hG h z0.1 z0.2
  have ka := hG.2.2.1 a a0.1 a0.2
  have kb := hG.2.2.1 b b0.1 b0.2
  have ba := aO_b hG a0.1 a0.2
  have bb := aO_b hG b0.1 b0.2
  have ua := tu_b hG z0.1 z0.2 (S (86 + a)) ka.1 (by omega)
  have ub := tu_b hG z0.1 z0.2 (S (86 + b)) kb.1 (by omega)
  have va := t6 (S (86 + a)) ka.1 (by omega)
  have vb := t6 (S (86 + b)) kb.1 (by omega)
  have ga : gL w6 142 (16 + S (86 + a)).toNat = jL (aO S a) := r_g r6 _ (by omega) (by omega)
  have gb : gL w6 142 (16 + S (86 + b)).toNat = jL (aO S b) := r_g r6 _ (by omega) (by omega)
  have at1 : f_X11_at w6 ((86 : Int32) + jI a) = some (jI (S (86 + a))) := by rw [l32_86, jI_add]; exact s_at r6 (by omega) (by omega)
  have at2 : f_X11_at w6 ((86 : Int32) + jI b) = some (jI (S (86 + b))) := by rw [l32_86, jI_add]; exact s_at r6 (by omega) (by omega)
  have ja : inR (jI (S (86 + a))) 10 = true := by rw [inR_j (by omega) (by omega)]; omega
  have jb : inR (jI (S (86 + b))) 10 = true := by rw [inR_j (by omega) (by omega)]; omega
  have ma : (jI (S (86 + a))).toNatClampNeg = (S (86 + a)).toNat := jI_clamp (by omega) (by omega)
  have mb : (jI (S (86 + b))).toNatClampNeg = (S (86 + b)).toNat := jI_clamp (by omega) (by omega)
  have ja2 : inR ((16 : Int32) + jI (S (86 + a))) 192 = true := by rw [l32_16, jI_add, inR_j (by omega) (by omega)]; omega
  have jb2 : inR ((16 : Int32) + jI (S (86 + b))) 192 = true := by rw [l32_16, jI_add, inR_j (by omega) (by omega)]; omega
  have ma2 : ((16 : Int32) + jI (S (86 + a))).toNatClampNeg = (16 + S (86 + a)).toNat := by rw [l32_16, jI_add, jI_clamp (by omega) (by omega)]
  have mb2 : ((16 : Int32) + jI (S (86 + b))).toNatClampNeg = (16 + S (86 + b)).toNat := by rw [l32_16, jI_add, jI_clamp (by omega) (by omega)]
  have nz1 : ¬ gI w6 149 (S (86 + a)).toNat = 0 := by rw [va.2]; exact bz_n ha
  have nz2 : ¬ gI w6 149 (S (86 + b)).toNat = 0 := by rw [vb.2]; exact bz_n hb
  have vA := va.1
  have vB := vb.1
  have b1 := s_rIsPlanet h hG (a := a) (by omega) (by omega)
  have b2 := s_rIsPlanet h hG (a := b) (by omega) (by omega)
  have b3 := s_rIsGear h hG (a := z) (by omega) (by omega)
  have nab : ¬ jI a = jI b := by rw [jI_eq (by omega) (by omega) (by omega) (by omega)]; exact hab
  generalize hD : TU S z (S (86 + a)) - TU S z (S (86 + b)) = D at *
  generalize he : aO S a - aO S b = e at *
  have P : f_X11_nextEclipse w (jI a) (jI b) (jI z) = ((p_X11_nextEclipse_141 w6 (jL (D % 24883200000)) 2000 (jL (e % 24883200000)) (1 : Int32)).bind fun z => zc z (fun q => u2 q fun y42 y43 => ((f_X11_fails w6 (4 : Int32)).bind fun z => u2 z fun r56 w57 => (some (r56, w57)))) (fun r => (some r))) := by
    unfold f_X11_nextEclipse
    rw [b1, bs_p, if_neg (bz_n a0), b2, bs_p, if_neg (bz_n b0), b3, bs_p, if_neg (bz_n z0), if_neg nab, e6, bs_p, at1, bs_p, at2, bs_p, if_pos ja, ma, if_neg nz1, if_pos jb, mb, if_neg nz2, if_pos ja, if_pos jb, vA, vB, jL_sub, hD, s_rest w6 (by omega) (by omega), bs_p, if_pos ja2, if_pos jb2, ma2, mb2, ga, gb, jL_sub, he, s_rest w6 (by omega) (by omega), bs_p]
  obtain ⟨r, hr, hP⟩ := lp (fun n (s : Int64 × Int32) => p_X11_nextEclipse_141 w6 (jL (D % 24883200000)) n s.1 s.2)
    (fun i s => s = (jL ((e + i * D) % 24883200000), jI ((i : Int) + 1)) ∧ ∀ j : Int, 1 ≤ j → j ≤ i → ¬ (e + j * D) % 24883200000 = 0) 999
    (fun r => (∃ q, r = .inl q ∧ IsE e D 0) ∨ ∃ k, r = .inr (jI k, uI w6 141 12 (jI 0)) ∧ 1 ≤ k ∧ IsE e D k)
    (fun i n s hi hI => by
      obtain ⟨rfl, hj⟩ := hI
      have f1 : ((e + (i : Int) * D) % 24883200000 + D % 24883200000) % 24883200000 = (e + ((i : Int) + 1) * D) % 24883200000 := by
        rw [show e + ((i : Int) + 1) * D = e + (i : Int) * D + D by grind]
        omega
      have st : p_X11_nextEclipse_141 w6 (jL (D % 24883200000)) (n + 1) (jL ((e + i * D) % 24883200000)) (jI ((i : Int) + 1)) = if jL ((e + ((i : Int) + 1) * D) % 24883200000) = jL 0 then some (.inr (jI ((i : Int) + 1), uI w6 141 12 (jI 0))) else p_X11_nextEclipse_141 w6 (jL (D % 24883200000)) n (jL ((e + ((i : Int) + 1) * D) % 24883200000)) (jI (((i + 1 : Nat) : Int) + 1)) := by
        rw [p_X11_nextEclipse_141, l32_999, if_neg (show ¬ jI 999 < jI ((i : Int) + 1) by rw [jI_lt (by omega) (by omega) (by omega) (by omega)]; omega), jL_add, s_rest w6 (by omega) (by omega), bs_p, f1, s_done, l32_1, jI_add]
        rfl
      by_cases q : (e + ((i : Int) + 1) * D) % 24883200000 = 0
      · refine Or.inr ⟨.inr (jI ((i : Int) + 1), uI w6 141 12 (jI 0)), ?_, Or.inr ⟨(i : Int) + 1, rfl, by omega, Or.inl ⟨by omega, by omega, q, fun j j0 j1 => hj j j0 (by omega)⟩⟩⟩
        show p_X11_nextEclipse_141 _ _ (n + 1) _ _ = _
        rw [st, q]
        exact if_pos rfl
      · refine Or.inl ⟨(jL ((e + ((i + 1 : Nat) : Int) * D) % 24883200000), jI (((i + 1 : Nat) : Int) + 1)), ⟨rfl, fun j j0 j1 => ?_⟩, ?_⟩
        · by_cases y : j = (i : Int) + 1
          · rw [y]; exact q
          · exact hj j j0 (by omega)
        · show p_X11_nextEclipse_141 _ _ (n + 1) _ _ = _
          rw [st]
          exact if_neg (by rw [jL_eq (by omega) (by omega) (by omega) (by omega)]; exact q))
    (fun n s hI => by
      obtain ⟨rfl, hj⟩ := hI
      refine ⟨.inl (jL ((e + ((999 : Nat) : Int) * D) % 24883200000), jI (((999 : Nat) : Int) + 1)), ?_, Or.inl ⟨_, rfl, Or.inr ⟨rfl, fun j j0 j1 => hj j j0 (by omega)⟩⟩⟩
      show p_X11_nextEclipse_141 _ _ (n + 1) _ _ = _
      rw [p_X11_nextEclipse_141]
      exact if_pos (show jI 999 < jI (((999 : Nat) : Int) + 1) by rw [jI_lt (by omega) (by omega) (by omega) (by omega)]; omega)) 2000 0 (jL ((e + ((0 : Nat) : Int) * D) % 24883200000), jI (((0 : Nat) : Int) + 1)) (by omega) (by omega) ⟨rfl, fun j j0 j1 => by omega⟩
  have hr : p_X11_nextEclipse_141 w6 (jL (D % 24883200000)) 2000 (jL ((e + ((0 : Nat) : Int) * D) % 24883200000)) (1 : Int32) = some r := hr
  rw [show (e + ((0 : Nat) : Int) * D) = e by omega] at hr
  rw [hr] at P
  rcases hP with ⟨q, rfl, hE⟩ | ⟨k, rfl, k1, hE⟩
  · exact ⟨0, w6, s6, P, hE⟩
  · refine ⟨k, w6, s6, ?_, hE⟩
    rw [P, if_neg (by omega)]
    rfl
section
variable {w : Wd} {S : Ab} {a b z : Int}
theorem jd_1 (h : CSt w 1 S) (hG : Good S) (a1 : -2147483648 ≤ a) (a2 : a < 2147483648) (b1 : -2147483648 ≤ b) (b2 : b < 2147483648) (z1 : -2147483648 ≤ z) (z2 : z < 2147483648) (q : ¬ ((0 ≤ a ∧ a < S 1) ∧ (0 ≤ b ∧ b < S 1) ∧ 0 ≤ z ∧ z < S 0)) : f_X2_judge w (jI a) (jI b) (jI z) = some (jI (-1), w) := by
  unfold f_X2_judge
  rw [s_isPlanet h hG a1 a2, bs_p]
  by_cases qa : 0 ≤ a ∧ a < S 1
  · rw [if_neg (bz_n qa), s_isPlanet h hG b1 b2, bs_p]
    by_cases qb : 0 ≤ b ∧ b < S 1
    · rw [if_neg (bz_n qb), s_isGear h hG z1 z2, bs_p, if_pos (bz_z (fun c => q ⟨qa, qb, c⟩))]
      rfl
    · rw [if_pos (bz_z qb)]
      rfl
  · rw [if_pos (bz_z qa)]
    rfl
theorem jd_2 (h : CSt w 1 S) (hG : Good S) (q : (0 ≤ a ∧ a < S 1) ∧ 0 ≤ z ∧ z < S 0) : f_X2_judge w (jI a) (jI a) (jI z) = some (jI (-2), w) := by
  have hg := hG.1
  unfold f_X2_judge
  rw [s_isPlanet h hG (by omega) (by omega), bs_p, if_neg (bz_n q.1), bs_p, if_neg (bz_n q.1), s_isGear h hG (by omega) (by omega), bs_p, if_neg (bz_n q.2), if_pos rfl]
  rfl
theorem jd_t (h : CSt w 1 S) (hG : Good S) (q : (0 ≤ a ∧ a < S 1) ∧ (0 ≤ b ∧ b < S 1) ∧ 0 ≤ z ∧ z < S 0) (hab : ¬ a = b) : ∃ w3, f_X2_judge w (jI a) (jI b) (jI z) = some (jI (if TU S z (S (86 + a)) = 0 ∨ TU S z (S (86 + b)) = 0 then -3 else 0), w3) ∧ Sm KT w w3 ∧ CSt w3 1 S := by
  have hg := hG.1
  obtain ⟨w3, m, e3, s3, t3, c3⟩ := s_trace hG h q.2.2.1 q.2.2.2
  have ka := hG.2.2.1 a q.1.1 q.1.2
  have kb := hG.2.2.1 b q.2.1.1 q.2.1.2
  have hb := tu_b hG q.2.2.1 q.2.2.2
  refine ⟨w3, ?_, s3, c3⟩
  have nab : ¬ jI a = jI b := by rw [jI_eq (by omega) (by omega) (by omega) (by omega)]; exact hab
  have ia : inR (jI a) 6 = true := by rw [inR_j (by omega) (by omega)]; omega
  have ib : inR (jI b) 6 = true := by rw [inR_j (by omega) (by omega)]; omega
  have na : (jI a).toNatClampNeg = a.toNat := jI_clamp (by omega) (by omega)
  have nb : (jI b).toNatClampNeg = b.toNat := jI_clamp (by omega) (by omega)
  unfold f_X2_judge
  rw [s_isPlanet h hG (by omega) (by omega), bs_p, if_neg (bz_n q.1), s_isPlanet h hG (by omega) (by omega), bs_p, if_neg (bz_n q.2.1), s_isGear h hG (by omega) (by omega), bs_p, if_neg (bz_n q.2.2), if_neg nab, e3, bs_p, if_pos ia, na, c_c c3 a q.1.1 (by omega), s_holds t3 hb ka.1 (by omega), bs_p]
  by_cases y : TU S z (S (86 + a)) = 0
  · rw [if_pos (bz_z (fun c => c y)), if_pos (Or.inl y)]
    rfl
  · rw [if_neg (bz_n y), if_pos ib, nb, c_c c3 b q.2.1.1 (by omega), s_holds t3 hb kb.1 (by omega), bs_p]
    by_cases v : TU S z (S (86 + b)) = 0
    · rw [if_pos (bz_z (fun c => c v)), if_pos (Or.inr v)]
      rfl
    · rw [if_neg (bz_n v), if_neg (fun c => c.elim y v)]
      rfl
theorem re_1 (h : RSt w 142 0 S) (hG : Good S) (a1 : -2147483648 ≤ a) (a2 : a < 2147483648) (b1 : -2147483648 ≤ b) (b2 : b < 2147483648) (z1 : -2147483648 ≤ z) (z2 : z < 2147483648) (q : ¬ ((0 ≤ a ∧ a < S 1) ∧ (0 ≤ b ∧ b < S 1) ∧ 0 ≤ z ∧ z < S 0)) : f_X11_nextEclipse w (jI a) (jI b) (jI z) = some (jI 0, uI w 141 12 (jI 1)) := by
  unfold f_X11_nextEclipse
  rw [s_rIsPlanet h hG a1 a2, bs_p]
  by_cases qa : 0 ≤ a ∧ a < S 1
  · rw [if_neg (bz_n qa), s_rIsPlanet h hG b1 b2, bs_p]
    by_cases qb : 0 ≤ b ∧ b < S 1
    · rw [if_neg (bz_n qb), s_rIsGear h hG z1 z2, bs_p, if_pos (bz_z (fun c => q ⟨qa, qb, c⟩)), s_fails]
      rfl
    · rw [if_pos (bz_z qb), s_fails]
      rfl
  · rw [if_pos (bz_z qa), s_fails]
    rfl
theorem re_2 (h : RSt w 142 0 S) (hG : Good S) (q : (0 ≤ a ∧ a < S 1) ∧ 0 ≤ z ∧ z < S 0) : f_X11_nextEclipse w (jI a) (jI a) (jI z) = some (jI 0, uI w 141 12 (jI 2)) := by
  have hg := hG.1
  unfold f_X11_nextEclipse
  rw [s_rIsPlanet h hG (by omega) (by omega), bs_p, if_neg (bz_n q.1), bs_p, if_neg (bz_n q.1), s_rIsGear h hG (by omega) (by omega), bs_p, if_neg (bz_n q.2), if_pos rfl, s_fails]
  rfl
theorem re_3 (h : RSt w 142 0 S) (hG : Good S) (q : (0 ≤ a ∧ a < S 1) ∧ (0 ≤ b ∧ b < S 1) ∧ 0 ≤ z ∧ z < S 0) (hab : ¬ a = b) (y : TU S z (S (86 + a)) = 0 ∨ TU S z (S (86 + b)) = 0) : ∃ w6, Sm KU w w6 ∧ f_X11_nextEclipse w (jI a) (jI b) (jI z) = some (jI 0, uI w6 141 12 (jI 3)) := by
  have hg := hG.1
  obtain ⟨w6, e6, s6, t6, r6⟩ := s_rTurns hG h q.2.2.1 q.2.2.2
  have ka := hG.2.2.1 a q.1.1 q.1.2
  have kb := hG.2.2.1 b q.2.1.1 q.2.1.2
  have va := t6 (S (86 + a)) ka.1 (by omega)
  have vb := t6 (S (86 + b)) kb.1 (by omega)
  have nab : ¬ jI a = jI b := by rw [jI_eq (by omega) (by omega) (by omega) (by omega)]; exact hab
  have at1 : f_X11_at w6 ((86 : Int32) + jI a) = some (jI (S (86 + a))) := by rw [l32_86, jI_add]; exact s_at r6 (by omega) (by omega)
  have at2 : f_X11_at w6 ((86 : Int32) + jI b) = some (jI (S (86 + b))) := by rw [l32_86, jI_add]; exact s_at r6 (by omega) (by omega)
  have ja : inR (jI (S (86 + a))) 10 = true := by rw [inR_j (by omega) (by omega)]; omega
  have jb : inR (jI (S (86 + b))) 10 = true := by rw [inR_j (by omega) (by omega)]; omega
  have ma : (jI (S (86 + a))).toNatClampNeg = (S (86 + a)).toNat := jI_clamp (by omega) (by omega)
  have mb : (jI (S (86 + b))).toNatClampNeg = (S (86 + b)).toNat := jI_clamp (by omega) (by omega)
  refine ⟨w6, s6, ?_⟩
  unfold f_X11_nextEclipse
  rw [s_rIsPlanet h hG (by omega) (by omega), bs_p, if_neg (bz_n q.1), s_rIsPlanet h hG (by omega) (by omega), bs_p, if_neg (bz_n q.2.1), s_rIsGear h hG (by omega) (by omega), bs_p, if_neg (bz_n q.2.2), if_neg nab, e6, bs_p, at1, bs_p, at2, bs_p, if_pos ja, ma, va.2]
  by_cases v : TU S z (S (86 + a)) = 0
  · rw [if_pos (bz_z (fun c => c v)), s_fails]
    rfl
  · have v2 : TU S z (S (86 + b)) = 0 := y.resolve_left v
    rw [if_neg (bz_n v), if_pos jb, mb, vb.2, if_pos (bz_z (fun c => c v2)), s_fails]
    rfl
end
theorem RQ.valU {w w6 : Wd} {M : Option (Int32 × Wd)} {v : Int} (hs : Sm KU w w6) (h : M = some (jI v, uI w6 141 12 (jI 0))) : RQ jI w M 0 v := RQ.val (hs.mono fun _ => KU_N) ((hs.1 141 (by unfold KU; omega)).1) h
theorem RQ.errU {w w6 : Wd} {M : Option (Int32 × Wd)} {c v : Int} (hs : Sm KU w w6) (hc : c ≠ 0) (h : M = some (jI 0, uI w6 141 12 (jI c))) : RQ jI w M c v := RQ.err (hs.mono fun _ => KU_N) ((hs.1 141 (by unfold KU; omega)).1) hc h
theorem lq_nextEclipse {w : Wd} (h : Inv w) (x1 x2 x3 : Int32) : ∃ w1, f_law_2303 w x1 x2 x3 = some w1 ∧ Inv w1 := by
  obtain ⟨T, hG, hC, hR⟩ := h
  obtain ⟨a, rfl, ab1, ab2⟩ := jI_ex x1
  obtain ⟨b, rfl, bb1, bb2⟩ := jI_ex x2
  obtain ⟨z, rfl, zb1, zb2⟩ := jI_ex x3
  have hS := hG.1
  have hg := hS.1
  have c1 := hC.1
  have R : ∀ w' (a b z : Int32) (r : Int32 × Wd), f_X11_nextEclipse w' a b z = some r → f_X11_nextEclipse w' a b z = some r := by
    intro w' a b z r e
    exact e
  have J : ∀ (a b z : Int32) (k : Nat) (w3 : Wd), k < 5 → f_X2_judge w a b z = some (jI (-(k : Int) - 1), w3) → f_X10_nextEclipse w a b z = some (.inl k, w3) := by
    intro a b z k w3 hk e
    have e2 : f_X10_refuse w3 (jI (-(k : Int) - 1)) = some (.inl k) := s_refuse (w := w3) (es := [0, 1, 2, 3, 4]) (o := .inl k) (by decide) (by show k ∈ [0, 1, 2, 3, 4]; simp; omega) rfl
    unfold f_X10_nextEclipse
    rw [e, bs_p, u2_p, e2, bs_p, zl_p]
  unfold f_law_2303
  by_cases q : (0 ≤ a ∧ a < tS T 1) ∧ (0 ≤ b ∧ b < tS T 1) ∧ 0 ≤ z ∧ z < tS T 0
  · by_cases hab : a = b
    · subst hab
      refine lawQI (c := 2) (v := 0) hG hC hR (by decide) (by decide) ⟨by decide, by decide⟩ ?_ (fun w' hR' => ?_)
      · refine LQ.err (Sm.refl w) (by decide) ?_
        unfold f_L_nextEclipse
        rw [J _ _ _ 1 w (by decide) (jd_2 c1 hS ⟨q.1, q.2.2⟩)]
        rfl
      · exact RQ.errU (Sm.refl w') (by decide) (R _ _ _ _ _ (re_2 hR'.1 hS ⟨q.1, q.2.2⟩))
    · obtain ⟨w3, e3, s3, c3⟩ := jd_t c1 hS q hab
      by_cases y : TU (tS T) z (tS T (86 + a)) = 0 ∨ TU (tS T) z (tS T (86 + b)) = 0
      · rw [if_pos y] at e3
        refine lawQI (c := 3) (v := 0) hG hC hR (by decide) (by decide) ⟨by decide, by decide⟩ ?_ (fun w' hR' => ?_)
        · refine LQ.err (s3.mono fun _ => KT_Y) (by decide) ?_
          unfold f_L_nextEclipse
          rw [J _ _ _ 2 w3 (by decide) e3]
          rfl
        · obtain ⟨w8, s8, e8⟩ := re_3 hR'.1 hS q hab y
          exact RQ.errU s8 (by decide) (R _ _ _ _ _ e8)
      · rw [if_neg y] at e3
        obtain ⟨r, w7, e7, s7, c7, hE⟩ := s_solving hS c3 q.1 q.2.1 q.2.2
        have rb := hE.b
        have X : f_X10_nextEclipse w (jI a) (jI b) (jI z) = (f_X10_found w7 (jI r)).bind fun z => zc z (fun k => (some ((.inl k), w7))) (fun r13 => (some ((.inr r13), w7))) := by
          unfold f_X10_nextEclipse
          rw [e3, bs_p, u2_p, show f_X10_refuse w3 (jI 0) = some (.inr ()) from rfl, bs_p, zr_p, e7, bs_p, u2_p]
        have ref : ∀ w', InvR w' T → ∃ w8, Sm KU w' w8 ∧ f_X11_nextEclipse w' (jI a) (jI b) (jI z) = some (jI r, uI w8 141 12 (jI (if r = 0 then 4 else 0))) := by
          intro w' hR'
          obtain ⟨r', w8, s8, e8, hE'⟩ := s_rEcl hS hR'.1 q.1 q.2.1 q.2.2 hab (fun c => y (Or.inl c)) (fun c => y (Or.inr c))
          rw [hE'.uniq hE] at e8
          exact ⟨w8, s8, e8⟩
        by_cases r0 : r = 0
        · refine lawQI (c := 4) (v := 0) hG hC hR (by decide) (by decide) ⟨by decide, by decide⟩ ?_ (fun w' hR' => ?_)
          · refine LQ.err ((s3.tr s7).mono fun _ => KT_Y) (by decide) ?_
            unfold f_L_nextEclipse
            rw [X, r0]
            rfl
          · obtain ⟨w8, s8, e8⟩ := ref w' hR'
            rw [r0] at e8
            exact RQ.errU s8 (by decide) (R _ _ _ _ _ e8)
        · refine lawQI (c := 0) (v := r) hG hC hR (by decide) (by decide) ⟨by omega, by omega⟩ ?_ (fun w' hR' => ?_)
          · refine LQ.val ((s3.tr s7).mono fun _ => KT_Y) ?_
            have nz : ¬ jI r = 0 := fun c => r0 ((iff_of_eq (jI_eq (by omega) (by omega) (by omega) (by omega))).mp (show jI r = jI 0 from c))
            unfold f_L_nextEclipse f_X10_found at *
            rw [X, if_neg nz, bs_p, zr_p, bs_p, u2_p, zr_p, if_pos (show inR (0 : Int32) 1 = true by decide +kernel), wl_p, jI_toL (by omega) (by omega)]
            rfl
          · obtain ⟨w8, s8, e8⟩ := ref w' hR'
            rw [if_neg r0] at e8
            exact RQ.valU s8 (R _ _ _ _ _ e8)
  · refine lawQI (c := 1) (v := 0) hG hC hR (by decide) (by decide) ⟨by decide, by decide⟩ ?_ (fun w' hR' => ?_)
    · refine LQ.err (Sm.refl w) (by decide) ?_
      unfold f_L_nextEclipse
      rw [J _ _ _ 0 w (by decide) (jd_1 c1 hS ab1 ab2 bb1 bb2 zb1 zb2 q)]
      rfl
    · exact RQ.errU (Sm.refl w') (by decide) (R _ _ _ _ _ (re_1 hR'.1 hS ab1 ab2 bb1 bb2 zb1 zb2 q))
theorem lq_nextEclipseByTurns {w : Wd} (h : Inv w) (x1 x2 x3 : Int32) : ∃ w1, f_law_2383 w x1 x2 x3 = some w1 ∧ Inv w1 := by
  obtain ⟨T, hG, hC, hR⟩ := h
  obtain ⟨a, rfl, ab1, ab2⟩ := jI_ex x1
  obtain ⟨b, rfl, bb1, bb2⟩ := jI_ex x2
  obtain ⟨z, rfl, zb1, zb2⟩ := jI_ex x3
  have hS := hG.1
  have hg := hS.1
  have c1 := hC.1
  have R : ∀ w' (a b z : Int32) (r : Int32 × Wd), f_X11_nextEclipse w' a b z = some r → f_X11_nextEclipseByTurns w' a b z = some r := by
    intro w' a b z r e
    unfold f_X11_nextEclipseByTurns; rw [e]; rfl
  have J : ∀ (a b z : Int32) (k : Nat) (w3 : Wd), k < 5 → f_X2_judge w a b z = some (jI (-(k : Int) - 1), w3) → f_X10_nextEclipseByTurns w a b z = some (.inl k, w3) := by
    intro a b z k w3 hk e
    have e2 : f_X10_refuse w3 (jI (-(k : Int) - 1)) = some (.inl k) := s_refuse (w := w3) (es := [0, 1, 2, 3, 4]) (o := .inl k) (by decide) (by show k ∈ [0, 1, 2, 3, 4]; simp; omega) rfl
    unfold f_X10_nextEclipseByTurns
    rw [e, bs_p, u2_p, e2, bs_p, zl_p]
  unfold f_law_2383
  by_cases q : (0 ≤ a ∧ a < tS T 1) ∧ (0 ≤ b ∧ b < tS T 1) ∧ 0 ≤ z ∧ z < tS T 0
  · by_cases hab : a = b
    · subst hab
      refine lawQI (c := 2) (v := 0) hG hC hR (by decide) (by decide) ⟨by decide, by decide⟩ ?_ (fun w' hR' => ?_)
      · refine LQ.err (Sm.refl w) (by decide) ?_
        unfold f_L_nextEclipseByTurns
        rw [J _ _ _ 1 w (by decide) (jd_2 c1 hS ⟨q.1, q.2.2⟩)]
        rfl
      · exact RQ.errU (Sm.refl w') (by decide) (R _ _ _ _ _ (re_2 hR'.1 hS ⟨q.1, q.2.2⟩))
    · obtain ⟨w3, e3, s3, c3⟩ := jd_t c1 hS q hab
      by_cases y : TU (tS T) z (tS T (86 + a)) = 0 ∨ TU (tS T) z (tS T (86 + b)) = 0
      · rw [if_pos y] at e3
        refine lawQI (c := 3) (v := 0) hG hC hR (by decide) (by decide) ⟨by decide, by decide⟩ ?_ (fun w' hR' => ?_)
        · refine LQ.err (s3.mono fun _ => KT_Y) (by decide) ?_
          unfold f_L_nextEclipseByTurns
          rw [J _ _ _ 2 w3 (by decide) e3]
          rfl
        · obtain ⟨w8, s8, e8⟩ := re_3 hR'.1 hS q hab y
          exact RQ.errU s8 (by decide) (R _ _ _ _ _ e8)
      · rw [if_neg y] at e3
        obtain ⟨r, w7, e7, s7, c7, hE⟩ := s_turning hS c3 q.1 q.2.1 q.2.2
        have rb := hE.b
        have X : f_X10_nextEclipseByTurns w (jI a) (jI b) (jI z) = (f_X10_found w7 (jI r)).bind fun z => zc z (fun k => (some ((.inl k), w7))) (fun r13 => (some ((.inr r13), w7))) := by
          unfold f_X10_nextEclipseByTurns
          rw [e3, bs_p, u2_p, show f_X10_refuse w3 (jI 0) = some (.inr ()) from rfl, bs_p, zr_p, e7, bs_p, u2_p]
        have ref : ∀ w', InvR w' T → ∃ w8, Sm KU w' w8 ∧ f_X11_nextEclipse w' (jI a) (jI b) (jI z) = some (jI r, uI w8 141 12 (jI (if r = 0 then 4 else 0))) := by
          intro w' hR'
          obtain ⟨r', w8, s8, e8, hE'⟩ := s_rEcl hS hR'.1 q.1 q.2.1 q.2.2 hab (fun c => y (Or.inl c)) (fun c => y (Or.inr c))
          rw [hE'.uniq hE] at e8
          exact ⟨w8, s8, e8⟩
        by_cases r0 : r = 0
        · refine lawQI (c := 4) (v := 0) hG hC hR (by decide) (by decide) ⟨by decide, by decide⟩ ?_ (fun w' hR' => ?_)
          · refine LQ.err ((s3.tr s7).mono fun _ => KT_Y) (by decide) ?_
            unfold f_L_nextEclipseByTurns
            rw [X, r0]
            rfl
          · obtain ⟨w8, s8, e8⟩ := ref w' hR'
            rw [r0] at e8
            exact RQ.errU s8 (by decide) (R _ _ _ _ _ e8)
        · refine lawQI (c := 0) (v := r) hG hC hR (by decide) (by decide) ⟨by omega, by omega⟩ ?_ (fun w' hR' => ?_)
          · refine LQ.val ((s3.tr s7).mono fun _ => KT_Y) ?_
            have nz : ¬ jI r = 0 := fun c => r0 ((iff_of_eq (jI_eq (by omega) (by omega) (by omega) (by omega))).mp (show jI r = jI 0 from c))
            unfold f_L_nextEclipseByTurns f_X10_found at *
            rw [X, if_neg nz, bs_p, zr_p, bs_p, u2_p, zr_p, if_pos (show inR (0 : Int32) 1 = true by decide +kernel), wl_p, jI_toL (by omega) (by omega)]
            rfl
          · obtain ⟨w8, s8, e8⟩ := ref w' hR'
            rw [if_neg r0] at e8
            exact RQ.valU s8 (R _ _ _ _ _ e8)
  · refine lawQI (c := 1) (v := 0) hG hC hR (by decide) (by decide) ⟨by decide, by decide⟩ ?_ (fun w' hR' => ?_)
    · refine LQ.err (Sm.refl w) (by decide) ?_
      unfold f_L_nextEclipseByTurns
      rw [J _ _ _ 0 w (by decide) (jd_1 c1 hS ab1 ab2 bb1 bb2 zb1 zb2 q)]
      rfl
    · exact RQ.errU (Sm.refl w') (by decide) (R _ _ _ _ _ (re_1 hR'.1 hS ab1 ab2 bb1 bb2 zb1 zb2 q))
