/-! BOTH WAYS AGREE -/
theorem lpW {ρ : Type} (F : Nat → Int32 → Wd → Option ((Int32 × Wd) ⊕ ρ)) (I : Wd → Prop) (o : Int) (N : Nat)
    (hs : ∀ (i n : Nat) (v : Wd), i < N → I v → ∃ v', I v' ∧ F (n + 1) (jI ((i : Int) + o)) v = F n (jI (((i + 1 : Nat) : Int) + o)) v')
    (he : ∀ (n : Nat) (v : Wd), I v → F (n + 1) (jI ((N : Int) + o)) v = some (.inl (jI ((N : Int) + o), v))) (hN : N < 2000) {w : Wd} (hw : I w) : ∃ v', F 2000 (jI o) w = some (.inl (jI ((N : Int) + o), v')) ∧ I v' := by
  obtain ⟨r, hr, hP⟩ := lp (fun n (s : Int32 × Wd) => F n s.1 s.2) (fun i s => ∃ v, s = (jI ((i : Int) + o), v) ∧ I v) N (fun r => ∃ v', r = .inl (jI ((N : Int) + o), v') ∧ I v')
    (fun i n s hi hI => by
      obtain ⟨v, rfl, hv⟩ := hI
      obtain ⟨v', hv', e⟩ := hs i n v hi hv
      exact Or.inl ⟨(jI (((i + 1 : Nat) : Int) + o), v'), ⟨v', rfl, hv'⟩, e⟩)
    (fun n s hI => by
      obtain ⟨v, rfl, hv⟩ := hI
      exact ⟨_, he n v hv, v, rfl, hv⟩) 2000 0 (jI (((0 : Nat) : Int) + o), w) (by omega) (by omega) ⟨w, rfl, hw⟩
  obtain ⟨v', rfl, hv'⟩ := hP
  have hr : F 2000 (jI (((0 : Nat) : Int) + o)) w = _ := hr
  rw [show ((0 : Nat) : Int) + o = o by omega] at hr
  exact ⟨v', hr, hv'⟩
def Ky (w : Wd) (S : Ab) (v : Wd) : Prop := Sm KY w v ∧ CSt v 1 S
section
variable {w : Wd} {S : Ab}
theorem s_agree15 (hG : Good S) {d : Int} (d0 : 0 ≤ d ∧ d < S 0) {v : Wd} (hv : Ky w S v) : ∃ z v', p_X10_unitsAgree_15 (jI d) 2000 (0 : Int32) v = some (.inl (z, v')) ∧ Ky w S v' := by
  have hg := hG.1
  have e1 : (((S 0).toNat : Nat) : Int) = S 0 := by omega
  obtain ⟨v', e, h⟩ := lpW (p_X10_unitsAgree_15 (jI d)) (Ky w S) 0 (S 0).toNat
    (fun i n v hi hv => by
      have nx : jI ((i : Int) + 0) + jI 1 = jI (((i + 1 : Nat) : Int) + 0) := by rw [jI_add]; congr 1
      have i0 : (i : Int) + 0 = i := by omega
      obtain ⟨w3, e3, s3, c3⟩ := s_chain hG hv.2 d0 (y := i) ⟨by omega, by omega⟩
      have b := tu_b hG d0.1 d0.2 i (by omega) (by omega)
      have st : p_X10_unitsAgree_15 (jI d) (n + 1) (jI ((i : Int) + 0)) v = (if jL (TU S d i) = (0 : Int64) then (p_X10_unitsAgree_15 (jI d) n (jI (((i + 1 : Nat) : Int) + 0)) w3) else ((f_X10_unitsByLowest w3 (jI d) (jI i)).bind fun z => u2 z fun r15 w16 => (if jL (TU S d i) = r15 then (p_X10_unitsAgree_15 (jI d) n (jI (((i + 1 : Nat) : Int) + 0)) w16) else (some (.inr ((0 : Int32), w16)))))) := by
        rw [p_X10_unitsAgree_15, c_g hv.2, if_neg (show ¬ jI (S 0) ≤ jI ((i : Int) + 0) by rw [jI_le (by omega) (by omega) (by omega) (by omega)]; omega), l32_1, nx, i0, e3, bs_p, u2_p]
      rw [st]
      by_cases q : TU S d i = 0
      · exact ⟨w3, ⟨hv.1.tr (s3.mono fun _ => KT_Y), c3⟩, if_pos (by rw [q]; rfl)⟩
      · obtain ⟨w4, e4, s4, c4⟩ := s_lowest hG c3 d0 (y := i) ⟨by omega, by omega⟩ q
        refine ⟨w4, ⟨(hv.1.tr (s3.mono fun _ => KT_Y)).tr (s4.mono fun _ => KT_Y), c4⟩, ?_⟩
        rw [if_neg (show ¬ jL (TU S d i) = 0 from fun c => q ((iff_of_eq (jL_eq (by omega) (by omega) (by omega) (by omega))).mp (show jL (TU S d i) = jL 0 from c))), e4, bs_p, u2_p]
        exact if_pos rfl)
    (fun n v hv => by
      rw [p_X10_unitsAgree_15, e1, c_g hv.2]
      exact if_pos (show jI (S 0) ≤ jI (S 0 + 0) by rw [jI_le (by omega) (by omega) (by omega) (by omega)]; omega)) (by omega) hv
  exact ⟨_, v', e, h⟩
theorem s_unitsAgree (hG : Good S) {v : Wd} (hv : Ky w S v) : ∃ v', f_X10_unitsAgree v = some (jI 1, v') ∧ Ky w S v' := by
  have hg := hG.1
  have e1 : (((S 0).toNat : Nat) : Int) = S 0 := by omega
  obtain ⟨v', e, h⟩ := lpW p_X10_unitsAgree_2 (Ky w S) 0 (S 0).toNat
    (fun i n v hi hv => by
      have nx : jI ((i : Int) + 0) + jI 1 = jI (((i + 1 : Nat) : Int) + 0) := by rw [jI_add]; congr 1
      have i0 : (i : Int) + 0 = i := by omega
      obtain ⟨z, w3, e3, h3⟩ := s_agree15 hG (d := i) ⟨by omega, by omega⟩ hv
      refine ⟨w3, h3, ?_⟩
      rw [p_X10_unitsAgree_2, c_g hv.2, if_neg (show ¬ jI (S 0) ≤ jI ((i : Int) + 0) by rw [jI_le (by omega) (by omega) (by omega) (by omega)]; omega), l32_1, nx, i0, e3, bs_p, zl_p, u2_p])
    (fun n v hv => by
      rw [p_X10_unitsAgree_2, e1, c_g hv.2]
      exact if_pos (show jI (S 0) ≤ jI (S 0 + 0) by rw [jI_le (by omega) (by omega) (by omega) (by omega)]; omega)) (by omega) hv
  have e : p_X10_unitsAgree_2 2000 (0 : Int32) v = _ := e
  refine ⟨v', ?_, h⟩
  unfold f_X10_unitsAgree
  rw [e]
  rfl
theorem s_ecl25 (hG : Good S) {a : Int} (a0 : 0 ≤ a ∧ a < S 1) {v : Wd} (hv : Ky w S v) : ∃ z v', p_X2_bothWaysAgree_25 (jI a) (jI (S (86 + a))) 2000 (0 : Int32) v = some (.inl (z, v')) ∧ Ky w S v' := by
  have hg := hG.1
  have e1 : (((S 1).toNat : Nat) : Int) = S 1 := by omega
  have ka := hG.2.2.1 a a0.1 a0.2
  obtain ⟨v', e, h⟩ := lpW (p_X2_bothWaysAgree_25 (jI a) (jI (S (86 + a)))) (Ky w S) 0 (S 1).toNat
    (fun i n v hi hv => by
      have nx : jI ((i : Int) + 0) + jI 1 = jI (((i + 1 : Nat) : Int) + 0) := by rw [jI_add]; congr 1
      have i0 : (i : Int) + 0 = i := by omega
      have st : p_X2_bothWaysAgree_25 (jI a) (jI (S (86 + a))) (n + 1) (jI ((i : Int) + 0)) v = ((f_X2_judge v (jI a) (jI i) (jI (S (86 + a)))).bind fun z => u2 z fun r12 w13 => (if r12 = 0 then ((f_X2_bySolving w13 (jI a) (jI i) (jI (S (86 + a)))).bind fun z => u2 z fun r17 w18 => ((f_X2_byTurning w18 (jI a) (jI i) (jI (S (86 + a)))).bind fun z => u2 z fun r21 w22 => (if r17 = r21 then (p_X2_bothWaysAgree_25 (jI a) (jI (S (86 + a))) n (jI (((i + 1 : Nat) : Int) + 0)) w22) else (some (.inr ((0 : Int32), w22)))))) else (p_X2_bothWaysAgree_25 (jI a) (jI (S (86 + a))) n (jI (((i + 1 : Nat) : Int) + 0)) w13))) := by
        rw [p_X2_bothWaysAgree_25, c_p hv.2, if_neg (show ¬ jI (S 1) ≤ jI ((i : Int) + 0) by rw [jI_le (by omega) (by omega) (by omega) (by omega)]; omega), l32_1, nx, i0]
      rw [st]
      by_cases q : a = i
      · have j2 := jd_2 hv.2 hG (a := a) (z := S (86 + a)) ⟨a0, ka⟩
        rw [← q]
        refine ⟨v, hv, ?_⟩
        rw [j2, bs_p, u2_p]
        exact if_neg (by decide +kernel)
      · obtain ⟨w3, e3, s3, c3⟩ := jd_t hv.2 hG (a := a) (b := i) (z := S (86 + a)) ⟨a0, ⟨by omega, by omega⟩, ka⟩ q
        rw [e3, bs_p, u2_p]
        by_cases y : TU S (S (86 + a)) (S (86 + a)) = 0 ∨ TU S (S (86 + a)) (S (86 + (i : Int))) = 0
        · rw [if_pos y]
          exact ⟨w3, ⟨hv.1.tr (s3.mono fun _ => KT_Y), c3⟩, if_neg (by decide +kernel)⟩
        · obtain ⟨r, w4, e4, s4, c4, h4⟩ := s_solving hG c3 a0 (b := i) ⟨by omega, by omega⟩ ka
          obtain ⟨r', w5, e5, s5, c5, h5⟩ := s_turning hG c4 a0 (b := i) ⟨by omega, by omega⟩ ka
          rw [if_neg y, if_pos (show jI 0 = 0 from rfl), e4, bs_p, u2_p, e5, bs_p, u2_p, h5.uniq h4]
          exact ⟨w5, ⟨((hv.1.tr (s3.mono fun _ => KT_Y)).tr (s4.mono fun _ => KT_Y)).tr (s5.mono fun _ => KT_Y), c5⟩, if_pos rfl⟩)
    (fun n v hv => by
      rw [p_X2_bothWaysAgree_25, e1, c_p hv.2]
      exact if_pos (show jI (S 1) ≤ jI (S 1 + 0) by rw [jI_le (by omega) (by omega) (by omega) (by omega)]; omega)) (by omega) hv
  exact ⟨_, v', e, h⟩
theorem s_eclAgree (hG : Good S) {v : Wd} (hv : Ky w S v) : ∃ v', f_X2_bothWaysAgree v = some (jI 1, v') ∧ Ky w S v' := by
  have hg := hG.1
  have e1 : (((S 1).toNat : Nat) : Int) = S 1 := by omega
  obtain ⟨v', e, h⟩ := lpW p_X2_bothWaysAgree_2 (Ky w S) 0 (S 1).toNat
    (fun i n v hi hv => by
      have nx : jI ((i : Int) + 0) + jI 1 = jI (((i + 1 : Nat) : Int) + 0) := by rw [jI_add]; congr 1
      have i0 : (i : Int) + 0 = i := by omega
      obtain ⟨z, w3, e3, h3⟩ := s_ecl25 hG (a := i) ⟨by omega, by omega⟩ hv
      refine ⟨w3, h3, ?_⟩
      rw [p_X2_bothWaysAgree_2, c_p hv.2, if_neg (show ¬ jI (S 1) ≤ jI ((i : Int) + 0) by rw [jI_le (by omega) (by omega) (by omega) (by omega)]; omega), l32_1, nx, i0, if_pos (by rw [inR_j (by omega) (by omega)]; omega), jI_clamp (by omega) (by omega), c_c hv.2 i (by omega) (by omega), e3, bs_p, zl_p, u2_p])
    (fun n v hv => by
      rw [p_X2_bothWaysAgree_2, e1, c_p hv.2]
      exact if_pos (show jI (S 1) ≤ jI (S 1 + 0) by rw [jI_le (by omega) (by omega) (by omega) (by omega)]; omega)) (by omega) hv
  have e : p_X2_bothWaysAgree_2 2000 (0 : Int32) v = _ := e
  refine ⟨v', ?_, h⟩
  unfold f_X2_bothWaysAgree
  rw [e]
  rfl
theorem s_pairAgree (hG : Good S) {v : Wd} (hv : Ky w S v) : ∃ v', f_X5_bothWaysAgree v = some (jI 1, v') ∧ Ky w S v' := by
  have hg := hG.1
  obtain ⟨v', e, h⟩ := lpW p_X5_bothWaysAgree_2 (Ky w S) 1 10
    (fun i n v hi hv => by
      have nx : jI ((i : Int) + 1) + jI 1 = jI (((i + 1 : Nat) : Int) + 1) := by rw [jI_add]; rfl
      obtain ⟨r, e3, h3⟩ := s_trying hG hv.2 (a := (i : Int) + 1) (b := 1) ⟨by omega, by omega⟩ ⟨by omega, by omega⟩
      obtain ⟨r', w4, e4, s4, c4, h4⟩ := s_byTable hG hv.2 (a := (i : Int) + 1) (b := 1) ⟨by omega, by omega⟩ ⟨by omega, by omega⟩
      refine ⟨w4, ⟨hv.1.tr (s4.mono fun _ => KE_Y), c4⟩, ?_⟩
      rw [p_X5_bothWaysAgree_2, l32_10, if_neg (show ¬ jI 10 < jI ((i : Int) + 1) by rw [jI_lt (by omega) (by omega) (by omega) (by omega)]; omega), l32_1, nx, e3, bs_p, e4, bs_p, u2_p, h4.uniq h3]
      exact if_pos rfl)
    (fun n v hv => by
      rw [p_X5_bothWaysAgree_2]
      exact if_pos (show jI 10 < jI (((10 : Nat) : Int) + 1) by rw [jI_lt (by omega) (by omega) (by omega) (by omega)]; omega)) (by omega) hv
  have e : p_X5_bothWaysAgree_2 2000 (1 : Int32) v = _ := e
  refine ⟨v', ?_, h⟩
  unfold f_X5_bothWaysAgree
  rw [e]
  rfl
end
theorem lq_isConsistent {w : Wd} (h : Inv w) (x1 x2 x3 : Int32) : ∃ w1, f_law_2838 w x1 x2 x3 = some w1 ∧ Inv w1 := by
  obtain ⟨T, hG, hC, hR⟩ := h
  have hS := hG.1
  obtain ⟨w1, e1, h1⟩ := s_unitsAgree (w := w) hS ⟨Sm.refl w, hC.1⟩
  obtain ⟨w2, e2, h2⟩ := s_eclAgree hS h1
  obtain ⟨w3, e3, h3⟩ := s_pairAgree hS h2
  have A : f_X10_isConsistent w = some (jI 1, w3) := by
    have k := s_sumOfTensions h3.2 hS
    unfold f_X10_isConsistent
    rw [e1, bs_p, u2_p, if_neg (by decide +kernel), e2, bs_p, u2_p, if_neg (by decide +kernel), e3, bs_p, u2_p, if_neg (by decide +kernel), k, bs_p, c_wd h3.2, c_tk h3.2, jI_sub, hS.2.2.2.2.2.1]
    exact if_pos rfl
  have s3 : Sm KL w w3 := h3.1.mono (fun k hk => by unfold KY at hk; unfold KL; omega)
  have R3 := hR.far s3
  refine ⟨uI w3 141 12 (jI 0), ?_, T, hG, (hC.read h3.1).read', R3.read' _⟩
  unfold f_law_2838
  rw [A, bs_p, u2_p]
  unfold f_X11_isConsistent
  rw [wl_p, bs_p, u2_p]
  exact if_pos rfl
