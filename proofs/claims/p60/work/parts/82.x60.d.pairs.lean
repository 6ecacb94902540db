section
variable {w : Wd} {S : Ab} {a b : Int}
theorem s_isPair (hG : Good S) (h : RSt w 142 0 S) (a0 : 1 ≤ a ∧ a ≤ 60) (b0 : 1 ≤ b ∧ b ≤ 60) {p q : Int} (p0 : 0 ≤ p ∧ p < S 0) (q0 : 0 ≤ q ∧ q < S 0) : (p ≠ q ∧ S (6 + p) * b = S (6 + q) * a ∧ f_X11_isPair w (jI p) (jI q) (jI a) (jI b) = some (jI 1)) ∨ (¬ (p ≠ q ∧ S (6 + p) * b = S (6 + q) * a) ∧ f_X11_isPair w (jI p) (jI q) (jI a) (jI b) = some (jI 0)) := by
  have hg := hG.1
  have tp := tt_b hG p0.1 p0.2
  have tq := tt_b hG q0.1 q0.2
  have m3 := mulb (x := S (6 + p)) (y := b) (a := 60) (b := 60) (by omega) (by omega) (by omega) (by omega)
  have m4 := mulb (x := S (6 + q)) (y := a) (a := 60) (b := 60) (by omega) (by omega) (by omega) (by omega)
  unfold f_X11_isPair
  by_cases v1 : p = q
  · rw [if_pos (by rw [v1])]; exact Or.inr ⟨fun c => c.1 v1, rfl⟩
  rw [if_neg (by rw [jI_eq (by omega) (by omega) (by omega) (by omega)]; exact v1), l32_6, jI_add, jI_add, if_pos (by rw [inR_j (by omega) (by omega)]; omega), if_pos (by rw [inR_j (by omega) (by omega)]; omega), jI_clamp (by omega) (by omega), jI_clamp (by omega) (by omega), r_g h _ (by omega) (by omega), r_g h _ (by omega) (by omega), jI_toL (by omega) (by omega), jI_toL (by omega) (by omega), jL_mul, jL_mul]
  by_cases v : S (6 + p) * b = S (6 + q) * a
  · rw [if_pos (by rw [v])]
    exact Or.inl ⟨v1, v, rfl⟩
  · rw [if_neg (by rw [jL_eq (by omega) (by omega) (by omega) (by omega)]; exact v)]
    exact Or.inr ⟨fun c => v c.2, rfl⟩
theorem s_rFew (hG : Good S) (h : RSt w 142 0 S) (a0 : 1 ≤ a ∧ a ≤ 60) (b0 : 1 ≤ b ∧ b ≤ 60) : ∃ r, f_X11_fewestPairs w (jI a) (jI b) = some (jI r, uI w 141 12 (jI (if r = 0 then 2 else 0))) ∧ IsN S a b r := by
  have hg := hG.1
  have n10 : ¬ (10 : Int32) = 0 := by decide +kernel
  obtain ⟨r, hr, hP⟩ := lp (fun n (s : Int32 × Int32) => p_X11_fewestPairs_31 w (jI a) (jI b) n s.1 s.2)
    (fun i s => ∃ v, s = (jI v, jI i) ∧ (∀ x : Int, 0 ≤ x → x < i → ¬ T1 S a b x) ∧ ((v = 2 ∧ ∃ x y, (0 ≤ x ∧ x < 100) ∧ (0 ≤ y ∧ y < 100) ∧ T2 S a b x y) ∨ (v = 3 ∧ ∀ x y : Int, 0 ≤ x → x < i → 0 ≤ y → y < 100 → ¬ T2 S a b x y))) 100
    (fun r => (r = .inr (jI 1, uI w 141 12 (jI 0)) ∧ P1 S a b) ∨ ∃ v z, r = .inl (jI v, z) ∧ ¬ P1 S a b ∧ ((v = 2 ∧ P2 S a b) ∨ (v = 3 ∧ ¬ P2 S a b)))
    (fun i n s hi hI => by
      obtain ⟨v, rfl, h1, h2⟩ := hI
      have nx : jI (i : Int) + jI 1 = jI ((i + 1 : Nat) : Int) := by rw [jI_add]; rfl
      have tx := ten_q (x := i) (by omega) (by omega)
      have st : p_X11_fewestPairs_31 w (jI a) (jI b) (n + 1) (jI v) (jI (i : Int)) = ((f_X11_areGears w (jI ((i : Int) / 10)) (jI ((i : Int) % 10))).bind fun r18 => (if r18 = 0 then ((p_X11_fewestPairs_87 r18 w (jI i) (jI a) (jI b) 2000 (jI v) (0 : Int32)).bind fun z => zc z (fun q => u2 q fun y20 y21 => (p_X11_fewestPairs_31 w (jI a) (jI b) n y20 (jI ((i + 1 : Nat) : Int)))) (fun _ => none)) else ((f_X11_isPair w (jI ((i : Int) / 10)) (jI ((i : Int) % 10)) (jI a) (jI b)).bind fun r33 => (if r33 = 0 then ((p_X11_fewestPairs_87 r18 w (jI i) (jI a) (jI b) 2000 (jI v) (0 : Int32)).bind fun z => zc z (fun q => u2 q fun y35 y36 => (p_X11_fewestPairs_31 w (jI a) (jI b) n y35 (jI ((i + 1 : Nat) : Int)))) (fun _ => none)) else ((f_X11_done w (1 : Int32)).bind fun z => u2 z fun r46 w47 => (some (.inr (r46, w47)))))))) := by
        rw [p_X11_fewestPairs_31, l32_100, if_neg (show ¬ jI 100 ≤ jI (i : Int) by rw [jI_le (by omega) (by omega) (by omega) (by omega)]; omega), if_pos n10, if_pos n10, tx.2, tx.1, l32_1, nx]
        simp only [if_pos n10]
      by_cases gg : (0 ≤ (i : Int) / 10 ∧ (i : Int) / 10 < S 0) ∧ 0 ≤ (i : Int) % 10 ∧ (i : Int) % 10 < S 0
      · have ag : f_X11_areGears w (jI ((i : Int) / 10)) (jI ((i : Int) % 10)) = some (jI 1) := by rw [s_rAreGears h hG (by omega) (by omega) (by omega) (by omega), bZ_pos gg]
        rcases s_isPair hG h a0 b0 gg.1 gg.2 with ⟨k1, k2, k3⟩ | ⟨k1, k3⟩
        · refine Or.inr ⟨.inr (jI 1, uI w 141 12 (jI 0)), ?_, Or.inl ⟨rfl, (P1_iff hG).mpr ⟨i, by omega, by omega, ⟨gg.1.2, gg.2.2⟩, k1, k2⟩⟩⟩
          show p_X11_fewestPairs_31 _ _ _ (n + 1) _ _ = _
          rw [st, ag, bs_p, if_neg (show ¬ jI 1 = 0 by decide +kernel), k3, bs_p, if_neg (show ¬ jI 1 = 0 by decide +kernel), s_done]
          rfl
        · obtain ⟨v', z, e87, hv⟩ := s_p87 hG h a0 b0 (x := i) (v := v) (by omega) (by omega)
          refine Or.inl ⟨(jI v', jI ((i + 1 : Nat) : Int)), ⟨v', rfl, fun x x0 x1 => ?_, ?_⟩, ?_⟩
          · by_cases y : x = i
            · rw [y]; exact fun c => k1 ⟨c.2.1, c.2.2⟩
            · exact h1 x x0 (by omega)
          · rcases hv with ⟨hv, y, y0, hy⟩ | ⟨hv, hn⟩
            · exact Or.inl ⟨hv, i, y, ⟨by omega, by omega⟩, y0, hy⟩
            · rcases h2 with ⟨h2, hx⟩ | ⟨h2, hx⟩
              · exact Or.inl ⟨by omega, hx⟩
              · refine Or.inr ⟨by omega, fun x y x0 x1 y0 y1 => ?_⟩
                by_cases u : x = i
                · rw [u]; exact hn y y0 y1
                · exact hx x y x0 (by omega) y0 y1
          · show p_X11_fewestPairs_31 _ _ _ (n + 1) _ _ = _
            rw [st, ag, bs_p, if_neg (show ¬ jI 1 = 0 by decide +kernel), k3, bs_p, if_pos (show jI 0 = 0 from rfl), e87, bs_p, zl_p, u2_p]
      · have ag : f_X11_areGears w (jI ((i : Int) / 10)) (jI ((i : Int) % 10)) = some (jI 0) := by rw [s_rAreGears h hG (by omega) (by omega) (by omega) (by omega), bZ_neg gg]
        have e87 : p_X11_fewestPairs_87 (jI 0) w (jI i) (jI a) (jI b) 2000 (jI v) (0 : Int32) = some (.inl (jI v, 0)) := by
          rw [show (2000 : Nat) = 1999 + 1 from rfl, p_X11_fewestPairs_87, if_neg (by decide +kernel), if_pos (show jI 0 = 0 from rfl)]
        refine Or.inl ⟨(jI v, jI ((i + 1 : Nat) : Int)), ⟨v, rfl, fun x x0 x1 => ?_, ?_⟩, ?_⟩
        · by_cases y : x = i
          · rw [y]; exact fun c => gg ⟨⟨by omega, c.1.1⟩, by omega, c.1.2⟩
          · exact h1 x x0 (by omega)
        · rcases h2 with h2 | ⟨h2, hx⟩
          · exact Or.inl h2
          · refine Or.inr ⟨h2, fun x y x0 x1 y0 y1 => ?_⟩
            by_cases u : x = i
            · rw [u]; exact fun c => gg ⟨⟨by omega, c.2.1.1⟩, by omega, c.2.1.2.1⟩
            · exact hx x y x0 (by omega) y0 y1
        · show p_X11_fewestPairs_31 _ _ _ (n + 1) _ _ = _
          rw [st, ag, bs_p, if_pos (show jI 0 = 0 from rfl), e87, bs_p, zl_p, u2_p])
    (fun n s hI => by
      obtain ⟨v, rfl, h1, h2⟩ := hI
      refine ⟨.inl (jI v, jI ((100 : Nat) : Int)), ?_, Or.inr ⟨v, _, rfl, fun c => ?_, ?_⟩⟩
      · show p_X11_fewestPairs_31 _ _ _ (n + 1) _ _ = _
        rw [p_X11_fewestPairs_31]
        exact if_pos (show jI 100 ≤ jI 100 by rw [jI_le (by omega) (by omega) (by omega) (by omega)]; omega)
      · obtain ⟨x, x0, x1, x2⟩ := (P1_iff hG).mp c
        exact h1 x x0 (by omega) x2
      · rcases h2 with ⟨h2, hx⟩ | ⟨h2, hx⟩
        · exact Or.inl ⟨h2, (P2_iff hG).mpr hx⟩
        · refine Or.inr ⟨h2, fun c => ?_⟩
          obtain ⟨x, y, hx1, hy1, hxy⟩ := (P2_iff hG).mp c
          exact hx x y hx1.1 (by omega) hy1.1 (by omega) hxy) 2000 0 (jI 3, jI 0) (by omega) (by omega) ⟨3, rfl, fun x x0 x1 => by omega, Or.inr ⟨rfl, fun x y x0 x1 => by omega⟩⟩
  have hr : p_X11_fewestPairs_31 w (jI a) (jI b) 2000 (3 : Int32) (0 : Int32) = some r := hr
  have P : f_X11_fewestPairs w (jI a) (jI b) = ((p_X11_fewestPairs_31 w (jI a) (jI b) 2000 (3 : Int32) (0 : Int32)).bind fun z => zc z (fun q => u2 q fun y11 y12 => (if y11 = (3 : Int32) then ((f_X11_fails w (2 : Int32)).bind fun z => u2 z fun r57 w58 => (some (r57, w58))) else ((f_X11_done w y11).bind fun z => u2 z fun r53 w54 => (some (r53, w54))))) (fun r => (some r))) := by
    unfold f_X11_fewestPairs
    rw [l32_1, l32_60, s_in w (by omega) (by omega) (by omega) (by omega) (by omega) (by omega), bs_p, if_neg (bz_n a0), s_in w (by omega) (by omega) (by omega) (by omega) (by omega) (by omega), bs_p, if_neg (bz_n b0)]
  rw [hr, bs_p] at P
  rcases hP with ⟨rfl, hp⟩ | ⟨v, z, rfl, hp, ⟨rfl, h2⟩ | ⟨rfl, h2⟩⟩
  · exact ⟨1, P, Or.inl ⟨rfl, hp⟩⟩
  · refine ⟨2, ?_, Or.inr (Or.inl ⟨rfl, hp, h2⟩)⟩
    rw [P, zl_p, u2_p, if_neg (show ¬ jI 2 = (3 : Int32) by decide +kernel), s_done]
    rfl
  · refine ⟨0, ?_, Or.inr (Or.inr ⟨rfl, hp, h2⟩)⟩
    rw [P, zl_p, u2_p, if_pos (show jI 3 = (3 : Int32) from rfl), s_fails]
    rfl
theorem s_rFewE (h1 : -2147483648 ≤ a) (h2 : a < 2147483648) (h3 : -2147483648 ≤ b) (h4 : b < 2147483648) (q : ¬ ((1 ≤ a ∧ a ≤ 60) ∧ 1 ≤ b ∧ b ≤ 60)) : f_X11_fewestPairs w (jI a) (jI b) = some (jI 0, uI w 141 12 (jI 1)) := by
  unfold f_X11_fewestPairs
  rw [l32_1, l32_60, s_in w h1 h2 (by omega) (by omega) (by omega) (by omega), bs_p]
  by_cases qa : 1 ≤ a ∧ a ≤ 60
  · rw [if_neg (bz_n qa), s_in w h3 h4 (by omega) (by omega) (by omega) (by omega), bs_p, if_pos (bz_z (fun c => q ⟨qa, c⟩)), s_fails]
    rfl
  · rw [if_pos (bz_z qa), s_fails]
    rfl
theorem cr_F (h1 : -2147483648 ≤ a) (h2 : a < 2147483648) (h3 : -2147483648 ≤ b) (h4 : b < 2147483648) (q : ¬ ((1 ≤ a ∧ a ≤ 60) ∧ 1 ≤ b ∧ b ≤ 60)) : f_X10_checkRatio w (jI a) (jI b) = some (.inl 1) := by
  unfold f_X10_checkRatio
  rw [l32_1, l32_60]
  by_cases v1 : a < 1
  · rw [if_pos (by rw [jI_lt (by omega) (by omega) (by omega) (by omega)]; exact v1)]
  rw [if_neg (by rw [jI_lt (by omega) (by omega) (by omega) (by omega)]; exact v1)]
  by_cases v2 : 60 < a
  · rw [if_pos (by rw [jI_lt (by omega) (by omega) (by omega) (by omega)]; exact v2)]
  rw [if_neg (by rw [jI_lt (by omega) (by omega) (by omega) (by omega)]; exact v2)]
  by_cases v3 : b < 1
  · rw [if_pos (by rw [jI_lt (by omega) (by omega) (by omega) (by omega)]; exact v3)]
  rw [if_neg (by rw [jI_lt (by omega) (by omega) (by omega) (by omega)]; exact v3), if_neg (by rw [jI_le (by omega) (by omega) (by omega) (by omega)]; omega)]
theorem cr_T (a0 : 1 ≤ a ∧ a ≤ 60) (b0 : 1 ≤ b ∧ b ≤ 60) : f_X10_checkRatio w (jI a) (jI b) = some (.inr ()) := by
  unfold f_X10_checkRatio
  rw [l32_1, l32_60, if_neg (by rw [jI_lt (by omega) (by omega) (by omega) (by omega)]; omega), if_neg (by rw [jI_lt (by omega) (by omega) (by omega) (by omega)]; omega), if_neg (by rw [jI_lt (by omega) (by omega) (by omega) (by omega)]; omega), if_pos (by rw [jI_le (by omega) (by omega) (by omega) (by omega)]; omega)]
end
theorem lq_fewestPairs {w : Wd} (h : Inv w) (x1 x2 x3 : Int32) : ∃ w1, f_law_2519 w x1 x2 x3 = some w1 ∧ Inv w1 := by
  obtain ⟨T, hG, hC, hR⟩ := h
  obtain ⟨a, rfl, ab1, ab2⟩ := jI_ex x1
  obtain ⟨b, rfl, bb1, bb2⟩ := jI_ex x2
  have hS := hG.1
  have c1 := hC.1
  unfold f_law_2519
  by_cases q : (1 ≤ a ∧ a ≤ 60) ∧ 1 ≤ b ∧ b ≤ 60
  · obtain ⟨r, er, hr⟩ := s_trying hS c1 q.1 q.2
    have ref : ∀ w', InvR w' T → f_X11_fewestPairs w' (jI a) (jI b) = some (jI r, uI w' 141 12 (jI (if r = 0 then 2 else 0))) := by
      intro w' hR'
      obtain ⟨r', e, hr'⟩ := s_rFew hS hR'.1 q.1 q.2
      rw [hr'.uniq hr] at e
      exact e
    have rb : 0 ≤ r ∧ r ≤ 2 := by rcases hr with ⟨c, -⟩ | ⟨c, -⟩ | ⟨c, -⟩ <;> omega
    have X : f_X10_fewestPairs w (jI a) (jI b) = ((f_X10_found w (jI r)).bind fun z => zc z (fun k => (some (.inl k))) (fun r7 => (some (.inr r7)))) := by
      unfold f_X10_fewestPairs
      rw [cr_T q.1 q.2, bs_p, zr_p, er, bs_p]
    by_cases r0 : r = 0
    · refine lawQI (c := 2) (v := 0) hG hC hR (by decide) (by decide) ⟨by decide, by decide⟩ ?_ (fun w' hR' => ?_)
      · refine LQ.err (Sm.refl w) (by decide) ?_
        unfold f_L_fewestPairs
        rw [X, r0]
        rfl
      · have e := ref w' hR'
        rw [r0] at e
        exact RQ.errU (Sm.refl w') (by decide) e
    · refine lawQI (c := 0) (v := r) hG hC hR (by decide) (by decide) ⟨by omega, by omega⟩ ?_ (fun w' hR' => ?_)
      · refine LQ.val (Sm.refl w) ?_
        have nz : ¬ jI r = 0 := fun c => r0 ((iff_of_eq (jI_eq (by omega) (by omega) (by omega) (by omega))).mp (show jI r = jI 0 from c))
        unfold f_L_fewestPairs f_X10_found at *
        rw [X, if_neg nz, bs_p, zr_p, bs_p, zr_p, if_pos (show inR (0 : Int32) 1 = true by decide +kernel), wl_p, jI_toL (by omega) (by omega)]
        rfl
      · have e := ref w' hR'
        rw [if_neg r0] at e
        exact RQ.valU (Sm.refl w') e
  · refine lawQI (c := 1) (v := 0) hG hC hR (by decide) (by decide) ⟨by decide, by decide⟩ ?_ (fun w' hR' => ?_)
    · refine LQ.err (Sm.refl w) (by decide) ?_
      unfold f_L_fewestPairs f_X10_fewestPairs
      rw [cr_F ab1 ab2 bb1 bb2 q, bs_p, zl_p, bs_p, zl_p]
      rfl
    · exact RQ.errU (Sm.refl w') (by decide) (s_rFewE ab1 ab2 bb1 bb2 q)
