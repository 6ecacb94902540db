def TH (S : Ab) (A B t1 t2 : Int) : Prop := ∃ u l, DD S u l ∧ (u ≠ t1 ∧ u ≠ t2 ∧ l ≠ t1 ∧ l ≠ t2) ∧ S (6 + u) * B = S (6 + l) * A
theorem s_tableHas {w : Wd} {S : Ab} (hG : Good S) {m A B t1 t2 : Int} (hT : TB w S m (DD S)) (m0 : 0 ≤ m) (m1 : m ≤ 90) (A0 : 0 < A ∧ A ≤ 3600) (B0 : 0 < B ∧ B ≤ 3600) (x1 : -1 ≤ t1 ∧ t1 ≤ 10) (x2 : -1 ≤ t2 ∧ t2 ≤ 10) :
    (TH S A B t1 t2 ∧ f_X5_tableHas w (jI A) (jI B) (jI t1) (jI t2) = some (jI 1)) ∨ (¬ TH S A B t1 t2 ∧ f_X5_tableHas w (jI A) (jI B) (jI t1) (jI t2) = some (jI 0)) := by
  have hg := hG.1
  have e1 : ((m.toNat : Nat) : Int) = m := by omega
  have gg := s_gcd (a := A) (b := B) (by omega) (by omega) (by omega) (by omega)
  have gp : 0 < Int.gcd A B := Nat.pos_of_ne_zero (fun z => absurd (Int.gcd_eq_zero_iff.mp z).1 (by omega))
  have d1 := Int.le_of_dvd A0.1 (Int.gcd_dvd_left A B)
  have low : ∀ u l, DD S u l → (((S (6 + u) / gq S u l = A / (Int.gcd A B : Nat)) ∧ S (6 + l) / gq S u l = B / (Int.gcd A B : Nat)) ↔ S (6 + u) * B = S (6 + l) * A) := by
    intro u l hD
    have tu := tt_b hG hD.1.1 hD.1.2
    have tl := tt_b hG hD.2.1.1 hD.2.1.2
    exact low_iff (by omega) (by omega) A0.1 B0.1
  generalize hg2 : ((Int.gcd A B : Nat) : Int) = g at *
  have q1 := Int.ediv_le_self g (show 0 ≤ A by omega)
  have r1 : 0 ≤ A / g ∧ A / g ≤ A := ⟨Int.ediv_nonneg (by omega) (by omega), Int.ediv_le_self _ (by omega)⟩
  have r2 : 0 ≤ B / g ∧ B / g ≤ B := ⟨Int.ediv_nonneg (by omega) (by omega), Int.ediv_le_self _ (by omega)⟩
  have P : f_X5_tableHas w (jI A) (jI B) (jI t1) (jI t2) = ((p_X5_tableHas_30 w (jI t1) (jI t2) (jL (A / g)) (jL (B / g)) 2000 (0 : Int32)).bind fun z => zc z (fun y7 => (some (0 : Int32))) (fun r => (some r))) := by
    unfold f_X5_tableHas
    rw [jI_toL (by omega) (by omega), jI_toL (by omega) (by omega), gg, bs_p, s_quot (by omega) (by omega) (by omega) (by omega), bs_p, s_quot (by omega) (by omega) (by omega) (by omega), bs_p]
  have eqn : ∀ x y : Int, -1 ≤ x → x ≤ 10 → -1 ≤ y → y ≤ 10 → (jI x = jI y) = (x = y) := fun x y _ _ _ _ => jI_eq (by omega) (by omega) (by omega) (by omega)
  have st : ∀ i n : Nat, i < m.toNat → ∀ u l, DD S u l → Ent w S i u l → (((u ≠ t1 ∧ u ≠ t2 ∧ l ≠ t1 ∧ l ≠ t2) ∧ S (6 + u) * B = S (6 + l) * A) → p_X5_tableHas_30 w (jI t1) (jI t2) (jL (A / g)) (jL (B / g)) (n + 1) (jI (i : Int)) = some (.inr (1 : Int32))) ∧ (¬ ((u ≠ t1 ∧ u ≠ t2 ∧ l ≠ t1 ∧ l ≠ t2) ∧ S (6 + u) * B = S (6 + l) * A) → p_X5_tableHas_30 w (jI t1) (jI t2) (jL (A / g)) (jL (B / g)) (n + 1) (jI (i : Int)) = p_X5_tableHas_30 w (jI t1) (jI t2) (jL (A / g)) (jL (B / g)) n (jI ((i + 1 : Nat) : Int))) := by
    intro i n hi u l hD hE
    obtain ⟨E1, E2, E3, E4⟩ := hE
    have gb := gq_b hG hD.1 hD.2.1
    have ll := low u l hD
    have du := hD.1
    have dl := hD.2.1
    have nx : jI (i : Int) + jI 1 = jI ((i + 1 : Nat) : Int) := by rw [jI_add]; rfl
    have ir : inR (jI (i : Int)) 90 = true := by rw [inR_j (by omega) (by omega)]; omega
    have ci : (jI (i : Int)).toNatClampNeg = (i : Int).toNat := jI_clamp (by omega) (by omega)
    rw [p_X5_tableHas_30, hT.1, if_neg (show ¬ jI m ≤ jI (i : Int) by rw [jI_le (by omega) (by omega) (by omega) (by omega)]; omega), if_pos ir, ci, E3, l32_1, nx]
    by_cases v1 : u = t1
    · rw [if_pos (by rw [v1])]; exact ⟨fun c => absurd v1 c.1.1, fun _ => rfl⟩
    rw [if_neg (by rw [eqn _ _ (by omega) (by omega) (by omega) (by omega)]; exact v1), if_pos ir]
    by_cases v2 : u = t2
    · rw [if_pos (by rw [v2])]; exact ⟨fun c => absurd v2 c.1.2.1, fun _ => rfl⟩
    rw [if_neg (by rw [eqn _ _ (by omega) (by omega) (by omega) (by omega)]; exact v2), if_pos ir, E4]
    by_cases v3 : l = t1
    · rw [if_pos (by rw [v3])]; exact ⟨fun c => absurd v3 c.1.2.2.1, fun _ => rfl⟩
    rw [if_neg (by rw [eqn _ _ (by omega) (by omega) (by omega) (by omega)]; exact v3), if_pos ir]
    by_cases v4 : l = t2
    · rw [if_pos (by rw [v4])]; exact ⟨fun c => absurd v4 c.1.2.2.2, fun _ => rfl⟩
    rw [if_neg (by rw [eqn _ _ (by omega) (by omega) (by omega) (by omega)]; exact v4), if_pos ir, E1, jI_toL (by omega) (by omega)]
    by_cases v5 : S (6 + u) / gq S u l = A / g
    · rw [if_pos (by rw [v5]), if_pos ir, E2, jI_toL (by omega) (by omega)]
      by_cases v6 : S (6 + l) / gq S u l = B / g
      · rw [if_pos (by rw [v6])]
        exact ⟨fun _ => rfl, fun c => absurd ⟨⟨v1, v2, v3, v4⟩, ll.mp ⟨v5, v6⟩⟩ c⟩
      · rw [if_neg (by rw [jL_eq (by omega) (by omega) (by omega) (by omega)]; exact v6)]
        exact ⟨fun c => absurd (ll.mpr c.2).2 v6, fun _ => rfl⟩
    · rw [if_neg (by rw [jL_eq (by omega) (by omega) (by omega) (by omega)]; exact v5)]
      exact ⟨fun c => absurd (ll.mpr c.2).1 v5, fun _ => rfl⟩
  have F := lpEx (p_X5_tableHas_30 w (jI t1) (jI t2) (jL (A / g)) (jL (B / g))) (fun k => ∃ u l, DD S u l ∧ Ent w S k u l ∧ ((u ≠ t1 ∧ u ≠ t2 ∧ l ≠ t1 ∧ l ≠ t2) ∧ S (6 + u) * B = S (6 + l) * A)) m.toNat (1 : Int32)
    (fun i n hi hp => by
      obtain ⟨u, l, hD, hE⟩ := hT.2.1 i (by omega) (by omega)
      exact (st i n hi u l hD hE).2 (fun c => hp ⟨u, l, hD, hE, c⟩))
    (fun i n hi hp => by
      obtain ⟨u, l, hD, hE, c⟩ := hp
      exact (st i n hi u l hD hE).1 c)
    (fun n => by
      rw [p_X5_tableHas_30, e1, hT.1]
      exact if_pos (show jI m ≤ jI m by rw [jI_le (by omega) (by omega) (by omega) (by omega)]; omega)) (by omega)
  rw [P]
  rcases F with ⟨⟨k, k0, k1, u, l, hD, hE, c⟩, e⟩ | ⟨hn, e⟩
  · exact Or.inl ⟨⟨u, l, hD, c.1, c.2⟩, by rw [e]; rfl⟩
  · refine Or.inr ⟨fun ⟨u, l, hD, c1, c2⟩ => ?_, by rw [e]; rfl⟩
    obtain ⟨k, hk, hE⟩ := hT.2.2 u l hD
    exact hn k hk.1 (by omega) ⟨u, l, hD, hE, c1, c2⟩
theorem s_byTable {w : Wd} {S : Ab} (hG : Good S) (h : CSt w 1 S) {a b : Int} (a0 : 1 ≤ a ∧ a ≤ 60) (b0 : 1 ≤ b ∧ b ≤ 60) : ∃ r w', f_X5_byTable w (jI a) (jI b) = some (jI r, w') ∧ Sm KE w w' ∧ CSt w' 1 S ∧ IsN S a b r := by
  have hg := hG.1
  obtain ⟨w3, m, e3, s3, c3, hT, m0, m1⟩ := s_table hG h
  have e1 : ((m.toNat : Nat) : Int) = m := by omega
  have p1 : TH S a b (-1) (-1) ↔ P1 S a b := by
    constructor
    · rintro ⟨u, l, hD, -, he⟩
      exact ⟨u, l, hD.1, hD.2.1, fun z => hD.2.2 z.symm, he⟩
    · intro ⟨p, q, hp, hq, hn, he⟩
      exact ⟨p, q, ⟨hp, hq, fun z => hn z.symm⟩, by omega, he⟩
  unfold f_X5_byTable
  rw [e3, bs_p]
  rcases s_tableHas hG hT m0 m1 (A := a) (B := b) (t1 := -1) (t2 := -1) (by omega) (by omega) (by omega) (by omega) with ⟨k, e⟩ | ⟨k, e⟩
  · have e : f_X5_tableHas w3 (jI a) (jI b) (-1 : Int32) (-1 : Int32) = some (jI 1) := e
    refine ⟨1, w3, ?_, s3, c3, Or.inl ⟨rfl, p1.mp k⟩⟩
    rw [e, bs_p]
    exact if_neg (by decide +kernel)
  · have e : f_X5_tableHas w3 (jI a) (jI b) (-1 : Int32) (-1 : Int32) = some (jI 0) := e
    have np1 : ¬ P1 S a b := fun c => k (p1.mpr c)
    have st : ∀ i n : Nat, i < m.toNat → ∀ u l, DD S u l → Ent w3 S i u l → p_X5_byTable_19 w3 (jI a) (jI b) (n + 1) (jI (i : Int)) = ((f_X5_tableHas w3 (jI (a * (S (6 + l) / gq S u l))) (jI (b * (S (6 + u) / gq S u l))) (jI u) (jI l)).bind fun r15 => (if r15 = 0 then (p_X5_byTable_19 w3 (jI a) (jI b) n (jI ((i + 1 : Nat) : Int))) else (some (.inr ((2 : Int32), w3))))) := by
      intro i n hi u l hD hE
      obtain ⟨E1, E2, E3, E4⟩ := hE
      have nx : jI (i : Int) + jI 1 = jI ((i + 1 : Nat) : Int) := by rw [jI_add]; rfl
      have ir : inR (jI (i : Int)) 90 = true := by rw [inR_j (by omega) (by omega)]; omega
      have ci : (jI (i : Int)).toNatClampNeg = (i : Int).toNat := jI_clamp (by omega) (by omega)
      rw [p_X5_byTable_19, hT.1, if_neg (show ¬ jI m ≤ jI (i : Int) by rw [jI_le (by omega) (by omega) (by omega) (by omega)]; omega), if_pos ir, if_pos ir, if_pos ir, if_pos ir, ci, E1, E2, E3, E4, jI_mul, jI_mul, l32_1, nx]
    have th : ∀ u l, DD S u l → ((TH S (a * (S (6 + l) / gq S u l)) (b * (S (6 + u) / gq S u l)) u l ∧ f_X5_tableHas w3 (jI (a * (S (6 + l) / gq S u l))) (jI (b * (S (6 + u) / gq S u l))) (jI u) (jI l) = some (jI 1)) ∨ (¬ TH S (a * (S (6 + l) / gq S u l)) (b * (S (6 + u) / gq S u l)) u l ∧ f_X5_tableHas w3 (jI (a * (S (6 + l) / gq S u l))) (jI (b * (S (6 + u) / gq S u l))) (jI u) (jI l) = some (jI 0))) := by
      intro u l hD
      have gb := gq_b hG hD.1 hD.2.1
      have du := hD.1
      have dl := hD.2.1
      have ma := mulb (x := a) (y := S (6 + l) / gq S u l) (a := 60) (b := 60) (by omega) (by omega) (by omega) (by omega)
      have mb := mulb (x := b) (y := S (6 + u) / gq S u l) (a := 60) (b := 60) (by omega) (by omega) (by omega) (by omega)
      have pa := Int.mul_pos (show 0 < a by omega) gb.2.2.2.1.1
      have pb := Int.mul_pos (show 0 < b by omega) gb.2.2.1.1
      exact s_tableHas hG hT m0 m1 ⟨pa, by omega⟩ ⟨pb, by omega⟩ (by omega) (by omega)
    have F := lpEx (p_X5_byTable_19 w3 (jI a) (jI b)) (fun k => ∃ u l, DD S u l ∧ Ent w3 S k u l ∧ TH S (a * (S (6 + l) / gq S u l)) (b * (S (6 + u) / gq S u l)) u l) m.toNat ((2 : Int32), w3)
      (fun i n hi hp => by
        obtain ⟨u, l, hD, hE⟩ := hT.2.1 i (by omega) (by omega)
        rcases th u l hD with ⟨c, d⟩ | ⟨c, d⟩
        · exact absurd ⟨u, l, hD, hE, c⟩ hp
        · rw [st i n hi u l hD hE, d, bs_p]
          exact if_pos rfl)
      (fun i n hi hp => by
        obtain ⟨u, l, hD, hE, c⟩ := hp
        rcases th u l hD with ⟨-, d⟩ | ⟨c2, -⟩
        · rw [st i n hi u l hD hE, d, bs_p]
          exact if_neg (by decide +kernel)
        · exact absurd c c2)
      (fun n => by
        rw [p_X5_byTable_19, e1, hT.1]
        exact if_pos (show jI m ≤ jI m by rw [jI_le (by omega) (by omega) (by omega) (by omega)]; omega)) (by omega)
    rw [e, bs_p, if_pos (show jI 0 = 0 from rfl)]
    have eqv : ∀ u l, DD S u l → ∀ x y, S (6 + x) * (b * (S (6 + u) / gq S u l)) = S (6 + y) * (a * (S (6 + l) / gq S u l)) ↔ S (6 + x) * b * S (6 + u) = S (6 + y) * a * S (6 + l) := by
      intro u l hD x y
      have gb := gq_b hG hD.1 hD.2.1
      have g0 := gb.1
      have h1 := gb.2.2.2.2.1
      have h2 := gb.2.2.2.2.2
      generalize S (6 + u) / gq S u l = U at *
      generalize S (6 + l) / gq S u l = V at *
      rw [← h1, ← h2]
      generalize gq S u l = g at *
      constructor
      · intro c
        rw [show S (6 + x) * b * (g * U) = g * (S (6 + x) * (b * U)) by grind, c]
        grind
      · intro c
        exact Int.eq_of_mul_eq_mul_left (show g ≠ 0 by omega) (by grind)
    rcases F with ⟨⟨k, k0, k1, u, l, hD, hE, x, y, hD2, hd, he⟩, e⟩ | ⟨hn, e⟩
    · refine ⟨2, w3, by rw [e]; rfl, s3, c3, Or.inr (Or.inl ⟨rfl, np1, x, y, u, l, ⟨hD2.1, hD2.2.1, hD.1, hD.2.1⟩, ?_, (eqv u l hD x y).mp he⟩)⟩
      exact ⟨fun z => hD2.2.2 z.symm, fun z => hD.2.2 z.symm, fun z => hd.1 z.symm, fun z => hd.2.2.1 z.symm, fun z => hd.2.1 z.symm, fun z => hd.2.2.2 z.symm⟩
    · refine ⟨0, w3, by rw [e]; rfl, s3, c3, Or.inr (Or.inr ⟨rfl, np1, fun ⟨p, q, r, s, hb, hd, he⟩ => ?_⟩)⟩
      have hD : DD S r s := ⟨hb.2.2.1, hb.2.2.2, fun z => hd.2.1 z.symm⟩
      obtain ⟨k, hk, hE⟩ := hT.2.2 r s hD
      exact hn k hk.1 (by omega) ⟨r, s, hD, hE, p, q, ⟨hb.1, hb.2.1, fun z => hd.1 z.symm⟩, ⟨fun z => hd.2.2.1 z.symm, fun z => hd.2.2.2.2.1 z.symm, fun z => hd.2.2.2.1 z.symm, fun z => hd.2.2.2.2.2 z.symm⟩, (eqv r s hD p q).mpr he⟩
theorem lq_fewestPairsByTable {w : Wd} (h : Inv w) (x1 x2 x3 : Int32) : ∃ w1, f_law_2587 w x1 x2 x3 = some w1 ∧ Inv w1 := by
  obtain ⟨T, hG, hC, hR⟩ := h
  obtain ⟨a, rfl, ab1, ab2⟩ := jI_ex x1
  obtain ⟨b, rfl, bb1, bb2⟩ := jI_ex x2
  have hS := hG.1
  have c1 := hC.1
  have R : ∀ w' (a b : Int32) (r : Int32 × Wd), f_X11_fewestPairs w' a b = some r → f_X11_fewestPairsByTable w' a b = some r := by
    intro w' a b r e
    unfold f_X11_fewestPairsByTable
    rw [e]
    rfl
  unfold f_law_2587
  by_cases q : (1 ≤ a ∧ a ≤ 60) ∧ 1 ≤ b ∧ b ≤ 60
  · obtain ⟨r, w6, er, s6, c6, hr⟩ := s_byTable hS c1 q.1 q.2
    have ref : ∀ w', InvR w' T → f_X11_fewestPairs w' (jI a) (jI b) = some (jI r, uI w' 141 12 (jI (if r = 0 then 2 else 0))) := by
      intro w' hR'
      obtain ⟨r', e, hr'⟩ := s_rFew hS hR'.1 q.1 q.2
      rw [hr'.uniq hr] at e
      exact e
    have rb : 0 ≤ r ∧ r ≤ 2 := by rcases hr with ⟨c, -⟩ | ⟨c, -⟩ | ⟨c, -⟩ <;> omega
    have X : f_X10_fewestPairsByTable w (jI a) (jI b) = ((f_X10_found w6 (jI r)).bind fun z => zc z (fun k => (some ((.inl k), w6))) (fun r9 => (some ((.inr r9), w6)))) := by
      unfold f_X10_fewestPairsByTable
      rw [cr_T q.1 q.2, bs_p, zr_p, er, bs_p, u2_p]
    by_cases r0 : r = 0
    · refine lawQI (c := 2) (v := 0) hG hC hR (by decide) (by decide) ⟨by decide, by decide⟩ ?_ (fun w' hR' => ?_)
      · refine LQ.err (s6.mono fun _ => KE_Y) (by decide) ?_
        unfold f_L_fewestPairsByTable
        rw [X, r0]
        rfl
      · have e := ref w' hR'
        rw [r0] at e
        exact RQ.errU (Sm.refl w') (by decide) (R _ _ _ _ e)
    · refine lawQI (c := 0) (v := r) hG hC hR (by decide) (by decide) ⟨by omega, by omega⟩ ?_ (fun w' hR' => ?_)
      · refine LQ.val (s6.mono fun _ => KE_Y) ?_
        have nz : ¬ jI r = 0 := fun c => r0 ((iff_of_eq (jI_eq (by omega) (by omega) (by omega) (by omega))).mp (show jI r = jI 0 from c))
        unfold f_L_fewestPairsByTable f_X10_found at *
        rw [X, if_neg nz, bs_p, zr_p, bs_p, u2_p, zr_p, if_pos (show inR (0 : Int32) 1 = true by decide +kernel), wl_p, jI_toL (by omega) (by omega)]
        rfl
      · have e := ref w' hR'
        rw [if_neg r0] at e
        exact RQ.valU (Sm.refl w') (R _ _ _ _ e)
  · refine lawQI (c := 1) (v := 0) hG hC hR (by decide) (by decide) ⟨by decide, by decide⟩ ?_ (fun w' hR' => ?_)
    · refine LQ.err (Sm.refl w) (by decide) ?_
      unfold f_L_fewestPairsByTable f_X10_fewestPairsByTable
      rw [cr_F ab1 ab2 bb1 bb2 q, bs_p, zl_p, bs_p, u2_p, zl_p]
      rfl
    · exact RQ.errU (Sm.refl w') (by decide) (R _ _ _ _ (s_rFewE ab1 ab2 bb1 bb2 q))
