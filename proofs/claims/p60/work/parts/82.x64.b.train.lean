/-! THE TRAIN, shown: both loops, the law -/
theorem CT.ko {w w' : Wd} {u m : Ab} {sz : Int} (h : CT w u sz m) (hs : Sm KO w w') : CT w' u sz m :=
  ⟨fun x a b => by rw [hs.lK (by unfold KO; omega)]; exact h.1 x a b, by rw [hs.iK (by unfold KO; omega)]; exact h.2.1, fun x a b => by rw [hs.iK (by unfold KO; omega)]; exact h.2.2 x a b⟩
theorem CSt.ko {w w' : Wd} {S : Ab} (h : CSt w 1 S) (hs : Sm KO w w') : CSt w' 1 S := h.kept (fun r hr => hs.1 _ (by unfold KO; omega))
theorem RT.kw {w w' : Wd} {u : Ab} (h : RT w u) (hs : Sm KW w w') : RT w' u := fun x a b => by
  rw [hs.lK (by unfold KW; omega), hs.iK (by unfold KW; omega)]; exact h x a b
theorem RSt.kw {w w' : Wd} {S : Ab} (h : RSt w 142 0 S) (hs : Sm KW w w') : RSt w' 142 0 S := h.kept (hs.1 142 (by unfold KW; omega)).2
theorem t_cStep {S u m : Ab} {sz : Int} (hG : Good S) (hb : ∀ x, 0 ≤ x → x < 10 → -14929920000000000 ≤ u x ∧ u x ≤ 14929920000000000) (f k : Nat) (w : Wd) (hk : (k : Int) < S 0) (hS : CSt w 1 S) (hT : CT w u sz m) (h : OX w (tt S u k)) :
    ∃ w', p_X10_renderTrain_27 (f + 1) (jI k) w = p_X10_renderTrain_27 f (jI ((k + 1 : Nat) : Int)) w' ∧ Sm KO w w' ∧ OX w' (tt S u (k + 1)) := by
  have hg := hG.1
  have tg := tt_g S u k (by omega)
  have e1 : jI (k : Int) + (1 : Int32) = jI ((k + 1 : Nat) : Int) := by rw [l32_1, jI_add]; rfl
  have n1 : nd (k : Int) = 1 := if_pos (by omega)
  rw [p_X10_renderTrain_27, c_g hS, if_neg (by rw [jI_le (by omega) (by omega) (by omega) (by omega)]; omega), s_holds hT hb (by omega) (by omega), bs_p, tt_s, e1]
  by_cases q : u k = 0
  · rw [if_pos (bz_z (fun z => z q)), if_pos q]
    exact ⟨w, rfl, Sm.refl w, h⟩
  · rw [if_neg (bz_n q), if_neg q, t_len h, bs_p]
    have tb := tg.1
    -- a number, a star or not
    have rest : ∀ (w2 : Wd) (p : Tx), OX w2 p → TG (3 * k + 1) p → CSt w2 1 S → ∃ w', ((f_J4_append_bf812 w2 (jI k)).bind fun w22 => ((f_X7_carriesPlanet w22 (jI k)).bind fun r24 => (if r24 = 0 then (p_X10_renderTrain_27 f (jI ((k + 1 : Nat) : Int)) w22) else ((f_J4_append_cf468 w22 (42 : Int32)).bind fun w28 => (p_X10_renderTrain_27 f (jI ((k + 1 : Nat) : Int)) w28))))) = p_X10_renderTrain_27 f (jI ((k + 1 : Nat) : Int)) w' ∧ Sm KO w2 w' ∧ OX w' (txI (cpl S k) 42 (txN k p)) := by
      intro w2 p hp gp hS2
      obtain ⟨w3, a3, s3, h3⟩ := t_cN hp gp (by omega) (v := k) (by omega) (by omega)
      have g3 := gp.xN (v := k) (by omega) (by omega)
      rw [n1] at g3
      rw [a3, bs_p, c_cpl (hS2.ko s3) hG (by omega) (by omega), bs_p]
      unfold txI
      rcases cpl_b S k with y | y
      · rw [y, if_pos (show jI 0 = 0 from rfl), if_pos rfl]
        exact ⟨w3, rfl, s3, h3⟩
      · obtain ⟨w4, a4, s4, h4⟩ := t_c1 h3 g3 (by omega) (c := 42) (by omega) (by omega)
        rw [y, if_neg (show ¬ jI 1 = 0 by decide +kernel), if_neg (by decide), l32_42, a4, bs_p]
        exact ⟨w4, rfl, s3.tr s4, h4⟩
    by_cases z : (tt S u k).1 ≤ 0
    · rw [if_pos (by rw [l32_0, jI_le (by omega) (by omega) (by omega) (by omega)]; exact z), if_pos z]
      exact rest w (txI 0 44 (tt S u k)) h (tg.le (by omega)) hS
    · obtain ⟨w2, a2, s2, h2⟩ := t_c1 h tg (by omega) (c := 44) (by omega) (by omega)
      rw [if_neg (by rw [l32_0, jI_le (by omega) (by omega) (by omega) (by omega)]; exact z), if_neg z, l32_44, a2, bs_p]
      obtain ⟨w', a', s', h'⟩ := rest w2 (txI 1 44 (tt S u k)) h2 (tg.x1 (by omega) (by omega)) (hS.ko s2)
      exact ⟨w', a', s2.tr s', h'⟩
theorem t_cLoop {S u m : Ab} {sz : Int} (hG : Good S) (hb : ∀ x, 0 ≤ x → x < 10 → -14929920000000000 ≤ u x ∧ u x ≤ 14929920000000000) : ∀ (n k f : Nat) (w : Wd), (k : Int) + n = S 0 → n < f → CSt w 1 S → CT w u sz m → OX w (tt S u k) → ∃ w', p_X10_renderTrain_27 f (jI k) w = some (.inl (jI (S 0), w')) ∧ Sm KO w w' ∧ OX w' (tt S u (S 0).toNat) := by
  have hg := hG.1
  intro n
  induction n with
  | zero =>
    intro k f w hk hf hS hT h
    obtain ⟨f, rfl⟩ : ∃ f', f = f' + 1 := ⟨f - 1, by omega⟩
    have e : (k : Int) = S 0 := by omega
    refine ⟨w, ?_, Sm.refl w, by rw [show (S 0).toNat = k by omega]; exact h⟩
    rw [p_X10_renderTrain_27, c_g hS, if_pos (by rw [jI_le (by omega) (by omega) (by omega) (by omega)]; omega), e]
  | succ n ih =>
    intro k f w hk hf hS hT h
    obtain ⟨f, rfl⟩ : ∃ f', f = f' + 1 := ⟨f - 1, by omega⟩
    obtain ⟨w1, a1, s1, h1⟩ := t_cStep hG hb f k w (by omega) hS hT h
    obtain ⟨w2, a2, s2, h2⟩ := ih (k + 1) f w1 (by omega) (by omega) (hS.ko s1) (hT.ko s1) h1
    exact ⟨w2, a1.trans a2, s1.tr s2, h2⟩
theorem t_rStep {S u : Ab} (hG : Good S) (f k : Nat) (w : Wd) (hk : (k : Int) < 10) (hS : RSt w 142 0 S) (hT : RT w u) (h : RX w (tt S u k)) :
    ∃ w', p_X11_renderTrain_26 (f + 1) (jI k) w = p_X11_renderTrain_26 f (jI ((k + 1 : Nat) : Int)) w' ∧ WX w w' (tt S u (k + 1)) := by
  have tg := tt_g S u k (by omega)
  have tb := tg.1
  have e1 : jI (k : Int) + (1 : Int32) = jI ((k + 1 : Nat) : Int) := by rw [l32_1, jI_add]; rfl
  have n1 : nd (k : Int) = 1 := if_pos (by omega)
  have kr := rt_k hT k (by omega) hk
  rw [p_X11_renderTrain_26, l32_10, if_neg (by rw [jI_le (by omega) (by omega) (by omega) (by omega)]; omega), if_pos (by rw [inR_j (by omega) (by omega)]; omega), jI_clamp (by omega) (by omega), kr, tt_s, e1]
  by_cases q : u k = 0
  · rw [if_pos (bz_z (fun z => z q)), if_pos q]
    exact ⟨w, rfl, WX.refl h⟩
  · rw [if_neg (bz_n q), if_neg q, h.1]
    have rest : ∀ (w2 : Wd) (p : Tx), RX w2 p → TG (3 * k + 1) p → RSt w2 142 0 S → ∃ w', ((f_X11_writesNumber w2 (jI k)).bind fun w20 => ((f_X11_planetOn w20 (jI k)).bind fun r22 => (if r22 = (-1 : Int32) then ((f_X11_writesIf w20 (0 : Int32) (42 : Int32)).bind fun w26 => (p_X11_renderTrain_26 f (jI ((k + 1 : Nat) : Int)) w26)) else ((f_X11_writesIf w20 (1 : Int32) (42 : Int32)).bind fun w29 => (p_X11_renderTrain_26 f (jI ((k + 1 : Nat) : Int)) w29))))) = p_X11_renderTrain_26 f (jI ((k + 1 : Nat) : Int)) w' ∧ WX w2 w' (txI (cpl S k) 42 (txN k p)) := by
      intro w2 p hp gp hS2
      obtain ⟨w3, a3, h3⟩ := t_rN hp gp (by omega) (v := k) (by omega) (by omega)
      have g3 := gp.xN (v := k) (by omega) (by omega)
      rw [n1] at g3
      obtain ⟨r, er, r0, r1, r2⟩ := r_cpl (hS2.kw h3.1) hG (g := k) (by omega) (by omega)
      obtain ⟨w4, a4, h4⟩ := t_rI h3.rx g3 (by omega) (b := cpl S k) (c := 42) (cpl_b S k) (by omega) (by omega)
      rw [a3, bs_p, er, bs_p, show (-1 : Int32) = jI (-1) from rfl, l32_42, l32_0, l32_1]
      refine ⟨w4, ?_, h3.tr h4⟩
      rcases cpl_b S k with y | y
      · rw [y] at a4
        rw [if_pos (by rw [r2.mpr y]), a4, bs_p]
      · rw [y] at a4
        rw [if_neg (by rw [jI_eq (by omega) (by omega) (by omega) (by omega)]; exact fun z => by have := r2.mp z; omega), a4, bs_p]
    obtain ⟨w2, a2, h2⟩ := t_rI h tg (by omega) (b := if (tt S u k).1 ≤ 0 then 0 else 1) (c := 44) (by split; exact Or.inl rfl; exact Or.inr rfl) (by omega) (by omega)
    obtain ⟨w', a', h'⟩ := rest w2 _ h2.rx (tg.xI (by omega) (by omega)) (hS.kw h2.1)
    refine ⟨w', ?_, h2.tr h'⟩
    by_cases z : (tt S u k).1 ≤ 0
    · rw [if_pos z] at a2
      rw [if_pos (by rw [l32_0, jI_le (by omega) (by omega) (by omega) (by omega)]; exact z)]
      show ((f_X11_writesIf w (jI 0) (jI 44)).bind _) = _
      rw [a2, bs_p]
      exact a'
    · rw [if_neg z] at a2
      rw [if_neg (by rw [l32_0, jI_le (by omega) (by omega) (by omega) (by omega)]; exact z)]
      show ((f_X11_writesIf w (jI 1) (jI 44)).bind _) = _
      rw [a2, bs_p]
      exact a'
theorem t_rLoop {S u : Ab} (hG : Good S) : ∀ (n k f : Nat) (w : Wd), k + n = 10 → n < f → RSt w 142 0 S → RT w u → RX w (tt S u k) → ∃ w', p_X11_renderTrain_26 f (jI k) w = some (.inl (jI 10, w')) ∧ WX w w' (tt S u 10) := by
  intro n
  induction n with
  | zero =>
    intro k f w hk hf hS hT h
    obtain ⟨f, rfl⟩ : ∃ f', f = f' + 1 := ⟨f - 1, by omega⟩
    have e : k = 10 := by omega
    subst e
    refine ⟨w, ?_, WX.refl h⟩
    rw [p_X11_renderTrain_26]
    exact if_pos (by decide +kernel)
  | succ n ih =>
    intro k f w hk hf hS hT h
    obtain ⟨f, rfl⟩ : ∃ f', f = f' + 1 := ⟨f - 1, by omega⟩
    obtain ⟨w1, a1, h1⟩ := t_rStep hG f k w (by omega) hS hT h
    obtain ⟨w2, a2, h2⟩ := ih (k + 1) f w1 (by omega) (by omega) (hS.kw h1.1) (hT.kw h1.1) h1.rx
    exact ⟨w2, a1.trans a2, h1.tr h2⟩
/-! the law over a text -/
def KZ (k : Nat) : Prop := KY k ∨ KO k
def KV (k : Nat) : Prop := KN k ∨ k = 147
def shw (T : TS) (q : Tx) : TS := (tS T, tH T, tP T, tN T, tL T, tC T, tX T, tE T, tF T, q.1, q.2)
theorem lawT {w : Wd} {T : TS} {L : Option (Int32 × Wd)} {M : Wd → Option (Int32 × Wd)} {q : Tx} (hG : InvG T) (hC : InvC w T) (hR : InvR w T) (hq : TG 100 q) (hL : ∃ w3, L = some (jI 0, uL w3 151 0 (jL q.1)) ∧ Sm KZ w w3 ∧ OX w3 q) (hM : ∀ w', InvR w' T → ∃ w6, M w' = some (jI q.1, w6) ∧ Sm KV w' w6 ∧ (∀ i, i ≠ 11 → i ≠ 12 → i ≠ 15 → i ≠ 16 → gI w6 141 i = gI w' 141 i) ∧ gI w6 141 12 = jI 0 ∧ RX w6 q) : ∃ w1, (L.bind fun z => u2 z fun r2 w3 => ((M w3).bind fun z => u2 z fun r5 w6 => ((f_X11_thrown w6).bind fun r8 => (if r8 = r2 then (if r2 = 0 then (if inR (0 : Int32) 1 then (if (gL w6 151 ((0 : Int32)).toNatClampNeg) = (r5).toInt64 then (some w6) else none) else none) else (some w6)) else none)))) = some w1 ∧ Inv w1 := by
  obtain ⟨w3, hL, s3, o3⟩ := hL
  have k1 : Sm KL w w3 := s3.mono (fun k hk => by unfold KZ KY KO at hk; unfold KL; omega)
  have C3 : InvC w3 (shw T q) := by
    obtain ⟨g1, g2, g3, ⟨f, g4⟩, g5, g6, g7, g8, g9⟩ := hC
    refine ⟨g1.kept (fun r hr => s3.1 _ (by unfold KZ KY KO; omega)), by rw [s3.iK (by unfold KZ KY KO; omega)]; exact g2, fun y => (g3 y).kept (fun r hr => s3.1 _ (by unfold KZ KY KO; omega)), ⟨f, g4.kept (s3.1 34 (by unfold KZ KY KO; omega)).1 (fun i i0 i1 => s3.1 i (by unfold KZ KY KO; omega))⟩, by rw [s3.iK (by unfold KZ KY KO; omega)]; exact g5, fun i i0 i1 => by rw [s3.iK (by unfold KZ KY KO; omega)]; exact g6 i i0 i1, by rw [s3.iK (by unfold KZ KY KO; omega)]; exact g7, by rw [s3.iK (by unfold KZ KY KO; omega)]; exact g8, o3⟩
  have k4 : Sm KL w (uL w3 151 0 (jL q.1)) := k1.tr (sm_out _ _)
  have R3 := hR.far k4
  obtain ⟨w6, hm, ms, mf, mt, mx⟩ := hM _ R3
  have k2 : Sm KR (uL w3 151 0 (jL q.1)) w6 := ms.mono (fun k hk => by unfold KV KN at hk; unfold KR; omega)
  have hgl : gL w6 151 0 = jL q.1 := by rw [k2.lK (by unfold KR; omega), gL_uL, if_pos ⟨rfl, rfl⟩]
  refine ⟨w6, lawA hL hm mt (fun _ => by rw [hgl, jI_toL (by have := hq.1; omega) (by have := hq.1; omega)]), shw T q, ?_, (C3.out _).far k2, ?_⟩
  · obtain ⟨h1, h2, h3, h4, h5, h6, h7, h8, h9, h10⟩ := hG
    exact ⟨h1, h2, h3, h4, h5, h6, h7, h8, h9, hq⟩
  · obtain ⟨h1, h2, h3, h4, h5, h6, h7, h8, h9, h10⟩ := R3
    refine ⟨h1.kept (ms.1 142 (by unfold KV KN; omega)).2, ?_, fun y => (h3 y).kept (ms.1 145 (by unfold KV KN; omega)).2, h4.kept (mf 3 (by decide) (by decide) (by decide) (by decide)) (ms.1 144 (by unfold KV KN; omega)).2, ?_, fun i i0 i1 => ?_, ?_, ?_, mx.1, mx.2⟩
    · rw [mf 5 (by decide) (by decide) (by decide) (by decide)]; exact h2
    · rw [mf 7 (by decide) (by decide) (by decide) (by decide)]; exact h5
    · rw [ms.iK (by unfold KV KN; omega)]; exact h6 i i0 i1
    · rw [mf 8 (by decide) (by decide) (by decide) (by decide)]; exact h7
    · rw [mf 9 (by decide) (by decide) (by decide) (by decide)]; exact h8
theorem lawT_R {w w2 : Wd} {q : Tx} {M : Option (Int32 × Wd)} (s : Sm KN w w2) (e : ∀ i, i ≠ 11 → i ≠ 12 → i ≠ 15 → i ≠ 16 → gI w2 141 i = gI w 141 i) {w5 : Wd} (k : WX w2 w5 q) (h : M = some (gI w5 141 11, uI w5 141 12 (jI 0))) : ∃ w6, M = some (jI q.1, w6) ∧ Sm KV w w6 ∧ (∀ i, i ≠ 11 → i ≠ 12 → i ≠ 15 → i ≠ 16 → gI w6 141 i = gI w 141 i) ∧ gI w6 141 12 = jI 0 ∧ RX w6 q := by
  obtain ⟨k1, k2, k3, k4⟩ := k
  refine ⟨uI w5 141 12 (jI 0), by rw [h, k3], ((s.mono (fun k hk => Or.inl hk)).tr (k1.mono (fun k hk => by show KN k ∨ k = 147; unfold KW at hk; unfold KN; omega))).tr (Sm.wI _ (Or.inl (Or.inl rfl))), fun i a b c d => by rw [gI_uI, if_neg (fun z => b z.2), k2 i a, e i a b c d], by rw [gI_uI, if_pos ⟨rfl, rfl⟩], by rw [gI_uI, if_neg (by omega)]; exact k3, fun i i0 i1 => by rw [gI_uI, if_neg (by omega)]; exact k4 i i0 i1⟩
theorem lw_renderTrain {w : Wd} (h : Inv w) (x1 x2 x3 : Int32) : ∃ w1, f_law_2907 w x1 x2 x3 = some w1 ∧ Inv w1 := by
  obtain ⟨T, hG, hC, hR⟩ := h
  obtain ⟨x, rfl, xb1, xb2⟩ := jI_ex x1
  have hS := hG.1
  have hg := hS.1
  have c1 := hC.1
  have ho := hG.2.2.2.2.2.2.2.2.2
  have hO := hC.2.2.2.2.2.2.2.2
  unfold f_law_2907
  by_cases q : 0 ≤ x ∧ x < tS T 0
  · have hb := tu_b hS q.1 q.2
    refine lawT (q := tt (tS T) (TU (tS T) x) 10) hG hC hR ((tt_g _ _ 10 (by omega)).le (by omega)) ?_ (fun w' hR' => ?_)
    · obtain ⟨w2, m, e2, s2, t2, c2⟩ := s_trace hS c1 q.1 q.2
      obtain ⟨w3, e3, s3, o3⟩ := t_c0 (hO.kept (s2.1 139 (by unfold KT; omega)).1 (s2.1 140 (by unfold KT; omega)).1 (s2.2.2 (by unfold KT; omega))) ho.1.1 ho.1.2
      obtain ⟨w4, e4, s4, o4⟩ := t_cLoop hS hb (tS T 0).toNat 0 11 w3 (by omega) (by omega) (c2.ko s3) (t2.ko s3) o3
      have e4 : p_X10_renderTrain_27 11 (0 : Int32) w3 = some (.inl (jI (tS T 0), w4)) := e4
      have ee : tt (tS T) (TU (tS T) x) (tS T 0).toNat = tt (tS T) (TU (tS T) x) 10 := by
        have k := tt_out (S := tS T) (u := TU (tS T) x) (m := (tS T 0).toNat) (fun y y0 y1 y2 => tu_out hS q.1 q.2 y y0 y1 (by omega)) (10 - (tS T 0).toNat) (by omega)
        rw [show (tS T 0).toNat + (10 - (tS T 0).toNat) = 10 by omega] at k
        exact k.symm
      rw [ee] at o4
      have tg := tt_g (tS T) (TU (tS T) x) 10 (by omega)
      have tb := tg.1
      refine ⟨w4, ?_, ((s2.mono (fun k hk => Or.inl (KT_Y hk))).tr (s3.mono (fun k hk => Or.inr hk))).tr (s4.mono (fun k hk => Or.inr hk)), o4⟩
      unfold f_L_renderTrain f_X10_renderTrain
      rw [cg_T c1 hS q, bs_p, zr_p, e2, bs_p, e3, bs_p, e4, bs_p, zl_p, u2_p, t_len o4, bs_p, bs_p, u2_p, zr_p, if_pos (show inR (0 : Int32) 1 = true by decide +kernel), wl_p, jI_toL (by omega) (by omega)]
      rfl
    · obtain ⟨w2, e2, s2, t2, r2⟩ := s_rTurns hS hR'.1 q.1 q.2
      have k0 : WX w2 (uI w2 141 11 (0 : Int32)) tx0 := t_r0
      obtain ⟨w5, e5, k5⟩ := t_rLoop hS 10 0 2000 (uI w2 141 11 (0 : Int32)) (by omega) (by omega) (r2.kw k0.1) (t2.kw k0.1) k0.rx
      have e5 : p_X11_renderTrain_26 2000 (0 : Int32) (uI w2 141 11 (0 : Int32)) = some (.inl (jI 10, w5)) := e5
      refine lawT_R (s2.mono fun _ => KU_N) (fun i _ _ _ _ => s2.iK (by unfold KU; omega) i) (k0.tr k5) ?_
      unfold f_X11_renderTrain
      rw [s_rIsGear hR'.1 hS xb1 xb2, bs_p, if_neg (bz_n q), e2, bs_p, wl_p, e5, bs_p, zl_p, u2_p, s_done]
      rfl
  · refine lawQI (c := 1) (v := 0) hG hC hR (by decide) (by decide) ⟨by decide, by decide⟩ ?_ (fun w' hR' => ?_)
    · refine LQ.err (Sm.refl w) (by decide) ?_
      unfold f_L_renderTrain f_X10_renderTrain
      rw [cg_F c1 hS xb1 xb2 q]
      rfl
    · refine RQ.err (Sm.refl w') rfl (by decide) ?_
      unfold f_X11_renderTrain
      rw [s_rIsGear hR'.1 hS xb1 xb2, bs_p, if_pos (bz_z q), s_fails]
      rfl
