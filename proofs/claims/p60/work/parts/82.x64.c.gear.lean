/-! A GEAR, shown -/
def gtS (S : Ab) (x : Int) (p : Tx) : Tx := if 0 < S (26 + x) then txI (S (46 + x)) 45 (txN (S (26 + x)) (tx1 47 (txN (S (36 + x)) (tx1 115 p)))) else p
def gtR (S : Ab) (x : Int) (p : Tx) : Tx := gtS S x (txI (S (56 + x)) 114 p)
def gtD (S : Ab) (x : Int) (p : Tx) : Tx := gtR S x (txI (if S (66 + x) = 0 then 1 else 0) 100 p)
def gt (S : Ab) (x : Int) : Tx := gtD S x (txN (S (6 + x)) (tx1 58 (txN x tx0)))
def gK2 (w : Wd) (x1 : Int32) : Option ((Nat ⊕ Int32) × Wd) := ((f_X7_hasSpring w x1).bind fun r53 => (if r53 = 0 then ((f_J4_length_8abf5 w).bind fun r56 => (some ((.inr r56), w))) else ((f_J4_append_cf468 w (115 : Int32)).bind fun w59 => (if inR x1 10 then ((f_J4_append_bf812 w59 (gI w59 8 (x1).toNatClampNeg)).bind fun w63 => ((f_J4_append_cf468 w63 (47 : Int32)).bind fun w66 => (if inR x1 10 then ((f_J4_append_bf812 w66 (gI w66 7 (x1).toNatClampNeg)).bind fun w70 => (if inR x1 10 then (if (gI w70 9 (x1).toNatClampNeg) = 0 then ((f_J4_length_8abf5 w70).bind fun r74 => (some ((.inr r74), w70))) else ((f_J4_append_cf468 w70 (45 : Int32)).bind fun w77 => ((f_J4_length_8abf5 w77).bind fun r79 => (some ((.inr r79), w77))))) else none)) else none))) else none))))
def gK1 (w : Wd) (x1 : Int32) : Option ((Nat ⊕ Int32) × Wd) := (if inR x1 10 then (if (gI w 6 (x1).toNatClampNeg) = 0 then gK2 w x1 else ((f_J4_append_cf468 w (114 : Int32)).bind fun w115 => gK2 w115 x1)) else none)
def gK0 (w : Wd) (x1 : Int32) : Option ((Nat ⊕ Int32) × Wd) := (if inR x1 10 then (if (gI w 4 (x1).toNatClampNeg) = 0 then ((f_J4_append_cf468 w (100 : Int32)).bind fun w82 => gK1 w82 x1) else gK1 w x1) else none)
section
variable {S : Ab} {x : Int} {w : Wd} {p : Tx}
theorem g_K2 (hG : Good S) (x0 : 0 ≤ x) (x1 : x < 10) (hS : CSt w 1 S) (h : OX w p) (g : TG 7 p) : ∃ w', gK2 w (jI x) = some (.inr (jI (gtS S x p).1), w') ∧ Sm KO w w' ∧ OX w' (gtS S x p) ∧ TG 16 (gtS S x p) := by
  have gg := hG.2.1 x x0 x1
  obtain ⟨-, -, -, -, -, -, b46, b26, b36⟩ := gg
  have ir : inR (jI x) 10 = true := by rw [inR_j (by omega) (by omega)]; omega
  unfold gK2 gtS
  rw [s_hasSpring hS hG x0 x1, bs_p]
  by_cases q : 0 < S (26 + x)
  · obtain ⟨w1, a1, s1, h1⟩ := t_c1 h g (by omega) (c := 115) (by omega) (by omega)
    have g1 := g.x1 (c := 115) (by omega) (by omega)
    obtain ⟨w2, a2, s2, h2⟩ := t_cN h1 g1 (by omega) (v := S (36 + x)) (by omega) (by omega)
    have g2 := (g1.xN (v := S (36 + x)) (by omega) (by omega)).le (l := 11) (by have := nd_b (S (36 + x)); omega)
    obtain ⟨w3, a3, s3, h3⟩ := t_c1 h2 g2 (by omega) (c := 47) (by omega) (by omega)
    have g3 := g2.x1 (c := 47) (by omega) (by omega)
    obtain ⟨w4, a4, s4, h4⟩ := t_cN h3 g3 (by omega) (v := S (26 + x)) (by omega) (by omega)
    have g4 := (g3.xN (v := S (26 + x)) (by omega) (by omega)).le (l := 15) (by have := nd_b (S (26 + x)); omega)
    rw [if_neg (bz_n q), if_pos q, l32_115, a1, bs_p, if_pos ir, jI_clamp (by omega) (by omega), c_n (hS.ko s1) x x0 x1, a2, bs_p, l32_47, a3, bs_p, if_pos ir, c_s (hS.ko ((s1.tr s2).tr s3)) x x0 x1, a4, bs_p, if_pos ir, c_v (hS.ko (((s1.tr s2).tr s3).tr s4)) x x0 x1]
    rcases b46 with y | y
    · rw [y, if_pos (show jI 0 = 0 from rfl), t_len h4, bs_p]
      exact ⟨w4, rfl, ((s1.tr s2).tr s3).tr s4, h4, g4.le (by omega)⟩
    · obtain ⟨w5, a5, s5, h5⟩ := t_c1 h4 g4 (by omega) (c := 45) (by omega) (by omega)
      rw [y, if_neg (show ¬ jI 1 = 0 by decide +kernel), l32_45, a5, bs_p, t_len h5, bs_p]
      exact ⟨w5, rfl, (((s1.tr s2).tr s3).tr s4).tr s5, h5, g4.x1 (by omega) (by omega)⟩
  · rw [if_pos (bz_z q), if_neg q, t_len h, bs_p]
    exact ⟨w, rfl, Sm.refl w, h, g.le (by omega)⟩
theorem g_K1 (hG : Good S) (x0 : 0 ≤ x) (x1 : x < 10) (hS : CSt w 1 S) (h : OX w p) (g : TG 6 p) : ∃ w', gK1 w (jI x) = some (.inr (jI (gtR S x p).1), w') ∧ Sm KO w w' ∧ OX w' (gtR S x p) ∧ TG 16 (gtR S x p) := by
  obtain ⟨-, -, -, -, -, b56, -⟩ := hG.2.1 x x0 x1
  have ir : inR (jI x) 10 = true := by rw [inR_j (by omega) (by omega)]; omega
  unfold gK1 gtR
  rw [if_pos ir, jI_clamp (by omega) (by omega), c_r hS x x0 x1]
  rcases b56 with y | y
  · rw [y, if_pos (show jI 0 = 0 from rfl)]
    exact g_K2 hG x0 x1 hS h (g.le (by omega))
  · obtain ⟨w1, a1, s1, h1⟩ := t_c1 h g (by omega) (c := 114) (by omega) (by omega)
    rw [y, if_neg (show ¬ jI 1 = 0 by decide +kernel), l32_114, a1, bs_p]
    obtain ⟨w2, a2, s2, h2⟩ := g_K2 hG x0 x1 (hS.ko s1) h1 (g.x1 (by omega) (by omega))
    exact ⟨w2, a2, s1.tr s2, h2⟩
theorem g_K0 (hG : Good S) (x0 : 0 ≤ x) (x1 : x < 10) (hS : CSt w 1 S) (h : OX w p) (g : TG 5 p) : ∃ w', gK0 w (jI x) = some (.inr (jI (gtD S x p).1), w') ∧ Sm KO w w' ∧ OX w' (gtD S x p) ∧ TG 16 (gtD S x p) := by
  obtain ⟨-, -, -, b66, -⟩ := hG.2.1 x x0 x1
  have ir : inR (jI x) 10 = true := by rw [inR_j (by omega) (by omega)]; omega
  unfold gK0 gtD
  rw [if_pos ir, jI_clamp (by omega) (by omega), c_o hS x x0 x1]
  rcases b66 with y | y
  · obtain ⟨w1, a1, s1, h1⟩ := t_c1 h g (by omega) (c := 100) (by omega) (by omega)
    rw [y, if_pos (show jI 0 = 0 from rfl), if_pos rfl, l32_100, a1, bs_p]
    obtain ⟨w2, a2, s2, h2⟩ := g_K1 hG x0 x1 (hS.ko s1) h1 (g.x1 (by omega) (by omega))
    exact ⟨w2, a2, s1.tr s2, h2⟩
  · rw [y, if_neg (show ¬ jI 1 = 0 by decide +kernel), if_neg (by decide)]
    exact g_K1 hG x0 x1 hS h (g.le (by omega))
end
/-! .. the reference's -/
def gR2 (w : Wd) (x1 : Int32) : Option (Int32 × Wd) := ((f_X11_hasSpring w x1).bind fun r116 => (if r116 = 0 then ((f_X11_done w (gI w 141 11)).bind fun z => u2 z fun r119 w120 => (some (r119, w120))) else ((f_X11_writes w (115 : Int32)).bind fun w124 => ((f_X11_at w124 ((36 : Int32) + x1)).bind fun r126 => ((f_X11_writesNumber w124 r126).bind fun w129 => ((f_X11_writes w129 (47 : Int32)).bind fun w132 => ((f_X11_at w132 ((26 : Int32) + x1)).bind fun r134 => ((f_X11_writesNumber w132 r134).bind fun w137 => (if inR ((46 : Int32) + x1) 192 then (if (gL w137 142 (((46 : Int32) + x1)).toNatClampNeg) = (1 : Int64) then ((f_X11_writesIf w137 (1 : Int32) (45 : Int32)).bind fun w149 => ((f_X11_done w149 (gI w149 141 11)).bind fun z => u2 z fun r151 w152 => (some (r151, w152)))) else ((f_X11_writesIf w137 (0 : Int32) (45 : Int32)).bind fun w142 => ((f_X11_done w142 (gI w142 141 11)).bind fun z => u2 z fun r144 w145 => (some (r144, w145))))) else none)))))))))
def gR1 (w : Wd) (x1 : Int32) : Option (Int32 × Wd) := (if inR ((56 : Int32) + x1) 192 then (if (gL w 142 (((56 : Int32) + x1)).toNatClampNeg) = (1 : Int64) then ((f_X11_writesIf w (1 : Int32) (114 : Int32)).bind fun w156 => gR2 w156 x1) else ((f_X11_writesIf w (0 : Int32) (114 : Int32)).bind fun w114 => gR2 w114 x1)) else none)
def gR0 (w : Wd) (x1 : Int32) : Option (Int32 × Wd) := (if inR ((66 : Int32) + x1) 192 then (if (gL w 142 (((66 : Int32) + x1)).toNatClampNeg) = (0 : Int64) then ((f_X11_writesIf w (1 : Int32) (100 : Int32)).bind fun w109 => gR1 w109 x1) else ((f_X11_writesIf w (0 : Int32) (100 : Int32)).bind fun w20 => gR1 w20 x1)) else none)
section
variable {S : Ab} {x : Int} {w : Wd} {p : Tx}
theorem g_R2 (hG : Good S) (x0 : 0 ≤ x) (x1 : x < 10) (hS : RSt w 142 0 S) (h : RX w p) (g : TG 7 p) : ∃ w', gR2 w (jI x) = some (gI w' 141 11, uI w' 141 12 (jI 0)) ∧ WX w w' (gtS S x p) := by
  obtain ⟨-, -, -, -, -, -, b46, b26, b36⟩ := hG.2.1 x x0 x1
  unfold gR2 gtS
  rw [s_rHasSpring hS hG x0 x1, bs_p]
  by_cases q : 0 < S (26 + x)
  · obtain ⟨w1, a1, h1⟩ := t_r1 h g (by omega) (c := 115) (by omega) (by omega)
    have g1 := g.x1 (c := 115) (by omega) (by omega)
    obtain ⟨w2, a2, h2⟩ := t_rN h1.rx g1 (by omega) (v := S (36 + x)) (by omega) (by omega)
    have g2 := (g1.xN (v := S (36 + x)) (by omega) (by omega)).le (l := 11) (by have := nd_b (S (36 + x)); omega)
    obtain ⟨w3, a3, h3⟩ := t_r1 h2.rx g2 (by omega) (c := 47) (by omega) (by omega)
    have g3 := g2.x1 (c := 47) (by omega) (by omega)
    obtain ⟨w4, a4, h4⟩ := t_rN h3.rx g3 (by omega) (v := S (26 + x)) (by omega) (by omega)
    have g4 := (g3.xN (v := S (26 + x)) (by omega) (by omega)).le (l := 15) (by have := nd_b (S (26 + x)); omega)
    obtain ⟨w5, a5, h5⟩ := t_rI h4.rx g4 (by omega) (b := S (46 + x)) (c := 45) b46 (by omega) (by omega)
    have S1 := hS.kw h1.1
    have S3 := (S1.kw h2.1).kw h3.1
    have S4 := S3.kw h4.1
    rw [if_neg (bz_n q), if_pos q, l32_115, a1, bs_p, l32_36, jI_add, s_at S1 (by omega) (by omega), bs_p, a2, bs_p, l32_47, a3, bs_p, l32_26, jI_add, s_at S3 (by omega) (by omega), bs_p, a4, bs_p, l32_46, jI_add, if_pos (by rw [inR_j (by omega) (by omega)]; omega), jI_clamp (by omega) (by omega), r_g S4 _ (by omega) (by omega)]
    refine ⟨w5, ?_, (((h1.tr h2).tr h3).tr h4).tr h5⟩
    rcases b46 with y | y
    · rw [y] at a5 ⊢
      rw [if_neg (show ¬ jL 0 = 1 by decide +kernel)]
      show ((f_X11_writesIf w4 (jI 0) (jI 45)).bind _) = _
      rw [a5, bs_p, s_done]
      rfl
    · rw [y] at a5 ⊢
      rw [if_pos (show jL 1 = 1 from rfl)]
      show ((f_X11_writesIf w4 (jI 1) (jI 45)).bind _) = _
      rw [a5, bs_p, s_done]
      rfl
  · rw [if_pos (bz_z q), if_neg q, s_done]
    exact ⟨w, rfl, WX.refl h⟩
theorem g_R1 (hG : Good S) (x0 : 0 ≤ x) (x1 : x < 10) (hS : RSt w 142 0 S) (h : RX w p) (g : TG 6 p) : ∃ w', gR1 w (jI x) = some (gI w' 141 11, uI w' 141 12 (jI 0)) ∧ WX w w' (gtR S x p) := by
  obtain ⟨-, -, -, -, -, b56, -⟩ := hG.2.1 x x0 x1
  obtain ⟨w1, a1, h1⟩ := t_rI h g (by omega) (b := S (56 + x)) (c := 114) b56 (by omega) (by omega)
  obtain ⟨w2, a2, h2⟩ := g_R2 hG x0 x1 (hS.kw h1.1) h1.rx (g.xI (by omega) (by omega))
  refine ⟨w2, ?_, h1.tr h2⟩
  unfold gR1
  rw [l32_56, jI_add, if_pos (by rw [inR_j (by omega) (by omega)]; omega), jI_clamp (by omega) (by omega), r_g hS _ (by omega) (by omega)]
  rcases b56 with y | y
  · rw [y] at a1 ⊢
    rw [if_neg (show ¬ jL 0 = 1 by decide +kernel)]
    show ((f_X11_writesIf w (jI 0) (jI 114)).bind _) = _
    rw [a1, bs_p]
    exact a2
  · rw [y] at a1 ⊢
    rw [if_pos (show jL 1 = 1 from rfl)]
    show ((f_X11_writesIf w (jI 1) (jI 114)).bind _) = _
    rw [a1, bs_p]
    exact a2
theorem g_R0 (hG : Good S) (x0 : 0 ≤ x) (x1 : x < 10) (hS : RSt w 142 0 S) (h : RX w p) (g : TG 5 p) : ∃ w', gR0 w (jI x) = some (gI w' 141 11, uI w' 141 12 (jI 0)) ∧ WX w w' (gtD S x p) := by
  obtain ⟨-, -, -, b66, -⟩ := hG.2.1 x x0 x1
  obtain ⟨w1, a1, h1⟩ := t_rI h g (by omega) (b := if S (66 + x) = 0 then 1 else 0) (c := 100) (by split; exact Or.inr rfl; exact Or.inl rfl) (by omega) (by omega)
  obtain ⟨w2, a2, h2⟩ := g_R1 hG x0 x1 (hS.kw h1.1) h1.rx (g.xI (by omega) (by omega))
  refine ⟨w2, ?_, h1.tr h2⟩
  unfold gR0
  rw [l32_66, jI_add, if_pos (by rw [inR_j (by omega) (by omega)]; omega), jI_clamp (by omega) (by omega), r_g hS _ (by omega) (by omega)]
  rcases b66 with y | y
  · rw [y] at a1 ⊢
    rw [if_pos (show jL 0 = 0 from rfl)]
    show ((f_X11_writesIf w (jI 1) (jI 100)).bind _) = _
    rw [if_pos rfl] at a1
    rw [a1, bs_p]
    exact a2
  · rw [y] at a1 ⊢
    rw [if_neg (show ¬ jL 1 = 0 by decide +kernel)]
    show ((f_X11_writesIf w (jI 0) (jI 100)).bind _) = _
    rw [if_neg (by decide)] at a1
    rw [a1, bs_p]
    exact a2
end
theorem lw_renderGear {w : Wd} (h : Inv w) (x1 x2 x3 : Int32) : ∃ w1, f_law_2851 w x1 x2 x3 = some w1 ∧ Inv w1 := by
  obtain ⟨T, hG, hC, hR⟩ := h
  obtain ⟨x, rfl, xb1, xb2⟩ := jI_ex x1
  have hS := hG.1
  have hg := hS.1
  have c1 := hC.1
  have ho := hG.2.2.2.2.2.2.2.2.2
  have hO := hC.2.2.2.2.2.2.2.2
  unfold f_law_2851
  by_cases q : 0 ≤ x ∧ x < tS T 0
  · have x10 : x < 10 := by omega
    have tb := tooth_b ((hS.2.1 x q.1 x10).1 q.2)
    have n1 : nd x = 1 := if_pos (by omega)
    have g1 : TG 1 (txN x tx0) := by
      have k := TG.x0.xN (v := x) (by omega) (by omega)
      rw [n1] at k
      exact k
    have g2 := g1.x1 (c := 58) (by omega) (by omega)
    have g3 := (g2.xN (v := tS T (6 + x)) (by omega) (by omega)).le (l := 5) (by have := nd_b (tS T (6 + x)); omega)
    obtain ⟨w2, e2, s2, o2⟩ := t_c0 hO ho.1.1 ho.1.2
    obtain ⟨w3, e3, s3, o3⟩ := t_cN o2 TG.x0 (by omega) (v := x) (by omega) (by omega)
    obtain ⟨w4, e4, s4, o4⟩ := t_c1 o3 g1 (by omega) (c := 58) (by omega) (by omega)
    have C4 := c1.ko ((s2.tr s3).tr s4)
    obtain ⟨w5, e5, s5, o5⟩ := t_cN o4 g2 (by omega) (v := tS T (6 + x)) (by omega) (by omega)
    obtain ⟨w6, e6, s6, o6, g6⟩ := g_K0 hS q.1 x10 (C4.ko s5) o5 g3
    have tb := g6.1
    refine lawT (q := gt (tS T) x) hG hC hR (g6.le (by omega)) ?_ (fun w' hR' => ?_)
    · refine ⟨w6, ?_, (((((s2.tr s3).tr s4).tr s5).tr s6).mono (fun k hk => Or.inr hk)), o6⟩
      have A : f_X10_renderGear w (jI x) = gK0 w5 (jI x) := by
        unfold f_X10_renderGear
        rw [cg_T c1 hS q, bs_p, zr_p, e2, bs_p, e3, bs_p, l32_58, e4, bs_p, if_pos (by rw [inR_j (by omega) (by omega)]; omega), jI_clamp (by omega) (by omega), c_t C4 x q.1 x10, e5, bs_p, ← jI_clamp (z := x) (by omega) (by omega)]
        rfl
      unfold f_L_renderGear
      rw [A, e6, bs_p, u2_p, zr_p, if_pos (show inR (0 : Int32) 1 = true by decide +kernel), wl_p, jI_toL (show -2147483648 ≤ (gtD (tS T) x (txN (tS T (6 + x)) (tx1 58 (txN x tx0)))).1 by omega) (by omega)]
      rfl
    · have k0 : WX w' (uI w' 141 11 (0 : Int32)) tx0 := t_r0
      obtain ⟨v3, e3, k3⟩ := t_rN k0.rx TG.x0 (by omega) (v := x) (by omega) (by omega)
      obtain ⟨v4, e4, k4⟩ := t_r1 k3.rx g1 (by omega) (c := 58) (by omega) (by omega)
      have R4 := hR'.1.kw ((k0.tr k3).tr k4).1
      obtain ⟨v5, e5, k5⟩ := t_rN k4.rx g2 (by omega) (v := tS T (6 + x)) (by omega) (by omega)
      obtain ⟨v6, e6, k6⟩ := g_R0 hS q.1 x10 (R4.kw k5.1) k5.rx g3
      refine lawT_R (Sm.refl w') (fun i _ _ _ _ => rfl) ((((k0.tr k3).tr k4).tr k5).tr k6) ?_
      rw [← e6]
      unfold f_X11_renderGear
      rw [s_rIsGear hR'.1 hS xb1 xb2, bs_p, if_neg (bz_n q), wl_p, e3, bs_p, l32_58, e4, bs_p, l32_6, jI_add, s_at R4 (by omega) (by omega), bs_p, e5, bs_p]
      rfl
  · refine lawQI (c := 1) (v := 0) hG hC hR (by decide) (by decide) ⟨by decide, by decide⟩ ?_ (fun w' hR' => ?_)
    · refine LQ.err (Sm.refl w) (by decide) ?_
      unfold f_L_renderGear f_X10_renderGear
      rw [cg_F c1 hS xb1 xb2 q]
      rfl
    · refine RQ.err (Sm.refl w') rfl (by decide) ?_
      unfold f_X11_renderGear
      rw [s_rIsGear hR'.1 hS xb1 xb2, bs_p, if_pos (bz_z q), s_fails]
      rfl
