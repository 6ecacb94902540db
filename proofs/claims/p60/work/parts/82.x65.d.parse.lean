/-! THE SEQUENCE of commands: where each begins; whether there is another behind it -/
def stt (h : Int → Int) : Nat → Int
  | 0 => 0
  | k + 1 => (cQ h (stt h k)).1 + 1
theorem stt_s (h : Int → Int) (k : Nat) : stt h (k + 1) = (cQ h (stt h k)).1 + 1 := rfl
def gon (h : Int → Int) (k : Nat) : Prop := (cQ h (stt h k)).2 = 0 ∧ h (cQ h (stt h k)).1 = 59
def Mw (C : Int) (q r : Int × Int) : Prop := q.1 ≤ r.1 ∧ r.1 ≤ C ∧ (r.2 = 0 ∨ r.2 = 1) ∧ (r.2 = 0 → q.2 = 0)
def Mv (C : Int) (q r : Int × Int) : Prop := Mw C q r ∧ (r.2 = 0 → q.1 < r.1)
theorem Mw.tr {C : Int} {q r s : Int × Int} (h : Mw C q r) (k : Mw C r s) : Mw C q s := ⟨Int.le_trans h.1 k.1, k.2.1, k.2.2.1, fun z => h.2.2.2 (k.2.2.2 z)⟩
theorem Mv.tr {C : Int} {q r s : Int × Int} (h : Mv C q r) (k : Mv C r s) : Mv C q s := ⟨h.1.tr k.1, fun z => by have a := k.2 z; have b := h.1.1; omega⟩
theorem Mw.mv {C : Int} {q r s : Int × Int} (h : Mw C q r) (k : Mv C r s) : Mv C q s := ⟨h.tr k.1, fun z => by have a := k.2 z; have b := h.1; omega⟩
section
variable {X : Int → Int} {C : Int} {q : Int × Int}
theorem mv_n (hB : TXb X C) (q0 : 0 ≤ q.1) (q1 : q.1 ≤ C) {c : Int} (c0 : 0 ≤ c) : Mv C q (nst (hr X C) c q) := by
  unfold nst
  split
  · rename_i z
    have k := hr_b hB q0
    refine ⟨⟨?_, ?_, Or.inl rfl, fun _ => z.1⟩, fun _ => ?_⟩
    · show q.1 ≤ q.1 + 1; omega
    · show q.1 + 1 ≤ C; omega
    · show q.1 < q.1 + 1; omega
  · refine ⟨⟨Int.le_refl _, q1, Or.inr rfl, fun z => absurd z (show ¬ (1 : Int) = 0 by decide)⟩, fun z => absurd z (show ¬ (1 : Int) = 0 by decide)⟩
theorem mv_d (hB : TXb X C) (q0 : 0 ≤ q.1) (q1 : q.1 ≤ C) (L : Nat) : Mv C q (dst L (hr X C) q) := by
  unfold dst
  split
  · rename_i z
    have k := dc_C hB L q.1 q0 q1
    have z2 := z.2
    refine ⟨⟨?_, k, Or.inl rfl, fun _ => z.1⟩, fun _ => ?_⟩
    · show q.1 ≤ q.1 + (dc L (hr X C) q.1 : Nat); omega
    · show q.1 < q.1 + (dc L (hr X C) q.1 : Nat); omega
  · refine ⟨⟨Int.le_refl _, q1, Or.inr rfl, fun z => absurd z (show ¬ (1 : Int) = 0 by decide)⟩, fun z => absurd z (show ¬ (1 : Int) = 0 by decide)⟩
theorem mw_f (hB : TXb X C) : ∀ (l : List Int) (q : Int × Int), 0 ≤ q.1 → q.1 ≤ C → (q.2 = 0 ∨ q.2 = 1) → (∀ c ∈ l, 0 ≤ c) → Mw C q (nf (hr X C) l q) := by
  intro l
  induction l with
  | nil => exact fun q q0 q1 q2 _ => ⟨Int.le_refl _, q1, q2, fun z => z⟩
  | cons c l ih =>
    intro q q0 q1 q2 hc
    have a := mv_n hB q0 q1 (hc c (List.mem_cons_self ..))
    have a1 := a.1.1
    exact a.1.tr (ih _ (by omega) a.1.2.1 a.1.2.2.1 (fun d hd => hc d (List.mem_cons_of_mem _ hd)))
theorem mv_p (hB : TXb X C) (q0 : 0 ≤ q.1) (q1 : q.1 ≤ C) (s : Nat) : Mv C q (pcQ s (hr X C) q) := by
  have a := mv_d hB q0 q1 1
  have a1 := a.1.1
  have a2 := a.1.2.1
  unfold pcQ
  split
  · exact mv_d hB q0 q1 3
  · split
    · exact a
    · split
      · exact a.tr (mv_d hB (by omega) a2 1)
      · have b := a.tr (mv_n hB (by omega) a2 (c := 32) (by decide))
        have b1 := b.1.1
        exact b.tr (mv_d hB (by omega) b.1.2.1 3)
theorem Wi_pos {i : Nat} (hi : i < 13) : ∀ c ∈ Wi i, 0 ≤ c := by
  have al := List.all_eq_true.mp (show (List.range 13).all (fun i => (Wi i).all (fun c => decide (0 ≤ c))) = true by decide +kernel) _ (List.mem_range.mpr hi)
  exact fun c hc => of_decide_eq_true (List.all_eq_true.mp al c hc)
theorem mv_Q (hB : TXb X C) {p : Int} (p0 : 0 ≤ p) (p1 : p ≤ C) : Mv C (p, 0) (cQ (hr X C) p) := by
  have a := mw_f hB (Wi (cv (hr X C) p)) (p, 0) p0 p1 (Or.inl rfl) (Wi_pos (cv_lt _ p))
  have a1 : p ≤ _ := a.1
  exact a.mv (mv_p hB (Int.le_trans p0 a1) a.2.1 _)
theorem stt_b (hB : TXb X C) : ∀ k : Nat, (∀ j, j < k → gon (hr X C) j) → 2 * (k : Int) ≤ stt (hr X C) k ∧ stt (hr X C) k ≤ C := by
  intro k
  induction k with
  | zero => exact fun _ => ⟨by show 2 * ((0 : Nat) : Int) ≤ 0; omega, hB.1.1⟩
  | succ k ih =>
    intro hg
    have i := ih (fun j hj => hg j (by omega))
    have g := hg k (by omega)
    have m := mv_Q hB (p := stt (hr X C) k) (by omega) i.2
    have m1 : stt (hr X C) k < _ := m.2 g.1
    have m2 := hr_b hB (p := (cQ (hr X C) (stt (hr X C) k)).1) (by omega)
    have g2 := g.2
    rw [stt_s]
    omega
theorem gon_end (hB : TXb X C) : ∃ K : Nat, K ≤ 30 ∧ (∀ j, j < K → gon (hr X C) j) ∧ ¬ gon (hr X C) K := by
  have A : ∀ n : Nat, (∀ j, j < n → gon (hr X C) j) ∨ ∃ K, K < n ∧ (∀ j, j < K → gon (hr X C) j) ∧ ¬ gon (hr X C) K := by
    intro n
    induction n with
    | zero => exact Or.inl (fun j hj => absurd hj (Nat.not_lt_zero j))
    | succ n ih =>
      rcases ih with ih | ⟨K, k1, k2⟩
      · rcases Classical.em (gon (hr X C) n) with g | g
        · refine Or.inl (fun j hj => ?_)
          by_cases e : j = n
          · rw [e]; exact g
          · exact ih j (by omega)
        · exact Or.inr ⟨n, by omega, ih, g⟩
      · exact Or.inr ⟨K, by omega, k2⟩
  rcases A 31 with a | ⟨K, k1, k2⟩
  · have b := stt_b hB 31 a
    have c := hB.1
    omega
  · exact ⟨K, by omega, k2⟩
end
/-! THE CLASS's loop over the commands -/
def CL (w : Wd) (h : Int → Int) (k : Nat) : Prop := ∀ j, j < k → gV w j = some (cv h (stt h j)) ∧ gI w 137 j = jI (cA h (stt h j)) ∧ gI w 138 j = jI (cB h (stt h j))
def PF (w w' : Wd) : Prop := Sm KP w w' ∧ ∀ i, i ≠ 2 → i ≠ 6 → i ≠ 7 → gI w' 134 i = gI w 134 i
theorem PF.tr {w w1 w2 : Wd} (h : PF w w1) (k : PF w1 w2) : PF w w2 := ⟨h.1.tr k.1, fun i a b c => (k.2 i a b c).trans (h.2 i a b c)⟩
theorem CF.pf {k : Nat} {w w' : Wd} (h : CF k w w') : PF w w' := ⟨h.1, fun i a _ c => h.2.1 i a c⟩
theorem PF.w6 (w : Wd) (v : Int32) : PF w (uI w 134 6 v) := ⟨Sm.wI w (Or.inl rfl), fun i _ b _ => by rw [gI_uI, if_neg (fun z => b z.2)]⟩
theorem PF.w2 (w : Wd) (v : Int32) : PF w (uI w 134 2 v) := ⟨Sm.wI w (Or.inl rfl), fun i b _ _ => by rw [gI_uI, if_neg (fun z => b z.2)]⟩
theorem CTx.pf {w w' : Wd} {X : Int → Int} {C : Int} (h : CTx w X C) (g : PF w w') : CTx w' X C :=
  ⟨by rw [g.2 1 (by decide) (by decide) (by decide)]; exact h.1, fun i a b => by rw [g.1.iK (by unfold KP; omega)]; exact h.2 i a b⟩
/-- the answer of the reading: -1, or the wrong place -/
def wrg (h : Int → Int) (C : Int) (K : Nat) : Int := if (cQ h (stt h K)).2 = 0 ∧ (cQ h (stt h K)).1 = C then -1 else (cQ h (stt h K)).1
section
variable {X : Int → Int} {C : Int}
theorem s_cParse (hB : TXb X C) {K : Nat} (hK : K ≤ 30) (hg : ∀ j, j < K → gon (hr X C) j) (hn : ¬ gon (hr X C) K) : ∀ (n k f : Nat) (w : Wd), k + n = K → n < f → CTx w X C → gI w 134 2 = jI (stt (hr X C) k) → gI w 134 6 = jI (k : Int) → CL w (hr X C) k →
    ∃ w', p_X6_parse_12 f (jI (k : Int)) w = some (.inr (jI (wrg (hr X C) C K), w')) ∧ PF w w' ∧ (wrg (hr X C) C K = -1 → gI w' 134 6 = jI ((K + 1 : Nat) : Int) ∧ CL w' (hr X C) (K + 1)) := by
  intro n
  induction n with
  | zero =>
    intro k f w hk hf hT hp hc hL
    obtain ⟨f, rfl⟩ : ∃ f', f = f' + 1 := ⟨f - 1, by omega⟩
    have e : k = K := by omega
    subst e
    have sb := stt_b hB k hg
    have c60 := hB.1
    obtain ⟨r, w1, a1, a2, a3, a4, a5, a6⟩ := s_cCmd hB hT hp (by omega) sb.2 (k := k) (by omega)
    have mv := (mv_Q hB (p := stt (hr X C) k) (by omega) sb.2).1
    have m1 : stt (hr X C) k ≤ _ := mv.1
    have m2 := mv.2.1
    rw [p_X6_parse_12, l32_60, if_neg (by rw [jI_le (by omega) (by omega) (by omega) (by omega)]; omega), a1, bs_p, u2_p, a3]
    rcases a4 with z | z
    · have L1 : CL (uI w1 134 6 (gI w1 134 6 + (1 : Int32))) (hr X C) (k + 1) := by
        intro j hj
        rw [gV_uI, gI_uI, if_neg (by omega), gI_uI, if_neg (by omega)]
        by_cases y : j = k
        · rw [y]
          exact a6 z
        · rw [(a2.2.2 j y).1, (a2.2.2 j y).2.1, (a2.2.2 j y).2.2]
          exact hL j (by omega)
      have e6 : gI w1 134 6 = jI (k : Int) := by rw [a2.2.1 6 (by decide) (by decide)]; exact hc
      have g6 : gI (uI w1 134 6 (gI w1 134 6 + (1 : Int32))) 134 6 = jI ((k + 1 : Nat) : Int) := by
        rw [gI_uI, if_pos ⟨rfl, rfl⟩, e6, l32_1, jI_add]
        rfl
      have T1 := (hT.cf a2).pf (PF.w6 w1 (gI w1 134 6 + (1 : Int32)))
      have P1 : gI (uI w1 134 6 (gI w1 134 6 + (1 : Int32))) 134 2 = jI (cQ (hr X C) (stt (hr X C) k)).1 := by rw [gI_uI, if_neg (by omega)]; exact a5
      have F1 := a2.pf.tr (PF.w6 w1 (gI w1 134 6 + (1 : Int32)))
      rw [z, if_neg (show ¬ jI (1 - 0) = 0 by decide +kernel), wl_p, P1, T1.1]
      by_cases y : (cQ (hr X C) (stt (hr X C) k)).1 = C
      · have ew : wrg (hr X C) C k = -1 := if_pos ⟨z, y⟩
        rw [if_pos (by rw [y]), ew]
        exact ⟨_, rfl, F1, fun _ => ⟨g6, L1⟩⟩
      · have ew : wrg (hr X C) C k = (cQ (hr X C) (stt (hr X C) k)).1 := if_neg (fun a => y a.2)
        have n59 : ¬ hr X C (cQ (hr X C) (stt (hr X C) k)).1 = 59 := fun a => hn ⟨z, a⟩
        rw [if_neg (by rw [jI_eq (by omega) (by omega) (by omega) (by omega)]; exact y), l32_59, s_sign hB T1 P1 (by omega) m2 (by omega) (by omega), if_neg n59, bs_p, u2_p, if_pos (show jI 0 = 0 from rfl), P1, ew]
        exact ⟨_, rfl, F1, fun b => by omega⟩
    · have ew : wrg (hr X C) C k = (cQ (hr X C) (stt (hr X C) k)).1 := if_neg (fun a => by have b := a.1; omega)
      rw [z, if_pos (show jI (1 - 1) = 0 from rfl), a5, ew]
      exact ⟨w1, rfl, a2.pf, fun b => by omega⟩
  | succ n ih =>
    intro k f w hk hf hT hp hc hL
    obtain ⟨f, rfl⟩ : ∃ f', f = f' + 1 := ⟨f - 1, by omega⟩
    have sb := stt_b hB k (fun j hj => hg j (by omega))
    have c60 := hB.1
    have g := hg k (by omega)
    obtain ⟨r, w1, a1, a2, a3, a4, a5, a6⟩ := s_cCmd hB hT hp (by omega) sb.2 (k := k) (by omega)
    have mv := (mv_Q hB (p := stt (hr X C) k) (by omega) sb.2).1
    have m1 : stt (hr X C) k ≤ _ := mv.1
    have m2 := mv.2.1
    have g2 := g.2
    have m3 := hr_b hB (p := (cQ (hr X C) (stt (hr X C) k)).1) (by omega)
    have z := g.1
    have L1 : CL (uI w1 134 6 (gI w1 134 6 + (1 : Int32))) (hr X C) (k + 1) := by
      intro j hj
      rw [gV_uI, gI_uI, if_neg (by omega), gI_uI, if_neg (by omega)]
      by_cases y : j = k
      · rw [y]
        exact a6 z
      · rw [(a2.2.2 j y).1, (a2.2.2 j y).2.1, (a2.2.2 j y).2.2]
        exact hL j (by omega)
    have e6 : gI w1 134 6 = jI (k : Int) := by rw [a2.2.1 6 (by decide) (by decide)]; exact hc
    have g6 : gI (uI w1 134 6 (gI w1 134 6 + (1 : Int32))) 134 6 = jI ((k + 1 : Nat) : Int) := by
      rw [gI_uI, if_pos ⟨rfl, rfl⟩, e6, l32_1, jI_add]
      rfl
    have T1 := (hT.cf a2).pf (PF.w6 w1 (gI w1 134 6 + (1 : Int32)))
    have P1 : gI (uI w1 134 6 (gI w1 134 6 + (1 : Int32))) 134 2 = jI (cQ (hr X C) (stt (hr X C) k)).1 := by rw [gI_uI, if_neg (by omega)]; exact a5
    have F1 := a2.pf.tr (PF.w6 w1 (gI w1 134 6 + (1 : Int32)))
    have e1 : jI (k : Int) + (1 : Int32) = jI ((k + 1 : Nat) : Int) := by rw [l32_1, jI_add]; rfl
    rw [p_X6_parse_12, l32_60, if_neg (by rw [jI_le (by omega) (by omega) (by omega) (by omega)]; omega), a1, bs_p, u2_p, a3, z, if_neg (show ¬ jI (1 - 0) = 0 by decide +kernel), wl_p, P1, T1.1, if_neg (by rw [jI_eq (by omega) (by omega) (by omega) (by omega)]; omega), l32_59, s_sign hB T1 P1 (by omega) m2 (by omega) (by omega), if_pos g2, bs_p, u2_p, if_neg (show ¬ jI 1 = 0 by decide +kernel), e1]
    generalize uI w1 134 6 (gI w1 134 6 + (1 : Int32)) = w2 at L1 g6 T1 P1 F1 ⊢
    have F2 := PF.w2 w2 (jI ((cQ (hr X C) (stt (hr X C) k)).1 + 1))
    obtain ⟨w', b1, b2, b3⟩ := ih (k + 1) f (uI w2 134 2 (jI ((cQ (hr X C) (stt (hr X C) k)).1 + 1))) (by omega) (by omega) (T1.pf F2) (by rw [gI_uI, if_pos ⟨rfl, rfl⟩]; rfl) (by rw [gI_uI, if_neg (by omega)]; exact g6) (fun j hj => by rw [gV_uI, gI_uI, if_neg (by omega), gI_uI, if_neg (by omega)]; exact L1 j hj)
    exact ⟨w', b1, (F1.tr F2).tr b2, b3⟩
theorem s_parse {w : Wd} (hB : TXb X C) (hT : CTx w X C) {K : Nat} (hK : K ≤ 30) (hg : ∀ j, j < K → gon (hr X C) j) (hn : ¬ gon (hr X C) K) : ∃ w', f_X6_parse w = some (jI (wrg (hr X C) C K), w') ∧ PF w w' ∧ (wrg (hr X C) C K = -1 → gI w' 134 6 = jI ((K + 1 : Nat) : Int) ∧ CL w' (hr X C) (K + 1)) := by
  have k1 := PF.w2 w (jI 0)
  have k2 := PF.w6 (uI w 134 2 (jI 0)) (jI 0)
  obtain ⟨w', a1, a2, a3⟩ := s_cParse hB hK hg hn K 0 2000 (uI (uI w 134 2 (jI 0)) 134 6 (jI 0)) (by omega) (by omega) ((hT.pf k1).pf k2) (by rw [gI_uI, if_neg (by omega), gI_uI, if_pos ⟨rfl, rfl⟩]; rfl) (by rw [gI_uI, if_pos ⟨rfl, rfl⟩]; rfl) (fun j hj => absurd hj (Nat.not_lt_zero j))
  have a1 : p_X6_parse_12 2000 (0 : Int32) (uI (uI w 134 2 (0 : Int32)) 134 6 (0 : Int32)) = _ := a1
  refine ⟨w', ?_, (k1.tr k2).tr a2, a3⟩
  unfold f_X6_parse
  rw [wl_p, wl_p, a1, bs_p, zr_p]
end
