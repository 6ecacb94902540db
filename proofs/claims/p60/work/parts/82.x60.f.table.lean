theorem s_mk20 {w : Wd} {S : Ab} (hG : Good S) (h : CSt w 1 S) {M u : Int} {D : Int → Int → Prop} (hT : TB w S M D) (M0 : 0 ≤ M) (M1 : M + S 0 ≤ 91) (u0 : 0 ≤ u ∧ u < S 0) :
    ∃ z w', p_X5_makeTable_20 (jI u) 2000 (0 : Int32) w = some (.inl (z, w')) ∧ Sm KE w w' ∧ CSt w' 1 S ∧ TB w' S (M + (S 0 - 1)) (fun x y => D x y ∨ (x = u ∧ y ≠ u ∧ 0 ≤ y ∧ y < S 0)) := by
  have hg := hG.1
  have e1 : (((S 0).toNat : Nat) : Int) = S 0 := by omega
  obtain ⟨r, hr, hP⟩ := lp (fun n (s : Int32 × Wd) => p_X5_makeTable_20 (jI u) n s.1 s.2)
    (fun i s => ∃ w', s = (jI i, w') ∧ Sm KE w w' ∧ CSt w' 1 S ∧ TB w' S (M + (if (i : Int) ≤ u then (i : Int) else (i : Int) - 1)) (fun x y => D x y ∨ (x = u ∧ y ≠ u ∧ 0 ≤ y ∧ y < i))) (S 0).toNat
    (fun r => ∃ z w', r = .inl (z, w') ∧ Sm KE w w' ∧ CSt w' 1 S ∧ TB w' S (M + (S 0 - 1)) (fun x y => D x y ∨ (x = u ∧ y ≠ u ∧ 0 ≤ y ∧ y < S 0)))
    (fun i n s hi hI => by
      obtain ⟨v, rfl, hs, hc, ht⟩ := hI
      have nx : jI (i : Int) + jI 1 = jI ((i + 1 : Nat) : Int) := by rw [jI_add]; rfl
      have st : p_X5_makeTable_20 (jI u) (n + 1) (jI (i : Int)) v = (if jI u = jI (i : Int) then (p_X5_makeTable_20 (jI u) n (jI ((i + 1 : Nat) : Int)) v) else ((f_X5_addPair v (jI u) (jI (i : Int))).bind fun w13 => (p_X5_makeTable_20 (jI u) n (jI ((i + 1 : Nat) : Int)) w13))) := by
        rw [p_X5_makeTable_20, c_g hc, if_neg (show ¬ jI (S 0) ≤ jI (i : Int) by rw [jI_le (by omega) (by omega) (by omega) (by omega)]; omega), l32_1, nx]
      by_cases q : u = (i : Int)
      · refine Or.inl ⟨(jI ((i + 1 : Nat) : Int), v), ⟨v, rfl, hs, hc, ht.congr (by split <;> split <;> omega) (fun x y => ?_)⟩, ?_⟩
        · constructor
          · rintro (c | ⟨c1, c2, c3, c4⟩)
            · exact Or.inl c
            · exact Or.inr ⟨c1, c2, c3, by omega⟩
          · rintro (c | ⟨c1, c2, c3, c4⟩)
            · exact Or.inl c
            · exact Or.inr ⟨c1, c2, c3, by omega⟩
        · show p_X5_makeTable_20 _ (n + 1) _ _ = _
          rw [st]
          exact if_pos (by rw [q])
      · obtain ⟨v', e, s', c', t'⟩ := s_addPair hG hc (l := i) ht (by split <;> omega) (by split <;> omega) u0 ⟨by omega, by omega⟩
        refine Or.inl ⟨(jI ((i + 1 : Nat) : Int), v'), ⟨v', rfl, hs.tr s', c', t'.congr (by split <;> split <;> omega) (fun x y => ?_)⟩, ?_⟩
        · constructor
          · rintro ((c | ⟨c1, c2, c3, c4⟩) | ⟨c1, c2⟩)
            · exact Or.inl c
            · exact Or.inr ⟨c1, c2, c3, by omega⟩
            · exact Or.inr ⟨c1, by omega, by omega, by omega⟩
          · rintro (c | ⟨c1, c2, c3, c4⟩)
            · exact Or.inl (Or.inl c)
            · by_cases z : y = i
              · exact Or.inr ⟨c1, z⟩
              · exact Or.inl (Or.inr ⟨c1, c2, c3, by omega⟩)
        · show p_X5_makeTable_20 _ (n + 1) _ _ = _
          rw [st, if_neg (by rw [jI_eq (by omega) (by omega) (by omega) (by omega)]; exact q), e, bs_p])
    (fun n s hI => by
      obtain ⟨v, rfl, hs, hc, ht⟩ := hI
      refine ⟨.inl (jI ((S 0).toNat : Nat), v), ?_, _, v, rfl, hs, hc, ht.congr (by rw [e1, if_neg (by omega)]) (fun x y => by rw [e1])⟩
      show p_X5_makeTable_20 _ (n + 1) _ _ = _
      rw [p_X5_makeTable_20, e1, c_g hc]
      exact if_pos (show jI (S 0) ≤ jI (S 0) by rw [jI_le (by omega) (by omega) (by omega) (by omega)]; omega)) 2000 0 (jI 0, w) (by omega) (by omega) ⟨w, rfl, Sm.refl w, h, hT.congr (by rw [if_pos (by omega)]; omega) (fun x y => ⟨fun c => Or.inl c, fun c => c.elim id (fun d => absurd d.2.2 (by omega))⟩)⟩
  obtain ⟨z, w', rfl, k⟩ := hP
  exact ⟨z, w', hr, k⟩
def DD (S : Ab) (u l : Int) : Prop := (0 ≤ u ∧ u < S 0) ∧ (0 ≤ l ∧ l < S 0) ∧ l ≠ u
theorem s_table {w : Wd} {S : Ab} (hG : Good S) (h : CSt w 1 S) : ∃ w' m, f_X5_makeTable w = some w' ∧ Sm KE w w' ∧ CSt w' 1 S ∧ TB w' S m (DD S) ∧ 0 ≤ m ∧ m ≤ 90 := by
  have hg := hG.1
  have e1 : (((S 0).toNat : Nat) : Int) = S 0 := by omega
  obtain ⟨r, hr, hP⟩ := lp (fun n (s : Int32 × Wd) => p_X5_makeTable_7 n s.1 s.2)
    (fun i s => ∃ w', s = (jI i, w') ∧ Sm KE w w' ∧ CSt w' 1 S ∧ TB w' S ((i : Int) * (S 0 - 1)) (fun x y => (0 ≤ x ∧ x < i) ∧ (0 ≤ y ∧ y < S 0) ∧ y ≠ x)) (S 0).toNat
    (fun r => ∃ z w', r = .inl (z, w') ∧ Sm KE w w' ∧ CSt w' 1 S ∧ TB w' S (S 0 * (S 0 - 1)) (DD S))
    (fun i n s hi hI => by
      obtain ⟨v, rfl, hs, hc, ht⟩ := hI
      have nx : jI (i : Int) + jI 1 = jI ((i + 1 : Nat) : Int) := by rw [jI_add]; rfl
      have mb := mulb (x := (i : Int)) (y := S 0 - 1) (a := S 0 - 1) (b := 9) (by omega) (by omega) (by omega) (by omega)
      obtain ⟨z, v', e, s', c', t'⟩ := s_mk20 hG hc ht mb.1 (by omega) (u := i) ⟨by omega, by omega⟩
      refine Or.inl ⟨(jI ((i + 1 : Nat) : Int), v'), ⟨v', rfl, hs.tr s', c', t'.congr (by rw [Int.natCast_add]; grind) (fun x y => ?_)⟩, ?_⟩
      · constructor
        · rintro (⟨c1, c2, c3⟩ | ⟨c1, c2, c3, c4⟩)
          · exact ⟨⟨c1.1, by omega⟩, c2, c3⟩
          · exact ⟨⟨by omega, by omega⟩, ⟨c3, c4⟩, by omega⟩
        · rintro ⟨c1, c2, c3⟩
          by_cases z : x = i
          · exact Or.inr ⟨z, by omega, c2.1, c2.2⟩
          · exact Or.inl ⟨⟨c1.1, by omega⟩, c2, c3⟩
      · show p_X5_makeTable_7 (n + 1) _ _ = _
        rw [p_X5_makeTable_7, c_g hc, if_neg (show ¬ jI (S 0) ≤ jI (i : Int) by rw [jI_le (by omega) (by omega) (by omega) (by omega)]; omega), e, bs_p, zl_p, u2_p, l32_1, nx])
    (fun n s hI => by
      obtain ⟨v, rfl, hs, hc, ht⟩ := hI
      refine ⟨.inl (jI ((S 0).toNat : Nat), v), ?_, _, v, rfl, hs, hc, ht.congr (by rw [e1]) (fun x y => by unfold DD; rw [e1])⟩
      show p_X5_makeTable_7 (n + 1) _ _ = _
      rw [p_X5_makeTable_7, e1, c_g hc]
      exact if_pos (show jI (S 0) ≤ jI (S 0) by rw [jI_le (by omega) (by omega) (by omega) (by omega)]; omega)) 2000 0 (jI 0, uI w 129 5 (jI 0)) (by omega) (by omega) ⟨_, rfl, Sm.wI w (by unfold KE; omega), h.kept (fun r hr => ⟨by funext j; rw [gI_uI, if_neg (by omega)], rfl⟩), by rw [gI_uI, if_pos ⟨rfl, rfl⟩, show ((0 : Nat) : Int) * (S 0 - 1) = 0 by omega], fun k k0 k1 => absurd k1 (by rw [show ((0 : Nat) : Int) * (S 0 - 1) = 0 by omega]; omega), fun x y c => absurd c.1 (by omega)⟩
  obtain ⟨z, w', rfl, k1, k2, k3⟩ := hP
  have mb : 0 ≤ S 0 * (S 0 - 1) ∧ S 0 * (S 0 - 1) ≤ 90 := by
    by_cases y : S 0 = 0
    · rw [y]; omega
    · have := mulb (x := S 0) (y := S 0 - 1) (a := 10) (b := 9) (by omega) (by omega) (by omega) (by omega)
      omega
  refine ⟨w', _, ?_, k1, k2, k3, mb.1, mb.2⟩
  unfold f_X5_makeTable
  rw [wl_p]
  have hr : p_X5_makeTable_7 2000 (0 : Int32) (uI w 129 5 (0 : Int32)) = _ := hr
  rw [hr]
  rfl
