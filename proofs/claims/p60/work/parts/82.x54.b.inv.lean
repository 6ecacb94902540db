/-! THE WHOLE: what both sides hold between calls: 0 the state, 1 whether one is saved, 2 the saved one, 3 how many changes, 4 the states before them, 5 how much is typed, 6 what, 7 the error position, 8 the failed command, 9 the output's length, 10 the output -/
abbrev TS : Type := Ab × Int × Ab × Int × (Int → Ab) × Int × (Int → Int) × Int × Int × Int × (Int → Int)
def tS (T : TS) : Ab := T.1
def tH (T : TS) : Int := T.2.1
def tP (T : TS) : Ab := T.2.2.1
def tN (T : TS) : Int := T.2.2.2.1
def tL (T : TS) : Int → Ab := T.2.2.2.2.1
def tC (T : TS) : Int := T.2.2.2.2.2.1
def tX (T : TS) : Int → Int := T.2.2.2.2.2.2.1
def tE (T : TS) : Int := T.2.2.2.2.2.2.2.1
def tF (T : TS) : Int := T.2.2.2.2.2.2.2.2.1
def tO (T : TS) : Int := T.2.2.2.2.2.2.2.2.2.1
def tY (T : TS) : Int → Int := T.2.2.2.2.2.2.2.2.2.2
def InvG (T : TS) : Prop := Good (tS T) ∧ (tH T = 0 ∨ tH T = 1) ∧ (tH T = 1 → Good (tP T)) ∧ (0 ≤ tN T ∧ tN T ≤ 8) ∧ (∀ i, 0 ≤ i → i < tN T → Good (tL T i)) ∧ (0 ≤ tC T ∧ tC T ≤ 60) ∧ (∀ i, 0 ≤ i → i < tC T → 32 ≤ tX T i ∧ tX T i ≤ 126) ∧ (-1 ≤ tE T ∧ tE T ≤ 60) ∧ (-1 ≤ tF T ∧ tF T ≤ 60) ∧ (0 ≤ tO T ∧ tO T ≤ 100) ∧ ∀ i, 0 ≤ i → i < tO T → 0 ≤ tY T i ∧ tY T i ≤ 127
def HC (w : Wd) (f n : Int) (L : Int → Ab) : Prop := (0 ≤ f ∧ f < 8) ∧ gI w 34 1 = jI f ∧ gI w 34 2 = jI n ∧ ∀ i, 0 ≤ i → i < n → CSt w (36 + 11 * ((f + i) % 8).toNat) (L i)
def OC (w : Wd) (n : Int) (Y : Int → Int) : Prop := gI w 139 1 = jI 0 ∧ gI w 139 3 = jI n ∧ (gC w = 16 ∨ (34 ≤ gC w ∧ gC w ≤ 64)) ∧ n ≤ gC w ∧ (∀ i : Int, 0 ≤ i → i < n → gI w 140 i.toNat = jI (Y i)) ∧ ∀ i : Nat, i < gC w → ∃ z, -128 ≤ z ∧ z ≤ 127 ∧ gI w 140 i = jI z
def InvC (w : Wd) (T : TS) : Prop := CSt w 1 (tS T) ∧ gI w 0 3 = jI (tH T) ∧ (tH T = 1 → CSt w 23 (tP T)) ∧ (∃ f, HC w f (tN T) (tL T)) ∧ gI w 134 1 = jI (tC T) ∧ (∀ i : Int, 0 ≤ i → i < tC T → gI w 135 i.toNat = jI (tX T i)) ∧ gI w 0 11 = jI (tE T) ∧ gI w 0 12 = jI (tF T) ∧ OC w (tO T) (tY T)
def HR (w : Wd) (n : Int) (L : Int → Ab) : Prop := gI w 141 3 = jI n ∧ ∀ i, 0 ≤ i → i < n → RSt w 144 (192 * i) (L i)
def InvR (w : Wd) (T : TS) : Prop := RSt w 142 0 (tS T) ∧ gI w 141 5 = jI (tH T) ∧ (tH T = 1 → RSt w 145 0 (tP T)) ∧ HR w (tN T) (tL T) ∧ gI w 141 7 = jI (tC T) ∧ (∀ i : Int, 0 ≤ i → i < tC T → gI w 146 i.toNat = jI (tX T i)) ∧ gI w 141 8 = jI (tE T) ∧ gI w 141 9 = jI (tF T) ∧ gI w 141 11 = jI (tO T) ∧ ∀ i : Int, 0 ≤ i → i < tO T → gI w 147 i.toNat = jI (tY T i)
def Inv (w : Wd) : Prop := ∃ T, InvG T ∧ InvC w T ∧ InvR w T
/-- the class's side, the reference's side -/
def KL (k : Nat) : Prop := k ≤ 140 ∨ k = 151 ∨ k = 152
def KR (k : Nat) : Prop := 141 ≤ k ∧ k ≤ 150
theorem HC.kept {w w' : Wd} {f n : Int} {L : Int → Ab} (h : HC w f n L) (e1 : gI w' 34 = gI w 34) (e2 : ∀ k, 36 ≤ k → k < 124 → gI w' k = gI w k ∧ gL w' k = gL w k) : HC w' f n L := by
  obtain ⟨h1, h2, h3, h4⟩ := h
  exact ⟨h1, by rw [e1]; exact h2, by rw [e1]; exact h3, fun i i0 i1 => (h4 i i0 i1).kept (fun r hr => e2 _ (by omega) (by omega))⟩
theorem OC.kept {w w' : Wd} {n : Int} {Y : Int → Int} (h : OC w n Y) (e1 : gI w' 139 = gI w 139) (e2 : gI w' 140 = gI w 140) (e3 : gC w' = gC w) : OC w' n Y := by
  unfold OC
  rw [e1, e2, e3]
  exact h
/-- what a read or a refusal of the class may leave behind -/
def KJ (k : Nat) : Prop := (12 ≤ k ∧ k < 23) ∨ (124 ≤ k ∧ k < 134) ∨ (136 ≤ k ∧ k < 139) ∨ 141 ≤ k
theorem InvC.kept {w w' : Wd} {T : TS} (h : InvC w T) (hs : Sm KJ w w') : InvC w' T := by
  obtain ⟨h1, h2, h3, ⟨f, h4⟩, h5, h6, h7, h8, h9⟩ := h
  refine ⟨h1.kept (fun r hr => hs.1 _ (by unfold KJ; omega)), ?_, fun q => (h3 q).kept (fun r hr => hs.1 _ (by unfold KJ; omega)), ⟨f, h4.kept (hs.1 34 (by unfold KJ; omega)).1 (fun k k0 k1 => hs.1 k (by unfold KJ; omega))⟩, ?_, fun i i0 i1 => ?_, ?_, ?_, h9.kept (hs.1 139 (by unfold KJ; omega)).1 (hs.1 140 (by unfold KJ; omega)).1 (hs.2.2 (by unfold KJ; omega))⟩
  · rw [hs.iK (by unfold KJ; omega)]; exact h2
  · rw [hs.iK (by unfold KJ; omega)]; exact h5
  · rw [hs.iK (by unfold KJ; omega)]; exact h6 i i0 i1
  · rw [hs.iK (by unfold KJ; omega)]; exact h7
  · rw [hs.iK (by unfold KJ; omega)]; exact h8
theorem HR.kept {w w' : Wd} {n : Int} {L : Int → Ab} (h : HR w n L) (e1 : gI w' 141 3 = gI w 141 3) (e2 : gL w' 144 = gL w 144) : HR w' n L :=
  ⟨by rw [e1]; exact h.1, fun i i0 i1 => (h.2 i i0 i1).kept e2⟩
/-- .. and the reference -/
def KQ (k : Nat) : Prop := k ≤ 141 ∨ k = 143 ∨ 148 ≤ k
theorem InvR.kept {w w' : Wd} {T : TS} (h : InvR w T) (hs : Sm KQ w w') (hf : ∀ i, i ≠ 12 → i ≠ 15 → i ≠ 16 → gI w' 141 i = gI w 141 i) : InvR w' T := by
  obtain ⟨h1, h2, h3, h4, h5, h6, h7, h8, h9, h10⟩ := h
  refine ⟨h1.kept (hs.1 142 (by unfold KQ; omega)).2, ?_, fun q => (h3 q).kept (hs.1 145 (by unfold KQ; omega)).2, h4.kept (hf 3 (by decide) (by decide) (by decide)) (hs.1 144 (by unfold KQ; omega)).2, ?_, fun i i0 i1 => ?_, ?_, ?_, ?_, fun i i0 i1 => ?_⟩
  · rw [hf 5 (by decide) (by decide) (by decide)]; exact h2
  · rw [hf 7 (by decide) (by decide) (by decide)]; exact h5
  · rw [hs.iK (by unfold KQ; omega)]; exact h6 i i0 i1
  · rw [hf 8 (by decide) (by decide) (by decide)]; exact h7
  · rw [hf 9 (by decide) (by decide) (by decide)]; exact h8
  · rw [hf 11 (by decide) (by decide) (by decide)]; exact h9
  · rw [hs.iK (by unfold KQ; omega)]; exact h10 i i0 i1
theorem InvR.far {w w' : Wd} {T : TS} (h : InvR w T) (hs : Sm KL w w') : InvR w' T :=
  h.kept (hs.mono (fun k hk => by unfold KL at hk; unfold KQ; omega)) (fun i _ _ _ => hs.iK (by unfold KL; omega) i)
theorem InvC.far {w w' : Wd} {T : TS} (h : InvC w T) (hs : Sm KR w w') : InvC w' T :=
  h.kept (hs.mono (fun k hk => by unfold KR at hk; unfold KJ; omega))
/-! a change is kept -/
def psh (T : TS) (S' : Ab) : TS := (S', tH T, tP T, (if tN T = 8 then 8 else tN T + 1), (fun i => if tN T = 8 then (if i < 7 then tL T (i + 1) else tS T) else (if i = tN T then tS T else tL T i)), tC T, tX T, tE T, tF T, tO T, tY T)
theorem InvG.psh {T : TS} {S' : Ab} (h : InvG T) (hS : Good S') : InvG (psh T S') := by
  obtain ⟨h1, h2, h3, h4, h5, h6⟩ := h
  refine ⟨hS, h2, h3, ?_, fun i i0 i1 => ?_, h6⟩
  · show 0 ≤ (if tN T = 8 then 8 else tN T + 1) ∧ (if tN T = 8 then 8 else tN T + 1) ≤ 8
    split <;> omega
  · have i1 : i < (if tN T = 8 then 8 else tN T + 1) := i1
    show Good (if tN T = 8 then (if i < 7 then tL T (i + 1) else tS T) else (if i = tN T then tS T else tL T i))
    by_cases q : tN T = 8
    · rw [if_pos q] at i1 ⊢
      split
      · exact h5 _ (by omega) (by omega)
      · exact h1
    · rw [if_neg q] at i1 ⊢
      split
      · exact h1
      · exact h5 _ i0 (by omega)
def KH (k : Nat) : Prop := k = 34 ∨ (36 ≤ k ∧ k < 124)
theorem s_push {w : Wd} {f n : Int} {L : Int → Ab} {S : Ab} (hG : Good S) (hB : CSt w 12 S) (h : HC w f n L) (n0 : 0 ≤ n) (n8 : n ≤ 8) :
    ∃ w' f', f_X3_push w = some w' ∧ Sm KH w w' ∧ HC w' f' (if n = 8 then 8 else n + 1) (fun i => if n = 8 then (if i < 7 then L (i + 1) else S) else (if i = n then S else L i)) := by
  obtain ⟨h1, h2, h3, h4⟩ := h
  by_cases q : n = 8
  · subst q
    -- the place of the eldest is taken
    have hB2 : CSt (uI (uI w 34 1 (jI ((f + 1) % 8))) 34 2 (jI 7)) 12 S := hB.kept (fun r hr => ⟨by funext j; rw [gI_uI, if_neg (by omega), gI_uI, if_neg (by omega)], rfl⟩)
    obtain ⟨w3, hr, hs, hc⟩ := s_copy (b0 := 36 + 11 * (((f + 1) % 8 + 7) % 8).toNat) hG hB2 (by omega)
    have e1 : (f + 1) - (f + 1).tdiv 8 * 8 = (f + 1) % 8 := by rw [Int.tdiv_eq_ediv_of_nonneg (by omega)]; omega
    have e2 : ((f + 1) % 8 + 7) - ((f + 1) % 8 + 7).tdiv 8 * 8 = ((f + 1) % 8 + 7) % 8 := by rw [Int.tdiv_eq_ediv_of_nonneg (by omega)]; omega
    have g1 : gI w3 34 1 = jI ((f + 1) % 8) := by rw [hs.iK (by unfold Kb; omega), gI_uI, if_neg (by omega), gI_uI, if_pos ⟨rfl, rfl⟩]
    have g2 : gI w3 34 2 = jI 7 := by rw [hs.iK (by unfold Kb; omega), gI_uI, if_pos ⟨rfl, rfl⟩]
    refine ⟨uI w3 34 2 (jI 8), (f + 1) % 8, ?_, ?_, ⟨by omega, ?_, ?_, fun i i0 i1 => ?_⟩⟩
    · unfold f_X3_push
      simp (disch := omega) only [l32_0, l32_1, l32_2, l32_3, l32_4, l32_5, l32_6, l32_7, l32_8, l32_9, l32_10, l32_11, l32_12, l32_13, l32_14, l32_15, l32_16, l32_17, l32_18, l32_19, l32_20, l32_21, l32_22, l32_23, l32_24, l32_25, l32_26, l32_27, l32_28, l32_29, l32_30, l32_31, l32_32, l32_33, l32_34, l32_35, l32_36, l32_37, l32_38, l32_39, l32_40, l32_41, l32_42, l32_43, l32_44, l32_45, l32_46, l32_47, l32_48, l32_49, l32_50, l32_51, l32_52, l32_53, l32_54, l32_55, l32_56, l32_57, l32_58, l32_59, l32_60, l32_61, l32_62, l32_63, l32_64, l32_65, l32_66, l32_76, l32_86, l32_90, l32_92, l32_97, l32_98, l32_99, l32_100, l32_101, l32_102, l32_103, l32_104, l32_105, l32_106, l32_107, l32_108, l32_109, l32_110, l32_111, l32_112, l32_113, l32_114, l32_115, l32_116, l32_117, l32_118, l32_119, l32_120, l32_121, l32_122, l32_123, l32_124, l32_125, l32_126, l32_192, l32_200, l32_255, l32_999, l32_1000, l32_1344, l32_2147483639, l32_2147483647, l64_0, l64_1, l64_99, l64_999, l64_24883200000, l64_746496000000, jI_add, jI_sub, jI_mul, jI_neg, jL_add, jL_sub, jL_mul, jL_neg, jL_toI, jI_toL, jI_eqT, jI_eqF, jI_ltT, jI_ltF, jI_leT, jI_leF, jL_eqT, jL_eqF, jL_ltT, jL_ltF, jL_leT, jL_leF, inR_T, inR_F, bZ_T, bZ_F, not_true_eq_false, not_false_eq_true, jI_clamp, nI_j, bs_p, wl_p, u2_p, u3_p, u4_p, u5_p, zl_p, zr_p, mn_p, ms_p, if_pos, if_neg, ite_true, ite_false, h2, h3, jI_div, e1, gI_uI, and_self, show (8 : Int) - 1 = 7 from rfl, e2, hr, g2] <;> rfl
    · refine ((Sm.wI w (Or.inl rfl)).tr ((Sm.wI _ (Or.inl rfl)).tr (hs.mono (fun k hk => ?_)))).tr (Sm.wI _ (Or.inl rfl))
      unfold Kb at hk
      exact Or.inr ⟨by omega, by omega⟩
    · rw [gI_uI, if_neg (by omega)]; exact g1
    · rw [gI_uI, if_pos ⟨rfl, rfl⟩]; rfl
    · rw [if_pos rfl] at i1
      have hx : CSt w3 (36 + 11 * (((f + 1) % 8 + i) % 8).toNat) (if i < 7 then L (i + 1) else S) := by
        by_cases z : i < 7
        · rw [if_pos z]
          have k := h4 (i + 1) (by omega) (by omega)
          rw [show (f + (i + 1)) % 8 = ((f + 1) % 8 + i) % 8 by omega] at k
          refine CSt.far (w := uI (uI w 34 1 (jI ((f + 1) % 8))) 34 2 (jI 7)) (k.kept (fun r hr => ⟨by funext j; rw [gI_uI, if_neg (by omega), gI_uI, if_neg (by omega)], rfl⟩)) hs (by omega)
        · rw [if_neg z, show i = 7 by omega]; exact hc
      show CSt (uI w3 34 2 (jI 8)) _ (if (8 : Int) = 8 then (if i < 7 then L (i + 1) else S) else _)
      rw [if_pos rfl]
      exact hx.kept (fun r hr => ⟨by funext j; rw [gI_uI, if_neg (by omega)], rfl⟩)
  · obtain ⟨w3, hr, hs, hc⟩ := s_copy (b0 := 36 + 11 * ((f + n) % 8).toNat) hG hB (by omega)
    have e1 : (f + n) - (f + n).tdiv 8 * 8 = (f + n) % 8 := by rw [Int.tdiv_eq_ediv_of_nonneg (by omega)]; omega
    have g1 : gI w3 34 1 = jI f := by rw [hs.iK (by unfold Kb; omega)]; exact h2
    have g2 : gI w3 34 2 = jI n := by rw [hs.iK (by unfold Kb; omega)]; exact h3
    refine ⟨uI w3 34 2 (jI (n + 1)), f, ?_, ?_, ⟨h1, ?_, ?_, fun i i0 i1 => ?_⟩⟩
    · unfold f_X3_push
      simp (disch := omega) only [l32_0, l32_1, l32_2, l32_3, l32_4, l32_5, l32_6, l32_7, l32_8, l32_9, l32_10, l32_11, l32_12, l32_13, l32_14, l32_15, l32_16, l32_17, l32_18, l32_19, l32_20, l32_21, l32_22, l32_23, l32_24, l32_25, l32_26, l32_27, l32_28, l32_29, l32_30, l32_31, l32_32, l32_33, l32_34, l32_35, l32_36, l32_37, l32_38, l32_39, l32_40, l32_41, l32_42, l32_43, l32_44, l32_45, l32_46, l32_47, l32_48, l32_49, l32_50, l32_51, l32_52, l32_53, l32_54, l32_55, l32_56, l32_57, l32_58, l32_59, l32_60, l32_61, l32_62, l32_63, l32_64, l32_65, l32_66, l32_76, l32_86, l32_90, l32_92, l32_97, l32_98, l32_99, l32_100, l32_101, l32_102, l32_103, l32_104, l32_105, l32_106, l32_107, l32_108, l32_109, l32_110, l32_111, l32_112, l32_113, l32_114, l32_115, l32_116, l32_117, l32_118, l32_119, l32_120, l32_121, l32_122, l32_123, l32_124, l32_125, l32_126, l32_192, l32_200, l32_255, l32_999, l32_1000, l32_1344, l32_2147483639, l32_2147483647, l64_0, l64_1, l64_99, l64_999, l64_24883200000, l64_746496000000, jI_add, jI_sub, jI_mul, jI_neg, jL_add, jL_sub, jL_mul, jL_neg, jL_toI, jI_toL, jI_eqT, jI_eqF, jI_ltT, jI_ltF, jI_leT, jI_leF, jL_eqT, jL_eqF, jL_ltT, jL_ltF, jL_leT, jL_leF, inR_T, inR_F, bZ_T, bZ_F, not_true_eq_false, not_false_eq_true, jI_clamp, nI_j, bs_p, wl_p, u2_p, u3_p, u4_p, u5_p, zl_p, zr_p, mn_p, ms_p, if_pos, if_neg, ite_true, ite_false, h2, h3, jI_div, e1, hr, g2]
    · refine (hs.mono (fun k hk => ?_)).tr (Sm.wI _ (Or.inl rfl))
      unfold Kb at hk
      exact Or.inr ⟨by omega, by omega⟩
    · rw [gI_uI, if_neg (by omega)]; exact g1
    · rw [gI_uI, if_pos ⟨rfl, rfl⟩, if_neg q]
    · rw [if_neg q] at i1
      have hx : CSt w3 (36 + 11 * ((f + i) % 8).toNat) (if i = n then S else L i) := by
        by_cases z : i = n
        · rw [if_pos z, z]; exact hc
        · rw [if_neg z]
          exact (h4 i i0 (by omega)).far hs (by omega)
      show CSt (uI w3 34 2 (jI (n + 1))) _ (if n = 8 then _ else (if i = n then S else L i))
      rw [if_neg q]
      exact hx.kept (fun r hr => ⟨by funext j; rw [gI_uI, if_neg (by omega)], rfl⟩)
/-- the words that a change ends with -/
theorem s_refuse {w : Wd} {es : List Nat} {o : Oc} (h5 : ∀ e ∈ es, e < 5) (hO : OK es o) {r : Int32} (hr : zc o (fun e => r = jI (-(e : Int) - 1)) (fun q => r = jI q.1)) : f_X10_refuse w r = some (zc o (fun e => .inl e) (fun _ => .inr ())) := by
  unfold f_X10_refuse
  rcases o with e | q
  · have hr : r = jI (-(e : Int) - 1) := hr
    have hO : e < 5 := h5 e hO
    subst hr
    have he : e = 0 ∨ e = 1 ∨ e = 2 ∨ e = 3 ∨ e = 4 := by omega
    rcases he with rfl | rfl | rfl | rfl | rfl <;> rfl
  · have hr : r = jI q.1 := hr
    have hO : 0 ≤ q.1 ∧ q.1 < 1000 ∧ Good q.2 := hO
    subst hr
    simp (disch := omega) only [l32_0, l32_1, l32_2, l32_3, l32_4, l32_5, l32_6, l32_7, l32_8, l32_9, l32_10, l32_11, l32_12, l32_13, l32_14, l32_15, l32_16, l32_17, l32_18, l32_19, l32_20, l32_21, l32_22, l32_23, l32_24, l32_25, l32_26, l32_27, l32_28, l32_29, l32_30, l32_31, l32_32, l32_33, l32_34, l32_35, l32_36, l32_37, l32_38, l32_39, l32_40, l32_41, l32_42, l32_43, l32_44, l32_45, l32_46, l32_47, l32_48, l32_49, l32_50, l32_51, l32_52, l32_53, l32_54, l32_55, l32_56, l32_57, l32_58, l32_59, l32_60, l32_61, l32_62, l32_63, l32_64, l32_65, l32_66, l32_76, l32_86, l32_90, l32_92, l32_97, l32_98, l32_99, l32_100, l32_101, l32_102, l32_103, l32_104, l32_105, l32_106, l32_107, l32_108, l32_109, l32_110, l32_111, l32_112, l32_113, l32_114, l32_115, l32_116, l32_117, l32_118, l32_119, l32_120, l32_121, l32_122, l32_123, l32_124, l32_125, l32_126, l32_192, l32_200, l32_255, l32_999, l32_1000, l32_1344, l32_2147483639, l32_2147483647, l64_0, l64_1, l64_99, l64_999, l64_24883200000, l64_746496000000, jI_add, jI_sub, jI_mul, jI_neg, jL_add, jL_sub, jL_mul, jL_neg, jL_toI, jI_toL, jI_eqT, jI_eqF, jI_ltT, jI_ltF, jI_leT, jI_leF, jL_eqT, jL_eqF, jL_ltT, jL_ltF, jL_leT, jL_leF, inR_T, inR_F, bZ_T, bZ_F, not_true_eq_false, not_false_eq_true, jI_clamp, nI_j, bs_p, wl_p, u2_p, u3_p, u4_p, u5_p, zl_p, zr_p, mn_p, ms_p, if_pos, if_neg, ite_true, ite_false, zr_p]
theorem InvC.before {w w' : Wd} {T : TS} (h : InvC w T) (hs : Sm (Kb 12) w w') : InvC w' T := h.kept (hs.mono (fun k hk => by unfold Kb at hk; unfold KJ; omega))
theorem chg_c {β : Type} (K : (Nat ⊕ Int32) × Wd → Option β) {T : TS} {cf : Wd → Option (Int32 × Wd)} {es : List Nat} {o : Oc} (hT : InvG T) (h5 : ∀ e ∈ es, e < 5) (hO : OK es o) (hop : ∀ w, CSt w 1 (tS T) → ∃ r w', cf w = some (r, w') ∧ CO w w' r (tS T) o) {w : Wd} (h : InvC w T) :
    ∃ w', ((f_X7_copyFrom w 12 1).bind fun w3 => ((cf w3).bind fun z => u2 z fun r5 w6 => ((f_X10_settle w6 r5).bind K))) = K ((zc o (fun e => .inl e) (fun q => .inr (jI q.1)) : Nat ⊕ Int32), w') ∧ Sm KL w w' ∧ InvC w' (zc o (fun _ => T) (fun q => psh T q.2)) := by
  have hG := hT.1
  obtain ⟨w1, hr1, hs1, hb1⟩ := s_copy (b0 := 12) hG h.1 (by omega)
  have h1 := h.before hs1
  obtain ⟨r, w2, hr2, hs2, hc2⟩ := hop w1 h1.1
  rw [hr1, bs_p, hr2, bs_p, u2_p]
  unfold f_X10_settle
  have k1 : Sm KL w w1 := hs1.mono (fun k hk => by unfold Kb at hk; unfold KL; omega)
  have k2 : Sm KL w1 w2 := hs2.mono (fun k hk => by unfold KC at hk; unfold KL; omega)
  rcases o with e | q
  · have hc2 : r = jI (-(e : Int) - 1) ∧ CSt w2 1 (tS T) := hc2
    rw [s_refuse (o := .inl e) h5 hO hc2.1]
    refine ⟨w2, rfl, k1.tr k2, ?_⟩
    show InvC w2 T
    obtain ⟨g1, g2, g3, ⟨f, g4⟩, g5, g6, g7, g8, g9⟩ := h1
    refine ⟨hc2.2, ?_, fun q => (g3 q).kept (fun r hr => hs2.1 _ (by unfold KC; omega)), ⟨f, g4.kept (hs2.1 34 (by unfold KC; omega)).1 (fun k k0 k1 => hs2.1 k (by unfold KC; omega))⟩, ?_, fun i i0 i1 => ?_, ?_, ?_, g9.kept (hs2.1 139 (by unfold KC; omega)).1 (hs2.1 140 (by unfold KC; omega)).1 (hs2.2.2 (by unfold KC; omega))⟩
    · rw [hs2.iK (by unfold KC; omega)]; exact g2
    · rw [hs2.iK (by unfold KC; omega)]; exact g5
    · rw [hs2.iK (by unfold KC; omega)]; exact g6 i i0 i1
    · rw [hs2.iK (by unfold KC; omega)]; exact g7
    · rw [hs2.iK (by unfold KC; omega)]; exact g8
  · have hc2 : r = jI q.1 ∧ CSt w2 1 q.2 := hc2
    rw [s_refuse (o := .inr q) h5 hO hc2.1]
    obtain ⟨g1, g2, g3, ⟨f, g4⟩, g5, g6, g7, g8, g9⟩ := h1
    obtain ⟨w3, f', hr3, hs3, h3⟩ := s_push hG (hb1.kept (fun r hr => hs2.1 _ (by unfold KC; omega))) (g4.kept (hs2.1 34 (by unfold KC; omega)).1 (fun k k0 k1 => hs2.1 k (by unfold KC; omega))) hT.2.2.2.1.1 hT.2.2.2.1.2
    refine ⟨w3, ?_, (k1.tr k2).tr (hs3.mono (fun k hk => by unfold KH at hk; unfold KL; omega)), ?_⟩
    · show (((f_X3_push w2).bind fun w6 => some ((Sum.inr r : Nat ⊕ Int32), w6)).bind K) = _
      rw [hr3, hc2.1]
      rfl
    · show InvC w3 (psh T q.2)
      refine ⟨hc2.2.kept (fun r hr => hs3.1 _ (by unfold KH; omega)), ?_, fun q => ((g3 q).kept (fun r hr => hs2.1 _ (by unfold KC; omega))).kept (fun r hr => hs3.1 _ (by unfold KH; omega)), ⟨f', h3⟩, ?_, fun i i0 i1 => ?_, ?_, ?_, (g9.kept (hs2.1 139 (by unfold KC; omega)).1 (hs2.1 140 (by unfold KC; omega)).1 (hs2.2.2 (by unfold KC; omega))).kept (hs3.1 139 (by unfold KH; omega)).1 (hs3.1 140 (by unfold KH; omega)).1 (hs3.2.2 (by unfold KH; omega))⟩
      · rw [hs3.iK (by unfold KH; omega), hs2.iK (by unfold KC; omega)]; exact g2
      · rw [hs3.iK (by unfold KH; omega), hs2.iK (by unfold KC; omega)]; exact g5
      · rw [hs3.iK (by unfold KH; omega), hs2.iK (by unfold KC; omega)]; exact g6 i i0 i1
      · rw [hs3.iK (by unfold KH; omega), hs2.iK (by unfold KC; omega)]; exact g7
      · rw [hs3.iK (by unfold KH; omega), hs2.iK (by unfold KC; omega)]; exact g8
/-! .. and the reference's -/
def KS (k : Nat) : Prop := k = 141 ∨ k = 142 ∨ k = 144
theorem s_rKept {w : Wd} {n : Int} {L : Int → Ab} {S : Ab} {r : Int32} {t : Int} (hB : RSt w 143 0 S) (h : HR w n L) (n0 : 0 ≤ n) (n8 : n ≤ 8) (ht : gI w 141 12 = jI t) (t0 : 0 ≤ t) (t1 : t < 100) :
    ∃ w', f_X11_kept w r = some ((if t = 0 then r else jI 0), w') ∧ Sm KS w w' ∧ (∀ i, i ≠ 3 → gI w' 141 i = gI w 141 i) ∧ (t ≠ 0 → RSt w' 142 0 S ∧ gI w' 141 = gI w 141 ∧ gL w' 144 = gL w 144) ∧ (t = 0 → gL w' 142 = gL w 142 ∧ HR w' (if n = 8 then 8 else n + 1) (fun i => if n = 8 then (if i < 7 then L (i + 1) else S) else (if i = n then S else L i))) := by
  unfold f_X11_kept
  by_cases q : t = 0
  · by_cases q8 : n = 8
    · subst q8
      obtain ⟨rr, hr, hP⟩ := lp (fun n (s : Int32 × Wd) => p_X11_kept_33 n s.1 s.2)
        (fun i s => s.1 = jI i ∧ Sm (K1 144) w s.2 ∧ (∀ z : Nat, z < i → gL s.2 144 z = gL w 144 (z + 192)) ∧ ∀ z : Nat, i ≤ z → gL s.2 144 z = gL w 144 z) 1344
        (fun r => ∃ q, r = .inl q ∧ Sm (K1 144) w q.2 ∧ (∀ z : Nat, z < 1344 → gL q.2 144 z = gL w 144 (z + 192)))
        (fun i n s hi hI => by
          obtain ⟨y, v⟩ := s
          obtain ⟨rfl, hs, hx, hy⟩ := hI
          have e : gL v 144 ((i : Int) + 192).toNat = gL w 144 (i + 192) := by
            rw [show ((i : Int) + 192).toNat = i + 192 by omega]; exact hy _ (by omega)
          refine Or.inl ⟨(jI ((i + 1 : Nat) : Int), uL v 144 i (gL w 144 (i + 192))), ⟨rfl, hs.tr (Sm.wL v rfl), fun z hz => ?_, fun z hz => ?_⟩, ?_⟩
          · show gL (uL v 144 i (gL w 144 (i + 192))) 144 z = _
            rw [gL_uL]
            by_cases q : z = i
            · rw [q, if_pos ⟨rfl, rfl⟩]
            · rw [if_neg (by omega)]; exact hx z (by omega)
          · show gL (uL v 144 i (gL w 144 (i + 192))) 144 z = _
            rw [gL_uL, if_neg (by omega)]; exact hy z (by omega)
          · show p_X11_kept_33 (n + 1) (jI i) v = p_X11_kept_33 n (jI ((i + 1 : Nat) : Int)) (uL v 144 i (gL w 144 (i + 192)))
            rw [p_X11_kept_33]
            simp (disch := omega) only [l32_0, l32_1, l32_2, l32_3, l32_4, l32_5, l32_6, l32_7, l32_8, l32_9, l32_10, l32_11, l32_12, l32_13, l32_14, l32_15, l32_16, l32_17, l32_18, l32_19, l32_20, l32_21, l32_22, l32_23, l32_24, l32_25, l32_26, l32_27, l32_28, l32_29, l32_30, l32_31, l32_32, l32_33, l32_34, l32_35, l32_36, l32_37, l32_38, l32_39, l32_40, l32_41, l32_42, l32_43, l32_44, l32_45, l32_46, l32_47, l32_48, l32_49, l32_50, l32_51, l32_52, l32_53, l32_54, l32_55, l32_56, l32_57, l32_58, l32_59, l32_60, l32_61, l32_62, l32_63, l32_64, l32_65, l32_66, l32_76, l32_86, l32_90, l32_92, l32_97, l32_98, l32_99, l32_100, l32_101, l32_102, l32_103, l32_104, l32_105, l32_106, l32_107, l32_108, l32_109, l32_110, l32_111, l32_112, l32_113, l32_114, l32_115, l32_116, l32_117, l32_118, l32_119, l32_120, l32_121, l32_122, l32_123, l32_124, l32_125, l32_126, l32_192, l32_200, l32_255, l32_999, l32_1000, l32_1344, l32_2147483639, l32_2147483647, l64_0, l64_1, l64_99, l64_999, l64_24883200000, l64_746496000000, jI_add, jI_sub, jI_mul, jI_neg, jL_add, jL_sub, jL_mul, jL_neg, jL_toI, jI_toL, jI_eqT, jI_eqF, jI_ltT, jI_ltF, jI_leT, jI_leF, jL_eqT, jL_eqF, jL_ltT, jL_ltF, jL_leT, jL_leF, inR_T, inR_F, bZ_T, bZ_F, not_true_eq_false, not_false_eq_true, jI_clamp, nI_j, bs_p, wl_p, u2_p, u3_p, u4_p, u5_p, zl_p, zr_p, mn_p, ms_p, if_pos, if_neg, ite_true, ite_false, Int.toNat_natCast, e] <;> rfl)
        (fun n s hI => by
          obtain ⟨y, v⟩ := s
          obtain ⟨rfl, hs, hx, hy⟩ := hI
          refine ⟨.inl (jI 1344, v), ?_, _, rfl, hs, hx⟩
          show p_X11_kept_33 (n + 1) (jI ((1344 : Nat) : Int)) v = _
          rw [p_X11_kept_33, show ((1344 : Nat) : Int) = 1344 from rfl]
          simp (disch := omega) only [l32_0, l32_1, l32_2, l32_3, l32_4, l32_5, l32_6, l32_7, l32_8, l32_9, l32_10, l32_11, l32_12, l32_13, l32_14, l32_15, l32_16, l32_17, l32_18, l32_19, l32_20, l32_21, l32_22, l32_23, l32_24, l32_25, l32_26, l32_27, l32_28, l32_29, l32_30, l32_31, l32_32, l32_33, l32_34, l32_35, l32_36, l32_37, l32_38, l32_39, l32_40, l32_41, l32_42, l32_43, l32_44, l32_45, l32_46, l32_47, l32_48, l32_49, l32_50, l32_51, l32_52, l32_53, l32_54, l32_55, l32_56, l32_57, l32_58, l32_59, l32_60, l32_61, l32_62, l32_63, l32_64, l32_65, l32_66, l32_76, l32_86, l32_90, l32_92, l32_97, l32_98, l32_99, l32_100, l32_101, l32_102, l32_103, l32_104, l32_105, l32_106, l32_107, l32_108, l32_109, l32_110, l32_111, l32_112, l32_113, l32_114, l32_115, l32_116, l32_117, l32_118, l32_119, l32_120, l32_121, l32_122, l32_123, l32_124, l32_125, l32_126, l32_192, l32_200, l32_255, l32_999, l32_1000, l32_1344, l32_2147483639, l32_2147483647, l64_0, l64_1, l64_99, l64_999, l64_24883200000, l64_746496000000, jI_add, jI_sub, jI_mul, jI_neg, jL_add, jL_sub, jL_mul, jL_neg, jL_toI, jI_toL, jI_eqT, jI_eqF, jI_ltT, jI_ltF, jI_leT, jI_leF, jL_eqT, jL_eqF, jL_ltT, jL_ltF, jL_leT, jL_leF, inR_T, inR_F, bZ_T, bZ_F, not_true_eq_false, not_false_eq_true, jI_clamp, nI_j, bs_p, wl_p, u2_p, u3_p, u4_p, u5_p, zl_p, zr_p, mn_p, ms_p, if_pos, if_neg, ite_true, ite_false]) 2000 0 (jI 0, w) (by omega) (by omega) ⟨rfl, Sm.refl w, fun z hz => by omega, fun _ _ => rfl⟩
      obtain ⟨⟨y1, w1⟩, rfl, hs1, hx1⟩ := hP
      have hr : p_X11_kept_33 2000 (jI 0) w = some (.inl (y1, w1)) := hr
      have hs1 : Sm (K1 144) w w1 := hs1
      have hx1 : ∀ z : Nat, z < 1344 → gL w1 144 z = gL w 144 (z + 192) := hx1
      have e3 : gI w1 141 3 = jI 8 := by rw [hs1.iK (by unfold K1; omega)]; exact h.1
      have hB1 : RSt (uI w1 141 3 (jI 7)) 143 0 S := hB.kept (by
        show gL w1 143 = gL w 143
        exact (hs1.1 143 (by unfold K1; omega)).2)
      obtain ⟨w2, hr2, hs2, hc2, hy2⟩ := s_rCopy (k2 := 144) (n0 := 192) (n2 := 1536) (c := 1344) hB1 (by decide) (by decide) (by decide) (by decide) (by decide) (by decide) (by decide)
      have e32 : gI w2 141 3 = jI 7 := by rw [hs2.iK (by unfold K1; omega), gI_uI, if_pos ⟨rfl, rfl⟩]
      refine ⟨uI w2 141 3 (jI 8), ?_, ?_, fun i hi => ?_, fun z => absurd q z, fun _ => ⟨?_, ?_, fun i i0 i1 => ?_⟩⟩
      · rw [if_pos q]
        simp (disch := omega) only [l32_0, l32_1, l32_2, l32_3, l32_4, l32_5, l32_6, l32_7, l32_8, l32_9, l32_10, l32_11, l32_12, l32_13, l32_14, l32_15, l32_16, l32_17, l32_18, l32_19, l32_20, l32_21, l32_22, l32_23, l32_24, l32_25, l32_26, l32_27, l32_28, l32_29, l32_30, l32_31, l32_32, l32_33, l32_34, l32_35, l32_36, l32_37, l32_38, l32_39, l32_40, l32_41, l32_42, l32_43, l32_44, l32_45, l32_46, l32_47, l32_48, l32_49, l32_50, l32_51, l32_52, l32_53, l32_54, l32_55, l32_56, l32_57, l32_58, l32_59, l32_60, l32_61, l32_62, l32_63, l32_64, l32_65, l32_66, l32_76, l32_86, l32_90, l32_92, l32_97, l32_98, l32_99, l32_100, l32_101, l32_102, l32_103, l32_104, l32_105, l32_106, l32_107, l32_108, l32_109, l32_110, l32_111, l32_112, l32_113, l32_114, l32_115, l32_116, l32_117, l32_118, l32_119, l32_120, l32_121, l32_122, l32_123, l32_124, l32_125, l32_126, l32_192, l32_200, l32_255, l32_999, l32_1000, l32_1344, l32_2147483639, l32_2147483647, l64_0, l64_1, l64_99, l64_999, l64_24883200000, l64_746496000000, jI_add, jI_sub, jI_mul, jI_neg, jL_add, jL_sub, jL_mul, jL_neg, jL_toI, jI_toL, jI_eqT, jI_eqF, jI_ltT, jI_ltF, jI_leT, jI_leF, jL_eqT, jL_eqF, jL_ltT, jL_ltF, jL_leT, jL_leF, inR_T, inR_F, bZ_T, bZ_F, not_true_eq_false, not_false_eq_true, jI_clamp, nI_j, bs_p, wl_p, u2_p, u3_p, u4_p, u5_p, zl_p, zr_p, mn_p, ms_p, if_pos, if_neg, ite_true, ite_false, ht, h.1, hr, e3, gI_uI, and_self, show (8 : Int) - 1 = 7 from rfl, show (7 : Int) * 192 = 1344 from rfl, hr2, e32] <;> rfl
      · exact (((hs1.mono (fun k hk => by unfold K1 at hk; unfold KS; omega)).tr (Sm.wI _ (Or.inl rfl))).tr (hs2.mono (fun k hk => by unfold K1 at hk; unfold KS; omega))).tr (Sm.wI _ (Or.inl rfl))
      · rw [gI_uI, if_neg (by omega), hs2.iK (by unfold K1; omega), gI_uI, if_neg (by omega), hs1.iK (by unfold K1; omega)]
      · show gL w2 142 = gL w 142
        rw [(hs2.1 142 (by unfold K1; omega)).2]
        exact (hs1.1 142 (by unfold K1; omega)).2
      · rw [gI_uI, if_pos ⟨rfl, rfl⟩]; rfl
      · rw [if_pos rfl] at i1
        show RSt (uI w2 141 3 (jI 8)) 144 (192 * i) (if (8 : Int) = 8 then (if i < 7 then L (i + 1) else S) else _)
        rw [if_pos rfl]
        by_cases z : i < 7
        · rw [if_pos z]
          intro x x0 x1
          show gL w2 144 (192 * i + x).toNat = _
          rw [hy2 _ (by omega)]
          show gL w1 144 (192 * i + x).toNat = _
          rw [hx1 _ (by omega), show (192 * i + x).toNat + 192 = (192 * (i + 1) + x).toNat by omega]
          exact h.2 (i + 1) (by omega) (by omega) x x0 x1
        · rw [if_neg z, show i = 7 by omega]
          exact hc2
    · obtain ⟨w2, hr2, hs2, hc2, hy2⟩ := s_rCopy (k2 := 144) (n0 := 192) (n2 := 1536) (c := n * 192) hB (by decide) (by omega) (by decide) (by omega) (by decide) (by decide) (by decide)
      have e32 : gI w2 141 3 = jI n := by rw [hs2.iK (by unfold K1; omega)]; exact h.1
      refine ⟨uI w2 141 3 (jI (n + 1)), ?_, ?_, fun i hi => ?_, fun z => absurd q z, fun _ => ⟨?_, ?_, fun i i0 i1 => ?_⟩⟩
      · rw [if_pos q]
        simp (disch := omega) only [l32_0, l32_1, l32_2, l32_3, l32_4, l32_5, l32_6, l32_7, l32_8, l32_9, l32_10, l32_11, l32_12, l32_13, l32_14, l32_15, l32_16, l32_17, l32_18, l32_19, l32_20, l32_21, l32_22, l32_23, l32_24, l32_25, l32_26, l32_27, l32_28, l32_29, l32_30, l32_31, l32_32, l32_33, l32_34, l32_35, l32_36, l32_37, l32_38, l32_39, l32_40, l32_41, l32_42, l32_43, l32_44, l32_45, l32_46, l32_47, l32_48, l32_49, l32_50, l32_51, l32_52, l32_53, l32_54, l32_55, l32_56, l32_57, l32_58, l32_59, l32_60, l32_61, l32_62, l32_63, l32_64, l32_65, l32_66, l32_76, l32_86, l32_90, l32_92, l32_97, l32_98, l32_99, l32_100, l32_101, l32_102, l32_103, l32_104, l32_105, l32_106, l32_107, l32_108, l32_109, l32_110, l32_111, l32_112, l32_113, l32_114, l32_115, l32_116, l32_117, l32_118, l32_119, l32_120, l32_121, l32_122, l32_123, l32_124, l32_125, l32_126, l32_192, l32_200, l32_255, l32_999, l32_1000, l32_1344, l32_2147483639, l32_2147483647, l64_0, l64_1, l64_99, l64_999, l64_24883200000, l64_746496000000, jI_add, jI_sub, jI_mul, jI_neg, jL_add, jL_sub, jL_mul, jL_neg, jL_toI, jI_toL, jI_eqT, jI_eqF, jI_ltT, jI_ltF, jI_leT, jI_leF, jL_eqT, jL_eqF, jL_ltT, jL_ltF, jL_leT, jL_leF, inR_T, inR_F, bZ_T, bZ_F, not_true_eq_false, not_false_eq_true, jI_clamp, nI_j, bs_p, wl_p, u2_p, u3_p, u4_p, u5_p, zl_p, zr_p, mn_p, ms_p, if_pos, if_neg, ite_true, ite_false, ht, h.1, hr2, e32]
      · exact (hs2.mono (fun k hk => by unfold K1 at hk; unfold KS; omega)).tr (Sm.wI _ (Or.inl rfl))
      · rw [gI_uI, if_neg (by omega), hs2.iK (by unfold K1; omega)]
      · show gL w2 142 = gL w 142
        exact (hs2.1 142 (by unfold K1; omega)).2
      · rw [gI_uI, if_pos ⟨rfl, rfl⟩, if_neg q8]
      · rw [if_neg q8] at i1
        show RSt (uI w2 141 3 (jI (n + 1))) 144 (192 * i) (if n = 8 then _ else (if i = n then S else L i))
        rw [if_neg q8]
        by_cases z : i = n
        · rw [if_pos z, z, Int.mul_comm]
          exact hc2
        · rw [if_neg z]
          intro x x0 x1
          show gL w2 144 (192 * i + x).toNat = _
          rw [hy2 _ (by omega), h.2 i i0 (by omega) x x0 x1]
  · obtain ⟨w2, hr2, hs2, hc2, hy2⟩ := s_rCopy (k2 := 142) (n0 := 192) (n2 := 192) (c := 0) hB (by decide) (by omega) (by decide) (by omega) (by decide) (by decide) (by decide)
    refine ⟨w2, ?_, hs2.mono (fun k hk => by unfold K1 at hk; unfold KS; omega), fun i hi => hs2.iK (by unfold K1; omega) i, fun _ => ⟨hc2, (hs2.1 141 (by unfold K1; omega)).1, (hs2.1 144 (by unfold K1; omega)).2⟩, fun z => absurd z q⟩
    rw [if_neg q]
    simp (disch := omega) only [l32_0, l32_1, l32_2, l32_3, l32_4, l32_5, l32_6, l32_7, l32_8, l32_9, l32_10, l32_11, l32_12, l32_13, l32_14, l32_15, l32_16, l32_17, l32_18, l32_19, l32_20, l32_21, l32_22, l32_23, l32_24, l32_25, l32_26, l32_27, l32_28, l32_29, l32_30, l32_31, l32_32, l32_33, l32_34, l32_35, l32_36, l32_37, l32_38, l32_39, l32_40, l32_41, l32_42, l32_43, l32_44, l32_45, l32_46, l32_47, l32_48, l32_49, l32_50, l32_51, l32_52, l32_53, l32_54, l32_55, l32_56, l32_57, l32_58, l32_59, l32_60, l32_61, l32_62, l32_63, l32_64, l32_65, l32_66, l32_76, l32_86, l32_90, l32_92, l32_97, l32_98, l32_99, l32_100, l32_101, l32_102, l32_103, l32_104, l32_105, l32_106, l32_107, l32_108, l32_109, l32_110, l32_111, l32_112, l32_113, l32_114, l32_115, l32_116, l32_117, l32_118, l32_119, l32_120, l32_121, l32_122, l32_123, l32_124, l32_125, l32_126, l32_192, l32_200, l32_255, l32_999, l32_1000, l32_1344, l32_2147483639, l32_2147483647, l64_0, l64_1, l64_99, l64_999, l64_24883200000, l64_746496000000, jI_add, jI_sub, jI_mul, jI_neg, jL_add, jL_sub, jL_mul, jL_neg, jL_toI, jI_toL, jI_eqT, jI_eqF, jI_ltT, jI_ltF, jI_leT, jI_leF, jL_eqT, jL_eqF, jL_ltT, jL_ltF, jL_leT, jL_leF, inR_T, inR_F, bZ_T, bZ_F, not_true_eq_false, not_false_eq_true, jI_clamp, nI_j, bs_p, wl_p, u2_p, u3_p, u4_p, u5_p, zl_p, zr_p, mn_p, ms_p, if_pos, if_neg, ite_true, ite_false, ht, hr2]
theorem chg_r {β : Type} (K : Int32 × Wd → Option β) {T : TS} {rf : Wd → Option (Int32 × Wd)} {cd : Nat → Int} {es : List Nat} {o : Oc} (hT : InvG T) (hO : OK es o) (hcd : ∀ e ∈ es, 0 < cd e ∧ cd e < 100) (hop : ∀ w, RSt w 142 0 (tS T) → ∃ r w', rf w = some (r, w') ∧ RO w w' r cd o) {w : Wd} (h : InvR w T) :
    ∃ r w', ((f_X11_begin w).bind fun w3 => ((rf w3).bind fun z => u2 z fun r5 w6 => ((f_X11_kept w6 r5).bind K))) = K (r, w') ∧ Sm KR w w' ∧ zc o (fun e => gI w' 141 12 = jI (cd e) ∧ r = jI 0 ∧ InvR w' T) (fun q => gI w' 141 12 = jI 0 ∧ r = jI q.1 ∧ InvR w' (psh T q.2)) := by
  obtain ⟨w1, hr1, hs1, hb1⟩ := s_begin h.1
  have h1 : InvR w1 T := h.kept (hs1.mono (fun k hk => by unfold K1 at hk; unfold KQ; omega)) (fun i _ _ _ => hs1.iK (by unfold K1; omega) i)
  obtain ⟨r, w2, hr2, hs2, hf2, hc2⟩ := hop w1 h1.1
  rw [hr1, bs_p, hr2, bs_p, u2_p]
  have hb2 : RSt w2 143 0 (tS T) := hb1.kept (hs2.1 143 (by unfold KM; omega)).2
  have h2H : HR w2 (tN T) (tL T) := h1.2.2.2.1.kept (hf2 3 (by decide)) (hs2.1 144 (by unfold KM; omega)).2
  have k1 : Sm KR w w1 := hs1.mono (fun k hk => by unfold K1 at hk; unfold KR; omega)
  have k2 : Sm KR w1 w2 := hs2.mono (fun k hk => by unfold KM at hk; unfold KR; omega)
  have fin : ∀ (w3 : Wd) (T' : TS), Sm KS w2 w3 → (∀ i, i ≠ 3 → gI w3 141 i = gI w2 141 i) → tH T' = tH T → tP T' = tP T → tC T' = tC T → tX T' = tX T → tE T' = tE T → tF T' = tF T → tO T' = tO T → tY T' = tY T → RSt w3 142 0 (tS T') → HR w3 (tN T') (tL T') → InvR w3 T' := by
    intro w3 T' hs3 hf3 f1 f2 f3 f4 f5 f6 f7 f8 f9 f10
    obtain ⟨g1, g2, g3, g4, g5, g6, g7, g8, g9, g10⟩ := h1
    unfold InvR
    rw [f1, f2, f3, f4, f5, f6, f7, f8]
    refine ⟨f9, ?_, fun q => ((g3 q).kept (hs2.1 145 (by unfold KM; omega)).2).kept (hs3.1 145 (by unfold KS; omega)).2, f10, ?_, fun i i0 i1 => ?_, ?_, ?_, ?_, fun i i0 i1 => ?_⟩
    · rw [hf3 5 (by decide), hf2 5 (by decide)]; exact g2
    · rw [hf3 7 (by decide), hf2 7 (by decide)]; exact g5
    · rw [hs3.iK (by unfold KS; omega), hs2.iK (by unfold KM; omega)]; exact g6 i i0 i1
    · rw [hf3 8 (by decide), hf2 8 (by decide)]; exact g7
    · rw [hf3 9 (by decide), hf2 9 (by decide)]; exact g8
    · rw [hf3 11 (by decide), hf2 11 (by decide)]; exact g9
    · rw [hs3.iK (by unfold KS; omega), hs2.iK (by unfold KM; omega)]; exact g10 i i0 i1
  rcases o with e | q
  · have hc2 : gI w2 141 12 = jI (cd e) := hc2
    have hcd := hcd e hO
    obtain ⟨w3, hr3, hs3, hf3, hx3, -⟩ := s_rKept (r := r) hb2 h2H hT.2.2.2.1.1 hT.2.2.2.1.2 hc2 (by omega) (by omega)
    have hx3 := hx3 (by omega)
    rw [hr3, bs_p, if_neg (show ¬ cd e = 0 by omega)]
    refine ⟨_, w3, rfl, (k1.tr k2).tr (hs3.mono (fun k hk => by unfold KS at hk; unfold KR; omega)), ?_, rfl, ?_⟩
    · rw [hf3 12 (by decide)]; exact hc2
    · exact fin w3 T hs3 hf3 rfl rfl rfl rfl rfl rfl rfl rfl hx3.1 (h2H.kept (congrFun hx3.2.1 3) hx3.2.2)
  · obtain ⟨c1, c2, c3⟩ : r = jI q.1 ∧ gI w2 141 12 = jI 0 ∧ RSt w2 142 0 q.2 := hc2
    obtain ⟨w3, hr3, hs3, hf3, -, hx3⟩ := s_rKept (r := r) hb2 h2H hT.2.2.2.1.1 hT.2.2.2.1.2 c2 (by decide) (by decide)
    have hx3 := hx3 rfl
    rw [hr3, bs_p, if_pos rfl]
    refine ⟨_, w3, rfl, (k1.tr k2).tr (hs3.mono (fun k hk => by unfold KS at hk; unfold KR; omega)), ?_, c1, ?_⟩
    · rw [hf3 12 (by decide)]; exact c2
    · exact fin w3 (psh T q.2) hs3 hf3 rfl rfl rfl rfl rfl rfl rfl rfl (c3.kept hx3.1) hx3.2
