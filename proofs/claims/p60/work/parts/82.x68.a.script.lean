/-! THE LAW over a script -/
def KX (k : Nat) : Prop := (141 ≤ k ∧ k ≤ 144) ∨ (148 ≤ k ∧ k ≤ 150)
theorem KX_R {w w' : Wd} (h : Sm KX w w') : Sm KR w w' := h.mono (fun k hk => by unfold KX at hk; unfold KR; omega)
theorem InvG.tb {T : TS} (h : InvG T) : TXb (tX T) (tC T) := ⟨h.2.2.2.2.2.1, h.2.2.2.2.2.2.1⟩
section
variable {w : Wd} {T : TS} {K : Nat}
theorem r_pre (hR : InvR w T) (hB : TXb (tX T) (tC T)) (hK : K ≤ 30) (hg : ∀ j, j < K → gon (hr (tX T) (tC T)) j) (hn : ¬ gon (hr (tX T) (tC T)) K) :
    ∃ w5, p_X11_runScript_14 2000 (0 : Int32) (1 : Int32) (uI (uI w 141 15 (0 : Int32)) 141 16 (0 : Int32)) = some (.inl (jI ((K + 1 : Nat) : Int), 0, w5)) ∧ RG w w5 ∧ gI w5 141 7 = jI (tC T) ∧ gI w5 141 15 = jI (cQ (hr (tX T) (tC T)) (stt (hr (tX T) (tC T)) K)).1 ∧ gI w5 141 16 = jI (cQ (hr (tX T) (tC T)) (stt (hr (tX T) (tC T)) K)).2 ∧ ((cQ (hr (tX T) (tC T)) (stt (hr (tX T) (tC T)) K)).2 = 0 → RLs w5 (hr (tX T) (tC T)) (K + 1)) := by
  have g0 := (RG.w5 w (0 : Int32)).tr (RG.w6 (uI w 141 15 (0 : Int32)) (0 : Int32))
  have R0 : RP (uI (uI w 141 15 (0 : Int32)) 141 16 (0 : Int32)) (tX T) (tC T) (stt (hr (tX T) (tC T)) 0, 0) :=
    ⟨⟨by rw [g0.2 7 (by decide) (by decide)]; exact hR.2.2.2.2.1, fun i i0 i1 => by rw [g0.1.iK (by omega)]; exact hR.2.2.2.2.2.1 i i0 i1⟩, by rw [gI_uI, if_neg (by omega), gI_uI, if_pos ⟨rfl, rfl⟩]; rfl, by rw [gI_uI, if_pos ⟨rfl, rfl⟩]; rfl, ⟨Int.le_refl _, hB.1.1⟩, Or.inl rfl⟩
  obtain ⟨w', a1, a2, a3, a4, a5, a6⟩ := s_rParse hB hK hg hn K 0 2000 _ (by omega) (by omega) R0 (fun j hj => absurd hj (Nat.not_lt_zero j))
  exact ⟨w', a1, g0.tr a2, a3.1, a4, a5, a6⟩
theorem r_scr1 (hG : InvG T) (hR : InvR w T) (hK : K ≤ 30) (hg : ∀ j, j < K → gon (hr (tX T) (tC T)) j) (hn : ¬ gon (hr (tX T) (tC T)) K) {P : Int × Int} (hP : P = cQ (hr (tX T) (tC T)) (stt (hr (tX T) (tC T)) K)) (p0 : 0 ≤ P.1) (p1 : P.1 ≤ tC T) (pb : P.2 = 0 ∨ P.2 = 1) (hw : ¬ (P.2 = 0 ∧ P.1 = tC T)) :
    ∃ w6, f_X11_runScript w = some (jI 0, w6) ∧ Sm KR w w6 ∧ gI w6 141 12 = jI 1 ∧ InvR w6 (erp (emp T) P.1) := by
  have hB := hG.tb
  have c60 := hB.1
  obtain ⟨w5, a1, a2, a3, a4, a5, a6⟩ := r_pre hR hB hK hg hn
  rw [← hP] at a4 a5
  have i0 : ¬ (1 : Int32) = 0 := by decide +kernel
  have s6 : Sm KX w (uI (uI (uI (uI w5 141 16 (1 : Int32)) 141 7 (0 : Int32)) 141 8 (jI P.1)) 141 12 (1 : Int32)) :=
    ((((a2.1.mono (fun k hk => by unfold KX; omega)).tr (Sm.wI _ (by unfold KX; omega))).tr (Sm.wI _ (by unfold KX; omega))).tr (Sm.wI _ (by unfold KX; omega))).tr (Sm.wI _ (by unfold KX; omega))
  refine ⟨uI (uI (uI (uI w5 141 16 (1 : Int32)) 141 7 (0 : Int32)) 141 8 (jI P.1)) 141 12 (1 : Int32), ?_, KX_R s6, by rw [gI_uI, if_pos ⟨rfl, rfl⟩]; rfl, ?_⟩
  · have f6 : gI (uI (uI w5 141 16 (1 : Int32)) 141 7 (0 : Int32)) 141 16 = 1 := by rw [gI_uI, if_neg (by omega), gI_uI, if_pos ⟨rfl, rfl⟩]
    have f5 : gI (uI (uI w5 141 16 (1 : Int32)) 141 7 (0 : Int32)) 141 15 = jI P.1 := by rw [gI_uI, if_neg (by omega), gI_uI, if_neg (by omega)]; exact a4
    unfold f_X11_runScript
    rw [wl_p, wl_p, a1, bs_p, zl_p, u3_p, a5]
    rcases pb with z | z
    · rw [if_pos (by rw [z]; rfl), a3, a4, if_neg (by rw [jI_le (by omega) (by omega) (by omega) (by omega)]; omega), wl_p, wl_p, f6, if_neg i0, f5, wl_p, s_fails]
      rfl
    · rw [if_neg (by rw [z]; decide +kernel), wl_p, wl_p, f6, if_neg i0, f5, wl_p, s_fails]
      rfl
  · have ff : ∀ i, i ≠ 7 → i ≠ 8 → i ≠ 12 → i ≠ 15 → i ≠ 16 → gI (uI (uI (uI (uI w5 141 16 (1 : Int32)) 141 7 (0 : Int32)) 141 8 (jI P.1)) 141 12 (1 : Int32)) 141 i = gI w 141 i := fun i b c d e f => by
      rw [gI_uI, if_neg (by omega), gI_uI, if_neg (by omega), gI_uI, if_neg (by omega), gI_uI, if_neg (by omega)]
      exact a2.2 i e f
    refine InvR.of (T' := erp (emp T) P.1) hR s6 (by unfold KX; omega) (by unfold KX; omega) (by unfold KX; omega) rfl rfl rfl rfl rfl c60.1 (ff 5 (by decide) (by decide) (by decide) (by decide) (by decide)) (ff 11 (by decide) (by decide) (by decide) (by decide) (by decide)) ?_ ?_ ?_ ?_ ?_
    · rw [gI_uI, if_neg (by omega), gI_uI, if_neg (by omega), gI_uI, if_pos ⟨rfl, rfl⟩]; rfl
    · rw [gI_uI, if_neg (by omega), gI_uI, if_pos ⟨rfl, rfl⟩]; rfl
    · rw [ff 9 (by decide) (by decide) (by decide) (by decide) (by decide)]; exact hR.2.2.2.2.2.2.2.1
    · exact hR.1.kept (a2.1.1 142 (by omega)).2
    · exact hR.2.2.2.1.kept (ff 3 (by decide) (by decide) (by decide) (by decide) (by decide)) (a2.1.1 144 (by omega)).2
/-- the commands are right; one of them is refused, or none -/
theorem r_scr2 (hG : InvG T) (hR : InvR w T) (hK : K ≤ 30) (hg : ∀ j, j < K → gon (hr (tX T) (tC T)) j) (hn : ¬ gon (hr (tX T) (tC T)) K) (z : (cQ (hr (tX T) (tC T)) (stt (hr (tX T) (tC T)) K)).2 = 0) (zc0 : (cQ (hr (tX T) (tC T)) (stt (hr (tX T) (tC T)) K)).1 = tC T) {O : Nat ⊕ Ab} (hO : zc O (fun k' => k' < K + 1) (fun S' => Good S'))
    (h3 : ∀ f w, K + 1 < f → RSt w 142 0 (tS T) → RLs w (hr (tX T) (tC T)) (K + 1) → zc O (fun k' => ∃ r w2, p_X11_runScript_130 (jI ((K + 1 : Nat) : Int)) f (jI ((0 : Nat) : Int)) w = ((f_X11_kept (uI (uI w2 141 9 (jI (k' : Int))) 141 12 (2 : Int32)) r).bind fun z => u2 z fun r39 w40 => (some (.inr (r39, w40)))) ∧ RK w w2) (fun S' => ∃ w2, p_X11_runScript_130 (jI ((K + 1 : Nat) : Int)) f (jI ((0 : Nat) : Int)) w = some (.inl (jI ((K + 1 : Nat) : Int), w2)) ∧ RK w w2 ∧ RSt w2 142 0 S')) :
    zc O (fun k' => ∃ w6, f_X11_runScript w = some (jI 0, w6) ∧ Sm KR w w6 ∧ gI w6 141 12 = jI 2 ∧ InvR w6 (fai (emp T) k')) (fun S' => ∃ w6, f_X11_runScript w = some (jI ((K + 1 : Nat) : Int), w6) ∧ Sm KR w w6 ∧ gI w6 141 12 = jI 0 ∧ InvR w6 (psh (emp T) S')) := by
  have hB := hG.tb
  have c60 := hB.1
  obtain ⟨w5, a1, a2, a3, a4, a5, a6⟩ := r_pre hR hB hK hg hn
  have L5 := a6 z
  rw [zc0] at a4
  rw [z] at a5
  obtain ⟨w9, ew⟩ : ∃ w9, w9 = uI (uI w5 141 16 (0 : Int32)) 141 7 (0 : Int32) := ⟨_, rfl⟩
  have s9 : Sm (fun k => k = 141 ∨ k = 150) w w9 := by rw [ew]; exact (a2.1.tr (Sm.wI _ (Or.inl rfl))).tr (Sm.wI _ (Or.inl rfl))
  have f9 : ∀ i, i ≠ 7 → i ≠ 15 → i ≠ 16 → gI w9 141 i = gI w 141 i := fun i b c d => by
    rw [ew, gI_uI, if_neg (by omega), gI_uI, if_neg (by omega)]
    exact a2.2 i c d
  have e7 : gI w9 141 7 = jI 0 := by rw [ew, gI_uI, if_pos ⟨rfl, rfl⟩]; rfl
  have e16 : gI w9 141 16 = 0 := by rw [ew, gI_uI, if_neg (by omega), gI_uI, if_pos ⟨rfl, rfl⟩]
  have L9 : RLs w9 (hr (tX T) (tC T)) (K + 1) := fun j hj => by
    rw [ew, gI_uI, if_neg (by omega), gI_uI, if_neg (by omega), gI_uI, if_neg (by omega), gI_uI, if_neg (by omega), gI_uI, if_neg (by omega), gI_uI, if_neg (by omega)]
    exact L5 j hj
  have S9 : RSt w9 142 0 (tS T) := hR.1.kept (s9.1 142 (by omega)).2
  obtain ⟨w10, b1, b2, b3⟩ := s_begin S9
  have S10 : RSt w10 142 0 (tS T) := S9.kept (b2.1 142 (by unfold K1; omega)).2
  have L10 : RLs w10 (hr (tX T) (tC T)) (K + 1) := fun j hj => by
    rw [b2.iK (by unfold K1; omega), b2.iK (by unfold K1; omega), b2.iK (by unfold K1; omega)]
    exact L9 j hj
  have H9 : HR w9 (tN T) (tL T) := hR.2.2.2.1.kept (f9 3 (by decide) (by decide) (by decide)) (s9.1 144 (by omega)).2
  have H10 : HR w10 (tN T) (tL T) := H9.kept (b2.iK (by unfold K1; omega) 3) (b2.1 144 (by unfold K1; omega)).2
  have k10 : Sm KX w w10 := (s9.mono (fun k hk => by unfold KX; omega)).tr (b2.mono (fun k hk => by unfold K1 at hk; unfold KX; omega))
  have n8 := hG.2.2.2.1
  have go : ∀ (r : Option (Int32 × Wd)), ((p_X11_runScript_130 (jI ((K + 1 : Nat) : Int)) 2000 (0 : Int32) w10).bind fun z => zc z (fun q => u2 q fun y64 w65 => ((f_X11_done w65 (jI ((K + 1 : Nat) : Int))).bind fun z => u2 z fun r82 w83 => ((f_X11_kept w83 r82).bind fun z => u2 z fun r86 w87 => (some (r86, w87))))) (fun r => (some r))) = r → f_X11_runScript w = r := by
    intro r hr
    unfold f_X11_runScript
    rw [wl_p, wl_p, a1, bs_p, zl_p, u3_p, a5, if_pos (show jI 0 = 0 from rfl), a3, a4, if_pos (by rw [jI_le (by omega) (by omega) (by omega) (by omega)]; omega), wl_p, wl_p, ← ew, e16, if_pos rfl, b1, bs_p]
    exact hr
  have y := h3 2000 w10 (by omega) S10 L10
  rcases O with k' | S'
  · have hO : k' < K + 1 := hO
    obtain ⟨r, w2, y1, y2⟩ := y
    have y1 : p_X11_runScript_130 (jI ((K + 1 : Nat) : Int)) 2000 (0 : Int32) w10 = _ := y1
    have B2 : RSt (uI (uI w2 141 9 (jI (k' : Int))) 141 12 (2 : Int32)) 143 0 (tS T) := b3.kept (y2.1.1 143 (by unfold KM; omega)).2
    have H2 : HR (uI (uI w2 141 9 (jI (k' : Int))) 141 12 (2 : Int32)) (tN T) (tL T) := H10.kept (by rw [gI_uI, if_neg (by omega), gI_uI, if_neg (by omega)]; exact y2.2 3 (by decide)) (y2.1.1 144 (by unfold KM; omega)).2
    obtain ⟨w6, x1, x2, x3, x4, -⟩ := s_rKept (r := r) B2 H2 n8.1 n8.2 (t := 2) (by rw [gI_uI, if_pos ⟨rfl, rfl⟩]; rfl) (by decide) (by decide)
    have x4 := x4 (by decide)
    have s6 : Sm KX w w6 := (((k10.tr (y2.1.mono (fun k hk => by unfold KM at hk; unfold KX; omega))).tr (Sm.wI w2 (by unfold KX; omega))).tr (Sm.wI _ (by unfold KX; omega))).tr (x2.mono (fun k hk => by unfold KS at hk; unfold KX; omega))
    have ff : ∀ i, i ≠ 3 → i ≠ 7 → i ≠ 9 → i ≠ 12 → i ≠ 15 → i ≠ 16 → gI w6 141 i = gI w 141 i := fun i a b c d e f => by
      rw [x3 i a, gI_uI, if_neg (by omega), gI_uI, if_neg (by omega), y2.2 i d, b2.iK (by unfold K1; omega)]
      exact f9 i b e f
    refine ⟨w6, go _ ?_, KX_R s6, by rw [x3 12 (by decide), gI_uI, if_pos ⟨rfl, rfl⟩]; rfl, InvR.of (T' := fai (emp T) k') hR s6 (by unfold KX; omega) (by unfold KX; omega) (by unfold KX; omega) rfl rfl rfl rfl rfl c60.1 (ff 5 (by decide) (by decide) (by decide) (by decide) (by decide) (by decide)) (ff 11 (by decide) (by decide) (by decide) (by decide) (by decide) (by decide)) ?_ ?_ ?_ x4.1 ?_⟩
    · rw [y1, x1, bs_p, u2_p, if_neg (show ¬ (2 : Int) = 0 by decide), bs_p, zr_p]
    · rw [x3 7 (by decide), gI_uI, if_neg (by omega), gI_uI, if_neg (by omega), y2.2 7 (by decide), b2.iK (by unfold K1; omega)]
      exact e7
    · rw [ff 8 (by decide) (by decide) (by decide) (by decide) (by decide) (by decide)]
      exact hR.2.2.2.2.2.2.1
    · rw [x3 9 (by decide), gI_uI, if_neg (by omega), gI_uI, if_pos ⟨rfl, rfl⟩]
      rfl
    · exact H2.kept (congrFun x4.2.1 3) x4.2.2
  · obtain ⟨w2, y1, y2, y3⟩ := y
    have y1 : p_X11_runScript_130 (jI ((K + 1 : Nat) : Int)) 2000 (0 : Int32) w10 = _ := y1
    have B2 : RSt (uI w2 141 12 (jI 0)) 143 0 (tS T) := b3.kept (y2.1.1 143 (by unfold KM; omega)).2
    have H2 : HR (uI w2 141 12 (jI 0)) (tN T) (tL T) := H10.kept (by rw [gI_uI, if_neg (by omega)]; exact y2.2 3 (by decide)) (y2.1.1 144 (by unfold KM; omega)).2
    obtain ⟨w6, x1, x2, x3, -, x4⟩ := s_rKept (r := jI ((K + 1 : Nat) : Int)) B2 H2 n8.1 n8.2 (t := 0) (by rw [gI_uI, if_pos ⟨rfl, rfl⟩]) (by decide) (by decide)
    have x4 := x4 rfl
    have s6 : Sm KX w w6 := ((k10.tr (y2.1.mono (fun k hk => by unfold KM at hk; unfold KX; omega))).tr (Sm.wI w2 (by unfold KX; omega))).tr (x2.mono (fun k hk => by unfold KS at hk; unfold KX; omega))
    have ff : ∀ i, i ≠ 3 → i ≠ 7 → i ≠ 12 → i ≠ 15 → i ≠ 16 → gI w6 141 i = gI w 141 i := fun i a b d e f => by
      rw [x3 i a, gI_uI, if_neg (by omega), y2.2 i d, b2.iK (by unfold K1; omega)]
      exact f9 i b e f
    refine ⟨w6, go _ ?_, KX_R s6, by rw [x3 12 (by decide), gI_uI, if_pos ⟨rfl, rfl⟩], InvR.of (T' := psh (emp T) S') hR s6 (by unfold KX; omega) (by unfold KX; omega) (by unfold KX; omega) rfl rfl rfl rfl rfl c60.1 (ff 5 (by decide) (by decide) (by decide) (by decide) (by decide)) (ff 11 (by decide) (by decide) (by decide) (by decide) (by decide)) ?_ ?_ ?_ (y3.kept x4.1) x4.2⟩
    · rw [y1, bs_p, zl_p, u2_p, s_done, bs_p, u2_p, x1, bs_p, u2_p, if_pos rfl]
    · rw [x3 7 (by decide), gI_uI, if_neg (by omega), y2.2 7 (by decide), b2.iK (by unfold K1; omega)]
      exact e7
    · rw [ff 8 (by decide) (by decide) (by decide) (by decide) (by decide)]
      exact hR.2.2.2.2.2.2.1
    · rw [ff 9 (by decide) (by decide) (by decide) (by decide) (by decide)]
      exact hR.2.2.2.2.2.2.2.1
end
theorem lw_runScript {w : Wd} (h : Inv w) (x1 x2 x3 : Int32) : ∃ w1, f_law_3077 w x1 x2 x3 = some w1 ∧ Inv w1 := by
  obtain ⟨T, hG, hC, hR⟩ := h
  have hB := hG.tb
  have c60 := hB.1
  obtain ⟨K, hK, hg, hn⟩ := gon_end hB
  obtain ⟨w1, a1, a2, a3⟩ := s_parse hB ⟨hC.2.2.2.2.1, hC.2.2.2.2.2.1⟩ hK hg hn
  have C2 := hC.emp a2
  have sb := stt_b hB K hg
  have mv := (mv_Q hB (p := stt (hr (tX T) (tC T)) K) (by omega) sb.2).1
  have m1 : stt (hr (tX T) (tC T)) K ≤ _ := mv.1
  have m2 := mv.2.1
  have k2 : Sm KL w (uI w1 134 1 (0 : Int32)) := (a2.1.mono (fun k hk => by unfold KP at hk; unfold KL; omega)).tr (Sm.wI _ (by unfold KL; omega))
  have em : f_X6_empty w1 = some (uI w1 134 1 (0 : Int32)) := rfl
  have ge : InvG (emp T) := hG.emp
  unfold f_law_3077
  by_cases q : (cQ (hr (tX T) (tC T)) (stt (hr (tX T) (tC T)) K)).2 = 0 ∧ (cQ (hr (tX T) (tC T)) (stt (hr (tX T) (tC T)) K)).1 = tC T
  · have ew : wrg (hr (tX T) (tC T)) (tC T) K = -1 := if_pos q
    obtain ⟨a6, aL⟩ := a3 ew
    rw [ew] at a1
    obtain ⟨O, o1, o2, o3⟩ := s_run (h := hr (tX T) (tC T)) (N := K + 1) (by omega) (K + 1) 0 (tS T) (by omega) hG.1
    obtain ⟨w3, b1, b2, b3⟩ := s_copy (b0 := 12) hG.1 C2.1 (by omega)
    have C3 := C2.before b2
    have L3 : CL w3 (hr (tX T) (tC T)) (K + 1) := fun j hj => by
      have e : gV w3 = gV w1 := b2.2.1 (by unfold Kb; omega)
      rw [e, b2.iK (by unfold Kb; omega), b2.iK (by unfold Kb; omega), gI_uI, if_neg (by omega), gI_uI, if_neg (by omega)]
      exact aL j hj
    have n3 : gI w3 134 6 = jI ((K + 1 : Nat) : Int) := by rw [b2.iK (by unfold Kb; omega), gI_uI, if_neg (by omega)]; exact a6
    have k3 : Sm KL w w3 := k2.tr (b2.mono (fun k hk => by unfold Kb at hk; unfold KL; omega))
    have y := o2 2000 w3 (by omega) C3.1 L3 n3
    have go : ∀ r : Option ((Nat ⊕ Int32) × Wd), ((p_X10_runScript_46 2000 (0 : Int32) w3).bind fun z => zc z (fun q => u2 q fun y12 w13 => ((f_X3_push w13).bind fun w29 => (some ((.inr (gI w29 134 6)), w29)))) (fun r => (some r))) = r → f_X10_runScript w = r := by
      intro r hr
      unfold f_X10_runScript
      rw [a1, bs_p, u2_p, em, bs_p, if_pos (show jI (-1) = (-1 : Int32) from rfl), b1, bs_p]
      exact hr
    rcases O with k' | S'
    · have o1 : k' < K + 1 := o1
      obtain ⟨w4, y1, y2⟩ := y
      have y1 : p_X10_runScript_46 2000 (0 : Int32) w3 = _ := y1
      obtain ⟨w5, d1, d2, d3⟩ := s_copy (b0 := 1) hG.1 (b3.kept (fun r hr => y2.1 _ (by unfold KC; omega))) (by omega)
      have s5 : Sm KC w3 w5 := y2.tr (d2.mono (fun k hk => by unfold Kb at hk; unfold KC; omega))
      have C5 : InvC w5 (emp T) := C3.set s5 d3
      have C6 : InvC (uI w5 0 12 (jI (k' : Int))) (fai (emp T) k') := C5.fai
      have k6 : Sm KL w (uI w5 0 12 (jI (k' : Int))) := (k3.tr (s5.mono (fun k hk => by unfold KC at hk; unfold KL; omega))).tr (Sm.wI _ (by unfold KL; omega))
      have L : f_L_runScript w = some (jI 2, uI w5 0 12 (jI (k' : Int))) := by
        unfold f_L_runScript
        rw [go _ rfl, y1, d1, bs_p, wl_p, bs_p, zr_p, bs_p, u2_p, zl_p, if_neg (by decide), if_pos rfl]
        rfl
      obtain ⟨w6, x1, x2, x3, x4⟩ := r_scr2 hG (hR.far k6) hK hg hn q.1 q.2 (O := .inl k') o1 o3
      refine ⟨w6, lawA L x1 x3 (fun z => ?_), fai (emp T) k', ge.fai (by omega), C6.far x2, x4⟩
      exact absurd z (show ¬ jI 2 = 0 by decide +kernel)
    · obtain ⟨w4, y1, y2, y3⟩ := y
      have y1 : p_X10_runScript_46 2000 (0 : Int32) w3 = _ := y1
      have C4 : InvC w4 (sta (emp T) S') := C3.set y2 y3
      obtain ⟨w5, d1, d2, d3⟩ := C4.push hG.1 (b3.kept (fun r hr => y2.1 _ (by unfold KC; omega))) hG.2.2.2.1.1 hG.2.2.2.1.2
      have C5 : InvC w5 (psh (emp T) S') := d3
      have n5 : gI w5 134 6 = jI ((K + 1 : Nat) : Int) := by rw [d2.iK (by unfold KH; omega), y2.iK (by unfold KC; omega)]; exact n3
      have k5 : Sm KL w w5 := (k3.tr (y2.mono (fun k hk => by unfold KC at hk; unfold KL; omega))).tr (d2.mono (fun k hk => by unfold KH at hk; unfold KL; omega))
      have L : f_L_runScript w = some (jI 0, uL w5 151 0 (jL ((K + 1 : Nat) : Int))) := by
        unfold f_L_runScript
        rw [go _ rfl, y1, bs_p, zl_p, u2_p, d1, bs_p, bs_p, u2_p, zr_p, n5, if_pos (show inR (0 : Int32) 1 = true by decide +kernel), wl_p, jI_toL (by omega) (by omega)]
        rfl
      obtain ⟨w6, x1, x2, x3, x4⟩ := r_scr2 hG ((hR.far k5).out (jL ((K + 1 : Nat) : Int))) hK hg hn q.1 q.2 (O := .inr S') o1 o3
      refine ⟨w6, lawA L x1 x3 (fun _ => ?_), psh (emp T) S', ge.psh o1, (InvC.out C5 _).far x2, x4⟩
      rw [out_at x2, jI_toL (by omega) (by omega)]
  · have ew : wrg (hr (tX T) (tC T)) (tC T) K = (cQ (hr (tX T) (tC T)) (stt (hr (tX T) (tC T)) K)).1 := if_neg q
    rw [ew] at a1
    have C3 : InvC (uI (uI w1 134 1 (0 : Int32)) 0 11 (jI (cQ (hr (tX T) (tC T)) (stt (hr (tX T) (tC T)) K)).1)) (erp (emp T) (cQ (hr (tX T) (tC T)) (stt (hr (tX T) (tC T)) K)).1) := C2.erp
    have k3 : Sm KL w (uI (uI w1 134 1 (0 : Int32)) 0 11 (jI (cQ (hr (tX T) (tC T)) (stt (hr (tX T) (tC T)) K)).1)) := k2.tr (Sm.wI _ (by unfold KL; omega))
    have L : f_L_runScript w = some (jI 1, uI (uI w1 134 1 (0 : Int32)) 0 11 (jI (cQ (hr (tX T) (tC T)) (stt (hr (tX T) (tC T)) K)).1)) := by
      unfold f_L_runScript f_X10_runScript
      rw [a1, bs_p, u2_p, em, bs_p, if_neg (by rw [show (-1 : Int32) = jI (-1) from rfl, jI_eq (by omega) (by omega) (by omega) (by omega)]; omega), wl_p, bs_p, u2_p, zl_p, if_pos rfl]
      rfl
    obtain ⟨w6, x1, x2, x3, x4⟩ := r_scr1 hG (hR.far k3) hK hg hn (P := cQ (hr (tX T) (tC T)) (stt (hr (tX T) (tC T)) K)) rfl (by omega) m2 mv.2.2.1 q
    refine ⟨w6, lawA L x1 x3 (fun z => ?_), erp (emp T) _, ge.erp ⟨by omega, by omega⟩, C3.far x2, x4⟩
    exact absurd z (show ¬ jI 1 = 0 by decide +kernel)
