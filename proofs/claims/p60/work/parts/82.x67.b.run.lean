/-! THE COMMANDS carried out one behind another, both sides -/
def RK (w w' : Wd) : Prop := Sm KM w w' ∧ ∀ i, i ≠ 12 → gI w' 141 i = gI w 141 i
theorem RK.refl (w : Wd) : RK w w := ⟨Sm.refl w, fun _ _ => rfl⟩
theorem RK.tr {w w1 w2 : Wd} (h : RK w w1) (k : RK w1 w2) : RK w w2 := ⟨h.1.tr k.1, fun i a => (k.2 i a).trans (h.2 i a)⟩
theorem CL.kc {w w' : Wd} {h : Int → Int} {k : Nat} (c : CL w h k) (s : Sm KC w w') : CL w' h k := fun j hj => by
  have e : gV w' = gV w := s.2.1 (by unfold KC; omega)
  rw [e, s.iK (by unfold KC; omega), s.iK (by unfold KC; omega)]
  exact c j hj
theorem RLs.km {w w' : Wd} {h : Int → Int} {k : Nat} (c : RLs w h k) (s : Sm KM w w') : RLs w' h k := fun j hj => by
  rw [s.iK (by unfold KM; omega), s.iK (by unfold KM; omega), s.iK (by unfold KM; omega)]
  exact c j hj
theorem pcA_b {s : Nat} {h : Int → Int} {q : Int × Int} : 0 ≤ pcA s h q ∧ pcA s h q < 1000 := by
  have k : ∀ (L : Nat), L ≤ 3 → 0 ≤ dvl L h q ∧ dvl L h q < 1000 := by
    intro L hL
    unfold dvl
    split
    · exact dv_b L h q.1 0 0 (by omega) (by unfold dB; omega)
    · omega
  unfold pcA
  split
  · exact k 3 (by decide)
  · exact k 1 (by decide)
theorem pcB_b {s : Nat} {h : Int → Int} {q : Int × Int} : 0 ≤ pcB s h q ∧ pcB s h q < 1000 := by
  have k : ∀ (L : Nat) (q : Int × Int), L ≤ 3 → 0 ≤ dvl L h q ∧ dvl L h q < 1000 := by
    intro L q hL
    unfold dvl
    split
    · exact dv_b L h q.1 0 0 (by omega) (by unfold dB; omega)
    · omega
  unfold pcB
  split
  · exact k 1 _ (by decide)
  · split
    · exact k 3 _ (by decide)
    · omega
theorem s_run {h : Int → Int} {N : Nat} (hN : N ≤ 31) : ∀ (n k : Nat) (S : Ab), k + n = N → Good S → ∃ O : Nat ⊕ Ab, zc O (fun k' => k' < N) (fun S' => Good S') ∧
    (∀ f w, n < f → CSt w 1 S → CL w h N → gI w 134 6 = jI (N : Int) → zc O (fun k' => ∃ w2, p_X10_runScript_46 f (jI (k : Int)) w = ((f_X7_copyFrom w2 1 12).bind fun w23 => (wl (uI w23 0 12 (jI (k' : Int))) fun w24 => (some (.inr ((.inl 2), w24))))) ∧ Sm KC w w2) (fun S' => ∃ w2, p_X10_runScript_46 f (jI (k : Int)) w = some (.inl (jI (N : Int), w2)) ∧ Sm KC w w2 ∧ CSt w2 1 S')) ∧
    ∀ f w, n < f → RSt w 142 0 S → RLs w h N → zc O (fun k' => ∃ r w2, p_X11_runScript_130 (jI (N : Int)) f (jI (k : Int)) w = ((f_X11_kept (uI (uI w2 141 9 (jI (k' : Int))) 141 12 (2 : Int32)) r).bind fun z => u2 z fun r39 w40 => (some (.inr (r39, w40)))) ∧ RK w w2) (fun S' => ∃ w2, p_X11_runScript_130 (jI (N : Int)) f (jI (k : Int)) w = some (.inl (jI (N : Int), w2)) ∧ RK w w2 ∧ RSt w2 142 0 S') := by
  intro n
  induction n with
  | zero =>
    intro k S hk hG
    have e : k = N := by omega
    subst e
    refine ⟨.inr S, hG, fun f w hf hS hL hc => ?_, fun f w hf hS hL => ?_⟩
    · obtain ⟨f, rfl⟩ : ∃ f', f = f' + 1 := ⟨f - 1, by omega⟩
      refine ⟨w, ?_, Sm.refl w, hS⟩
      rw [p_X10_runScript_46, hc, if_pos (by rw [jI_le (by omega) (by omega) (by omega) (by omega)]; omega)]
    · obtain ⟨f, rfl⟩ : ∃ f', f = f' + 1 := ⟨f - 1, by omega⟩
      refine ⟨w, ?_, RK.refl w, hS⟩
      rw [p_X11_runScript_130, if_pos (by rw [jI_le (by omega) (by omega) (by omega) (by omega)]; omega)]
  | succ n ih =>
    intro k S hk hG
    have e1 : jI (k : Int) + (1 : Int32) = jI ((k + 1 : Nat) : Int) := by rw [l32_1, jI_add]; rfl
    have e3 : (3 : Int32) * jI (k : Int) = jI ((3 * k : Nat) : Int) := by rw [l32_3, jI_mul]; rfl
    have ba : 0 ≤ cA h (stt h k) ∧ cA h (stt h k) < 1000 := pcA_b
    have bb : 0 ≤ cB h (stt h k) ∧ cB h (stt h k) < 1000 := pcB_b
    obtain ⟨o, o5, oG, oc, or⟩ := ops_all (k := k) hG (by omega) (cv_lt h (stt h k)) (a := cA h (stt h k)) (b := cB h (stt h k)) (by omega) (by omega) (by omega) (by omega)
    rcases o with e | q
    · refine ⟨.inl k, show k < N by omega, fun f w hf hS hL hc => ?_, fun f w hf hS hL => ?_⟩
      · obtain ⟨f, rfl⟩ : ∃ f', f = f' + 1 := ⟨f - 1, by omega⟩
        have l := hL k (by omega)
        have e5 := o5 e rfl
        obtain ⟨r, w2, x1, x2, x3⟩ := oc w hS l.1 l.2.1 l.2.2
        have x3 : r = jI (-(e : Int) - 1) ∧ CSt w2 1 S := x3
        refine ⟨w2, ?_, x2⟩
        rw [p_X10_runScript_46, hc, if_neg (by rw [jI_le (by omega) (by omega) (by omega) (by omega)]; omega), x1, bs_p, u2_p, x3.1, if_neg (show ¬ (0 : Int32) ≤ jI (-(e : Int) - 1) by rw [show (0 : Int32) = jI 0 from rfl, jI_le (by omega) (by omega) (by omega) (by omega)]; omega)]
      · obtain ⟨f, rfl⟩ : ∃ f', f = f' + 1 := ⟨f - 1, by omega⟩
        have l := hL k (by omega)
        obtain ⟨r, w2, x1, x2, x3, c, c0, c1, x4⟩ := or w hS l.1 l.2.1 l.2.2
        refine ⟨r, w2, ?_, x2, x3⟩
        rw [p_X11_runScript_130, if_neg (by rw [jI_le (by omega) (by omega) (by omega) (by omega)]; omega), e3, x1, bs_p, u2_p, x4, if_neg (by rw [l32_0, jI_eq (by omega) (by omega) (by omega) (by omega)]; omega), wl_p, wl_p]
    · obtain ⟨q0, q1, q2⟩ := oG q rfl
      obtain ⟨O, i1, i2, i3⟩ := ih (k + 1) q.2 (by omega) q2
      refine ⟨O, i1, fun f w hf hS hL hc => ?_, fun f w hf hS hL => ?_⟩
      · obtain ⟨f, rfl⟩ : ∃ f', f = f' + 1 := ⟨f - 1, by omega⟩
        have l := hL k (by omega)
        obtain ⟨r, w2, x1, x2, x3⟩ := oc w hS l.1 l.2.1 l.2.2
        have x3 : r = jI q.1 ∧ CSt w2 1 q.2 := x3
        have st : p_X10_runScript_46 (f + 1) (jI (k : Int)) w = p_X10_runScript_46 f (jI ((k + 1 : Nat) : Int)) w2 := by
          rw [p_X10_runScript_46, hc, if_neg (by rw [jI_le (by omega) (by omega) (by omega) (by omega)]; omega), x1, bs_p, u2_p, x3.1, if_pos (show (0 : Int32) ≤ jI q.1 by rw [show (0 : Int32) = jI 0 from rfl, jI_le (by omega) (by omega) (by omega) (by omega)]; omega), e1]
        have y := i2 f w2 (by omega) x3.2 (hL.kc x2) (by rw [x2.iK (by unfold KC; omega)]; exact hc)
        rw [st]
        rcases O with k' | S'
        · obtain ⟨w3, y1, y2⟩ := y
          exact ⟨w3, y1, x2.tr y2⟩
        · obtain ⟨w3, y1, y2, y3⟩ := y
          exact ⟨w3, y1, x2.tr y2, y3⟩
      · obtain ⟨f, rfl⟩ : ∃ f', f = f' + 1 := ⟨f - 1, by omega⟩
        have l := hL k (by omega)
        obtain ⟨r, w2, x1, x2, x3, x4⟩ := or w hS l.1 l.2.1 l.2.2
        have x4 : gI w2 141 12 = jI 0 ∧ RSt w2 142 0 q.2 := x4
        have st : p_X11_runScript_130 (jI (N : Int)) (f + 1) (jI (k : Int)) w = p_X11_runScript_130 (jI (N : Int)) f (jI ((k + 1 : Nat) : Int)) w2 := by
          rw [p_X11_runScript_130, if_neg (by rw [jI_le (by omega) (by omega) (by omega) (by omega)]; omega), e3, x1, bs_p, u2_p, x4.1, if_pos (show jI 0 = 0 from rfl), e1]
        have y := i3 f w2 (by omega) x4.2 (hL.km x2)
        have g : RK w w2 := ⟨x2, x3⟩
        rw [st]
        rcases O with k' | S'
        · obtain ⟨r3, w3, y1, y2⟩ := y
          exact ⟨r3, w3, y1, g.tr y2⟩
        · obtain ⟨w3, y1, y2, y3⟩ := y
          exact ⟨w3, y1, g.tr y2, y3⟩
/-! what the script leaves -/
def emp (T : TS) : TS := (tS T, tH T, tP T, tN T, tL T, 0, tX T, tE T, tF T, tO T, tY T)
def erp (T : TS) (e : Int) : TS := (tS T, tH T, tP T, tN T, tL T, tC T, tX T, e, tF T, tO T, tY T)
def fai (T : TS) (e : Int) : TS := (tS T, tH T, tP T, tN T, tL T, tC T, tX T, tE T, e, tO T, tY T)
def sta (T : TS) (S : Ab) : TS := (S, tH T, tP T, tN T, tL T, tC T, tX T, tE T, tF T, tO T, tY T)
section
variable {w w' : Wd} {T : TS}
theorem InvG.emp (h : InvG T) : InvG (emp T) := by
  obtain ⟨h1, h2, h3, h4, h5, h6, h7, h8⟩ := h
  exact ⟨h1, h2, h3, h4, h5, ⟨by show (0 : Int) ≤ 0; decide, by show (0 : Int) ≤ 60; decide⟩, fun i i0 i1 => by have i1 : i < 0 := i1; omega, h8⟩
theorem InvG.erp {e : Int} (h : InvG T) (e0 : -1 ≤ e ∧ e ≤ 60) : InvG (erp T e) := by
  obtain ⟨h1, h2, h3, h4, h5, h6, h7, h8, h9⟩ := h
  exact ⟨h1, h2, h3, h4, h5, h6, h7, e0, h9⟩
theorem InvG.fai {e : Int} (h : InvG T) (e0 : -1 ≤ e ∧ e ≤ 60) : InvG (fai T e) := by
  obtain ⟨h1, h2, h3, h4, h5, h6, h7, h8, h9, h10⟩ := h
  exact ⟨h1, h2, h3, h4, h5, h6, h7, h8, e0, h10⟩
theorem InvC.emp (h : InvC w T) (k : PF w w') : InvC (uI w' 134 1 (0 : Int32)) (emp T) := by
  have s : Sm KP w (uI w' 134 1 (0 : Int32)) := k.1.tr (Sm.wI w' (Or.inl rfl))
  obtain ⟨h1, h2, h3, ⟨f, h4⟩, h5, h6, h7, h8, h9⟩ := h
  exact ⟨h1.kept (fun r hr => s.1 _ (by unfold KP; omega)), by rw [s.iK (by unfold KP; omega)]; exact h2, fun q => (h3 q).kept (fun r hr => s.1 _ (by unfold KP; omega)), ⟨f, h4.kept (s.1 34 (by unfold KP; omega)).1 (fun i i0 i1 => s.1 i (by unfold KP; omega))⟩, by rw [gI_uI, if_pos ⟨rfl, rfl⟩]; rfl, fun i i0 i1 => by have i1 : i < 0 := i1; omega, by rw [s.iK (by unfold KP; omega)]; exact h7, by rw [s.iK (by unfold KP; omega)]; exact h8, h9.kept (s.1 139 (by unfold KP; omega)).1 (s.1 140 (by unfold KP; omega)).1 (s.2.2 (by unfold KP; omega))⟩
theorem InvC.w0 (h : InvC w T) (i : Nat) (v : Int32) (hi : i ≠ 3) : (gI (uI w 0 i v) 0 11 = jI (tE T) → gI (uI w 0 i v) 0 12 = jI (tF T) → InvC (uI w 0 i v) T) := by
  intro k1 k2
  have s : Sm (fun k => k = 0) w (uI w 0 i v) := Sm.wI w rfl
  obtain ⟨h1, h2, h3, ⟨f, h4⟩, h5, h6, h7, h8, h9⟩ := h
  exact ⟨h1.kept (fun r hr => s.1 _ (by omega)), by rw [gI_uI, if_neg (fun z => hi z.2.symm)]; exact h2, fun q => (h3 q).kept (fun r hr => s.1 _ (by omega)), ⟨f, h4.kept (s.1 34 (by omega)).1 (fun i i0 i1 => s.1 i (by omega))⟩, by rw [s.iK (by omega)]; exact h5, fun i i0 i1 => by rw [s.iK (by omega)]; exact h6 i i0 i1, k1, k2, h9.kept (s.1 139 (by omega)).1 (s.1 140 (by omega)).1 (s.2.2 (by omega))⟩
theorem InvC.set {S : Ab} (h : InvC w T) (s : Sm KC w w') (c : CSt w' 1 S) : InvC w' (sta T S) := by
  obtain ⟨h1, h2, h3, ⟨f, h4⟩, h5, h6, h7, h8, h9⟩ := h
  exact ⟨c, by rw [s.iK (by unfold KC; omega)]; exact h2, fun q => (h3 q).kept (fun r hr => s.1 _ (by unfold KC; omega)), ⟨f, h4.kept (s.1 34 (by unfold KC; omega)).1 (fun i i0 i1 => s.1 i (by unfold KC; omega))⟩, by rw [s.iK (by unfold KC; omega)]; exact h5, fun i i0 i1 => by rw [s.iK (by unfold KC; omega)]; exact h6 i i0 i1, by rw [s.iK (by unfold KC; omega)]; exact h7, by rw [s.iK (by unfold KC; omega)]; exact h8, h9.kept (s.1 139 (by unfold KC; omega)).1 (s.1 140 (by unfold KC; omega)).1 (s.2.2 (by unfold KC; omega))⟩
theorem InvC.erp {e : Int} (h : InvC w T) : InvC (uI w 0 11 (jI e)) (erp T e) := by
  obtain ⟨h1, h2, h3, h4, h5, h6, h7, h8, h9⟩ := h
  have s : Sm (fun k => k = 0) w (uI w 0 11 (jI e)) := Sm.wI w rfl
  obtain ⟨f, h4⟩ := h4
  exact ⟨h1.kept (fun r hr => s.1 _ (by omega)), by rw [gI_uI, if_neg (by omega)]; exact h2, fun q => (h3 q).kept (fun r hr => s.1 _ (by omega)), ⟨f, h4.kept (s.1 34 (by omega)).1 (fun i i0 i1 => s.1 i (by omega))⟩, by rw [s.iK (by omega)]; exact h5, fun i i0 i1 => by rw [s.iK (by omega)]; exact h6 i i0 i1, by rw [gI_uI, if_pos ⟨rfl, rfl⟩]; rfl, by rw [gI_uI, if_neg (by omega)]; exact h8, h9.kept (s.1 139 (by omega)).1 (s.1 140 (by omega)).1 (s.2.2 (by omega))⟩
theorem InvC.fai {e : Int} (h : InvC w T) : InvC (uI w 0 12 (jI e)) (fai T e) := by
  obtain ⟨h1, h2, h3, h4, h5, h6, h7, h8, h9⟩ := h
  have s : Sm (fun k => k = 0) w (uI w 0 12 (jI e)) := Sm.wI w rfl
  obtain ⟨f, h4⟩ := h4
  exact ⟨h1.kept (fun r hr => s.1 _ (by omega)), by rw [gI_uI, if_neg (by omega)]; exact h2, fun q => (h3 q).kept (fun r hr => s.1 _ (by omega)), ⟨f, h4.kept (s.1 34 (by omega)).1 (fun i i0 i1 => s.1 i (by omega))⟩, by rw [s.iK (by omega)]; exact h5, fun i i0 i1 => by rw [s.iK (by omega)]; exact h6 i i0 i1, by rw [gI_uI, if_neg (by omega)]; exact h7, by rw [gI_uI, if_pos ⟨rfl, rfl⟩]; rfl, h9.kept (s.1 139 (by omega)).1 (s.1 140 (by omega)).1 (s.2.2 (by omega))⟩
/-- .. kept: the state before goes to the others -/
theorem InvC.push {S : Ab} (h : InvC w T) (hG : Good S) (hB : CSt w 12 S) (n0 : 0 ≤ tN T) (n8 : tN T ≤ 8) : ∃ w', f_X3_push w = some w' ∧ Sm KH w w' ∧ InvC w' (psh (sta T S) (tS T)) := by
  obtain ⟨g1, g2, g3, ⟨f, g4⟩, g5, g6, g7, g8, g9⟩ := h
  obtain ⟨w3, f', hr3, hs3, h3⟩ := s_push hG hB g4 n0 n8
  refine ⟨w3, hr3, hs3, g1.kept (fun r hr => hs3.1 _ (by unfold KH; omega)), ?_, fun q => (g3 q).kept (fun r hr => hs3.1 _ (by unfold KH; omega)), ⟨f', h3⟩, ?_, fun i i0 i1 => ?_, ?_, ?_, g9.kept (hs3.1 139 (by unfold KH; omega)).1 (hs3.1 140 (by unfold KH; omega)).1 (hs3.2.2 (by unfold KH; omega))⟩
  · rw [hs3.iK (by unfold KH; omega)]; exact g2
  · rw [hs3.iK (by unfold KH; omega)]; exact g5
  · rw [hs3.iK (by unfold KH; omega)]; exact g6 i i0 i1
  · rw [hs3.iK (by unfold KH; omega)]; exact g7
  · rw [hs3.iK (by unfold KH; omega)]; exact g8
/-- the reference, over any change of these cells -/
theorem InvR.of {K : Nat → Prop} {T' : TS} (h : InvR w T) (s : Sm K w w') (k145 : ¬ K 145) (k146 : ¬ K 146) (k147 : ¬ K 147) (f1 : tH T' = tH T) (f2 : tP T' = tP T) (f7 : tO T' = tO T) (f8 : tY T' = tY T) (fx : tX T' = tX T) (fc : tC T' ≤ tC T) (e5 : gI w' 141 5 = gI w 141 5) (e11 : gI w' 141 11 = gI w 141 11) (e7 : gI w' 141 7 = jI (tC T')) (e8 : gI w' 141 8 = jI (tE T')) (e9 : gI w' 141 9 = jI (tF T')) (hS : RSt w' 142 0 (tS T')) (hH : HR w' (tN T') (tL T')) : InvR w' T' := by
  obtain ⟨g1, g2, g3, g4, g5, g6, g7, g8, g9, g10⟩ := h
  refine ⟨hS, by rw [f1, e5]; exact g2, fun y => ?_, hH, e7, fun i i0 i1 => ?_, e8, e9, by rw [f7, e11]; exact g9, fun i i0 i1 => ?_⟩
  · rw [f2]
    rw [f1] at y
    exact (g3 y).kept (s.1 145 k145).2
  · rw [fx, s.iK k146]
    exact g6 i i0 (by omega)
  · rw [f8, s.iK k147]
    rw [f7] at i1
    exact g10 i i0 i1
end
