/-! SAVED AND BROUGHT BACK; TYPED; A SCRIPT carried out, refused, malformed: the class's side alone -/
theorem k_save {w : Wd} {T : TS} (hG : InvG T) (hC : InvC w T) : ∃ w', f_X10_save w = some (jI (tS T 0), w') ∧ InvC w' (putP T) := by
  have hg := hG.1.1
  obtain ⟨w2, hr, hs, hc⟩ := s_copy (b0 := 23) hG.1 hC.1 (by omega)
  refine ⟨uI w2 0 3 (jI 1), ?_, ?_⟩
  · have k := c_g ((hC.1.far hs (by omega)).kept (w' := uI w2 0 3 (jI 1)) (fun r hr => ⟨by funext j; rw [gI_uI, if_neg (by omega)], rfl⟩))
    unfold f_X10_save
    rw [hr, bs_p, wl_p]
    show some (gI (uI w2 0 3 (jI 1)) 1 10, _) = _
    rw [k]
    rfl
  · obtain ⟨g1, g2, g3, ⟨f, g4⟩, g5, g6, g7, g8, g9⟩ := hC
    have k : Sm (fun k => k = 0 ∨ (23 ≤ k ∧ k < 34)) w (uI w2 0 3 (jI 1)) := (hs.mono (fun k hk => by unfold Kb at hk; omega)).tr (Sm.wI _ (by omega))
    have k0 : ∀ i, i ≠ 3 → gI (uI w2 0 3 (jI 1)) 0 i = gI w 0 i := fun i hi => by rw [gI_uI, if_neg (by omega), hs.iK (by unfold Kb; omega)]
    refine ⟨g1.kept (fun r hr => k.1 _ (by omega)), by rw [gI_uI, if_pos ⟨rfl, rfl⟩]; rfl, fun _ => hc.kept (fun r hr => ⟨by funext j; rw [gI_uI, if_neg (by omega)], rfl⟩), ⟨f, g4.kept (k.1 34 (by omega)).1 (fun i i0 i1 => k.1 i (by omega))⟩, ?_, fun i i0 i1 => ?_, ?_, ?_, g9.kept (k.1 139 (by omega)).1 (k.1 140 (by omega)).1 (k.2.2 (by omega))⟩
    · rw [k.iK (by omega)]; exact g5
    · rw [k.iK (by omega)]; exact g6 i i0 i1
    · rw [k0 11 (by decide)]; exact g7
    · rw [k0 12 (by decide)]; exact g8
theorem k_restore {w : Wd} {T : TS} (hG : InvG T) (hC : InvC w T) (q : tH T = 1) : ∃ w', f_X10_restore w = some (.inr (jI (tP T 0)), w') ∧ InvC w' (cutL T 0 (tP T)) := by
  have hP := hG.2.2.1 q
  have hg := hP.1
  have g2 : gI w 0 3 = jI 1 := by rw [hC.2.1, q]
  obtain ⟨w2, hr, hs, hc⟩ := s_copy (b0 := 1) hP (hC.2.2.1 q) (by omega)
  have c34 : CSt (uI w2 34 2 (jI 0)) 1 (tP T) := hc.kept (fun r hr => ⟨by funext j; rw [gI_uI, if_neg (by omega)], rfl⟩)
  refine ⟨uI w2 34 2 (jI 0), ?_, ?_⟩
  · have k := c_g c34
    unfold f_X10_restore f_X3_empty
    rw [if_neg (by rw [g2]; decide +kernel), hr, bs_p, wl_p, bs_p]
    show some (Sum.inr (gI (uI w2 34 2 (jI 0)) 1 10), _) = _
    rw [k]
    rfl
  · obtain ⟨g1, g2, g3, ⟨f, g4⟩, g5, g6, g7, g8, g9⟩ := hC
    have k : Sm (fun k => (1 ≤ k ∧ k < 12) ∨ k = 34) w (uI w2 34 2 (jI 0)) := (hs.mono (fun k hk => by unfold Kb at hk; omega)).tr (Sm.wI _ (by omega))
    have n0 := hG.2.2.2.1.1
    have g4' : HC w2 f (tN T) (tL T) := g4.kept (hs.1 34 (by unfold Kb; omega)).1 (fun i i0 i1 => hs.1 i (by unfold Kb; omega))
    refine ⟨c34, by rw [k.iK (by omega)]; exact g2, fun z => (g3 z).kept (fun r hr => k.1 _ (by omega)), ⟨f, g4'.cut n0⟩, ?_, fun i i0 i1 => ?_, ?_, ?_, g9.kept (k.1 139 (by omega)).1 (k.1 140 (by omega)).1 (k.2.2 (by omega))⟩
    · rw [k.iK (by omega)]; exact g5
    · rw [k.iK (by omega)]; exact g6 i i0 i1
    · rw [k.iK (by omega)]; exact g7
    · rw [k.iK (by omega)]; exact g8
theorem k_type {w : Wd} {T : TS} (hG : InvG T) (hC : InvC w T) {z : Int} (q : 32 ≤ z ∧ z ≤ 126) (q2 : tC T < 60) : ∃ w' r, f_X10_type w (jI z) = some (.inr r, w') ∧ InvC w' (typ T z) := by
  have hc := hG.2.2.2.2.2.1
  have c5 := hC.2.2.2.2.1
  have f1 : gI (uI w 135 (tC T).toNat (jI z)) 134 1 = jI (tC T) := by rw [gI_uI, if_neg (by omega)]; exact c5
  refine ⟨uI (uI w 135 (tC T).toNat (jI z)) 134 1 (jI (tC T + 1)), gI (uI (uI w 135 (tC T).toNat (jI z)) 134 1 (jI (tC T + 1))) 134 1, ?_, ?_⟩
  · unfold f_X10_type f_X6_add
    rw [l32_32, if_neg (by rw [jI_lt (by omega) (by omega) (by omega) (by omega)]; omega), l32_126, if_pos (by rw [jI_le (by omega) (by omega) (by omega) (by omega)]; omega), c5, l32_60, if_pos (by rw [jI_lt (by omega) (by omega) (by omega) (by omega)]; omega), if_neg (by rw [jI_le (by omega) (by omega) (by omega) (by omega)]; omega), if_pos (by rw [inR_j (by omega) (by omega)]; omega), wl_p, jI_clamp (by omega) (by omega), narC (by omega) (by omega), f1, wl_p, bs_p, l32_1, jI_add]
  · obtain ⟨g1, g2, g3, ⟨f, g4⟩, g5, g6, g7, g8, g9⟩ := hC
    have k : Sm (fun k => k = 134 ∨ k = 135) w (uI (uI w 135 (tC T).toNat (jI z)) 134 1 (jI (tC T + 1))) := (Sm.wI w (by omega)).tr (Sm.wI _ (by omega))
    refine ⟨g1.kept (fun r hr => k.1 _ (by omega)), by rw [k.iK (by omega)]; exact g2, fun y => (g3 y).kept (fun r hr => k.1 _ (by omega)), ⟨f, g4.kept (k.1 34 (by omega)).1 (fun i i0 i1 => k.1 i (by omega))⟩, by rw [gI_uI, if_pos ⟨rfl, rfl⟩]; rfl, fun i i0 i1 => ?_, by rw [k.iK (by omega)]; exact g7, by rw [k.iK (by omega)]; exact g8, g9.kept (k.1 139 (by omega)).1 (k.1 140 (by omega)).1 (k.2.2 (by omega))⟩
    have i1 : i < tC T + 1 := i1
    show gI _ 135 i.toNat = jI (if i = tC T then z else tX T i)
    rw [gI_uI, if_neg (by omega), gI_uI]
    by_cases y : i = tC T
    · rw [if_pos ⟨rfl, by rw [y]⟩, if_pos y]
    · rw [if_neg (by omega), if_neg y]; exact g6 i i0 (by omega)
/-- the text so far, as a list -/
def tx (l : List Int) (i : Int) : Int := l.getD i.toNat 0
def wtx (T : TS) (l : List Int) : TS := (tS T, tH T, tP T, tN T, tL T, (l.length : Int), tx l, tE T, tF T, tO T, tY T)
def okc (l : List Int) : Prop := l.length ≤ 60 ∧ ∀ c ∈ l, 32 ≤ c ∧ c ≤ 126
theorem InvG.wtx {T : TS} {l : List Int} (h : InvG T) (hl : okc l) : InvG (wtx T l) := by
  obtain ⟨h1, h2, h3, h4, h5, h6, h7, h8⟩ := h
  refine ⟨h1, h2, h3, h4, h5, ⟨by show 0 ≤ (l.length : Int); omega, by show (l.length : Int) ≤ 60; have := hl.1; omega⟩, fun i i0 i1 => ?_, h8⟩
  have i1 : i < (l.length : Int) := i1
  show 32 ≤ l.getD i.toNat 0 ∧ l.getD i.toNat 0 ≤ 126
  have k : i.toNat < l.length := by omega
  rw [List.getD_eq_getElem?_getD, List.getElem?_eq_getElem k]
  exact hl.2 _ (List.getElem_mem k)
theorem InvC.wtx0 {w : Wd} {T : TS} (h : InvC w T) (q : tC T = 0) : InvC w (wtx T []) := by
  obtain ⟨g1, g2, g3, g4, g5, g6, g7⟩ := h
  exact ⟨g1, g2, g3, g4, by rw [g5, q]; rfl, fun i i0 i1 => by have i1 : i < 0 := i1; omega, g7⟩
theorem InvC.wtxS {w : Wd} {T : TS} {l : List Int} {z : Int} (h : InvC w (typ (wtx T l) z)) : InvC w (wtx T (l ++ [z])) := by
  obtain ⟨g1, g2, g3, g4, g5, g6, g7⟩ := h
  have e : ((l ++ [z]).length : Int) = (l.length : Int) + 1 := by rw [List.length_append]; rfl
  refine ⟨g1, g2, g3, g4, ?_, fun i i0 i1 => ?_, g7⟩
  · rw [g5]
    show jI ((l.length : Int) + 1) = jI ((l ++ [z]).length : Int)
    rw [e]
  · have i1 : i < ((l ++ [z]).length : Int) := i1
    rw [e] at i1
    have k : gI w 135 i.toNat = jI (if i = (l.length : Int) then z else tx l i) := g6 i i0 i1
    rw [k]
    show jI _ = jI (tx (l ++ [z]) i)
    unfold tx
    rw [List.getD_eq_getElem?_getD, List.getD_eq_getElem?_getD]
    by_cases y : i = (l.length : Int)
    · rw [if_pos y, y, Int.toNat_natCast, List.getElem?_append_right (Nat.le_refl _), Nat.sub_self]
      rfl
    · rw [if_neg y, List.getElem?_append_left (by omega)]
/-- the texts of the law -/
def txK (i : Nat) (l : List Int) : Bool := decide (f_J0_length_8abf5 i = some (jI (l.length : Int))) && (List.range l.length).all (fun k => decide (f_J0_charAt_5068e w0 i (jI (k : Int)) = some (jI (l.getD k 0)))) && l.all (fun c => decide (32 ≤ c) && decide (c ≤ 126)) && decide (l.length ≤ 60)
theorem txK_c {i : Nat} {l : List Int} (h : txK i l = true) : okc l := by
  unfold txK at h
  simp only [Bool.and_eq_true] at h
  refine ⟨of_decide_eq_true h.2, fun c hc => ?_⟩
  have := List.all_eq_true.mp h.1.2 c hc
  simp only [Bool.and_eq_true] at this
  exact ⟨of_decide_eq_true this.1, of_decide_eq_true this.2⟩
theorem put_l {i : Nat} {l : List Int} (h : txK i l = true) {T : TS} (hG : InvG T) : ∀ (m n k : Nat) (w : Wd), k + m = l.length → m < n → InvC w (wtx T (l.take k)) → ∃ w', p_L_put_2 i n (jI (k : Int)) w = some (.inl (jI (l.length : Int), w')) ∧ InvC w' (wtx T l) := by
  have hc := txK_c h
  unfold txK at h
  simp only [Bool.and_eq_true] at h
  have hlen := of_decide_eq_true h.1.1.1
  have hl := hc.1
  intro m
  induction m with
  | zero =>
    intro n k w e hn hC
    obtain ⟨n, rfl⟩ : ∃ n', n = n' + 1 := ⟨n - 1, by omega⟩
    have e : k = l.length := by omega
    subst e
    rw [List.take_length] at hC
    exact ⟨w, by rw [p_L_put_2, hlen, bs_p, if_pos (by rw [jI_le (by omega) (by omega) (by omega) (by omega)]; omega)], hC⟩
  | succ m ih =>
    intro n k w e hn hC
    obtain ⟨n, rfl⟩ : ∃ n', n = n' + 1 := ⟨n - 1, by omega⟩
    have hk : k < l.length := by omega
    have ch := of_decide_eq_true (List.all_eq_true.mp h.1.1.2 k (List.mem_range.mpr hk))
    have ch : f_J0_charAt_5068e w i (jI (k : Int)) = some (jI (l.getD k 0)) := ch
    have gd : l.getD k 0 = l[k] := by rw [List.getD_eq_getElem?_getD, List.getElem?_eq_getElem hk]; rfl
    have lt : (l.take k).length = k := by rw [List.length_take]; omega
    have ok1 : okc (l.take k) := ⟨by omega, fun c hh => hc.2 c (List.mem_of_mem_take hh)⟩
    have ct : tC (wtx T (l.take k)) = (k : Int) := by show ((l.take k).length : Int) = k; rw [lt]
    obtain ⟨w1, r, e1, c1⟩ := k_type (hG.wtx ok1) hC (z := l.getD k 0) (by rw [gd]; exact hc.2 _ (List.getElem_mem hk)) (by rw [ct]; omega)
    have c2 := c1.wtxS
    rw [gd, List.take_append_getElem hk] at c2
    rw [p_L_put_2, hlen, bs_p, if_neg (by rw [jI_le (by omega) (by omega) (by omega) (by omega)]; omega), ch, bs_p, e1, bs_p, u2_p, zr_p, show jI (k : Int) + (1 : Int32) = jI ((k + 1 : Nat) : Int) by rw [l32_1, jI_add]; rfl]
    exact ih n (k + 1) w1 (by omega) (by omega) c2
theorem k_put {i : Nat} {l : List Int} (h : txK i l = true) {w : Wd} {T : TS} (hG : InvG T) (hC : InvC w T) (q : tC T = 0) : ∃ w', f_L_put w i = some w' ∧ InvC w' (wtx T l) := by
  have hl := (txK_c h).1
  obtain ⟨w', e, c⟩ := put_l h hG l.length 64 0 w (by omega) (by omega) (hC.wtx0 q)
  have e : p_L_put_2 i 64 (0 : Int32) w = some (.inl (jI (l.length : Int), w')) := e
  refine ⟨w', ?_, c⟩
  unfold f_L_put
  rw [e, bs_p, zl_p, u2_p]
/-- what stands at a place of a text -/
def hl (l : List Int) : Int → Int := hr (tx l) (l.length : Int)
theorem hl_b {l : List Int} (h : okc l) : TXb (tx l) (l.length : Int) := by
  have h1 := h.1
  refine ⟨⟨by omega, by omega⟩, fun i i0 i1 => ?_⟩
  have k : i.toNat < l.length := by omega
  show 32 ≤ l.getD i.toNat 0 ∧ l.getD i.toNat 0 ≤ 126
  rw [List.getD_eq_getElem?_getD, List.getElem?_eq_getElem k]
  exact h.2 _ (List.getElem_mem k)
/-- what its parse makes of a text: the place of its fault, or none -/
def gonB (h : Int → Int) (k : Nat) : Bool := decide ((cQ h (stt h k)).2 = 0) && decide (h (cQ h (stt h k)).1 = 59)
theorem gonB_T {h : Int → Int} {k : Nat} (g : gonB h k = true) : gon h k := by
  unfold gonB at g
  rw [Bool.and_eq_true] at g
  exact ⟨of_decide_eq_true g.1, of_decide_eq_true g.2⟩
theorem gonB_F {h : Int → Int} {k : Nat} (g : gonB h k = false) : ¬ gon h k := by
  intro q
  unfold gonB at g
  rw [decide_eq_true q.1, decide_eq_true q.2] at g
  cases g
def prs (l : List Int) (K : Nat) (p : Int) : Bool := (List.range K).all (gonB (hl l)) && !(gonB (hl l) K) && decide (wrg (hl l) (l.length : Int) K = p) && decide (K ≤ 30)
theorem k_parse {w : Wd} {T : TS} {l : List Int} {K : Nat} {p : Int} (ho : okc l) (h : prs l K p = true) (hC : InvC w (wtx T l)) : ∃ w', f_X6_parse w = some (jI p, w') ∧ PF w w' ∧ (p = -1 → gI w' 134 6 = jI ((K + 1 : Nat) : Int) ∧ CL w' (hl l) (K + 1)) := by
  unfold prs at h
  simp only [Bool.and_eq_true] at h
  have hK := of_decide_eq_true h.2
  have hp := of_decide_eq_true h.1.2
  have hn := gonB_F (by simpa using h.1.1.2)
  have hg : ∀ j, j < K → gon (hl l) j := fun j hj => gonB_T (List.all_eq_true.mp h.1.1.1 j (List.mem_range.mpr hj))
  have s := s_parse (hl_b ho) (X := tx l) (C := (l.length : Int)) ⟨hC.2.2.2.2.1, hC.2.2.2.2.2.1⟩ hK hg hn
  rw [← hp]
  exact s
/-- malformed -/
theorem k_bad {w : Wd} {T : TS} {l : List Int} {K : Nat} {p : Int} (ho : okc l) (h : prs l K p = true) (p0 : 0 ≤ p) (p1 : p ≤ 60) (hC : InvC w (wtx T l)) : ∃ w', f_X10_runScript w = some (.inl 1, w') ∧ InvC w' (erp (emp (wtx T l)) p) := by
  obtain ⟨w1, a1, a2, a3⟩ := k_parse ho h hC
  have C2 := hC.emp a2
  have em : f_X6_empty w1 = some (uI w1 134 1 (0 : Int32)) := rfl
  refine ⟨uI (uI w1 134 1 (0 : Int32)) 0 11 (jI p), ?_, C2.erp⟩
  unfold f_X10_runScript
  rw [a1, bs_p, u2_p, em, bs_p, if_neg (by rw [show (-1 : Int32) = jI (-1) from rfl, jI_eq (by omega) (by omega) (by omega) (by omega)]; omega), wl_p]
/-- .. carried out: one command after the other -/
def RN (N : Nat) (h : Int → Int) (k : Nat) (S : Ab) (w : Wd) : Prop := CSt w 1 S ∧ CL w h N ∧ gI w 134 6 = jI (N : Int)
theorem rn_step {N k f : Nat} {h : Int → Int} {S S' : Ab} {w w2 : Wd} {v : Int} {r : Int32} (hN : N ≤ 31) (hk : k < N) (hw : RN N h k S w) (e : f_X10_carryOut w (jI (k : Int)) = some (r, w2)) (hc : CO w w2 r S (.inr (v, S'))) (v0 : 0 ≤ v) (v1 : v < 1000) : p_X10_runScript_46 (f + 1) (jI (k : Int)) w = p_X10_runScript_46 f (jI ((k + 1 : Nat) : Int)) w2 ∧ RN N h (k + 1) S' w2 ∧ Sm KC w w2 := by
  obtain ⟨h1, h2, h3⟩ := hw
  obtain ⟨x2, x3⟩ := hc
  have x3 : r = jI v ∧ CSt w2 1 S' := x3
  refine ⟨?_, ⟨x3.2, h2.kc x2, by rw [x2.iK (by unfold KC; omega)]; exact h3⟩, x2⟩
  rw [p_X10_runScript_46, h3, if_neg (by rw [jI_le (by omega) (by omega) (by omega) (by omega)]; omega), e, bs_p, u2_p, x3.1, if_pos (show (0 : Int32) ≤ jI v by rw [show (0 : Int32) = jI 0 from rfl, jI_le (by omega) (by omega) (by omega) (by omega)]; omega), show jI (k : Int) + (1 : Int32) = jI ((k + 1 : Nat) : Int) by rw [l32_1, jI_add]; rfl]
theorem rn_end {N f : Nat} {h : Int → Int} {S : Ab} {w : Wd} (hN : N ≤ 31) (hw : RN N h N S w) : p_X10_runScript_46 (f + 1) (jI (N : Int)) w = some (.inl (jI (N : Int), w)) := by
  rw [p_X10_runScript_46, hw.2.2, if_pos (by rw [jI_le (by omega) (by omega) (by omega) (by omega)]; omega)]
theorem rn_no {N k f : Nat} {h : Int → Int} {S : Ab} {w w2 : Wd} {v : Int} (hN : N ≤ 31) (hk : k < N) (hw : RN N h k S w) (e : f_X10_carryOut w (jI (k : Int)) = some (jI v, w2)) (v0 : v < 0) (v1 : -1000 < v) : p_X10_runScript_46 (f + 1) (jI (k : Int)) w = ((f_X7_copyFrom w2 1 12).bind fun w23 => (wl (uI w23 0 12 (jI (k : Int))) fun w24 => (some (.inr ((.inl 2), w24))))) := by
  rw [p_X10_runScript_46, hw.2.2, if_neg (by rw [jI_le (by omega) (by omega) (by omega) (by omega)]; omega), e, bs_p, u2_p, if_neg (show ¬ (0 : Int32) ≤ jI v by rw [show (0 : Int32) = jI 0 from rfl, jI_le (by omega) (by omega) (by omega) (by omega)]; omega)]
/-- the start of a right script -/
theorem k_begin {w : Wd} {T : TS} {l : List Int} {K : Nat} (ho : okc l) (h : prs l K (-1) = true) (hG : InvG T) (hC : InvC w (wtx T l)) : ∃ w3, RN (K + 1) (hl l) 0 (tS T) w3 ∧ InvC w3 (emp (wtx T l)) ∧ CSt w3 12 (tS T) ∧ ∀ r : Option ((Nat ⊕ Int32) × Wd), ((p_X10_runScript_46 2000 (jI ((0 : Nat) : Int)) w3).bind fun z => zc z (fun q => u2 q fun y12 w13 => ((f_X3_push w13).bind fun w29 => (some ((.inr (gI w29 134 6)), w29)))) (fun r => (some r))) = r → f_X10_runScript w = r := by
  obtain ⟨w1, a1, a2, a3⟩ := k_parse ho h hC
  obtain ⟨a6, aL⟩ := a3 rfl
  have C2 := hC.emp a2
  have em : f_X6_empty w1 = some (uI w1 134 1 (0 : Int32)) := rfl
  obtain ⟨w3, b1, b2, b3⟩ := s_copy (b0 := 12) hG.1 (show CSt (uI w1 134 1 (0 : Int32)) 1 (tS T) from C2.1) (by omega)
  have C3 := C2.before b2
  have L3 : CL w3 (hl l) (K + 1) := fun j hj => by
    have e : gV w3 = gV w1 := b2.2.1 (by unfold Kb; omega)
    rw [e, b2.iK (by unfold Kb; omega), b2.iK (by unfold Kb; omega), gI_uI, if_neg (by omega), gI_uI, if_neg (by omega)]
    exact aL j hj
  have n3 : gI w3 134 6 = jI ((K + 1 : Nat) : Int) := by rw [b2.iK (by unfold Kb; omega), gI_uI, if_neg (by omega)]; exact a6
  refine ⟨w3, ⟨C3.1, L3, n3⟩, C3, b3, fun r hr => ?_⟩
  unfold f_X10_runScript
  rw [a1, bs_p, u2_p, em, bs_p, if_pos (show jI (-1) = (-1 : Int32) from rfl), b1, bs_p]
  exact hr
theorem k_fin {w w3 w4 : Wd} {T : TS} {l : List Int} {K : Nat} {S' : Ab} (hG : InvG T) (hK : K ≤ 30) (C3 : InvC w3 (emp (wtx T l))) (hB : CSt w3 12 (tS T)) (n3 : gI w3 134 6 = jI ((K + 1 : Nat) : Int)) (go : ∀ r : Option ((Nat ⊕ Int32) × Wd), ((p_X10_runScript_46 2000 (jI ((0 : Nat) : Int)) w3).bind fun z => zc z (fun q => u2 q fun y12 w13 => ((f_X3_push w13).bind fun w29 => (some ((.inr (gI w29 134 6)), w29)))) (fun r => (some r))) = r → f_X10_runScript w = r)
    (y1 : p_X10_runScript_46 2000 (jI ((0 : Nat) : Int)) w3 = some (.inl (jI ((K + 1 : Nat) : Int), w4))) (y2 : Sm KC w3 w4) (y3 : CSt w4 1 S') : ∃ w5, f_X10_runScript w = some (.inr (jI ((K + 1 : Nat) : Int)), w5) ∧ InvC w5 (psh (emp (wtx T l)) S') := by
  have C4 : InvC w4 (sta (emp (wtx T l)) S') := C3.set y2 y3
  obtain ⟨w5, d1, d2, d3⟩ := C4.push hG.1 (hB.kept (fun r hr => y2.1 _ (by unfold KC; omega))) hG.2.2.2.1.1 hG.2.2.2.1.2
  have n5 : gI w5 134 6 = jI ((K + 1 : Nat) : Int) := by rw [d2.iK (by unfold KH; omega), y2.iK (by unfold KC; omega)]; exact n3
  refine ⟨w5, go _ ?_, d3⟩
  rw [y1, bs_p, zl_p, u2_p, d1, bs_p, n5]
theorem k_ref {w w3 w4 : Wd} {T : TS} {l : List Int} {k : Nat} (hG : InvG T) (C3 : InvC w3 (emp (wtx T l))) (hB : CSt w3 12 (tS T)) (go : ∀ r : Option ((Nat ⊕ Int32) × Wd), ((p_X10_runScript_46 2000 (jI ((0 : Nat) : Int)) w3).bind fun z => zc z (fun q => u2 q fun y12 w13 => ((f_X3_push w13).bind fun w29 => (some ((.inr (gI w29 134 6)), w29)))) (fun r => (some r))) = r → f_X10_runScript w = r)
    (y1 : p_X10_runScript_46 2000 (jI ((0 : Nat) : Int)) w3 = ((f_X7_copyFrom w4 1 12).bind fun w23 => (wl (uI w23 0 12 (jI (k : Int))) fun w24 => (some (.inr ((.inl 2), w24)))))) (y2 : Sm KC w3 w4) : ∃ w5, f_X10_runScript w = some (.inl 2, w5) ∧ InvC w5 (fai (emp (wtx T l)) k) := by
  obtain ⟨w5, d1, d2, d3⟩ := s_copy (b0 := 1) hG.1 (hB.kept (fun r hr => y2.1 _ (by unfold KC; omega))) (by omega)
  have s5 : Sm KC w3 w5 := y2.tr (d2.mono (fun k hk => by unfold Kb at hk; unfold KC; omega))
  have C5 : InvC w5 (emp (wtx T l)) := C3.set s5 d3
  refine ⟨uI w5 0 12 (jI (k : Int)), go _ ?_, C5.fai⟩
  rw [y1, d1, bs_p, wl_p, bs_p, zr_p]
