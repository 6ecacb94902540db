/-! THE SHOWN TEXTS, and the made one -/
theorem InvC.shw {w w3 : Wd} {T : TS} {q : Tx} (hC : InvC w T) (s3 : Sm KZ w w3) (o3 : OX w3 q) : InvC w3 (shw T q) := by
  obtain ⟨g1, g2, g3, ⟨f, g4⟩, g5, g6, g7, g8, g9⟩ := hC
  refine ⟨g1.kept (fun r hr => s3.1 _ (by unfold KZ KY KO; omega)), by rw [s3.iK (by unfold KZ KY KO; omega)]; exact g2, fun y => (g3 y).kept (fun r hr => s3.1 _ (by unfold KZ KY KO; omega)), ⟨f, g4.kept (s3.1 34 (by unfold KZ KY KO; omega)).1 (fun i i0 i1 => s3.1 i (by unfold KZ KY KO; omega))⟩, by rw [s3.iK (by unfold KZ KY KO; omega)]; exact g5, fun i i0 i1 => by rw [s3.iK (by unfold KZ KY KO; omega)]; exact g6 i i0 i1, by rw [s3.iK (by unfold KZ KY KO; omega)]; exact g7, by rw [s3.iK (by unfold KZ KY KO; omega)]; exact g8, o3⟩
theorem InvG.shw {T : TS} {q : Tx} (hG : InvG T) (hq : TG 100 q) : InvG (shw T q) := by
  obtain ⟨h1, h2, h3, h4, h5, h6, h7, h8, h9, h10⟩ := hG
  exact ⟨h1, h2, h3, h4, h5, h6, h7, h8, h9, hq⟩
def DX (S : Ab) (f : Wd → Option ((Nat ⊕ Int32) × Wd)) : Prop := ∃ p : Tx, TG 100 p ∧ ∀ (w : Wd) (n : Int) (Y : Int → Int), CSt w 1 S → OC w n Y → 0 ≤ n → n ≤ 100 → ∃ w', f w = some (.inr (jI p.1), w') ∧ Sm KZ w w' ∧ OX w' p
theorem dx_gear {S : Ab} {x : Int} (hS : Good S) (q : 0 ≤ x ∧ x < S 0) {w0 : Wd} {Y0 : Int → Int} (h0 : CSt w0 1 S) (o0 : OC w0 0 Y0) : DX S (fun w => f_X10_renderGear w (jI x)) := by
  have hg := hS.1
  have x10 : x < 10 := by omega
  have tb := tooth_b ((hS.2.1 x q.1 x10).1 q.2)
  have n1 : nd x = 1 := if_pos (by omega)
  have g1 : TG 1 (txN x tx0) := by
    have k := TG.x0.xN (v := x) (by omega) (by omega)
    rw [n1] at k
    exact k
  have g2 := g1.x1 (c := 58) (by omega) (by omega)
  have g3 := (g2.xN (v := S (6 + x)) (by omega) (by omega)).le (l := 5) (by have := nd_b (S (6 + x)); omega)
  have key : ∀ (w : Wd) (n : Int) (Y : Int → Int), CSt w 1 S → OC w n Y → 0 ≤ n → n ≤ 100 → ∃ w', f_X10_renderGear w (jI x) = some (.inr (jI (gt S x).1), w') ∧ Sm KZ w w' ∧ OX w' (gt S x) ∧ TG 16 (gt S x) := by
    intro w n Y c1 hO n0 n1
    obtain ⟨w2, e2, s2, o2⟩ := t_c0 hO n0 n1
    obtain ⟨w3, e3, s3, o3⟩ := t_cN o2 TG.x0 (by omega) (v := x) (by omega) (by omega)
    obtain ⟨w4, e4, s4, o4⟩ := t_c1 o3 g1 (by omega) (c := 58) (by omega) (by omega)
    have C4 := c1.ko ((s2.tr s3).tr s4)
    obtain ⟨w5, e5, s5, o5⟩ := t_cN o4 g2 (by omega) (v := S (6 + x)) (by omega) (by omega)
    obtain ⟨w6, e6, s6, o6, g6⟩ := g_K0 hS q.1 x10 (C4.ko s5) o5 g3
    refine ⟨w6, ?_, ((((s2.tr s3).tr s4).tr s5).tr s6).mono (fun k hk => Or.inr hk), o6, g6⟩
    have A : f_X10_renderGear w (jI x) = gK0 w5 (jI x) := by
      unfold f_X10_renderGear
      rw [cg_T c1 hS q, bs_p, zr_p, e2, bs_p, e3, bs_p, l32_58, e4, bs_p, if_pos (by rw [inR_j (by omega) (by omega)]; omega), jI_clamp (by omega) (by omega), c_t C4 x q.1 x10, e5, bs_p, ← jI_clamp (z := x) (by omega) (by omega)]
      rfl
    rw [A, e6]
    rfl
  obtain ⟨-, -, -, -, tg⟩ := key w0 0 Y0 h0 o0 (by decide) (by decide)
  refine ⟨gt S x, tg.le (by decide), fun w n Y c1 hO n0 n1 => ?_⟩
  obtain ⟨w6, e6, s6, o6, -⟩ := key w n Y c1 hO n0 n1
  exact ⟨w6, e6, s6, o6⟩
theorem dx_train {S : Ab} {x : Int} (hS : Good S) (q : 0 ≤ x ∧ x < S 0) : DX S (fun w => f_X10_renderTrain w (jI x)) := by
  have hg := hS.1
  have hb := tu_b hS q.1 q.2
  have tg := tt_g S (TU S x) 10 (by omega)
  refine ⟨tt S (TU S x) 10, tg.le (by omega), fun w n Y c1 hO n0 n1 => ?_⟩
  obtain ⟨w2, m, e2, s2, t2, c2⟩ := s_trace hS c1 q.1 q.2
  obtain ⟨w3, e3, s3, o3⟩ := t_c0 (hO.kept (s2.1 139 (by unfold KT; omega)).1 (s2.1 140 (by unfold KT; omega)).1 (s2.2.2 (by unfold KT; omega))) n0 n1
  obtain ⟨w4, e4, s4, o4⟩ := t_cLoop hS hb (S 0).toNat 0 11 w3 (by omega) (by omega) (c2.ko s3) (t2.ko s3) o3
  have e4 : p_X10_renderTrain_27 11 (0 : Int32) w3 = some (.inl (jI (S 0), w4)) := e4
  have ee : tt S (TU S x) (S 0).toNat = tt S (TU S x) 10 := by
    have k := tt_out (S := S) (u := TU S x) (m := (S 0).toNat) (fun y y0 y1 y2 => tu_out hS q.1 q.2 y y0 y1 (by omega)) (10 - (S 0).toNat) (by omega)
    rw [show (S 0).toNat + (10 - (S 0).toNat) = 10 by omega] at k
    exact k.symm
  rw [ee] at o4
  refine ⟨w4, ?_, ((s2.mono (fun k hk => Or.inl (KT_Y hk))).tr (s3.mono (fun k hk => Or.inr hk))).tr (s4.mono (fun k hk => Or.inr hk)), o4⟩
  show f_X10_renderTrain w (jI x) = _
  unfold f_X10_renderTrain
  rw [cg_T c1 hS q, bs_p, zr_p, e2, bs_p, e3, bs_p, e4, bs_p, zl_p, u2_p, t_len o4, bs_p]
theorem zW_o (l : Zr) : OC (zW l) 0 (fun _ => 0) := ⟨rfl, rfl, Or.inl rfl, by show (0 : Int) ≤ ((16 : Nat) : Int); decide, fun i i0 i1 => by omega, fun i hi => ⟨0, by decide, by decide, rfl⟩⟩
def zT (o : Option ((Nat ⊕ Int32) × Wd)) (t : List Int) : Bool := match o with
  | some (.inr r, w) => decide (r = jI (t.length : Int)) && (List.range t.length).all (fun i => decide (gI w 140 i = jI (t.getD i 0)))
  | _ => false
theorem z_x {l : Zr} {f : Wd → Option ((Nat ⊕ Int32) × Wd)} {t : List Int} {i : Nat} (hd : DX (zS l) f) (hk : ZK l) (ht : txK i t = true) (hc : zT (f (zW l)) t = true) {w : Wd} (h : ZI l w) : ∃ w' Y, f w = some (.inr (jI (t.length : Int)), w') ∧ ZI l w' ∧ OC w' (t.length : Int) Y ∧ ∀ i, 0 ≤ i → i < (t.length : Int) → Y i = tx t i := by
  obtain ⟨T, hG, hC, hS, hz, -⟩ := h
  obtain ⟨p, hp, k⟩ := hd
  obtain ⟨w1, e1, s1, o1⟩ := k (zW l) 0 _ hk.2 (zW_o l) (by decide) (by decide)
  have ho := hG.2.2.2.2.2.2.2.2.2
  have hO := hC.2.2.2.2.2.2.2.2
  obtain ⟨w2, e2, s2, o2⟩ := k w (tO T) (tY T) (by rw [← hS]; exact hC.1) hO ho.1.1 ho.1.2
  rw [e1] at hc
  unfold zT at hc
  rw [Bool.and_eq_true] at hc
  have hl := txK_c ht
  have hl1 := hl.1
  have p1 := hp.1
  have len : p.1 = (t.length : Int) := (iff_of_eq (jI_eq (by omega) (by omega) (by omega) (by omega))).mp (of_decide_eq_true hc.1)
  have at_ : ∀ i, 0 ≤ i → i < (t.length : Int) → p.2 i = tx t i := fun i i0 i1 => by
    have y := of_decide_eq_true (List.all_eq_true.mp hc.2 i.toNat (List.mem_range.mpr (by omega)))
    have z := o1.2.2.2.2.1 i i0 (by omega)
    have b := hp.2 i i0 (by omega)
    have c := (hl_b hl).2 i i0 i1
    exact (iff_of_eq (jI_eq (by omega) (by omega) (by omega) (by omega))).mp (z.symm.trans y)
  rw [len] at e2
  have o3 : OC w2 (t.length : Int) p.2 := by rw [← len]; exact o2
  exact ⟨w2, p.2, e2, ⟨shw T p, hG.shw hp, hC.shw s2 o2, hS, hz, trivial⟩, o3, at_⟩
theorem k_isText {w : Wd} {Y : Int → Int} {t : List Int} {i : Nat} (ht : txK i t = true) (h : OC w (t.length : Int) Y) (hy : ∀ i, 0 ≤ i → i < (t.length : Int) → Y i = tx t i) (h24 : t.length < 24) : f_L_isText w (jI (t.length : Int)) i = some 1 := by
  have hc := txK_c ht
  have hb := (hl_b hc).2
  unfold txK at ht
  simp only [Bool.and_eq_true] at ht
  have hlen := of_decide_eq_true ht.1.1.1
  have h2 := h.2.1
  have ln : f_J4_length_8abf5 w = some (jI (t.length : Int)) := by
    unfold f_J4_length_8abf5 f_J5_length_8abf5
    rw [h2]
    rfl
  have lp : ∀ (m n k : Nat), k + m = t.length → m < n → p_L_isText_12 (jI (t.length : Int)) w i n (jI (k : Int)) = some (.inl (jI (t.length : Int))) := by
    intro m
    induction m with
    | zero =>
      intro n k e hn
      obtain ⟨n, rfl⟩ : ∃ n', n = n' + 1 := ⟨n - 1, by omega⟩
      have e : k = t.length := by omega
      subst e
      rw [p_L_isText_12, if_pos (by rw [jI_le (by omega) (by omega) (by omega) (by omega)]; omega)]
    | succ m ih =>
      intro n k e hn
      obtain ⟨n, rfl⟩ : ∃ n', n = n' + 1 := ⟨n - 1, by omega⟩
      have ch := of_decide_eq_true (List.all_eq_true.mp ht.1.1.2 k (List.mem_range.mpr (by omega)))
      have ch : f_J0_charAt_5068e w i (jI (k : Int)) = some (jI (t.getD k 0)) := ch
      have yk := hy (k : Int) (by omega) (by omega)
      have bk := hb (k : Int) (by omega) (by omega)
      rw [← yk] at bk
      have yk : Y (k : Int) = t.getD k 0 := yk
      have A : f_X10_outputAt w (jI (k : Int)) = some (.inr (jI (Y (k : Int)))) := by
        unfold f_X10_outputAt
        rw [l32_0, if_neg (by rw [jI_lt (by omega) (by omega) (by omega) (by omega)]; omega), ln, bs_p, if_pos (by rw [jI_lt (by omega) (by omega) (by omega) (by omega)]; omega), s_charAt h (by omega) (by omega) ⟨by omega, by omega⟩, bs_p, narC (by omega) (by omega)]
      rw [p_L_isText_12, if_neg (by rw [jI_le (by omega) (by omega) (by omega) (by omega)]; omega), A, bs_p, zr_p, ch, bs_p, yk, if_pos rfl, show jI (k : Int) + (1 : Int32) = jI ((k + 1 : Nat) : Int) by rw [l32_1, jI_add]; rfl]
      exact ih n (k + 1) (by omega) (by omega)
  have l0 := lp t.length 24 0 (by omega) h24
  have l0 : p_L_isText_12 (jI (t.length : Int)) w i 24 (0 : Int32) = some (.inl (jI (t.length : Int))) := l0
  unfold f_L_isText
  rw [hlen, bs_p, if_pos rfl, l0, bs_p, zl_p]
/-- a builder's bytes stay bytes -/
def Fit (w : Wd) : Prop := ∀ i, fits .byte (.int (gI w 1 i)) = true
theorem Fit.w0 {w : Wd} (h : Fit w) (i : Nat) (v : Int32) : Fit (uI w 0 i v) := fun j => by rw [gI_uI, if_neg (by omega)]; exact h j
theorem Fit.w1 {w : Wd} (h : Fit w) (i : Nat) {v : Int32} (hv : fits .byte (.int v) = true) : Fit (uI w 1 i v) := fun j => by
  rw [gI_uI]
  split
  · exact hv
  · exact h j
theorem Fit.cpy {w : Wd} (h : Fit w) (x0 : Nat) (dp n : Int32) : Fit (uCpy w x0 dp n) := fun j => by
  have e : gI (uCpy w x0 dp n) 1 j = if dp.toNatClampNeg ≤ j ∧ j < dp.toNatClampNeg + n.toNatClampNeg then (cWords.getD x0 []).getD (0 + (j - dp.toNatClampNeg)) 0 else gI w 1 j := rfl
  rw [e]
  by_cases q : dp.toNatClampNeg ≤ j ∧ j < dp.toNatClampNeg + n.toNatClampNeg
  · rw [if_pos q]
    exact cw_fit x0 _
  · rw [if_neg q]
    exact h j
theorem fit_0 : fits .byte (.int (0 : Int32)) = true := by decide +kernel
theorem fit_S0 : Fit wS0 := fun i => by
  have e : gI wS0 1 i = 0 := rfl
  rw [e]
  exact fit_0
theorem fit_dig : (List.range 10).all (fun d => fits .byte (.int (vp_nar .byte (nI (48 + d))))) = true := by decide +kernel
theorem fit_d {m : Nat} (h : m < 10) : fits .byte (.int (vp_nar .byte (nI (48 + m)))) = true := List.all_eq_true.mp fit_dig m (List.mem_range.mpr h)
theorem fit_cap {w w5 : Wd} {x : Int32} (h : fB_J5_ensureCapacityInternal_d00df w x = some w5) : w5 = w := by
  unfold fB_J5_ensureCapacityInternal_d00df at h
  split at h
  · cases h; rfl
  · cases h
theorem ob {α β : Type} {o : Option α} {f : α → Option β} {x : β} (h : o.bind f = some x) : ∃ a, o = some a ∧ f a = some x := by
  cases o with
  | none => cases h
  | some a => exact ⟨a, rfl, h⟩
theorem fit_get {w w6 : Wd} {x : Nat} {a b : Int32} (hw : Fit w) (h : fB_J0_getBytes_840e7 w x a b = some w6) : Fit w6 := by
  unfold fB_J0_getBytes_840e7 fB_J0_coder_7d493 at h
  rw [bs_p] at h
  by_cases q : (0 : Int32) = b
  · rw [if_pos q] at h
    by_cases q2 : cpK (a <<< (b &&& 31)) (nI (cLens.getD x 0)) (cLens.getD x 0) (gC w) = true
    · rw [if_pos q2, wl_p] at h
      have h := Option.some.inj h
      rw [← h]
      exact hw.cpy _ _ _
    · rw [if_neg q2] at h
      cases h
  · rw [if_neg q] at h
    cases h
theorem fit_put {w w6 : Wd} {x : Nat} {a : Int32} (hw : Fit w) (h : fB_J5_putStringAt_47b60 w a x = some w6) : Fit w6 := by
  unfold fB_J5_putStringAt_47b60 at h
  obtain ⟨u, h1, h⟩ := ob h
  obtain ⟨v, h2, h⟩ := ob h
  have h := Option.some.inj h
  rw [← h]
  exact fit_get hw h2
theorem fit_cf {w w' : Wd} {x : Nat} (hw : Fit w) (h : fB_J5_append_cf1ce w x = some w') : Fit w' := by
  unfold fB_J5_append_cf1ce at h
  obtain ⟨r2, h1, h⟩ := ob h
  obtain ⟨w5, h5, h⟩ := ob h
  have e5 : w5 = w := fit_cap h5
  rw [e5] at h
  obtain ⟨w8, h8, h⟩ := ob h
  rw [wl_p] at h
  have h := Option.some.inj h
  rw [← h]
  exact (fit_put hw h8).w0 3 _
theorem fit_s {w w' : Wd} {x : Nat} (hw : Fit w) (h : fB_J4_append_15ec4 w x = some w') : Fit w' := by
  unfold fB_J4_append_15ec4 at h
  obtain ⟨w3, h1, h⟩ := ob h
  have h := Option.some.inj h
  rw [← h]
  exact fit_cf hw h1
theorem oi {i : Int32} {n : Nat} {α : Type} {a : Option α} {x : α} (h : (if inR i n then a else none) = some x) : a = some x := by
  by_cases q : inR i n = true
  · rw [if_pos q] at h
    exact h
  · rw [if_neg q] at h
    cases h
theorem fit_gc {w w11 : Wd} {x y r : Int32} (h0 : 0 ≤ x) (hv : (-100 : Int32) < -x) (hd : (-(-x)).toNatClampNeg < 100) (hw : Fit w) (h : fB_J6_getChars_ba4f3 w x y = some (r, w11)) : Fit w11 := by
  have pl : pB_J6_getChars_ba4f3_22 2000 (-x) y w = some (.inl (-x, y, w)) := if_pos hv
  unfold fB_J6_getChars_ba4f3 at h
  rw [if_pos h0, pl, bs_p, zl_p, u3_p] at h
  generalize (-(-x)).toNatClampNeg = m at hd h
  have h := oi (oi h)
  rw [wl_p] at h
  have k1 : Fit (uI w 1 (y + (-1 : Int32)).toNatClampNeg (vp_nar .byte (nI (48 + m % 10)))) := hw.w1 _ (fit_d (by omega))
  generalize uI w 1 (y + (-1 : Int32)).toNatClampNeg (vp_nar .byte (nI (48 + m % 10))) = w18 at k1 h
  by_cases q : (-9 : Int32) ≤ -x
  · rw [if_pos q] at h
    have h := (Prod.mk.inj (Option.some.inj h)).2
    rw [← h]
    exact k1
  · rw [if_neg q] at h
    have h := oi (oi h)
    rw [wl_p] at h
    have h := (Prod.mk.inj (Option.some.inj h)).2
    rw [← h]
    exact k1.w1 _ (fit_d (by omega))
theorem fit_i {w w' : Wd} {x : Int32} (h0 : 0 ≤ x) (hv : (-100 : Int32) < -x) (hd : (-(-x)).toNatClampNeg < 100) (hw : Fit w) (h : fB_J4_append_bf812 w x = some w') : Fit w' := by
  unfold fB_J4_append_bf812 at h
  obtain ⟨w3, h1, h⟩ := ob h
  have h := Option.some.inj h
  rw [← h]
  unfold fB_J5_append_c97b9 at h1
  obtain ⟨r2, h2, h1⟩ := ob h1
  obtain ⟨w5, h5, h1⟩ := ob h1
  have e5 : w5 = w := fit_cap h5
  rw [e5] at h1
  obtain ⟨r7, h7, h1⟩ := ob h1
  by_cases q : r7 = 0
  · rw [if_pos q] at h1
    cases h1
  · rw [if_neg q] at h1
    obtain ⟨⟨r10, w11⟩, h11, h1⟩ := ob h1
    rw [u2_p, wl_p] at h1
    have h1 := Option.some.inj h1
    rw [← h1]
    exact (fit_gc h0 hv hd hw h11).w0 3 _
def mkT (v : Int32) : Option Wd := (fB_J4_append_15ec4 wS0 27).bind fun s1 => ((fB_J4_append_bf812 s1 v).bind fun s2 => fB_J4_append_15ec4 s2 28)
def ckT (v : Int32) (t : Nat) : Bool := match mkT v with
  | some s3 => decide (gI s3 0 1 = 0) && decide (gI s3 0 2 = 0) && decide (gI s3 0 3 = 13) && decide (gC s3 = 16) && (List.range 13).all (fun i => decide (gI s3 1 i = (cWords.getD t []).getD i 0)) && decide (cLens.getD t 0 = 13)
  | none => false
theorem mk_t {v : Int32} {t : Nat} (h0 : 0 ≤ v) (hv : (-100 : Int32) < -v) (hd : (-(-v)).toNatClampNeg < 100) (h : ckT v t = true) : ∃ s1 s2 s3, fB_J4_append_15ec4 wS0 27 = some s1 ∧ fB_J4_append_bf812 s1 v = some s2 ∧ fB_J4_append_15ec4 s2 28 = some s3 ∧ (gI s3 0 1 = 0 ∧ gI s3 0 2 = 0 ∧ gI s3 0 3 = 13 ∧ gC s3 = 16) ∧ (∀ i, fits .byte (.int (gI s3 1 i)) = true) ∧ (cLens.getD t 0 = 13 ∧ ∀ i, i < 13 → gI s3 1 i = (cWords.getD t []).getD i 0) := by
  unfold ckT at h
  cases hm : mkT v with
  | none => rw [hm] at h; cases h
  | some s3 =>
    rw [hm] at h
    simp only [Bool.and_eq_true, decide_eq_true_eq, List.all_eq_true, List.mem_range] at h
    obtain ⟨⟨⟨⟨⟨a1, a2⟩, a3⟩, a4⟩, a5⟩, a6⟩ := h
    unfold mkT at hm
    obtain ⟨s1, h1, hm⟩ := ob hm
    obtain ⟨s2, h2, h3⟩ := ob hm
    exact ⟨s1, s2, s3, h1, h2, h3, ⟨a1, a2, a3, a4⟩, fit_s (fit_i h0 hv hd (fit_s fit_S0 h1) h2) h3, a6, a5⟩
def l29 : List Int := [49, 58, 50, 48, 114]
theorem t29 : txK 29 l29 = true := by decide +kernel
def l30 : List Int := [48, 42, 44, 49, 42, 44, 50, 44, 51]
theorem t30 : txK 30 l30 = true := by decide +kernel
def l31 : List Int := [48, 58, 54, 48, 100, 115, 56, 51, 47, 49, 48, 48, 45]
theorem t31 : txK 31 l31 = true := by decide +kernel
def l32 : List Int := [48, 58, 54, 48, 100, 115, 55, 54, 47, 49, 48, 48, 45]
theorem t32 : txK 32 l32 = true := by decide +kernel
def l33 : List Int := [48, 58, 54, 48, 100, 115, 54, 57, 47, 49, 48, 48, 45]
theorem t33 : txK 33 l33 = true := by decide +kernel
def l34 : List Int := [48, 58, 54, 48, 100, 115, 54, 50, 47, 49, 48, 48, 45]
theorem t34 : txK 34 l34 = true := by decide +kernel
theorem ck_1 : ckT ((90 : Int32) - ((7 : Int32) * (1 : Int32))) 31 = true := by decide +kernel
set_option maxHeartbeats 4000000 in
theorem z_1048_1 {w : Wd} (h : ZI s16z w) : ∃ w' s1 s2 s3 r, f_X10_renderGear w (0 : Int32) = some (.inr r, w') ∧ fB_J4_append_15ec4 wS0 27 = some s1 ∧ fB_J4_append_bf812 s1 ((90 : Int32) - ((7 : Int32) * (1 : Int32))) = some s2 ∧ fB_J4_append_15ec4 s2 28 = some s3 ∧ (gI s3 0 1 = 0 ∧ gI s3 0 2 = 0 ∧ gI s3 0 3 = 13 ∧ gC s3 = 16) ∧ (∀ i, fits .byte (.int (gI s3 1 i)) = true) ∧ (cLens.getD 31 0 = 13 ∧ ∀ i, i < 13 → gI s3 1 i = (cWords.getD 31 []).getD i 0) ∧ f_L_isText w' r 31 = some 1 ∧ ZI s16z w' := by
  obtain ⟨s1, s2, s3, a1, a2, a3, a4, a5, a6⟩ := mk_t (by decide +kernel) (by decide +kernel) (by decide +kernel) ck_1
  obtain ⟨w', Y, e, hz, ho, hy⟩ := z_x (l := s16z) (t := l31) (dx_gear (x := 0) s16z_k.1 ⟨by decide, by decide +kernel⟩ s16z_k.2 (zW_o s16z)) s16z_k t31 (by decide +kernel) h
  exact ⟨w', s1, s2, s3, _, e, a1, a2, a3, a4, a5, a6, k_isText t31 ho hy (by decide), hz⟩
set_option maxHeartbeats 4000000 in
theorem z_1095_1 {w : Wd} (h : ZI s16z w) : ∃ z', (∀ (x y : Wd) (l3 l4 : Int32), f_law_1095 x y w l3 l4 (1 : Int32) = some (x, y, z')) ∧ ZI s16z z' := by
  obtain ⟨w1, Y1, e1, h1, o1, y1⟩ := z_x (l := s16z) (t := l29) (dx_gear (x := 1) s16z_k.1 ⟨by decide, by decide +kernel⟩ s16z_k.2 (zW_o s16z)) s16z_k t29 (by decide +kernel) h
  have i1 := k_isText t29 o1 y1 (by decide)
  obtain ⟨w2, Y2, e2, h2, o2, y2⟩ := z_x (l := s16z) (t := l30) (dx_train (x := 2) s16z_k.1 ⟨by decide, by decide +kernel⟩) s16z_k t30 (by decide +kernel) h1
  have i2 := k_isText t30 o2 y2 (by decide)
  have e1 : f_X10_renderGear w (1 : Int32) = some (.inr (jI (l29.length : Int)), w1) := e1
  have e2 : f_X10_renderTrain w1 (2 : Int32) = some (.inr (jI (l30.length : Int)), w2) := e2
  refine ⟨w2, fun x y l3 l4 => ?_, h2⟩
  unfold f_law_1095
  rw [e1, bs_p, u2_p, zr_p, i1, bs_p, if_neg one_n0, e2, bs_p, u2_p, zr_p, i2, bs_p, if_neg one_n0]
theorem ck_2 : ckT ((90 : Int32) - ((7 : Int32) * (2 : Int32))) 32 = true := by decide +kernel
set_option maxHeartbeats 4000000 in
theorem z_1048_2 {w : Wd} (h : ZI s24z w) : ∃ w' s1 s2 s3 r, f_X10_renderGear w (0 : Int32) = some (.inr r, w') ∧ fB_J4_append_15ec4 wS0 27 = some s1 ∧ fB_J4_append_bf812 s1 ((90 : Int32) - ((7 : Int32) * (2 : Int32))) = some s2 ∧ fB_J4_append_15ec4 s2 28 = some s3 ∧ (gI s3 0 1 = 0 ∧ gI s3 0 2 = 0 ∧ gI s3 0 3 = 13 ∧ gC s3 = 16) ∧ (∀ i, fits .byte (.int (gI s3 1 i)) = true) ∧ (cLens.getD 32 0 = 13 ∧ ∀ i, i < 13 → gI s3 1 i = (cWords.getD 32 []).getD i 0) ∧ f_L_isText w' r 32 = some 1 ∧ ZI s24z w' := by
  obtain ⟨s1, s2, s3, a1, a2, a3, a4, a5, a6⟩ := mk_t (by decide +kernel) (by decide +kernel) (by decide +kernel) ck_2
  obtain ⟨w', Y, e, hz, ho, hy⟩ := z_x (l := s24z) (t := l32) (dx_gear (x := 0) s24z_k.1 ⟨by decide, by decide +kernel⟩ s24z_k.2 (zW_o s24z)) s24z_k t32 (by decide +kernel) h
  exact ⟨w', s1, s2, s3, _, e, a1, a2, a3, a4, a5, a6, k_isText t32 ho hy (by decide), hz⟩
set_option maxHeartbeats 4000000 in
theorem z_1095_2 {w : Wd} (h : ZI s24z w) : ∃ z', (∀ (x y : Wd) (l3 l4 : Int32), f_law_1095 x y w l3 l4 (2 : Int32) = some (x, y, z')) ∧ ZI s24z z' := by
  obtain ⟨w1, Y1, e1, h1, o1, y1⟩ := z_x (l := s24z) (t := l29) (dx_gear (x := 1) s24z_k.1 ⟨by decide, by decide +kernel⟩ s24z_k.2 (zW_o s24z)) s24z_k t29 (by decide +kernel) h
  have i1 := k_isText t29 o1 y1 (by decide)
  obtain ⟨w2, Y2, e2, h2, o2, y2⟩ := z_x (l := s24z) (t := l30) (dx_train (x := 2) s24z_k.1 ⟨by decide, by decide +kernel⟩) s24z_k t30 (by decide +kernel) h1
  have i2 := k_isText t30 o2 y2 (by decide)
  have e1 : f_X10_renderGear w (1 : Int32) = some (.inr (jI (l29.length : Int)), w1) := e1
  have e2 : f_X10_renderTrain w1 (2 : Int32) = some (.inr (jI (l30.length : Int)), w2) := e2
  refine ⟨w2, fun x y l3 l4 => ?_, h2⟩
  unfold f_law_1095
  rw [e1, bs_p, u2_p, zr_p, i1, bs_p, if_neg one_n0, e2, bs_p, u2_p, zr_p, i2, bs_p, if_neg one_n0]
theorem ck_3 : ckT ((90 : Int32) - ((7 : Int32) * (3 : Int32))) 33 = true := by decide +kernel
set_option maxHeartbeats 4000000 in
theorem z_1048_3 {w : Wd} (h : ZI s27z w) : ∃ w' s1 s2 s3 r, f_X10_renderGear w (0 : Int32) = some (.inr r, w') ∧ fB_J4_append_15ec4 wS0 27 = some s1 ∧ fB_J4_append_bf812 s1 ((90 : Int32) - ((7 : Int32) * (3 : Int32))) = some s2 ∧ fB_J4_append_15ec4 s2 28 = some s3 ∧ (gI s3 0 1 = 0 ∧ gI s3 0 2 = 0 ∧ gI s3 0 3 = 13 ∧ gC s3 = 16) ∧ (∀ i, fits .byte (.int (gI s3 1 i)) = true) ∧ (cLens.getD 33 0 = 13 ∧ ∀ i, i < 13 → gI s3 1 i = (cWords.getD 33 []).getD i 0) ∧ f_L_isText w' r 33 = some 1 ∧ ZI s27z w' := by
  obtain ⟨s1, s2, s3, a1, a2, a3, a4, a5, a6⟩ := mk_t (by decide +kernel) (by decide +kernel) (by decide +kernel) ck_3
  obtain ⟨w', Y, e, hz, ho, hy⟩ := z_x (l := s27z) (t := l33) (dx_gear (x := 0) s27z_k.1 ⟨by decide, by decide +kernel⟩ s27z_k.2 (zW_o s27z)) s27z_k t33 (by decide +kernel) h
  exact ⟨w', s1, s2, s3, _, e, a1, a2, a3, a4, a5, a6, k_isText t33 ho hy (by decide), hz⟩
set_option maxHeartbeats 4000000 in
theorem z_1095_3 {w : Wd} (h : ZI s27z w) : ∃ z', (∀ (x y : Wd) (l3 l4 : Int32), f_law_1095 x y w l3 l4 (3 : Int32) = some (x, y, z')) ∧ ZI s27z z' := by
  obtain ⟨w1, Y1, e1, h1, o1, y1⟩ := z_x (l := s27z) (t := l29) (dx_gear (x := 1) s27z_k.1 ⟨by decide, by decide +kernel⟩ s27z_k.2 (zW_o s27z)) s27z_k t29 (by decide +kernel) h
  have i1 := k_isText t29 o1 y1 (by decide)
  obtain ⟨w2, Y2, e2, h2, o2, y2⟩ := z_x (l := s27z) (t := l30) (dx_train (x := 2) s27z_k.1 ⟨by decide, by decide +kernel⟩) s27z_k t30 (by decide +kernel) h1
  have i2 := k_isText t30 o2 y2 (by decide)
  have e1 : f_X10_renderGear w (1 : Int32) = some (.inr (jI (l29.length : Int)), w1) := e1
  have e2 : f_X10_renderTrain w1 (2 : Int32) = some (.inr (jI (l30.length : Int)), w2) := e2
  refine ⟨w2, fun x y l3 l4 => ?_, h2⟩
  unfold f_law_1095
  rw [e1, bs_p, u2_p, zr_p, i1, bs_p, if_neg one_n0, e2, bs_p, u2_p, zr_p, i2, bs_p, if_neg one_n0]
theorem ck_4 : ckT ((90 : Int32) - ((7 : Int32) * (4 : Int32))) 34 = true := by decide +kernel
set_option maxHeartbeats 4000000 in
theorem z_1048_4 {w : Wd} (h : ZI s30z w) : ∃ w' s1 s2 s3 r, f_X10_renderGear w (0 : Int32) = some (.inr r, w') ∧ fB_J4_append_15ec4 wS0 27 = some s1 ∧ fB_J4_append_bf812 s1 ((90 : Int32) - ((7 : Int32) * (4 : Int32))) = some s2 ∧ fB_J4_append_15ec4 s2 28 = some s3 ∧ (gI s3 0 1 = 0 ∧ gI s3 0 2 = 0 ∧ gI s3 0 3 = 13 ∧ gC s3 = 16) ∧ (∀ i, fits .byte (.int (gI s3 1 i)) = true) ∧ (cLens.getD 34 0 = 13 ∧ ∀ i, i < 13 → gI s3 1 i = (cWords.getD 34 []).getD i 0) ∧ f_L_isText w' r 34 = some 1 ∧ ZI s30z w' := by
  obtain ⟨s1, s2, s3, a1, a2, a3, a4, a5, a6⟩ := mk_t (by decide +kernel) (by decide +kernel) (by decide +kernel) ck_4
  obtain ⟨w', Y, e, hz, ho, hy⟩ := z_x (l := s30z) (t := l34) (dx_gear (x := 0) s30z_k.1 ⟨by decide, by decide +kernel⟩ s30z_k.2 (zW_o s30z)) s30z_k t34 (by decide +kernel) h
  exact ⟨w', s1, s2, s3, _, e, a1, a2, a3, a4, a5, a6, k_isText t34 ho hy (by decide), hz⟩
set_option maxHeartbeats 4000000 in
theorem z_1095_4 {w : Wd} (h : ZI s30z w) : ∃ z', (∀ (x y : Wd) (l3 l4 : Int32), f_law_1095 x y w l3 l4 (4 : Int32) = some (x, y, z')) ∧ ZI s30z z' := by
  obtain ⟨w1, Y1, e1, h1, o1, y1⟩ := z_x (l := s30z) (t := l29) (dx_gear (x := 1) s30z_k.1 ⟨by decide, by decide +kernel⟩ s30z_k.2 (zW_o s30z)) s30z_k t29 (by decide +kernel) h
  have i1 := k_isText t29 o1 y1 (by decide)
  obtain ⟨w2, Y2, e2, h2, o2, y2⟩ := z_x (l := s30z) (t := l30) (dx_train (x := 2) s30z_k.1 ⟨by decide, by decide +kernel⟩) s30z_k t30 (by decide +kernel) h1
  have i2 := k_isText t30 o2 y2 (by decide)
  have e1 : f_X10_renderGear w (1 : Int32) = some (.inr (jI (l29.length : Int)), w1) := e1
  have e2 : f_X10_renderTrain w1 (2 : Int32) = some (.inr (jI (l30.length : Int)), w2) := e2
  refine ⟨w2, fun x y l3 l4 => ?_, h2⟩
  unfold f_law_1095
  rw [e1, bs_p, u2_p, zr_p, i1, bs_p, if_neg one_n0, e2, bs_p, u2_p, zr_p, i2, bs_p, if_neg one_n0]
