/-! THE THIRD OBJECT: states written out as rows of numbers (teeth, angles, sizes, tensions, reversed, ratchets, oiled, wear; ten rows of joints; planets; gears, planets, drops, wound, taken, releases, joints), and a world that holds one -/
abbrev Zr : Type := List (List Int)
def zg (l : Zr) (r i : Nat) : Int := (l.getD r []).getD i 0
def zW (l : Zr) : Wd := (fun k i => if k = 2 then jI (zg l 0 i) else if k = 4 then jI (zg l 6 i) else if k = 6 then jI (zg l 5 i) else if k = 7 then jI (zg l 2 i) else if k = 8 then jI (zg l 3 i) else if k = 9 then jI (zg l 4 i) else if k = 10 then jI (jk (zg l (8 + i / 10) (i % 10))) else if k = 11 then jI (zg l 18 i) else if k = 1 then (if i = 10 then jI (zg l 19 0) else if i = 11 then jI (zg l 19 6) else if i = 12 then jI (zg l 19 1) else if i = 13 then jI (zg l 19 2) else if i = 14 then jI (zg l 19 3) else if i = 15 then jI (zg l 19 4) else if i = 16 then jI (zg l 19 5) else 0) else 0,
  fun k i => if k = 3 then jL (zg l 1 i) else if k = 5 then jL (zg l 7 i) else 0, fun _ => none, fun _ => 0, 16)
def zS (l : Zr) : Ab := fun z => if z.toNat < 6 then zg l 19 z.toNat else if z.toNat < 86 then zg l ((z.toNat - 6) / 10) ((z.toNat - 6) % 10) else if z.toNat < 92 then zg l 18 (z.toNat - 86) else if z.toNat < 192 then zg l (8 + (z.toNat - 92) / 10) ((z.toNat - 92) % 10) else 0
theorem zS_row (l : Zr) (r : Nat) {i : Int} (o : Int) (ho : o = 6 + 10 * (r : Int)) (hr : r < 8) (i0 : 0 ≤ i) (i1 : i < 10) : zS l (o + i) = zg l r i.toNat := by
  have e : (o + i).toNat = 6 + 10 * r + i.toNat := by omega
  unfold zS
  rw [e, if_neg (by omega), if_pos (by omega), show (6 + 10 * r + i.toNat - 6) / 10 = r by omega, show (6 + 10 * r + i.toNat - 6) % 10 = i.toNat by omega]
theorem zS_j (l : Zr) {k : Int} (k0 : 0 ≤ k) (k1 : k < 100) : zS l (92 + k) = zg l (8 + k.toNat / 10) (k.toNat % 10) := by
  have e : (92 + k).toNat = 92 + k.toNat := by omega
  unfold zS
  rw [e, if_neg (by omega), if_neg (by omega), if_neg (by omega), if_pos (by omega), show 92 + k.toNat - 92 = k.toNat by omega]
theorem zS_p (l : Zr) {k : Int} (k0 : 0 ≤ k) (k1 : k < 6) : zS l (86 + k) = zg l 18 k.toNat := by
  have e : (86 + k).toNat = 86 + k.toNat := by omega
  unfold zS
  rw [e, if_neg (by omega), if_neg (by omega), if_pos (by omega), show 86 + k.toNat - 86 = k.toNat by omega]
theorem zW_c {l : Zr} (hj : jc (zS l) / 2 = zg l 19 6) : CSt (zW l) 1 (zS l) := by
  refine ⟨fun i i0 i1 => ?_, fun k k0 k1 => ?_, fun i i0 i1 => ?_, rfl, ?_, rfl, rfl, rfl, rfl, rfl⟩
  · rw [zS_row l 0 6 rfl (by decide) i0 i1, zS_row l 1 16 rfl (by decide) i0 i1, zS_row l 6 66 rfl (by decide) i0 i1, zS_row l 7 76 rfl (by decide) i0 i1, zS_row l 5 56 rfl (by decide) i0 i1, zS_row l 2 26 rfl (by decide) i0 i1, zS_row l 3 36 rfl (by decide) i0 i1, zS_row l 4 46 rfl (by decide) i0 i1]
    exact ⟨rfl, rfl, rfl, fun _ => rfl, rfl, rfl, rfl, rfl⟩
  · rw [zS_j l k0 k1]
    rfl
  · rw [zS_p l i0 i1]
    rfl
  · rw [hj]
    rfl
/-- a world against it -/
def zE (w : Wd) (l : Zr) : Bool := (List.range 10).all (fun i => decide (gI w 2 i = gI (zW l) 2 i) && decide (gL w 3 i = gL (zW l) 3 i) && decide (gI w 4 i = gI (zW l) 4 i) && (decide (zg l 6 i ≠ 1) || decide (gL w 5 i = gL (zW l) 5 i)) && decide (gI w 6 i = gI (zW l) 6 i) && decide (gI w 7 i = gI (zW l) 7 i) && decide (gI w 8 i = gI (zW l) 8 i) && decide (gI w 9 i = gI (zW l) 9 i)) &&
  (List.range 100).all (fun k => decide (gI w 10 k = gI (zW l) 10 k)) && (List.range 6).all (fun i => decide (gI w 11 i = gI (zW l) 11 i)) &&
  decide (gI w 1 10 = gI (zW l) 1 10) && decide (gI w 1 11 = gI (zW l) 1 11) && decide (gI w 1 12 = gI (zW l) 1 12) && decide (gI w 1 13 = gI (zW l) 1 13) && decide (gI w 1 14 = gI (zW l) 1 14) && decide (gI w 1 15 = gI (zW l) 1 15) && decide (gI w 1 16 = gI (zW l) 1 16)
theorem zE_c {w : Wd} {l : Zr} (h : zE w l = true) (hW : CSt (zW l) 1 (zS l)) : CSt w 1 (zS l) := by
  unfold zE at h
  simp only [Bool.and_eq_true, decide_eq_true_eq, List.all_eq_true, List.mem_range, Bool.or_eq_true] at h
  obtain ⟨⟨⟨⟨⟨⟨⟨⟨⟨h1, h2⟩, h3⟩, a0⟩, a1⟩, a2⟩, a3⟩, a4⟩, a5⟩, a6⟩ := h
  obtain ⟨c1, c2, c3, d0, d1, d2, d3, d4, d5, d6⟩ := hW
  refine ⟨fun i i0 i1 => ?_, fun k k0 k1 => ?_, fun i i0 i1 => ?_, a0.trans d0, a1.trans d1, a2.trans d2, a3.trans d3, a4.trans d4, a5.trans d5, a6.trans d6⟩
  · obtain ⟨⟨⟨⟨⟨⟨⟨b0, b1⟩, b2⟩, b3⟩, b4⟩, b5⟩, b6⟩, b7⟩ := h1 i.toNat (by omega)
    obtain ⟨e0, e1, e2, e3, e4, e5, e6, e7⟩ := c1 i i0 i1
    refine ⟨b0.trans e0, b1.trans e1, b2.trans e2, fun q => ?_, b4.trans e4, b5.trans e5, b6.trans e6, b7.trans e7⟩
    rcases b3 with b3 | b3
    · exact absurd (by rw [← zS_row l 6 66 rfl (by decide) i0 i1]; exact q) b3
    · exact b3.trans (e3 q)
  · exact (h2 k.toNat (by omega)).trans (c2 k k0 k1)
  · exact (h3 i.toNat (by omega)).trans (c3 i i0 i1)
theorem cst_tr {w v : Wd} {S R : Ab} (hS : Good S) (hR : Good R) (h1 : CSt w 1 S) (h2 : CSt w 1 R) (h : CSt v 1 S) : CSt v 1 R := by
  obtain ⟨a1, a2, a3, a4, a5, a6, a7, a8, a9, aa⟩ := h1
  obtain ⟨b1, b2, b3, b4, b5, b6, b7, b8, b9, ba⟩ := h2
  obtain ⟨c1, c2, c3, c4, c5, c6, c7, c8, c9, ca⟩ := h
  refine ⟨fun i i0 i1 => ?_, fun k k0 k1 => (c2 k k0 k1).trans ((a2 k k0 k1).symm.trans (b2 k k0 k1)), fun i i0 i1 => (c3 i i0 i1).trans ((a3 i i0 i1).symm.trans (b3 i i0 i1)), c4.trans (a4.symm.trans b4), c5.trans (a5.symm.trans b5), c6.trans (a6.symm.trans b6), c7.trans (a7.symm.trans b7), c8.trans (a8.symm.trans b8), c9.trans (a9.symm.trans b9), ca.trans (aa.symm.trans ba)⟩
  obtain ⟨x0, x1, x2, x3, x4, x5, x6, x7⟩ := a1 i i0 i1
  obtain ⟨y0, y1, y2, y3, y4, y5, y6, y7⟩ := b1 i i0 i1
  obtain ⟨z0, z1, z2, z3, z4, z5, z6, z7⟩ := c1 i i0 i1
  have s := (hS.2.1 i i0 i1).2.2.2.1
  have r := (hR.2.1 i i0 i1).2.2.2.1
  have e : S (66 + i) = R (66 + i) := (iff_of_eq (jI_eq (by omega) (by omega) (by omega) (by omega))).mp (x2.symm.trans y2)
  refine ⟨z0.trans (x0.symm.trans y0), z1.trans (x1.symm.trans y1), z2.trans (x2.symm.trans y2), fun q => ?_, z4.trans (x4.symm.trans y4), z5.trans (x5.symm.trans y5), z6.trans (x6.symm.trans y6), z7.trans (x7.symm.trans y7)⟩
  have q2 : S (66 + i) = 1 := by rw [e]; exact q
  exact (z3 q2).trans ((x3 q2).symm.trans (y3 q))
/-- such a state is a good one -/
def zGg (l : Zr) (P : List Int) : Bool := decide (0 ≤ zS l 0 ∧ zS l 0 ≤ 10 ∧ 0 ≤ zS l 1 ∧ zS l 1 ≤ 6 ∧ 0 ≤ zS l 2 ∧ zS l 2 ≤ 99) &&
  (List.range 10).all (fun i => decide ((¬ (i : Int) < zS l 0 ∨ (zg l 0 i = 6 ∨ zg l 0 i = 8 ∨ zg l 0 i = 10 ∨ zg l 0 i = 12 ∨ zg l 0 i = 15 ∨ zg l 0 i = 20 ∨ zg l 0 i = 24 ∨ zg l 0 i = 30 ∨ zg l 0 i = 40 ∨ zg l 0 i = 60)) ∧ (¬ zS l 0 ≤ (i : Int) ∨ (zg l 0 i = 0 ∧ zg l 2 i = 0)) ∧ (0 ≤ zg l 1 i ∧ zg l 1 i < 24883200000) ∧ (zg l 6 i = 0 ∨ zg l 6 i = 1) ∧ (¬ zg l 6 i = 1 ∨ (0 ≤ zg l 7 i ∧ zg l 7 i < 746496000000)) ∧ (zg l 5 i = 0 ∨ zg l 5 i = 1) ∧ (zg l 4 i = 0 ∨ zg l 4 i = 1) ∧ (0 ≤ zg l 2 i ∧ zg l 2 i ≤ 200) ∧ (0 ≤ zg l 3 i ∧ zg l 3 i ≤ zg l 2 i))) &&
  (List.range 6).all (fun p => decide (¬ (p : Int) < zS l 1 ∨ (0 ≤ zg l 18 p ∧ zg l 18 p < zS l 0))) &&
  (List.range 10).all (fun a => (List.range 10).all (fun b => decide (zg l (8 + a) b = zg l (8 + b) a ∧ (zg l (8 + a) b = 0 ∨ zg l (8 + a) b = 1 ∨ zg l (8 + a) b = 2) ∧ (zg l (8 + a) b = 0 ∨ (a ≠ b ∧ (a : Int) < zS l 0 ∧ (b : Int) < zS l 0)) ∧ (¬ zg l (8 + a) b = 2 ∨ P.getD b 0 = P.getD a 0) ∧ (¬ zg l (8 + a) b = 1 ∨ P.getD b 0 * zg l 0 b = -(P.getD a 0 * zg l 0 a))))) &&
  decide (jc (zS l) ≤ 30 ∧ jc (zS l) % 2 = 0 ∧ sm (fun i => zS l (36 + i)) 10 = zS l 3 - zS l 4) && (List.range 10).all (fun a => decide (P.getD a 0 ≠ 0)) && decide (jc (zS l) / 2 = zg l 19 6)
theorem zG_ok {l : Zr} {P : List Int} (h : zGg l P = true) : Good (zS l) ∧ CSt (zW l) 1 (zS l) := by
  unfold zGg at h
  simp only [Bool.and_eq_true, decide_eq_true_eq, List.all_eq_true, List.mem_range] at h
  obtain ⟨⟨⟨⟨⟨⟨h0, h1⟩, h2⟩, h3⟩, h4⟩, h5⟩, h6⟩ := h
  refine ⟨⟨h0, fun i i0 i1 => ?_, fun p p0 p1 => ?_, fun a b a0 a1 b0 b1 => ?_, ⟨h4.1, h4.2.1⟩, h4.2.2, fun i => P.getD i.toNat 0, fun a a0 a1 => ⟨h5 a.toNat (by omega), fun b b0 b1 => ?_⟩⟩, zW_c h6⟩
  · have k := h1 i.toNat (by omega)
    have ii : ((i.toNat : Nat) : Int) = i := by omega
    rw [ii] at k
    unfold Gg tooth
    rw [zS_row l 0 6 rfl (by decide) i0 i1, zS_row l 1 16 rfl (by decide) i0 i1, zS_row l 6 66 rfl (by decide) i0 i1, zS_row l 7 76 rfl (by decide) i0 i1, zS_row l 5 56 rfl (by decide) i0 i1, zS_row l 2 26 rfl (by decide) i0 i1, zS_row l 3 36 rfl (by decide) i0 i1, zS_row l 4 46 rfl (by decide) i0 i1]
    obtain ⟨k1, k2, k3, k4, k5, k6, k7, k8, k9⟩ := k
    exact ⟨fun q => k1.resolve_left (fun n => n q), fun q => k2.resolve_left (fun n => n q), k3, k4, fun q => k5.resolve_left (fun n => n q), k6, k7, k8, k9⟩
  · have pp : p < 6 := by omega
    have k := h2 p.toNat (by omega)
    rw [show ((p.toNat : Nat) : Int) = p by omega] at k
    rw [zS_p l p0 pp]
    exact k.resolve_left (fun n => n p1)
  · have k := h3 a.toNat (by omega) b.toNat (by omega)
    have ja : zS l (92 + 10 * a + b) = zg l (8 + a.toNat) b.toNat := by
      have z := zS_j l (k := 10 * a + b) (by omega) (by omega)
      rw [show 92 + (10 * a + b) = 92 + 10 * a + b by omega, show (10 * a + b).toNat / 10 = a.toNat by omega, show (10 * a + b).toNat % 10 = b.toNat by omega] at z
      exact z
    have jb : zS l (92 + 10 * b + a) = zg l (8 + b.toNat) a.toNat := by
      have z := zS_j l (k := 10 * b + a) (by omega) (by omega)
      rw [show 92 + (10 * b + a) = 92 + 10 * b + a by omega, show (10 * b + a).toNat / 10 = b.toNat by omega, show (10 * b + a).toNat % 10 = a.toNat by omega] at z
      exact z
    unfold Gj
    rw [ja, jb]
    rw [show ((a.toNat : Nat) : Int) = a by omega, show ((b.toNat : Nat) : Int) = b by omega] at k
    refine ⟨k.1, k.2.1, fun q => ?_⟩
    have k3 := k.2.2.1.resolve_left (fun n => q n)
    exact ⟨fun e => k3.1 (by rw [e]), k3.2⟩
  · have k := h3 a.toNat (by omega) b.toNat (by omega)
    have ja : zS l (92 + 10 * a + b) = zg l (8 + a.toNat) b.toNat := by
      have z := zS_j l (k := 10 * a + b) (by omega) (by omega)
      rw [show 92 + (10 * a + b) = 92 + 10 * a + b by omega, show (10 * a + b).toNat / 10 = a.toNat by omega, show (10 * a + b).toNat % 10 = b.toNat by omega] at z
      exact z
    unfold Rl
    rw [ja, zS_row l 0 6 rfl (by decide) a0 a1, zS_row l 0 6 rfl (by decide) b0 b1]
    exact ⟨fun q => k.2.2.2.1.resolve_left (fun n => n q), fun q => k.2.2.2.2.resolve_left (fun n => n q)⟩
/-- the third object stands at such a state -/
def ZP (P : TS → Prop) (l : Zr) (w : Wd) : Prop := ∃ T, InvG T ∧ InvC w T ∧ tS T = zS l ∧ tC T = 0 ∧ P T
abbrev ZI (l : Zr) (w : Wd) : Prop := ZP (fun _ => True) l w
def ZK (l : Zr) : Prop := Good (zS l) ∧ CSt (zW l) 1 (zS l)
def zC (o : Option (Int32 × Wd)) (v : Int) (l : Zr) : Bool := match o with
  | some (r, w) => decide (r = jI v) && zE w l
  | none => false
def zX (o : Option (Int32 × Wd)) (v : Int) : Bool := match o with
  | some (r, _) => decide (r = jI v)
  | none => false
theorem InvC.swap {w : Wd} {T : TS} {S R : Ab} (h : InvC w (psh T S)) (k : CSt w 1 S → CSt w 1 R) : InvC w (psh T R) := ⟨k h.1, h.2⟩
theorem z_muD {l l' : Zr} {rr : Oc → Nat ⊕ Int32} {cf : Wd → Option (Int32 × Wd)} {F : Wd → Option ((Nat ⊕ Int32) × Wd)} {v : Int} (hrr : ∀ (v : Int) (S S' : Ab), rr (.inr (v, S)) = rr (.inr (v, S'))) (hk : ZK l) (hk' : ZK l') (v0 : 0 ≤ v) (v1 : v < 1000) (hc : zC (cf (zW l)) v l' = true) {T : TS} (hm : MU T rr cf F) (hS : tS T = zS l) {w : Wd} (hC : InvC w T) : ∃ w', F w = some (rr (.inr (v, zS l')), w') ∧ InvC w' (psh T (zS l')) := by
  obtain ⟨es, o, h5, hO, hM, hcf, k⟩ := hm
  obtain ⟨r, w2, e2, s2, c2⟩ := hcf (zW l) (by rw [hS]; exact hk.2)
  rw [e2] at hc
  unfold zC at hc
  rw [Bool.and_eq_true] at hc
  have hr : r = jI v := of_decide_eq_true hc.1
  have cz := zE_c hc.2 hk'.2
  obtain ⟨w', e, c⟩ := k w hC
  rcases o with e5 | q
  · exfalso
    have c2 : r = jI (-(e5 : Int) - 1) ∧ _ := c2
    have e5' := h5 e5 hO
    have := (iff_of_eq (jI_eq (by omega) (by omega) (by omega) (by omega))).mp (hr.symm.trans c2.1)
    omega
  · have c2 : r = jI q.1 ∧ CSt w2 1 q.2 := c2
    have hO : 0 ≤ q.1 ∧ q.1 < 1000 ∧ Good q.2 := hO
    have e1 : v = q.1 := (iff_of_eq (jI_eq (by omega) (by omega) (by omega) (by omega))).mp (hr.symm.trans c2.1)
    refine ⟨w', ?_, (show InvC w' (psh T q.2) from c).swap (cst_tr hO.2.2 hk'.1 c2.2 cz)⟩
    rw [e]
    obtain ⟨q1, q2⟩ := q
    have e1 : v = q1 := e1
    subst e1
    rw [hrr v q2 (zS l')]
theorem rs_i (v : Int) (S S' : Ab) : rs (.inr (v, S)) = rs (.inr (v, S')) := rfl
theorem rb_i (v : Int) (S S' : Ab) : rb (.inr (v, S)) = rb (.inr (v, S')) := rfl
theorem z_mu {l l' : Zr} {rr : Oc → Nat ⊕ Int32} {cf : Wd → Option (Int32 × Wd)} {F : Wd → Option ((Nat ⊕ Int32) × Wd)} {v : Int} (hm : ∀ T, InvG T → MU T rr cf F) (hrr : ∀ (v : Int) (S S' : Ab), rr (.inr (v, S)) = rr (.inr (v, S'))) (hk : ZK l) (hk' : ZK l') (v0 : 0 ≤ v) (v1 : v < 1000) (hc : zC (cf (zW l)) v l' = true) {w : Wd} (h : ZI l w) : ∃ w', F w = some (rr (.inr (v, zS l')), w') ∧ ZI l' w' := by
  obtain ⟨T, hG, hC, hS, hz, -⟩ := h
  obtain ⟨w', e, c⟩ := z_muD hrr hk hk' v0 v1 hc (hm T hG) hS hC
  exact ⟨w', e, psh T (zS l'), hG.psh hk'.1, c, rfl, hz, trivial⟩
theorem z_mu1 {l l' : Zr} {rr : Oc → Nat ⊕ Int32} {cf : Wd → Option (Int32 × Wd)} {F : Wd → Option ((Nat ⊕ Int32) × Wd)} {v : Int} (hm : ∀ T, InvG T → MU T rr cf F) (hrr : ∀ (v : Int) (S S' : Ab), rr (.inr (v, S)) = rr (.inr (v, S'))) (hk : ZK l) (hk' : ZK l') (v0 : 0 ≤ v) (v1 : v < 1000) (hc : zC (cf (zW l)) v l' = true) {w : Wd} (h : ZI l w) : ∃ w', F w = some (rr (.inr (v, zS l')), w') ∧ ZP (fun T => Dk T (0 + 1) (fun _ => zS l)) l' w' := by
  obtain ⟨T, hG, hC, hS, hz, -⟩ := h
  obtain ⟨w', e, c⟩ := z_muD hrr hk hk' v0 v1 hc (hm T hG) hS hC
  have n8 := hG.2.2.2.1
  have D := (Dk.z T (fun _ => zS l) n8.1).psh (by decide) n8.1 n8.2 (zS l')
  refine ⟨w', e, psh T (zS l'), hG.psh hk'.1, c, rfl, hz, D.1, fun j j0 j1 => ?_⟩
  refine (D.2 j j0 j1).trans ?_
  show (if j = 0 then tS T else zS l) = zS l
  rw [if_pos (by omega), hS]
theorem z_undo {l lp : Zr} {w : Wd} (h : ZP (fun T => Dk T (0 + 1) (fun _ => zS lp)) l w) : ∃ w' r, f_X10_undo w = some (.inr r, w') ∧ ¬ r < 0 ∧ ZI lp w' := by
  obtain ⟨T, hG, hC, hS, hz, hD⟩ := h
  obtain ⟨w', r, e, p, c, g, -⟩ := k_undo hG hC hD (by decide)
  exact ⟨w', r, e, p, _, g, c, rfl, hz, trivial⟩
/-- refused -/
theorem z_er {l : Zr} {rr : Oc → Nat ⊕ Int32} {cf : Wd → Option (Int32 × Wd)} {F : Wd → Option ((Nat ⊕ Int32) × Wd)} {k : Nat} (hm : ∀ T, InvG T → MU T rr cf F) (hk : ZK l) (hk5 : k < 5) (hc : zX (cf (zW l)) (-(k : Int) - 1) = true) {P : TS → Prop} {w : Wd} (h : ZP P l w) : ∃ w', F w = some (rr (.inl k), w') ∧ ZP P l w' := by
  obtain ⟨T, hG, hC, hS, hz⟩ := h
  obtain ⟨es, o, h5, hO, hM, hcf, kk⟩ := hm T hG
  obtain ⟨r, w2, e2, s2, c2⟩ := hcf (zW l) (by rw [hS]; exact hk.2)
  rw [e2] at hc
  unfold zX at hc
  have hr : r = jI (-(k : Int) - 1) := of_decide_eq_true hc
  obtain ⟨w', e, c⟩ := kk w hC
  rcases o with e5 | q
  · have c2 : r = jI (-(e5 : Int) - 1) ∧ _ := c2
    have e5' := h5 e5 hO
    have := (iff_of_eq (jI_eq (by omega) (by omega) (by omega) (by omega))).mp (hr.symm.trans c2.1)
    have e6 : e5 = k := by omega
    subst e6
    exact ⟨w', e, T, hG, c, hS, hz⟩
  · exfalso
    have c2 : r = jI q.1 ∧ CSt w2 1 q.2 := c2
    have hO : 0 ≤ q.1 ∧ q.1 < 1000 ∧ Good q.2 := hO
    have := (iff_of_eq (jI_eq (by omega) (by omega) (by omega) (by omega))).mp (hr.symm.trans c2.1)
    omega
/-- what only reads -/
def DT {α : Type} (S : Ab) (f : Wd → Option (α × Wd)) : Prop := ∃ a, ∀ w, CSt w 1 S → ∃ w', f w = some (a, w') ∧ Sm KY w w'
def DR {α : Type} (S : Ab) (f : Wd → Option α) : Prop := ∃ a, ∀ w, CSt w 1 S → f w = some a
theorem z_q {α : Type} {l : Zr} {f : Wd → Option (α × Wd)} {a : α} (hd : DT (zS l) f) (hk : ZK l) (hc : ((f (zW l)).map fun z => z.1) = some a) {P : TS → Prop} {w : Wd} (h : ZP P l w) : ∃ w', f w = some (a, w') ∧ ZP P l w' := by
  obtain ⟨T, hG, hC, hS, hz⟩ := h
  obtain ⟨b, k⟩ := hd
  obtain ⟨w1, e1, s1⟩ := k (zW l) hk.2
  rw [e1] at hc
  have hb : b = a := Option.some.inj hc
  subst hb
  obtain ⟨w', e, s⟩ := k w (by rw [← hS]; exact hC.1)
  exact ⟨w', e, T, hG, hC.read s, hS, hz⟩
theorem z_r {α : Type} {l : Zr} {f : Wd → Option α} {a : α} (hd : DR (zS l) f) (hk : ZK l) (hc : f (zW l) = some a) {P : TS → Prop} {w : Wd} (h : ZP P l w) : f w = some a := by
  obtain ⟨T, hG, hC, hS, hz⟩ := h
  obtain ⟨b, k⟩ := hd
  have e1 := k (zW l) hk.2
  rw [hc] at e1
  have hb : a = b := Option.some.inj e1
  subst hb
  exact k w (by rw [← hS]; exact hC.1)
section
variable {S : Ab} {x y : Int}
theorem dt_units (hG : Good S) (q : 0 ≤ x ∧ x < S 0) (q2 : 0 ≤ y ∧ y < S 0) : DT S (fun w => f_X10_unitsPerTurn w (jI x) (jI y)) := by
  by_cases z : TU S x y = 0
  · refine ⟨.inl 4, fun w h => ?_⟩
    obtain ⟨w9, e9, s9, c9⟩ := st_0 h hG q q2 z
    refine ⟨w9, ?_, s9.mono fun _ => KT_Y⟩
    show f_X10_unitsPerTurn w (jI x) (jI y) = _
    unfold f_X10_unitsPerTurn
    rw [e9, bs_p, u2_p, zl_p]
  · refine ⟨.inr (jL (TU S x y)), fun w h => ?_⟩
    obtain ⟨w9, e9, s9, c9⟩ := stu_1 h hG q q2 z
    obtain ⟨w7, e7, s7, c7⟩ := s_chain hG c9 q q2
    refine ⟨w7, ?_, (s9.tr s7).mono fun _ => KT_Y⟩
    show f_X10_unitsPerTurn w (jI x) (jI y) = _
    unfold f_X10_unitsPerTurn
    rw [e9, bs_p, u2_p, zr_p, e7, bs_p, u2_p]
theorem dt_lowest (hG : Good S) (q : 0 ≤ x ∧ x < S 0) (q2 : 0 ≤ y ∧ y < S 0) : DT S (fun w => f_X10_unitsPerTurnByLowest w (jI x) (jI y)) := by
  by_cases z : TU S x y = 0
  · refine ⟨.inl 4, fun w h => ?_⟩
    obtain ⟨w9, e9, s9, c9⟩ := st_0 h hG q q2 z
    refine ⟨w9, ?_, s9.mono fun _ => KT_Y⟩
    show f_X10_unitsPerTurnByLowest w (jI x) (jI y) = _
    unfold f_X10_unitsPerTurnByLowest
    rw [e9, bs_p, u2_p, zl_p]
  · refine ⟨.inr (jL (TU S x y)), fun w h => ?_⟩
    obtain ⟨w9, e9, s9, c9⟩ := stu_1 h hG q q2 z
    obtain ⟨w7, e7, s7, c7⟩ := s_lowest hG c9 q q2 z
    refine ⟨w7, ?_, (s9.tr s7).mono fun _ => KT_Y⟩
    show f_X10_unitsPerTurnByLowest w (jI x) (jI y) = _
    unfold f_X10_unitsPerTurnByLowest
    rw [e9, bs_p, u2_p, zr_p, e7, bs_p, u2_p]
theorem dt_trainSize (hG : Good S) (q : 0 ≤ x ∧ x < S 0) : DT S (fun w => f_X10_trainSize w (jI x)) := by
  refine ⟨.inr (jI (ct (TU S x))), fun w h => ?_⟩
  obtain ⟨w3, m, e3, s3, t3, c3⟩ := s_trace hG h q.1 q.2
  refine ⟨w3, ?_, s3.mono fun _ => KT_Y⟩
  show f_X10_trainSize w (jI x) = _
  unfold f_X10_trainSize
  rw [cg_T h hG q, bs_p, zr_p, e3, bs_p, t3.2.1]
theorem dt_areInTrain (hG : Good S) (q : 0 ≤ x ∧ x < S 0) (q2 : 0 ≤ y ∧ y < S 0) : DT S (fun w => f_X10_areInTrain w (jI x) (jI y)) := by
  have hg := hG.1
  refine ⟨.inr (vp_nar .boolean (jI (bZ (TU S x y ≠ 0)))), fun w h => ?_⟩
  obtain ⟨w3, m, e3, s3, t3, c3⟩ := s_trace hG h q.1 q.2
  refine ⟨w3, ?_, s3.mono fun _ => KT_Y⟩
  show f_X10_areInTrain w (jI x) (jI y) = _
  unfold f_X10_areInTrain
  rw [cg_T h hG q, bs_p, zr_p, cg_T h hG q2, bs_p, zr_p, e3, bs_p, s_holds t3 (tu_b hG q.1 q.2) q2.1 (by omega), bs_p]
theorem dt_springOf (hG : Good S) (q : 0 ≤ x ∧ x < S 0) {w0 : Wd} (h0 : CSt w0 1 S) : DT S (fun w => f_X10_springOf w (jI x)) := by
  obtain ⟨w1, m1, -, -, t1, c1⟩ := s_trace hG h0 q.1 q.2
  obtain ⟨r, -, fr⟩ := s_springGear c1 hG t1 (tu_b hG q.1 q.2)
  refine ⟨if jI r = (-1 : Int32) then .inl 4 else .inr (jI r), fun w h => ?_⟩
  obtain ⟨w3, m, e3, s3, t3, c3⟩ := s_trace hG h q.1 q.2
  obtain ⟨r2, er, fr2⟩ := s_springGear c3 hG t3 (tu_b hG q.1 q.2)
  have rr : r2 = r := fr2.uniq fr
  rw [rr] at er
  refine ⟨w3, ?_, s3.mono fun _ => KT_Y⟩
  show f_X10_springOf w (jI x) = _
  unfold f_X10_springOf
  rw [cg_T h hG q, bs_p, zr_p, e3, bs_p, er, bs_p]
  split <;> rfl
theorem dt_friction (hG : Good S) (q : 0 ≤ x ∧ x < S 0) : DT S (fun w => f_X10_friction w (jI x)) := by
  refine ⟨.inr (jI (dg S (TU S x))), fun w h => ?_⟩
  obtain ⟨w3, m, e3, s3, t3, c3⟩ := s_trace hG h q.1 q.2
  refine ⟨w3, ?_, s3.mono fun _ => KT_Y⟩
  show f_X10_friction w (jI x) = _
  unfold f_X10_friction
  rw [cg_T h hG q, bs_p, zr_p, e3, bs_p, s_drag c3 hG t3 (tu_b hG q.1 q.2) (tu_out hG q.1 q.2), bs_p]
theorem dt_turnsLeft (hG : Good S) (q : 0 ≤ x ∧ x < S 0) (q2 : 0 < S (26 + x)) : DT S (fun w => f_X10_turnsLeft w (jI x)) := by
  have hg := hG.1
  have k := hG.2.1 x q.1 (by omega)
  have k7 := k.2.2.2.2.2.2.2
  have kl := dg_b S (TU S x)
  have kp : 0 < ct (TU S x) := ct_pos q.1 (by omega) (by rw [tu_d hG q.1 q.2]; decide)
  refine ⟨.inr (jL (S (36 + x) / dg S (TU S x))).toInt32, fun w h => ?_⟩
  obtain ⟨w3, m, e3, s3, t3, c3⟩ := s_trace hG h q.1 q.2
  refine ⟨w3, ?_, s3.mono fun _ => KT_Y⟩
  show f_X10_turnsLeft w (jI x) = _
  unfold f_X10_turnsLeft
  rw [cs_T h hG q q2, bs_p, zr_p, e3, bs_p, if_pos (by rw [inR_j (by omega) (by omega)]; omega), s_drag c3 hG t3 (tu_b hG q.1 q.2) (tu_out hG q.1 q.2), bs_p, jI_clamp (by omega) (by omega), c_n c3 x q.1 (by omega), jI_toL (by omega) (by omega), jI_toL (by omega) (by omega), s_quot (by omega) (by omega) (by omega) (by omega), bs_p]
theorem dt_canRelease (hG : Good S) (q : 0 ≤ x ∧ x < S 0) : DT S (fun w => f_X10_canRelease w (jI x)) := by
  obtain ⟨r, h⟩ := k_canRelease hG q
  exact ⟨.inr r, h⟩
theorem dt_consistent (hG : Good S) : DT S f_X10_isConsistent := by
  refine ⟨jI 1, fun w h => ?_⟩
  obtain ⟨w1, e1, h1⟩ := s_unitsAgree (w := w) hG ⟨Sm.refl w, h⟩
  obtain ⟨w2, e2, h2⟩ := s_eclAgree hG h1
  obtain ⟨w3, e3, h3⟩ := s_pairAgree hG h2
  have k := s_sumOfTensions h3.2 hG
  refine ⟨w3, ?_, h3.1⟩
  unfold f_X10_isConsistent
  rw [e1, bs_p, u2_p, if_neg (by decide +kernel), e2, bs_p, u2_p, if_neg (by decide +kernel), e3, bs_p, u2_p, if_neg (by decide +kernel), k, bs_p, c_wd h3.2, c_tk h3.2, jI_sub, hG.2.2.2.2.2.1]
  exact if_pos rfl
theorem dr_fewest (hG : Good S) (q : 1 ≤ x ∧ x ≤ 60) (q2 : 1 ≤ y ∧ y ≤ 60) {w0 : Wd} (h0 : CSt w0 1 S) : DR S (fun w => f_X10_fewestPairs w (jI x) (jI y)) := by
  obtain ⟨r, -, hr⟩ := s_trying hG h0 q q2
  refine ⟨if jI r = 0 then .inl 4 else .inr (jI r), fun w h => ?_⟩
  obtain ⟨r2, er, hr2⟩ := s_trying hG h q q2
  rw [hr2.uniq hr] at er
  show f_X10_fewestPairs w (jI x) (jI y) = _
  unfold f_X10_fewestPairs f_X10_found
  rw [cr_T q q2, bs_p, zr_p, er, bs_p]
  split <;> rfl
theorem dt_byTable (hG : Good S) (q : 1 ≤ x ∧ x ≤ 60) (q2 : 1 ≤ y ∧ y ≤ 60) {w0 : Wd} (h0 : CSt w0 1 S) : DT S (fun w => f_X10_fewestPairsByTable w (jI x) (jI y)) := by
  obtain ⟨r, w9, -, -, -, hr⟩ := s_byTable hG h0 q q2
  refine ⟨if jI r = 0 then .inl 4 else .inr (jI r), fun w h => ?_⟩
  obtain ⟨r2, w6, er, s6, c6, hr2⟩ := s_byTable hG h q q2
  rw [hr2.uniq hr] at er
  refine ⟨w6, ?_, s6.mono fun _ => KE_Y⟩
  show f_X10_fewestPairsByTable w (jI x) (jI y) = _
  unfold f_X10_fewestPairsByTable f_X10_found
  rw [cr_T q q2, bs_p, zr_p, er, bs_p, u2_p]
  split <;> rfl
theorem dt_judge {a b z : Int} (hG : Good S) (a1 : -2147483648 ≤ a) (a2 : a < 2147483648) (b1 : -2147483648 ≤ b) (b2 : b < 2147483648) (z1 : -2147483648 ≤ z) (z2 : z < 2147483648) : ∃ k : Int, (-4 < k ∧ k ≤ 0) ∧ (k = 0 → (0 ≤ a ∧ a < S 1) ∧ (0 ≤ b ∧ b < S 1) ∧ 0 ≤ z ∧ z < S 0) ∧ ∀ w, CSt w 1 S → ∃ w3, f_X2_judge w (jI a) (jI b) (jI z) = some (jI k, w3) ∧ Sm KT w w3 ∧ CSt w3 1 S := by
  by_cases q : (0 ≤ a ∧ a < S 1) ∧ (0 ≤ b ∧ b < S 1) ∧ 0 ≤ z ∧ z < S 0
  · by_cases hab : a = b
    · subst hab
      exact ⟨-2, ⟨by decide, by decide⟩, fun h => absurd h (by decide), fun w h => ⟨w, jd_2 h hG ⟨q.1, q.2.2⟩, Sm.refl w, h⟩⟩
    · refine ⟨if TU S z (S (86 + a)) = 0 ∨ TU S z (S (86 + b)) = 0 then -3 else 0, by split <;> decide, fun _ => q, fun w h => jd_t h hG q hab⟩
  · exact ⟨-1, ⟨by decide, by decide⟩, fun h => absurd h (by decide), fun w h => ⟨w, jd_1 h hG a1 a2 b1 b2 z1 z2 q, Sm.refl w, h⟩⟩
theorem dt_ecl {a b z : Int} (hG : Good S) (a1 : -2147483648 ≤ a) (a2 : a < 2147483648) (b1 : -2147483648 ≤ b) (b2 : b < 2147483648) (z1 : -2147483648 ≤ z) (z2 : z < 2147483648) {w0 : Wd} (h0 : CSt w0 1 S) : DT S (fun w => f_X10_nextEclipse w (jI a) (jI b) (jI z)) := by
  obtain ⟨k, kb, kq, kj⟩ := dt_judge hG a1 a2 b1 b2 z1 z2
  by_cases k0 : k = 0
  · obtain ⟨q1, q2, q3⟩ := kq k0
    obtain ⟨r, w9, -, -, -, hE⟩ := s_solving hG h0 q1 q2 q3
    refine ⟨if jI r = 0 then .inl 4 else .inr (jI r), fun w h => ?_⟩
    obtain ⟨w3, e3, s3, c3⟩ := kj w h
    obtain ⟨r2, w7, e7, s7, c7, hE2⟩ := s_solving hG c3 q1 q2 q3
    rw [hE2.uniq hE] at e7
    rw [k0] at e3
    refine ⟨w7, ?_, (s3.tr s7).mono fun _ => KT_Y⟩
    show f_X10_nextEclipse w (jI a) (jI b) (jI z) = _
    unfold f_X10_nextEclipse f_X10_found
    rw [e3, bs_p, u2_p, show f_X10_refuse w3 (jI 0) = some (.inr ()) from rfl, bs_p, zr_p, e7, bs_p, u2_p]
    split <;> rfl
  · refine ⟨.inl (-(k + 1)).toNat, fun w h => ?_⟩
    obtain ⟨w3, e3, s3, c3⟩ := kj w h
    refine ⟨w3, ?_, s3.mono fun _ => KT_Y⟩
    have e2 : f_X10_refuse w3 (jI k) = some (.inl (-(k + 1)).toNat) := by
      have := s_refuse (w := w3) (es := [0, 1, 2, 3, 4]) (o := .inl (-(k + 1)).toNat) (r := jI k) (by decide) (by show (-(k + 1)).toNat ∈ [0, 1, 2, 3, 4]; simp; omega) (by show jI k = jI (-(((-(k + 1)).toNat : Nat) : Int) - 1); exact congrArg jI (by omega))
      exact this
    show f_X10_nextEclipse w (jI a) (jI b) (jI z) = _
    unfold f_X10_nextEclipse
    rw [e3, bs_p, u2_p, e2, bs_p, zl_p]
theorem dt_eclT {a b z : Int} (hG : Good S) (a1 : -2147483648 ≤ a) (a2 : a < 2147483648) (b1 : -2147483648 ≤ b) (b2 : b < 2147483648) (z1 : -2147483648 ≤ z) (z2 : z < 2147483648) {w0 : Wd} (h0 : CSt w0 1 S) : DT S (fun w => f_X10_nextEclipseByTurns w (jI a) (jI b) (jI z)) := by
  obtain ⟨k, kb, kq, kj⟩ := dt_judge hG a1 a2 b1 b2 z1 z2
  by_cases k0 : k = 0
  · obtain ⟨q1, q2, q3⟩ := kq k0
    obtain ⟨r, w9, -, -, -, hE⟩ := s_turning hG h0 q1 q2 q3
    refine ⟨if jI r = 0 then .inl 4 else .inr (jI r), fun w h => ?_⟩
    obtain ⟨w3, e3, s3, c3⟩ := kj w h
    obtain ⟨r2, w7, e7, s7, c7, hE2⟩ := s_turning hG c3 q1 q2 q3
    rw [hE2.uniq hE] at e7
    rw [k0] at e3
    refine ⟨w7, ?_, (s3.tr s7).mono fun _ => KT_Y⟩
    show f_X10_nextEclipseByTurns w (jI a) (jI b) (jI z) = _
    unfold f_X10_nextEclipseByTurns f_X10_found
    rw [e3, bs_p, u2_p, show f_X10_refuse w3 (jI 0) = some (.inr ()) from rfl, bs_p, zr_p, e7, bs_p, u2_p]
    split <;> rfl
  · refine ⟨.inl (-(k + 1)).toNat, fun w h => ?_⟩
    obtain ⟨w3, e3, s3, c3⟩ := kj w h
    refine ⟨w3, ?_, s3.mono fun _ => KT_Y⟩
    have e2 : f_X10_refuse w3 (jI k) = some (.inl (-(k + 1)).toNat) := by
      have := s_refuse (w := w3) (es := [0, 1, 2, 3, 4]) (o := .inl (-(k + 1)).toNat) (r := jI k) (by decide) (by show (-(k + 1)).toNat ∈ [0, 1, 2, 3, 4]; simp; omega) (by show jI k = jI (-(((-(k + 1)).toNat : Nat) : Int) - 1); exact congrArg jI (by omega))
      exact this
    show f_X10_nextEclipseByTurns w (jI a) (jI b) (jI z) = _
    unfold f_X10_nextEclipseByTurns
    rw [e3, bs_p, u2_p, e2, bs_p, zl_p]
theorem eq_mean (hG : Good S) {w w0 : Wd} (h : CSt w 1 S) (h0 : CSt w0 1 S) : f_X10_meanTeeth w = f_X10_meanTeeth w0 := by
  unfold f_X10_meanTeeth
  rw [c_g h, c_g h0, s_sumOfTeeth h hG, s_sumOfTeeth h0 hG]
theorem eq_dry (hG : Good S) {w w0 : Wd} (h : CSt w 1 S) (h0 : CSt w0 1 S) : f_X10_dryShare w = f_X10_dryShare w0 := by
  unfold f_X10_dryShare
  rw [c_g h, c_g h0, s_dryGears h hG, s_dryGears h0 hG]
theorem eq_ff {w : Wd} (h : ¬ ((1 ≤ x ∧ x ≤ 60) ∧ 1 ≤ y ∧ y ≤ 60)) (a1 : -2147483648 ≤ x) (a2 : x < 2147483648) (b1 : -2147483648 ≤ y) (b2 : y < 2147483648) : f_X10_fewestPairs w (jI x) (jI y) = some (.inl 1) := by
  unfold f_X10_fewestPairs
  rw [cr_F a1 a2 b1 b2 h, bs_p, zl_p]
end
theorem z_rr {α : Type} {l : Zr} {f : Wd → Option α} {a : α} (hd : ∀ w, CSt w 1 (zS l) → f w = f (zW l)) (hc : f (zW l) = some a) {P : TS → Prop} {w : Wd} (h : ZP P l w) : f w = some a := by
  obtain ⟨T, hG, hC, hS, hz⟩ := h
  rw [hd w (by rw [← hS]; exact hC.1)]
  exact hc
