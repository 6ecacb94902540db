/-! TRAINS: what is reached from a gear, and the units there -/
def Reach (S : Ab) (d x : Int) : Prop := ∀ M : Int → Prop, M d → (∀ a b, 0 ≤ a → a < 10 → 0 ≤ b → b < 10 → M a → S (92 + 10 * a + b) ≠ 0 → M b) → M x
theorem Reach.refl (S : Ab) (d : Int) : Reach S d d := fun _ h _ => h
theorem Reach.step {S : Ab} {d a b : Int} (h : Reach S d a) (h0 : 0 ≤ a) (h1 : a < 10) (h2 : 0 ≤ b) (h3 : b < 10) (hj : S (92 + 10 * a + b) ≠ 0) : Reach S d b := fun M hd hc => hc a b h0 h1 h2 h3 (h M hd hc) hj
/-- the units of a train -/
def IsTr (S : Ab) (d : Int) (u : Ab) : Prop := ∀ x, 0 ≤ x → x < 10 → (Reach S d x → u x ≠ 0 ∧ ∀ P, Pot S P → u x * P d = 24883200000 * P x) ∧ (¬ Reach S d x → u x = 0)
theorem IsTr.iff {S u : Ab} {d x : Int} (h : IsTr S d u) (h0 : 0 ≤ x) (h1 : x < 10) : u x ≠ 0 ↔ Reach S d x := by
  constructor
  · intro hu
    by_cases q : Reach S d x
    · exact q
    · exact absurd ((h x h0 h1).2 q) hu
  · exact fun q => ((h x h0 h1).1 q).1
theorem IsTr.uniq {S u v : Ab} {d : Int} (hG : ∃ P, Pot S P) (hd0 : 0 ≤ d) (hd1 : d < 10) (hu : IsTr S d u) (hv : IsTr S d v) : ∀ x, 0 ≤ x → x < 10 → u x = v x := by
  intro x h0 h1
  by_cases q : Reach S d x
  · obtain ⟨P, hP⟩ := hG
    have e1 := ((hu x h0 h1).1 q).2 P hP
    have e2 := ((hv x h0 h1).1 q).2 P hP
    exact Int.eq_of_mul_eq_mul_right (hP d hd0 hd1).1 (e1.trans e2.symm)
  · rw [(hu x h0 h1).2 q, (hv x h0 h1).2 q]
/-- how far from whole turns: the units of a gear that is reached as the n-th -/
def J (n : Nat) (u t : Int) : Prop := ∃ e : Nat, (2 * e + 1 ≤ n ∧ (120 : Int) ^ (5 - e) ∣ u ∧ (u.natAbs : Int) ≤ 24883200000 * 10 ^ e) ∨ (2 * e + 2 ≤ n ∧ (120 : Int) ^ (5 - e) ∣ u * t ∧ ((u * t).natAbs : Int) ≤ 1492992000000 * 10 ^ e)
theorem J.mono {n m : Nat} {u t : Int} (h : J n u t) (hm : n ≤ m) : J m u t := by
  obtain ⟨e, h | h⟩ := h
  · exact ⟨e, Or.inl ⟨by omega, h.2⟩⟩
  · exact ⟨e, Or.inr ⟨by omega, h.2⟩⟩
theorem J_root (t : Int) : J 1 24883200000 t := ⟨0, Or.inl ⟨by decide, by decide, by decide⟩⟩
theorem p120 {e : Nat} (h : e ≤ 4) : (120 : Int) ^ (5 - e) = 120 ^ (4 - e) * 120 := by
  rw [show 5 - e = (4 - e) + 1 by omega, Int.pow_succ]
theorem p10_le {e : Nat} (h : e ≤ 4) : (10 : Int) ^ e ≤ 10000 := by
  have : ∀ e : Nat, e < 5 → (10 : Int) ^ e ≤ 10000 := by decide
  exact this e (by omega)
theorem J_mesh {n : Nat} {u t t' v : Int} (hn : n ≤ 9) (ht : tooth t) (ht' : tooth t') (h : J n u t) (hv : v * t' = -(u * t)) : J (n + 1) v t' := by
  have b := tooth_b ht
  obtain ⟨e, ⟨h1, h2, h3⟩ | ⟨h1, h2, h3⟩⟩ := h
  · refine ⟨e, Or.inr ⟨by omega, ?_, ?_⟩⟩
    · rw [hv]; exact Int.dvd_neg.mpr (Int.dvd_trans h2 (Int.dvd_mul_right u t))
    · rw [hv, Int.natAbs_neg, Int.natAbs_mul, Int.natCast_mul]
      have h4 : (t.natAbs : Int) ≤ 60 := by omega
      calc (u.natAbs : Int) * (t.natAbs : Int) ≤ (24883200000 * 10 ^ e) * 60 := Int.mul_le_mul h3 h4 (by omega) (Int.mul_nonneg (by decide) (Int.le_of_lt (Int.pow_pos (by decide))))
        _ = 1492992000000 * 10 ^ e := by rw [Int.mul_right_comm, show (24883200000 : Int) * 60 = 1492992000000 from rfl]
  · refine ⟨e, Or.inr ⟨by omega, ?_, ?_⟩⟩
    · rw [hv]; exact Int.dvd_neg.mpr h2
    · rw [hv, Int.natAbs_neg]; exact h3
theorem J_dvd {n : Nat} {u t t' : Int} (hn : n ≤ 9) (ht' : tooth t') (h : J n u t) : t' ∣ u * t := by
  obtain ⟨s, hs⟩ := tooth_d ht'
  have h120 : t' ∣ 120 := ⟨s, hs.symm⟩
  obtain ⟨e, ⟨h1, h2, h3⟩ | ⟨h1, h2, h3⟩⟩ := h
  · rw [p120 (by omega)] at h2
    exact Int.dvd_trans (Int.dvd_trans h120 (Int.dvd_trans (Int.dvd_mul_left _ _) h2)) (Int.dvd_mul_right u t)
  · rw [p120 (by omega)] at h2
    exact Int.dvd_trans h120 (Int.dvd_trans (Int.dvd_mul_left _ _) h2)
theorem J_axle {n : Nat} {u t t' : Int} (hn : n ≤ 9) (ht : tooth t) (h : J n u t) : J (n + 1) u t' := by
  obtain ⟨s, hs⟩ := tooth_d ht
  have b := tooth_b ht
  obtain ⟨e, ⟨h1, h2, h3⟩ | ⟨h1, h2, h3⟩⟩ := h
  · exact ⟨e, Or.inl ⟨by omega, h2, h3⟩⟩
  · refine ⟨e + 1, Or.inl ⟨by omega, ?_, ?_⟩⟩
    · rw [p120 (by omega)] at h2
      have h4 : (120 : Int) ^ (4 - e) * 120 ∣ u * 120 := by
        have h5 := Int.dvd_trans h2 (Int.dvd_mul_right (u * t) s)
        rw [Int.mul_assoc u t s, hs] at h5
        exact h5
      rw [show 5 - (e + 1) = 4 - e by omega]
      exact Int.dvd_of_mul_dvd_mul_right (by decide) h4
    · rw [Int.natAbs_mul, Int.natCast_mul] at h3
      have h4 : (6 : Int) ≤ (t.natAbs : Int) := by omega
      have h5 : (u.natAbs : Int) * 6 ≤ (u.natAbs : Int) * (t.natAbs : Int) := Int.mul_le_mul_of_nonneg_left h4 (by omega)
      rw [Int.pow_succ]
      omega
theorem J_b {n : Nat} {u t : Int} (hn : n ≤ 10) (ht : tooth t) (h : J n u t) : -14929920000000000 ≤ u ∧ u ≤ 14929920000000000 ∧ -14929920000000000 ≤ u * t ∧ u * t ≤ 14929920000000000 := by
  have b := tooth_b ht
  obtain ⟨e, ⟨h1, h2, h3⟩ | ⟨h1, h2, h3⟩⟩ := h
  · have h4 := p10_le (e := e) (by omega)
    have h5 : (u.natAbs : Int) ≤ 248832000000000 := by omega
    have h6 : ((u * t).natAbs : Int) ≤ 248832000000000 * 60 := by
      rw [Int.natAbs_mul, Int.natCast_mul]
      exact Int.mul_le_mul h5 (by omega) (by omega) (by decide)
    omega
  · have h4 := p10_le (e := e) (by omega)
    have h5 : ((u * t).natAbs : Int) ≤ 14929920000000000 := by omega
    have h6 : (u.natAbs : Int) * 1 ≤ (u.natAbs : Int) * (t.natAbs : Int) := Int.mul_le_mul_of_nonneg_left (by omega) (by omega)
    rw [← Int.natCast_mul, ← Int.natAbs_mul] at h6
    omega
/-- how many gears turn -/
def ct (u : Ab) : Int := sm (fun x => if u x = 0 then 0 else 1) 10
theorem ct_lo (u : Ab) : 0 ≤ ct u := by
  have := sm_lo (g := fun x => if u x = 0 then 0 else 1) (c := 0) (n := 10) (fun i _ _ => by split <;> decide)
  unfold ct; omega
theorem ct_hi (u : Ab) : ct u ≤ 10 := by
  have := sm_hi (g := fun x => if u x = 0 then 0 else 1) (c := 1) (n := 10) (fun i _ _ => by split <;> decide)
  unfold ct; omega
theorem ct_up {u : Ab} {x v : Int} (h0 : 0 ≤ x) (h1 : x < 10) (hu : u x = 0) (hv : v ≠ 0) : ct (up u x v) = ct u + 1 := by
  unfold ct
  rw [sm_up (g := fun y => if up u x v y = 0 then 0 else 1) (h := fun y => if u y = 0 then 0 else 1) (k := x) h0 h1 (fun i _ _ q => by show (if up u x v i = 0 then _ else _) = _; rw [up_ne q])]
  show _ + ((if up u x v x = 0 then 0 else 1) - (if u x = 0 then 0 else 1)) = _
  rw [up_eq, if_neg hv, if_pos hu]
  rfl
theorem ct_9 {u : Ab} {x : Int} (h0 : 0 ≤ x) (h1 : x < 10) (hu : u x = 0) : ct u ≤ 9 := by
  have h2 := ct_up (v := 1) h0 h1 hu (by decide)
  have h3 := ct_hi (up u x 1)
  omega
theorem ct_congr {u v : Ab} (h : ∀ x, 0 ≤ x → x < 10 → (u x = 0 ↔ v x = 0)) : ct u = ct v := by
  unfold ct
  refine sm_congr (fun i h0 h1 => ?_)
  show (if u i = 0 then 0 else 1) = (if v i = 0 then 0 else 1)
  have h2 := h i h0 h1
  by_cases q : u i = 0
  · rw [if_pos q, if_pos (h2.mp q)]
  · rw [if_neg q, if_neg (fun z => q (h2.mpr z))]
/-- what the search holds between two steps, whichever way it goes -/
def TI (S : Ab) (d : Int) (u : Ab) : Prop := u d ≠ 0 ∧ ∀ x, 0 ≤ x → x < 10 → u x ≠ 0 → x < S 0 ∧ Reach S d x ∧ J (ct u).toNat (u x) (S (6 + x)) ∧ ∀ P, Pot S P → u x * P d = 24883200000 * P x
/-- the units behind a joint -/
def Bh (S : Ab) (c a b : Int) : Int := if S (92 + 10 * a + b) = 2 then c else -(c * S (6 + a) / S (6 + b))
theorem TI.step {S : Ab} {d a b : Int} {u : Ab} (hG : Good S) (h : TI S d u) (ha0 : 0 ≤ a) (ha1 : a < 10) (hb0 : 0 ≤ b) (hb1 : b < 10) (hua : u a ≠ 0) (hub : u b = 0) (hj : S (92 + 10 * a + b) ≠ 0) :
    TI S d (up u b (Bh S (u a) a b)) ∧ Bh S (u a) a b ≠ 0 ∧ (S (92 + 10 * a + b) ≠ 2 → S (6 + b) ∣ u a * S (6 + a)) := by
  obtain ⟨hd, hx⟩ := h
  obtain ⟨x1, x2, x3, x4⟩ := hx a ha0 ha1 hua
  obtain ⟨j1, j2, j3⟩ := hG.2.2.2.1 a b ha0 ha1 hb0 hb1
  obtain ⟨j4, j5, j6⟩ := j3 hj
  have ta : tooth (S (6 + a)) := (hG.2.1 a ha0 ha1).1 j5
  have tb : tooth (S (6 + b)) := (hG.2.1 b hb0 hb1).1 j6
  have c9 := ct_9 hb0 hb1 hub
  have c0 := ct_lo u
  have hdv : S (6 + b) ∣ u a * S (6 + a) := J_dvd (by omega) tb x3
  have hta := tooth_b ta
  have htb := tooth_b tb
  obtain ⟨q, hq⟩ := hdv
  have hdiv : u a * S (6 + a) / S (6 + b) = q := by rw [hq]; exact Int.mul_ediv_cancel_left q (by omega)
  have hmul : ∀ v : Int, v = -q → v * S (6 + b) = -(u a * S (6 + a)) := by
    intro v hv; rw [hv, hq, Int.neg_mul, Int.mul_comm q]
  have hne : Bh S (u a) a b ≠ 0 := by
    unfold Bh
    split
    · exact hua
    · rw [hdiv]
      intro z
      have h0 : q = 0 := by omega
      rw [h0, Int.mul_zero] at hq
      rcases Int.mul_eq_zero.mp hq with z1 | z1
      · exact hua z1
      · omega
  refine ⟨⟨?_, ?_⟩, hne, fun _ => ⟨q, hq⟩⟩
  · by_cases z : d = b
    · rw [z, up_eq]; exact hne
    · rw [up_ne z]; exact hd
  · intro x hx0 hx1 hux
    rw [ct_up hb0 hb1 hub hne, show (ct u + 1).toNat = (ct u).toNat + 1 by omega]
    by_cases z : x = b
    · subst z
      rw [up_eq]
      refine ⟨j6, x2.step ha0 ha1 hx0 hx1 hj, ?_, ?_⟩
      · unfold Bh
        split
        · exact J_axle (by omega) ta x3
        · rw [hdiv]; exact J_mesh (by omega) ta tb x3 (hmul _ rfl)
      · intro P hP
        have x5 := x4 P hP
        have r := (hP a ha0 ha1).2 x hx0 hx1
        unfold Bh
        split
        · rename_i k2
          rw [r.1 k2]; exact x5
        · rename_i k2
          rw [hdiv]
          have k1 : S (92 + 10 * a + x) = 1 := by omega
          have r1 := r.2 k1
          refine Int.eq_of_mul_eq_mul_right (show S (6 + x) ≠ 0 by omega) ?_
          have m1 := hmul (-q) rfl
          calc -q * P d * S (6 + x) = (-q * S (6 + x)) * P d := Int.mul_right_comm _ _ _
            _ = -(u a * S (6 + a)) * P d := by rw [m1]
            _ = -((u a * P d) * S (6 + a)) := by rw [Int.neg_mul, Int.mul_right_comm]
            _ = -((24883200000 * P a) * S (6 + a)) := by rw [x5]
            _ = 24883200000 * (-(P a * S (6 + a))) := by rw [Int.mul_assoc, Int.mul_neg]
            _ = 24883200000 * (P x * S (6 + x)) := by rw [r1]
            _ = 24883200000 * P x * S (6 + x) := (Int.mul_assoc _ _ _).symm
    · rw [up_ne z] at hux ⊢
      obtain ⟨y1, y2, y3, y4⟩ := hx x hx0 hx1 hux
      exact ⟨y1, y2, y3.mono (by omega), y4⟩
/-- closed: the units of the train -/
theorem TI.tr {S : Ab} {d : Int} {u : Ab} (h : TI S d u) (hd0 : 0 ≤ d) (hd1 : d < 10) (hc : ∀ a b, 0 ≤ a → a < 10 → 0 ≤ b → b < 10 → u a ≠ 0 → S (92 + 10 * a + b) ≠ 0 → u b ≠ 0) : IsTr S d u := by
  intro x h0 h1
  constructor
  · intro hr
    have hu : 0 ≤ x ∧ x < 10 ∧ u x ≠ 0 := hr (fun y => 0 ≤ y ∧ y < 10 ∧ u y ≠ 0) ⟨hd0, hd1, h.1⟩ (fun a b a0 a1 b0 b1 m j => ⟨b0, b1, hc a b a0 a1 b0 b1 m.2.2 j⟩)
    exact ⟨hu.2.2, (h.2 x h0 h1 hu.2.2).2.2.2⟩
  · intro hr
    by_cases z : u x = 0
    · exact z
    · exact absurd (h.2 x h0 h1 z).2.1 hr
