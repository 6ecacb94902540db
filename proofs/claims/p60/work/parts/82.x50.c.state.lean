/-! THE STATE: one row of whole numbers, laid as the reference lays it: 0 gears, 1 planets, 2 drops, 3 wound, 4 taken, 5 releases, 6 + i teeth, 16 + i angles, 26 + i springs' sizes, 36 + i tensions, 46 + i reversed, 56 + i ratchets, 66 + i oiled, 76 + i wear, 86 + p carriers, 92 + 10 a + b joints -/
abbrev Ab : Type := Int → Int
def up (S : Ab) (z v : Int) : Ab := fun x => if x = z then v else S x
theorem up_eq (S : Ab) (z v : Int) : up S z v z = v := if_pos rfl
theorem up_ne {S : Ab} {z v x : Int} (h : x ≠ z) : up S z v x = S x := if_neg h
def jk (z : Int) : Int := if z = 0 then 0 else if z = 1 then 109 else 97
/-- how many joints -/
def jc (S : Ab) : Int := sm (fun k => if S (92 + k) = 0 then 0 else 1) 100
def CSt (w : Wd) (b : Nat) (S : Ab) : Prop :=
  (∀ i : Int, 0 ≤ i → i < 10 → gI w (b + 1) i.toNat = jI (S (6 + i)) ∧ gL w (b + 2) i.toNat = jL (S (16 + i)) ∧ gI w (b + 3) i.toNat = jI (S (66 + i)) ∧ (S (66 + i) = 1 → gL w (b + 4) i.toNat = jL (S (76 + i))) ∧ gI w (b + 5) i.toNat = jI (S (56 + i)) ∧ gI w (b + 6) i.toNat = jI (S (26 + i)) ∧ gI w (b + 7) i.toNat = jI (S (36 + i)) ∧ gI w (b + 8) i.toNat = jI (S (46 + i))) ∧
  (∀ k : Int, 0 ≤ k → k < 100 → gI w (b + 9) k.toNat = jI (jk (S (92 + k)))) ∧ (∀ i : Int, 0 ≤ i → i < 6 → gI w (b + 10) i.toNat = jI (S (86 + i))) ∧
  gI w b 10 = jI (S 0) ∧ gI w b 11 = jI (jc S / 2) ∧ gI w b 12 = jI (S 1) ∧ gI w b 13 = jI (S 2) ∧ gI w b 14 = jI (S 3) ∧ gI w b 15 = jI (S 4) ∧ gI w b 16 = jI (S 5)
def RSt (w : Wd) (k : Nat) (o : Int) (S : Ab) : Prop := ∀ z : Int, 0 ≤ z → z < 192 → gL w k (o + z).toNat = jL (S z)
/-- nothing outside these things is touched -/
def Sm (K : Nat → Prop) (w w' : Wd) : Prop := (∀ k, ¬ K k → gI w' k = gI w k ∧ gL w' k = gL w k) ∧ (¬ K 136 → gV w' = gV w) ∧ (¬ K 140 → gC w' = gC w)
theorem Sm.refl {K : Nat → Prop} (w : Wd) : Sm K w w := ⟨fun _ _ => ⟨rfl, rfl⟩, fun _ => rfl, fun _ => rfl⟩
theorem Sm.trans {K K1 K2 : Nat → Prop} {w w1 w2 : Wd} (h1 : Sm K1 w w1) (h2 : Sm K2 w1 w2) (k1 : ∀ k, K1 k → K k) (k2 : ∀ k, K2 k → K k) : Sm K w w2 :=
  ⟨fun k hk => ⟨(h2.1 k (fun z => hk (k2 k z))).1.trans (h1.1 k (fun z => hk (k1 k z))).1, (h2.1 k (fun z => hk (k2 k z))).2.trans (h1.1 k (fun z => hk (k1 k z))).2⟩, fun hk => (h2.2.1 (fun z => hk (k2 _ z))).trans (h1.2.1 (fun z => hk (k1 _ z))), fun hk => (h2.2.2 (fun z => hk (k2 _ z))).trans (h1.2.2 (fun z => hk (k1 _ z)))⟩
theorem Sm.tr {K : Nat → Prop} {w w1 w2 : Wd} (h1 : Sm K w w1) (h2 : Sm K w1 w2) : Sm K w w2 := h1.trans h2 (fun _ h => h) (fun _ h => h)
theorem Sm.mono {K K1 : Nat → Prop} {w w1 : Wd} (h1 : Sm K1 w w1) (k1 : ∀ k, K1 k → K k) : Sm K w w1 := h1.trans (Sm.refl w1) k1 (fun _ h => h)
theorem Sm.wI {K : Nat → Prop} (w : Wd) {k i : Nat} {v : Int32} (h : K k) : Sm K w (uI w k i v) :=
  ⟨fun k2 hk => ⟨by funext j; rw [gI_uI, if_neg (fun (z : k2 = k ∧ j = i) => hk (by rw [z.1]; exact h))], rfl⟩, fun _ => rfl, fun _ => rfl⟩
theorem Sm.wL {K : Nat → Prop} (w : Wd) {k i : Nat} {v : Int64} (h : K k) : Sm K w (uL w k i v) :=
  ⟨fun k2 hk => ⟨rfl, by funext j; rw [gL_uL, if_neg (fun (z : k2 = k ∧ j = i) => hk (by rw [z.1]; exact h))]⟩, fun _ => rfl, fun _ => rfl⟩
theorem Sm.iK {K : Nat → Prop} {w w' : Wd} (h : Sm K w w') {k : Nat} (hk : ¬ K k) (i : Nat) : gI w' k i = gI w k i := congrFun (h.1 k hk).1 i
theorem Sm.lK {K : Nat → Prop} {w w' : Wd} (h : Sm K w w') {k : Nat} (hk : ¬ K k) (i : Nat) : gL w' k i = gL w k i := congrFun (h.1 k hk).2 i
theorem CSt.kept {w w' : Wd} {b : Nat} {S : Ab} (h : CSt w b S) (e : ∀ r, r < 11 → gI w' (b + r) = gI w (b + r) ∧ gL w' (b + r) = gL w (b + r)) : CSt w' b S := by
  unfold CSt at h ⊢
  rw [(e 1 (by decide)).1, (e 2 (by decide)).2, (e 3 (by decide)).1, (e 4 (by decide)).2, (e 5 (by decide)).1, (e 6 (by decide)).1, (e 7 (by decide)).1, (e 8 (by decide)).1, (e 9 (by decide)).1, (e 10 (by decide)).1, show gI w' b = gI w b from (e 0 (by decide)).1]
  exact h
section
variable {w : Wd} {S : Ab}
theorem c_t (h : CSt w 1 S) (i : Int) (h0 : 0 ≤ i) (h1 : i < 10) : gI w 2 i.toNat = jI (S (6 + i)) := (h.1 i h0 h1).1
theorem c_a (h : CSt w 1 S) (i : Int) (h0 : 0 ≤ i) (h1 : i < 10) : gL w 3 i.toNat = jL (S (16 + i)) := (h.1 i h0 h1).2.1
theorem c_o (h : CSt w 1 S) (i : Int) (h0 : 0 ≤ i) (h1 : i < 10) : gI w 4 i.toNat = jI (S (66 + i)) := (h.1 i h0 h1).2.2.1
theorem c_w (h : CSt w 1 S) (i : Int) (h0 : 0 ≤ i) (h1 : i < 10) (h2 : S (66 + i) = 1) : gL w 5 i.toNat = jL (S (76 + i)) := (h.1 i h0 h1).2.2.2.1 h2
theorem c_r (h : CSt w 1 S) (i : Int) (h0 : 0 ≤ i) (h1 : i < 10) : gI w 6 i.toNat = jI (S (56 + i)) := (h.1 i h0 h1).2.2.2.2.1
theorem c_s (h : CSt w 1 S) (i : Int) (h0 : 0 ≤ i) (h1 : i < 10) : gI w 7 i.toNat = jI (S (26 + i)) := (h.1 i h0 h1).2.2.2.2.2.1
theorem c_n (h : CSt w 1 S) (i : Int) (h0 : 0 ≤ i) (h1 : i < 10) : gI w 8 i.toNat = jI (S (36 + i)) := (h.1 i h0 h1).2.2.2.2.2.2.1
theorem c_v (h : CSt w 1 S) (i : Int) (h0 : 0 ≤ i) (h1 : i < 10) : gI w 9 i.toNat = jI (S (46 + i)) := (h.1 i h0 h1).2.2.2.2.2.2.2
theorem c_j (h : CSt w 1 S) (k : Int) (h0 : 0 ≤ k) (h1 : k < 100) : gI w 10 k.toNat = jI (jk (S (92 + k))) := h.2.1 k h0 h1
theorem c_jt (h : CSt w 1 S) (a b : Int) (h0 : 0 ≤ a) (h1 : a < 10) (h2 : 0 ≤ b) (h3 : b < 10) : gI w 10 (a * 10 + b).toNat = jI (jk (S (92 + 10 * a + b))) := by
  rw [c_j h _ (by omega) (by omega), show 92 + (a * 10 + b) = 92 + 10 * a + b by omega]
theorem c_c (h : CSt w 1 S) (i : Int) (h0 : 0 ≤ i) (h1 : i < 6) : gI w 11 i.toNat = jI (S (86 + i)) := h.2.2.1 i h0 h1
theorem c_g (h : CSt w 1 S) : gI w 1 10 = jI (S 0) := h.2.2.2.1
theorem c_m (h : CSt w 1 S) : gI w 1 11 = jI (jc S / 2) := h.2.2.2.2.1
theorem c_p (h : CSt w 1 S) : gI w 1 12 = jI (S 1) := h.2.2.2.2.2.1
theorem c_d (h : CSt w 1 S) : gI w 1 13 = jI (S 2) := h.2.2.2.2.2.2.1
theorem c_wd (h : CSt w 1 S) : gI w 1 14 = jI (S 3) := h.2.2.2.2.2.2.2.1
theorem c_tk (h : CSt w 1 S) : gI w 1 15 = jI (S 4) := h.2.2.2.2.2.2.2.2.1
theorem c_rl (h : CSt w 1 S) : gI w 1 16 = jI (S 5) := h.2.2.2.2.2.2.2.2.2
theorem r_g (h : RSt w 142 0 S) (z : Int) (h0 : 0 ≤ z) (h1 : z < 192) : gL w 142 z.toNat = jL (S z) := by
  have := h z h0 h1
  rw [Int.zero_add] at this
  exact this
end
def tooth (t : Int) : Prop := t = 6 ∨ t = 8 ∨ t = 10 ∨ t = 12 ∨ t = 15 ∨ t = 20 ∨ t = 24 ∨ t = 30 ∨ t = 40 ∨ t = 60
def Gg (S : Ab) (i : Int) : Prop := (i < S 0 → tooth (S (6 + i))) ∧ (S 0 ≤ i → S (6 + i) = 0 ∧ S (26 + i) = 0) ∧ (0 ≤ S (16 + i) ∧ S (16 + i) < 24883200000) ∧ (S (66 + i) = 0 ∨ S (66 + i) = 1) ∧ (S (66 + i) = 1 → 0 ≤ S (76 + i) ∧ S (76 + i) < 746496000000) ∧ (S (56 + i) = 0 ∨ S (56 + i) = 1) ∧ (S (46 + i) = 0 ∨ S (46 + i) = 1) ∧ (0 ≤ S (26 + i) ∧ S (26 + i) ≤ 200) ∧ (0 ≤ S (36 + i) ∧ S (36 + i) ≤ S (26 + i))
def Rl (S P : Ab) (a b : Int) : Prop := (S (92 + 10 * a + b) = 2 → P b = P a) ∧ (S (92 + 10 * a + b) = 1 → P b * S (6 + b) = -(P a * S (6 + a)))
def Pot (S P : Ab) : Prop := ∀ a, 0 ≤ a → a < 10 → P a ≠ 0 ∧ ∀ b, 0 ≤ b → b < 10 → Rl S P a b
def Gj (S : Ab) (a b : Int) : Prop := S (92 + 10 * a + b) = S (92 + 10 * b + a) ∧ (S (92 + 10 * a + b) = 0 ∨ S (92 + 10 * a + b) = 1 ∨ S (92 + 10 * a + b) = 2) ∧ (S (92 + 10 * a + b) ≠ 0 → a ≠ b ∧ a < S 0 ∧ b < S 0)
def Good (S : Ab) : Prop := (0 ≤ S 0 ∧ S 0 ≤ 10 ∧ 0 ≤ S 1 ∧ S 1 ≤ 6 ∧ 0 ≤ S 2 ∧ S 2 ≤ 99) ∧ (∀ i, 0 ≤ i → i < 10 → Gg S i) ∧ (∀ p, 0 ≤ p → p < S 1 → 0 ≤ S (86 + p) ∧ S (86 + p) < S 0) ∧ (∀ a b, 0 ≤ a → a < 10 → 0 ≤ b → b < 10 → Gj S a b) ∧ (jc S ≤ 30 ∧ jc S % 2 = 0) ∧ sm (fun i => S (36 + i)) 10 = S 3 - S 4 ∧ ∃ P, Pot S P
theorem tooth_b {t : Int} (h : tooth t) : 6 ≤ t ∧ t ≤ 60 := by unfold tooth at h; omega
theorem tooth_d {t : Int} (h : tooth t) : ∃ s, t * s = 120 := by
  rcases h with rfl | rfl | rfl | rfl | rfl | rfl | rfl | rfl | rfl | rfl
  · exact ⟨20, rfl⟩
  · exact ⟨15, rfl⟩
  · exact ⟨12, rfl⟩
  · exact ⟨10, rfl⟩
  · exact ⟨8, rfl⟩
  · exact ⟨6, rfl⟩
  · exact ⟨5, rfl⟩
  · exact ⟨4, rfl⟩
  · exact ⟨3, rfl⟩
  · exact ⟨2, rfl⟩
theorem jk_b (z : Int) : 0 ≤ jk z ∧ jk z ≤ 109 := by unfold jk; split; decide; split <;> decide
theorem jk_0 {z : Int} : jk z = 0 ↔ z = 0 := by
  unfold jk
  by_cases h : z = 0
  · simp [h]
  · rw [if_neg h]; split <;> simp [h]
theorem jk_nar (z : Int) : vp_nar .char (jI (jk z)) = jI (jk z) := by
  unfold jk; split; rfl; split <;> rfl
theorem jc_lo (S : Ab) : 0 ≤ jc S := by
  have := sm_lo (g := fun k => if S (92 + k) = 0 then 0 else 1) (c := 0) (n := 100) (fun i _ _ => by split <;> decide)
  unfold jc
  omega
