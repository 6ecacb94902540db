/-! THE SCRIPT: what stands at a place, the verbs' words -/
def hr (X : Int → Int) (C p : Int) : Int := if p < C then X p else -1
def TXb (X : Int → Int) (C : Int) : Prop := (0 ≤ C ∧ C ≤ 60) ∧ ∀ i, 0 ≤ i → i < C → 32 ≤ X i ∧ X i ≤ 126
theorem hr_b {X : Int → Int} {C p : Int} (h : TXb X C) (p0 : 0 ≤ p) : (hr X C p = -1 ∧ C ≤ p) ∨ (p < C ∧ hr X C p = X p ∧ 32 ≤ hr X C p ∧ hr X C p ≤ 126) := by
  unfold hr
  by_cases q : p < C
  · rw [if_pos q]
    exact Or.inr ⟨q, rfl, h.2 p p0 q⟩
  · rw [if_neg q]
    exact Or.inl ⟨rfl, by omega⟩
def Wi (i : Nat) : List Int := [[103, 101, 97, 114, 32], [109, 101, 115, 104, 32], [97, 120, 108, 101, 32], [99, 117, 116, 32], [115, 112, 114, 105, 110, 103, 32], [119, 105, 110, 100, 32], [114, 101, 118, 101, 114, 115, 101, 32], [114, 117, 110, 32], [114, 97, 116, 99, 104, 101, 116, 32], [102, 114, 101, 101, 32], [111, 105, 108, 32], [98, 117, 121, 32], [112, 108, 97, 110, 101, 116, 32]].getD i []
def cm : List Int → (Int → Int) → Int → Nat
  | [], _, _ => 0
  | c :: l, h, p => if h p = c then cm l h (p + 1) + 1 else 0
theorem cm_le : ∀ (l : List Int) (h : Int → Int) (p : Int), cm l h p ≤ l.length := by
  intro l
  induction l with
  | nil => exact fun _ _ => Nat.le_refl _
  | cons c l ih =>
    intro h p
    unfold cm
    split
    · exact Nat.succ_le_succ (ih h (p + 1))
    · exact Nat.zero_le _
/-- the verb that is meant there -/
def cv (h : Int → Int) (p : Int) : Nat := if h p = 114 then (if h (p + 1) = 117 then 7 else if h (p + 1) = 97 then 8 else 6) else if h p = 103 then 0 else if h p = 109 then 1 else if h p = 97 then 2 else if h p = 99 then 3 else if h p = 115 then 4 else if h p = 119 then 5 else if h p = 102 then 9 else if h p = 111 then 10 else if h p = 98 then 11 else if h p = 112 then 12 else 0
theorem cv_lt (h : Int → Int) (p : Int) : cv h p < 13 := by
  unfold cv
  repeat' split
  all_goals decide
theorem cv_no {c : Int} {l : List Int} {h : Int → Int} {p : Int} (e : ¬ h p = c) : cm (c :: l) h p = 0 := if_neg e
theorem cv_r {h : Int → Int} {p : Int} (e : h p = 114) : 1 ≤ cm (Wi (cv h p)) h p := by
  unfold cv
  rw [if_pos e]
  have k : ∀ l, 1 ≤ cm (114 :: l) h p := fun l => by
    show 1 ≤ (if h p = 114 then cm l h (p + 1) + 1 else 0)
    rw [if_pos e]
    omega
  split
  · exact k _
  · split
    · exact k _
    · exact k _
theorem cv_r1 {h : Int → Int} {p c : Int} {l : List Int} (e : ¬ h (p + 1) = c) : cm (114 :: c :: l) h p ≤ 1 := by
  show (if h p = 114 then cm (c :: l) h (p + 1) + 1 else 0) ≤ 1
  rw [cv_no e]
  split <;> omega
theorem cv_is {h : Int → Int} {p : Int} (j : Nat) (hj : j < 13) (hn : ¬ j = cv h p) : cm (Wi j) h p < (Wi j).length ∧ cm (Wi j) h p ≤ cm (Wi (cv h p)) h p := by
  have z : ∀ (c : Int) (l : List Int), Wi j = c :: l → ¬ h p = c → cm (Wi j) h p < (Wi j).length ∧ cm (Wi j) h p ≤ cm (Wi (cv h p)) h p := by
    intro c l e q
    rw [e, cv_no q]
    exact ⟨Nat.succ_pos _, Nat.zero_le _⟩
  have r : ∀ (c : Int) (l : List Int), Wi j = 114 :: c :: l → ¬ h (p + 1) = c → cm (Wi j) h p < (Wi j).length ∧ cm (Wi j) h p ≤ cm (Wi (cv h p)) h p := by
    intro c l e q
    by_cases q1 : h p = 114
    · have a : cm (114 :: c :: l) h p ≤ 1 := cv_r1 q
      have b := cv_r q1
      rw [e]
      refine ⟨?_, by omega⟩
      show _ < l.length + 1 + 1
      omega
    · exact z 114 _ e q1
  have hs : j = 0 ∨ j = 1 ∨ j = 2 ∨ j = 3 ∨ j = 4 ∨ j = 5 ∨ j = 6 ∨ j = 7 ∨ j = 8 ∨ j = 9 ∨ j = 10 ∨ j = 11 ∨ j = 12 := by omega
  rcases hs with rfl | rfl | rfl | rfl | rfl | rfl | rfl | rfl | rfl | rfl | rfl | rfl | rfl
  · exact z _ _ rfl (fun e => hn (by simp [cv, e]))
  · exact z _ _ rfl (fun e => hn (by simp [cv, e]))
  · exact z _ _ rfl (fun e => hn (by simp [cv, e]))
  · exact z _ _ rfl (fun e => hn (by simp [cv, e]))
  · exact z _ _ rfl (fun e => hn (by simp [cv, e]))
  · exact z _ _ rfl (fun e => hn (by simp [cv, e]))
  · by_cases q1 : h p = 114
    · exact r 101 _ rfl (fun e => hn (by simp [cv, q1, e]))
    · exact z _ _ rfl q1
  · by_cases q1 : h p = 114
    · exact r 117 _ rfl (fun e => hn (by simp [cv, q1, e]))
    · exact z _ _ rfl q1
  · by_cases q1 : h p = 114
    · exact r 97 _ rfl (fun e => hn (by simp [cv, q1, e]))
    · exact z _ _ rfl q1
  · exact z _ _ rfl (fun e => hn (by simp [cv, e]))
  · exact z _ _ rfl (fun e => hn (by simp [cv, e]))
  · exact z _ _ rfl (fun e => hn (by simp [cv, e]))
  · exact z _ _ rfl (fun e => hn (by simp [cv, e]))
/-! the class finds it -/
def CTx (w : Wd) (X : Int → Int) (C : Int) : Prop := gI w 134 1 = jI C ∧ ∀ i : Int, 0 ≤ i → i < C → gI w 135 i.toNat = jI (X i)
def chW (i y : Nat) : Int32 := vp_nar .char (vp_nar .char ((((cWords.getD i []).getD y 0 &&& (255 : Int32))).toUInt32 % 65536).toInt32)
def spB (i : Nat) : Nat → List Int → Bool
  | y, [] => cLens.getD i 0 == y
  | y, c :: l => decide (y < cLens.getD i 0) && (chW i y == jI c) && decide (0 ≤ c ∧ c ≤ 127) && spB i (y + 1) l
theorem spB_all : (List.range 13).all (fun i => spB i 0 (Wi i) && decide (cLens.getD i 0 = (Wi i).length) && decide (cLens.getD i 0 ≤ 8)) = true := by decide +kernel
theorem w_len (i : Nat) : f_J0_length_8abf5 i = some (jI ((cLens.getD i 0 : Nat) : Int)) := by
  unfold f_J0_length_8abf5 f_J0_coder_7d493
  rw [bs_p]
  show some (nI (cLens.getD i 0) >>> (jI 0 &&& 31)) = _
  rw [sh0, nI_j]
theorem w_char (w : Wd) {i y : Nat} (h8 : cLens.getD i 0 ≤ 8) (hy : y < cLens.getD i 0) : f_J0_charAt_5068e w i (jI (y : Int)) = some (chW i y) := by
  unfold f_J0_charAt_5068e f_J0_isLatin1_aae02 f_J1_charAt_3b067 f_J0_checkIndex_df160 f_J3_checkIndex_8e157 chW
  generalize cLens.getD i 0 = n at h8 hy ⊢
  rw [bs_p, if_neg (show ¬ (1 : Int32) = 0 by decide +kernel), nI_j, if_neg (by rw [show (0 : Int32) = jI 0 from rfl, jI_lt (by omega) (by omega) (by omega) (by omega)]; omega), if_pos (by rw [jI_lt (by omega) (by omega) (by omega) (by omega)]; omega), bs_p, bs_p, if_pos (by rw [inR_j (by omega) (by omega)]; omega), bs_p, jI_clamp (by omega) (by omega)]
  rfl
theorem s_cmn {w : Wd} {X : Int → Int} {C p : Int} {i : Nat} (hB : TXb X C) (hT : CTx w X C) (hp : gI w 134 2 = jI p) (p0 : 0 ≤ p) (p1 : p ≤ C) (h8 : cLens.getD i 0 ≤ 8) : ∀ (l : List Int) (y f : Nat), spB i y l = true → l.length < f → y + l.length ≤ 8 → p_X6_commonSigns_2 i w f (jI (y : Int)) = some (.inl (jI ((y + cm l (hr X C) (p + y) : Nat) : Int))) := by
  have c60 := hB.1
  intro l
  induction l with
  | nil =>
    intro y f hs hf hy
    obtain ⟨f, rfl⟩ : ∃ f', f = f' + 1 := ⟨f - 1, by omega⟩
    have e : cLens.getD i 0 = y := eq_of_beq hs
    rw [p_X6_commonSigns_2, w_len, bs_p, e, if_pos (by rw [jI_le (by omega) (by omega) (by omega) (by omega)]; omega)]
    rfl
  | cons c l ih =>
    intro y f hs hf hy
    have hf : l.length + 1 < f := hf
    have hy : y + (l.length + 1) ≤ 8 := hy
    obtain ⟨f, rfl⟩ : ∃ f', f = f' + 1 := ⟨f - 1, by omega⟩
    have hs : (decide (y < cLens.getD i 0) && (chW i y == jI c) && decide (0 ≤ c ∧ c ≤ 127) && spB i (y + 1) l) = true := hs
    rw [Bool.and_eq_true, Bool.and_eq_true, Bool.and_eq_true] at hs
    obtain ⟨⟨⟨a1, a2⟩, a3⟩, a4⟩ := hs
    have a1 := of_decide_eq_true a1
    have a2 := eq_of_beq a2
    have a3 := of_decide_eq_true a3
    have hc := w_char w h8 a1
    rw [a2] at hc
    rw [p_X6_commonSigns_2, w_len, bs_p, if_neg (by rw [jI_le (by omega) (by omega) (by omega) (by omega)]; omega), hT.1, hp, jI_add]
    have ec : cm (c :: l) (hr X C) (p + y) = (if hr X C (p + y) = c then cm l (hr X C) (p + y + 1) + 1 else 0) := rfl
    rw [ec]
    rcases hr_b hB (p := p + y) (by omega) with ⟨b1, b2⟩ | ⟨b1, b2, b3⟩
    · rw [if_pos (by rw [jI_le (by omega) (by omega) (by omega) (by omega)]; exact b2), if_neg (by omega)]
      rfl
    · rw [if_neg (by rw [jI_le (by omega) (by omega) (by omega) (by omega)]; omega), if_pos (by rw [inR_j (by omega) (by omega)]; omega), hc, bs_p, jI_clamp (by omega) (by omega), hT.2 _ (by omega) b1, ← b2]
      by_cases q : hr X C (p + y) = c
      · rw [if_pos (by rw [q]), if_pos q, l32_1, jI_add]
        have k := ih (y + 1) f a4 (by omega) (by omega)
        have e : p + ((y + 1 : Nat) : Int) = p + y + 1 := by omega
        rw [e] at k
        show p_X6_commonSigns_2 i w f (jI ((y + 1 : Nat) : Int)) = _
        rw [k, show y + 1 + cm l (hr X C) (p + y + 1) = y + (cm l (hr X C) (p + y + 1) + 1) by omega]
      · rw [if_neg (by rw [jI_eq (by omega) (by omega) (by omega) (by omega)]; exact q), if_neg q]
        rfl
theorem s_common {w : Wd} {X : Int → Int} {C p : Int} {i : Nat} (hB : TXb X C) (hT : CTx w X C) (hp : gI w 134 2 = jI p) (p0 : 0 ≤ p) (p1 : p ≤ C) (hi : i < 13) : f_X6_commonSigns w i = some (jI ((cm (Wi i) (hr X C) p : Nat) : Int)) ∧ f_J0_length_8abf5 i = some (jI (((Wi i).length : Nat) : Int)) ∧ (Wi i).length ≤ 8 := by
  have k := List.all_eq_true.mp spB_all i (List.mem_range.mpr hi)
  rw [Bool.and_eq_true, Bool.and_eq_true] at k
  obtain ⟨⟨k1, k2⟩, k3⟩ := k
  have k2 := of_decide_eq_true k2
  have k3 := of_decide_eq_true k3
  have r := s_cmn hB hT hp p0 p1 k3 (Wi i) 0 2000 k1 (by omega) (by omega)
  refine ⟨?_, by rw [w_len, k2], by omega⟩
  unfold f_X6_commonSigns
  have r : p_X6_commonSigns_2 i w 2000 (0 : Int32) = some (.inl (jI ((0 + cm (Wi i) (hr X C) (p + ((0 : Nat) : Int)) : Nat) : Int))) := r
  rw [r, bs_p, zl_p, show p + ((0 : Nat) : Int) = p by omega, Nat.zero_add]
theorem s_readVerb {w : Wd} {X : Int → Int} {C p : Int} (hB : TXb X C) (hT : CTx w X C) (hp : gI w 134 2 = jI p) (p0 : 0 ≤ p) (p1 : p ≤ C) :
    f_X6_readVerb w = some (if cm (Wi (cv (hr X C) p)) (hr X C) p = (Wi (cv (hr X C) p)).length then some (cv (hr X C) p) else none, uI w 134 2 (jI (p + (cm (Wi (cv (hr X C) p)) (hr X C) p : Nat)))) := by
  have ci := cv_lt (hr X C) p
  have cis := fun j => cv_is (h := hr X C) (p := p) j
  generalize cv (hr X C) p = i at ci cis ⊢
  have all : ∀ (n j f : Nat) (b : Option Nat) (m : Nat), j + n = 13 → n < f → b = (if i < j ∧ cm (Wi i) (hr X C) p = (Wi i).length then some i else none) → m ≤ cm (Wi i) (hr X C) p → (i < j → m = cm (Wi i) (hr X C) p) → p_X6_readVerb_15 (jI 13) w f b (jI (m : Int)) (jI (j : Int)) = some (.inl (if cm (Wi i) (hr X C) p = (Wi i).length then some i else none, jI ((cm (Wi i) (hr X C) p : Nat) : Int), jI 13)) := by
    intro n
    induction n with
    | zero =>
      intro j f b m hj hf hb hm hm2
      obtain ⟨f, rfl⟩ : ∃ f', f = f' + 1 := ⟨f - 1, by omega⟩
      have e : j = 13 := by omega
      subst e
      rw [p_X6_readVerb_15, if_pos (by rw [jI_le (by omega) (by omega) (by omega) (by omega)]; omega), hb, hm2 ci]
      congr 3
      by_cases q : cm (Wi i) (hr X C) p = (Wi i).length
      · rw [if_pos ⟨ci, q⟩, if_pos q]
      · rw [if_neg (fun z => q z.2), if_neg q]
    | succ n ih =>
      intro j f b m hj hf hb hm hm2
      obtain ⟨f, rfl⟩ : ∃ f', f = f' + 1 := ⟨f - 1, by omega⟩
      obtain ⟨a1, a2, a3⟩ := s_common hB hT hp p0 p1 (i := j) (by omega)
      obtain ⟨-, -, a4⟩ := s_common hB hT hp p0 p1 ci
      have l1 := cm_le (Wi j) (hr X C) p
      have l2 := cm_le (Wi i) (hr X C) p
      have mx : (if jI (m : Int) < jI ((cm (Wi j) (hr X C) p : Nat) : Int) then jI ((cm (Wi j) (hr X C) p : Nat) : Int) else jI (m : Int)) = jI (((if m < cm (Wi j) (hr X C) p then cm (Wi j) (hr X C) p else m) : Nat) : Int) := by
        by_cases q : m < cm (Wi j) (hr X C) p
        · rw [if_pos (by rw [jI_lt (by omega) (by omega) (by omega) (by omega)]; omega), if_pos q]
        · rw [if_neg (by rw [jI_lt (by omega) (by omega) (by omega) (by omega)]; omega), if_neg q]
      have e1 : jI (j : Int) + (1 : Int32) = jI ((j + 1 : Nat) : Int) := by rw [l32_1, jI_add]; rfl
      rw [p_X6_readVerb_15, if_neg (by rw [jI_le (by omega) (by omega) (by omega) (by omega)]; omega), if_pos (by rw [inR_j (by omega) (by omega)]; omega), jI_clamp (by omega) (by omega), Int.toNat_natCast, a1, bs_p, a2, bs_p, mx, e1]
      by_cases ji : j = i
      · subst ji
        by_cases q : cm (Wi j) (hr X C) p = (Wi j).length
        · rw [if_pos (by rw [q])]
          refine ih (j + 1) f _ _ (by omega) (by omega) ?_ (by split <;> omega) (fun _ => by split <;> omega)
          rw [if_pos ⟨by omega, q⟩]
        · rw [if_neg (by rw [jI_eq (by omega) (by omega) (by omega) (by omega)]; omega)]
          refine ih (j + 1) f _ _ (by omega) (by omega) ?_ (by split <;> omega) (fun _ => by split <;> omega)
          rw [hb, if_neg (fun z => q z.2), if_neg (fun z => q z.2)]
      · obtain ⟨c1, c2⟩ := cis j (by omega) ji
        rw [if_neg (by rw [jI_eq (by omega) (by omega) (by omega) (by omega)]; omega)]
        refine ih (j + 1) f _ _ (by omega) (by omega) ?_ (by split <;> omega) (fun z => by have := hm2 (by omega); split <;> omega)
        rw [hb]
        by_cases q : i < j
        · by_cases q2 : cm (Wi i) (hr X C) p = (Wi i).length
          · rw [if_pos ⟨q, q2⟩, if_pos ⟨by omega, q2⟩]
          · rw [if_neg (fun z => q2 z.2), if_neg (fun z => q2 z.2)]
        · rw [if_neg (fun z => q z.1), if_neg (fun z => by omega)]
  have A := all 13 0 2000 none 0 (by omega) (by omega) (by rw [if_neg (fun z => by omega)]) (by omega) (fun z => by omega)
  have A : p_X6_readVerb_15 (13 : Int32) w 2000 none (0 : Int32) (0 : Int32) = _ := A
  unfold f_X6_readVerb
  rw [A, bs_p, zl_p, u3_p, hp, jI_add, wl_p]
