/-! digits, letters: what is read, and where one stands then: a place, and 0, or 1 once it went wrong -/
def dc : Nat → (Int → Int) → Int → Nat
  | 0, _, _ => 0
  | n + 1, h, p => if 48 ≤ h p ∧ h p ≤ 57 then dc n h (p + 1) + 1 else 0
def dv : Nat → (Int → Int) → Int → Int → Int
  | 0, _, _, v => v
  | n + 1, h, p, v => if 48 ≤ h p ∧ h p ≤ 57 then dv n h (p + 1) (10 * v + h p - 48) else v
def dB (y : Nat) (v : Int) : Prop := 0 ≤ v ∧ ((y = 0 ∧ v < 1) ∨ (y = 1 ∧ v < 10) ∨ (y = 2 ∧ v < 100) ∨ (y = 3 ∧ v < 1000))
theorem dc_le : ∀ (n : Nat) (h : Int → Int) (p : Int), dc n h p ≤ n := by
  intro n
  induction n with
  | zero => exact fun _ _ => Nat.le_refl _
  | succ n ih =>
    intro h p
    unfold dc
    split
    · exact Nat.succ_le_succ (ih h (p + 1))
    · exact Nat.zero_le _
theorem dv_b : ∀ (n : Nat) (h : Int → Int) (p v : Int) (y : Nat), y + n ≤ 3 → dB y v → 0 ≤ dv n h p v ∧ dv n h p v < 1000 := by
  intro n
  induction n with
  | zero =>
    intro h p v y hy hv
    unfold dB at hv
    show 0 ≤ v ∧ v < 1000
    omega
  | succ n ih =>
    intro h p v y hy hv
    show 0 ≤ (if 48 ≤ h p ∧ h p ≤ 57 then dv n h (p + 1) (10 * v + h p - 48) else v) ∧ (if 48 ≤ h p ∧ h p ≤ 57 then dv n h (p + 1) (10 * v + h p - 48) else v) < 1000
    unfold dB at hv
    split
    · exact ih h (p + 1) _ (y + 1) (by omega) (by unfold dB; omega)
    · omega
theorem dc_C {X : Int → Int} {C : Int} (hB : TXb X C) : ∀ (n : Nat) (p : Int), 0 ≤ p → p ≤ C → p + dc n (hr X C) p ≤ C := by
  intro n
  induction n with
  | zero =>
    intro p p0 p1
    show p + ((0 : Nat) : Int) ≤ C
    omega
  | succ n ih =>
    intro p p0 p1
    show p + (((if 48 ≤ hr X C p ∧ hr X C p ≤ 57 then dc n (hr X C) (p + 1) + 1 else 0) : Nat) : Int) ≤ C
    split
    · rename_i q
      have k := hr_b hB p0
      have i := ih (p + 1) (by omega) (by omega)
      omega
    · omega
def nst (h : Int → Int) (c : Int) (q : Int × Int) : Int × Int := if q.2 = 0 ∧ h q.1 = c then (q.1 + 1, 0) else (q.1, 1)
def nf (h : Int → Int) : List Int → Int × Int → Int × Int
  | [], q => q
  | c :: l, q => nf h l (nst h c q)
def dst (L : Nat) (h : Int → Int) (q : Int × Int) : Int × Int := if q.2 = 0 ∧ dc L h q.1 ≠ 0 then (q.1 + dc L h q.1, 0) else (q.1, 1)
def dvl (L : Nat) (h : Int → Int) (q : Int × Int) : Int := if q.2 = 0 then dv L h q.1 0 else 0
section
variable {h : Int → Int} {p c : Int} {L : Nat}
theorem nst_T (e : h p = c) : nst h c (p, 0) = (p + 1, 0) := if_pos ⟨rfl, e⟩
theorem nst_F (e : ¬ h p = c) : nst h c (p, 0) = (p, 1) := if_neg (fun z => e z.2)
theorem nst_w : nst h c (p, 1) = (p, 1) := if_neg (fun (z : (1 : Int) = 0 ∧ _) => absurd z.1 (by decide))
theorem dst_T (e : dc L h p ≠ 0) : dst L h (p, 0) = (p + dc L h p, 0) := if_pos ⟨rfl, e⟩
theorem dst_F (e : dc L h p = 0) : dst L h (p, 0) = (p, 1) := if_neg (fun z => z.2 e)
theorem dst_w : dst L h (p, 1) = (p, 1) := if_neg (fun (z : (1 : Int) = 0 ∧ _) => absurd z.1 (by decide))
theorem dvl_0 : dvl L h (p, 0) = dv L h p 0 := if_pos rfl
theorem dvl_1 : dvl L h (p, 1) = 0 := if_neg (show ¬ (1 : Int) = 0 by decide)
end
theorem nf_w (h : Int → Int) (p : Int) : ∀ l : List Int, nf h l (p, 1) = (p, 1) := by
  intro l
  induction l with
  | nil => rfl
  | cons c l ih =>
    show nf h l (nst h c (p, 1)) = _
    rw [nst_w, ih]
theorem nf_is (h : Int → Int) : ∀ (l : List Int) (p : Int), nf h l (p, 0) = (p + cm l h p, if cm l h p = l.length then 0 else 1) := by
  intro l
  induction l with
  | nil =>
    intro p
    show (p, (0 : Int)) = (p + ((0 : Nat) : Int), if (0 : Nat) = 0 then 0 else 1)
    rw [if_pos rfl]
    congr 1
    omega
  | cons c l ih =>
    intro p
    show nf h l (nst h c (p, 0)) = (p + (((if h p = c then cm l h (p + 1) + 1 else 0) : Nat) : Int), if (if h p = c then cm l h (p + 1) + 1 else 0) = l.length + 1 then 0 else 1)
    by_cases e : h p = c
    · rw [nst_T e, ih, if_pos e]
      congr 1
      · omega
      · by_cases q : cm l h (p + 1) = l.length
        · rw [if_pos q, if_pos (by omega)]
        · rw [if_neg q, if_neg (by omega)]
    · rw [nst_F e, nf_w, if_neg e, if_neg (by omega)]
      congr 1
      omega
def shp (i : Nat) : Nat := [0, 2, 2, 2, 3, 3, 1, 3, 1, 1, 1, 0, 1].getD i 0
def pcQ (s : Nat) (h : Int → Int) (q : Int × Int) : Int × Int := if s = 0 then dst 3 h q else if s = 1 then dst 1 h q else if s = 2 then dst 1 h (dst 1 h q) else dst 3 h (nst h 32 (dst 1 h q))
def pcA (s : Nat) (h : Int → Int) (q : Int × Int) : Int := if s = 0 then dvl 3 h q else dvl 1 h q
def pcB (s : Nat) (h : Int → Int) (q : Int × Int) : Int := if s = 2 then dvl 1 h (dst 1 h q) else if s = 3 then dvl 3 h (nst h 32 (dst 1 h q)) else 0
/-- where one stands behind the word, and behind the command -/
def cq (h : Int → Int) (p : Int) : Int × Int := nf h (Wi (cv h p)) (p, 0)
def cQ (h : Int → Int) (p : Int) : Int × Int := pcQ (shp (cv h p)) h (cq h p)
def cA (h : Int → Int) (p : Int) : Int := pcA (shp (cv h p)) h (cq h p)
def cB (h : Int → Int) (p : Int) : Int := pcB (shp (cv h p)) h (cq h p)
/-! THE CLASS reads -/
def KDi (k : Nat) : Prop := k = 134
def CD (w w' : Wd) : Prop := Sm KDi w w' ∧ ∀ i, i ≠ 2 → i ≠ 7 → gI w' 134 i = gI w 134 i
theorem CD.refl (w : Wd) : CD w w := ⟨Sm.refl w, fun _ _ _ => rfl⟩
theorem CD.tr {w w1 w2 : Wd} (h : CD w w1) (k : CD w1 w2) : CD w w2 := ⟨h.1.tr k.1, fun i a b => (k.2 i a b).trans (h.2 i a b)⟩
theorem CD.w2 (w : Wd) (v : Int32) : CD w (uI w 134 2 v) := ⟨Sm.wI w rfl, fun i a _ => by rw [gI_uI, if_neg (fun z => a z.2)]⟩
theorem CD.w7 (w : Wd) (v : Int32) : CD w (uI w 134 7 v) := ⟨Sm.wI w rfl, fun i _ a => by rw [gI_uI, if_neg (fun z => a z.2)]⟩
theorem CTx.cd {w w' : Wd} {X : Int → Int} {C : Int} (h : CTx w X C) (k : CD w w') : CTx w' X C :=
  ⟨by rw [k.2 1 (by decide) (by decide)]; exact h.1, fun i a b => by rw [k.1.iK (by unfold KDi; omega)]; exact h.2 i a b⟩
section
variable {w : Wd} {X : Int → Int} {C p : Int}
theorem s_addDT (hB : TXb X C) (hT : CTx w X C) (hp : gI w 134 2 = jI p) (p0 : 0 ≤ p) {v : Int} (hv : gI w 134 7 = jI v) (v0 : 0 ≤ v) (v1 : v < 1000) (q : 48 ≤ hr X C p ∧ hr X C p ≤ 57) : f_X6_addDigit w = some (jI 1, uI (uI w 134 7 (jI (10 * v + hr X C p - 48))) 134 2 (jI (p + 1))) := by
  have c60 := hB.1
  obtain ⟨a1, a2⟩ | ⟨a1, a2, a3⟩ := hr_b hB p0
  · omega
  · have ir : inR (jI p) 60 = true := by rw [inR_j (by omega) (by omega)]; omega
    unfold f_X6_addDigit
    rw [hT.1, hp, if_neg (by rw [jI_le (by omega) (by omega) (by omega) (by omega)]; omega), if_pos ir, jI_clamp (by omega) (by omega), hT.2 p p0 a1, ← a2, l32_48, if_neg (by rw [jI_lt (by omega) (by omega) (by omega) (by omega)]; omega), if_pos ir, l32_57, if_pos (by rw [jI_le (by omega) (by omega) (by omega) (by omega)]; omega), if_pos ir, hv, l32_10, jI_mul, jI_sub, jI_add, wl_p, gI_uI, if_neg (by omega), hp, l32_1, jI_add, wl_p, show v * 10 + (hr X C p - 48) = 10 * v + hr X C p - 48 by omega]
theorem s_addDF (hB : TXb X C) (hT : CTx w X C) (hp : gI w 134 2 = jI p) (p0 : 0 ≤ p) (p1 : p ≤ C) (q : ¬ (48 ≤ hr X C p ∧ hr X C p ≤ 57)) : f_X6_addDigit w = some (jI 0, w) := by
  have c60 := hB.1
  unfold f_X6_addDigit
  obtain ⟨a1, a2⟩ | ⟨a1, a2, a3⟩ := hr_b hB p0
  · rw [hT.1, hp, if_pos (by rw [jI_le (by omega) (by omega) (by omega) (by omega)]; omega)]
    rfl
  · have ir : inR (jI p) 60 = true := by rw [inR_j (by omega) (by omega)]; omega
    rw [hT.1, hp, if_neg (by rw [jI_le (by omega) (by omega) (by omega) (by omega)]; omega), if_pos ir, jI_clamp (by omega) (by omega), hT.2 p p0 a1, ← a2, l32_48]
    by_cases z : hr X C p < 48
    · rw [if_pos (by rw [jI_lt (by omega) (by omega) (by omega) (by omega)]; exact z)]
      rfl
    · rw [if_neg (by rw [jI_lt (by omega) (by omega) (by omega) (by omega)]; exact z), if_pos ir, l32_57, if_neg (by rw [jI_le (by omega) (by omega) (by omega) (by omega)]; omega)]
      rfl
end
theorem s_cdl {X : Int → Int} {C : Int} {L : Nat} (hB : TXb X C) (hL : L ≤ 3) : ∀ (n y f : Nat) (w : Wd) (p v : Int), y + n = L → n < f → CTx w X C → gI w 134 2 = jI p → 0 ≤ p → p ≤ C → gI w 134 7 = jI v → dB y v →
    ∃ w', p_X6_readDigits_7 (jI (L : Int)) f (jI (y : Int)) w = some (.inl (jI ((y + dc n (hr X C) p : Nat) : Int), w')) ∧ CD w w' ∧ gI w' 134 2 = jI (p + dc n (hr X C) p) ∧ gI w' 134 7 = jI (dv n (hr X C) p v) := by
  intro n
  induction n with
  | zero =>
    intro y f w p v hy hf hT hp p0 p1 hv hb
    obtain ⟨f, rfl⟩ : ∃ f', f = f' + 1 := ⟨f - 1, by omega⟩
    have e : y = L := by omega
    subst e
    refine ⟨w, ?_, CD.refl w, ?_, hv⟩
    · rw [p_X6_readDigits_7, if_pos (by rw [jI_le (by omega) (by omega) (by omega) (by omega)]; omega)]
      rfl
    · show gI w 134 2 = jI (p + ((0 : Nat) : Int))
      rw [hp, show p + ((0 : Nat) : Int) = p by omega]
  | succ n ih =>
    intro y f w p v hy hf hT hp p0 p1 hv hb
    obtain ⟨f, rfl⟩ : ∃ f', f = f' + 1 := ⟨f - 1, by omega⟩
    have e1 : jI (y : Int) + (1 : Int32) = jI ((y + 1 : Nat) : Int) := by rw [l32_1, jI_add]; rfl
    have vb : 0 ≤ v ∧ v < 1000 := by unfold dB at hb; omega
    rw [p_X6_readDigits_7, if_neg (by rw [jI_le (by omega) (by omega) (by omega) (by omega)]; omega)]
    by_cases q : 48 ≤ hr X C p ∧ hr X C p ≤ 57
    · have pc : p < C := by
        have k := hr_b hB p0
        omega
      have k1 := CD.w7 w (jI (10 * v + hr X C p - 48))
      have k2 := CD.w2 (uI w 134 7 (jI (10 * v + hr X C p - 48))) (jI (p + 1))
      obtain ⟨w', a1, a2, a3, a4⟩ := ih (y + 1) f _ (p + 1) (10 * v + hr X C p - 48) (by omega) (by omega) (hT.cd (k1.tr k2)) (by rw [gI_uI, if_pos ⟨rfl, rfl⟩]) (by omega) (by omega) (by rw [gI_uI, if_neg (by omega), gI_uI, if_pos ⟨rfl, rfl⟩]) (by unfold dB at hb ⊢; omega)
      have d1 : dc (n + 1) (hr X C) p = dc n (hr X C) (p + 1) + 1 := if_pos q
      have d2 : dv (n + 1) (hr X C) p v = dv n (hr X C) (p + 1) (10 * v + hr X C p - 48) := if_pos q
      rw [s_addDT hB hT hp p0 hv vb.1 vb.2 q, bs_p, u2_p, if_neg (show ¬ jI 1 = 0 by decide +kernel), e1, a1, d1, d2]
      exact ⟨w', by rw [show y + 1 + dc n (hr X C) (p + 1) = y + (dc n (hr X C) (p + 1) + 1) by omega], (k1.tr k2).tr a2, by rw [a3]; congr 1; omega, a4⟩
    · have d1 : dc (n + 1) (hr X C) p = 0 := if_neg q
      have d2 : dv (n + 1) (hr X C) p v = v := if_neg q
      rw [s_addDF hB hT hp p0 p1 q, bs_p, u2_p, if_pos (show jI 0 = 0 from rfl), d1, d2]
      exact ⟨w, rfl, CD.refl w, by rw [hp]; congr 1; omega, hv⟩
section
variable {w : Wd} {X : Int → Int} {C p : Int}
theorem s_cdig (hB : TXb X C) (hT : CTx w X C) (hp : gI w 134 2 = jI p) (p0 : 0 ≤ p) (p1 : p ≤ C) {L : Nat} (hL : L ≤ 3) : ∃ w', f_X6_readDigits w (jI (L : Int)) = some (jI (bZ (dc L (hr X C) p ≠ 0)), w') ∧ CD w w' ∧ gI w' 134 2 = jI (p + dc L (hr X C) p) ∧ gI w' 134 7 = jI (dv L (hr X C) p 0) := by
  have k := CD.w7 w (jI 0)
  obtain ⟨w', a1, a2, a3, a4⟩ := s_cdl hB hL L 0 2000 (uI w 134 7 (jI 0)) p 0 (by omega) (by omega) (hT.cd k) (by rw [gI_uI, if_neg (by omega)]; exact hp) p0 p1 (by rw [gI_uI, if_pos ⟨rfl, rfl⟩]) (by unfold dB; omega)
  have a1 : p_X6_readDigits_7 (jI (L : Int)) 2000 (0 : Int32) (uI w 134 7 (0 : Int32)) = _ := a1
  have dl := dc_le L (hr X C) p
  refine ⟨w', ?_, k.tr a2, a3, a4⟩
  unfold f_X6_readDigits
  rw [wl_p, a1, bs_p, zl_p, u2_p, Nat.zero_add]
  by_cases q : dc L (hr X C) p ≠ 0
  · rw [if_neg (by rw [l32_0, jI_le (by omega) (by omega) (by omega) (by omega)]; omega), bZ_pos q]
    rfl
  · rw [if_pos (by rw [l32_0, jI_le (by omega) (by omega) (by omega) (by omega)]; omega), bZ_neg q]
    rfl
theorem s_sign (hB : TXb X C) (hT : CTx w X C) (hp : gI w 134 2 = jI p) (p0 : 0 ≤ p) (p1 : p ≤ C) {c : Int} (c0 : 0 ≤ c) (c1 : c ≤ 127) : f_X6_readSign w (jI c) = if hr X C p = c then some (jI 1, uI w 134 2 (jI (p + 1))) else some (jI 0, w) := by
  have c60 := hB.1
  unfold f_X6_readSign
  obtain ⟨a1, a2⟩ | ⟨a1, a2, a3⟩ := hr_b hB p0
  · rw [hT.1, hp, if_pos (by rw [jI_le (by omega) (by omega) (by omega) (by omega)]; omega), if_neg (by omega)]
    rfl
  · rw [hT.1, hp, if_neg (by rw [jI_le (by omega) (by omega) (by omega) (by omega)]; omega), if_pos (by rw [inR_j (by omega) (by omega)]; omega), jI_clamp (by omega) (by omega), hT.2 p p0 a1, ← a2]
    by_cases z : hr X C p = c
    · rw [if_pos (by rw [z]), if_pos z, l32_1, jI_add, wl_p]
    · rw [if_neg (by rw [jI_eq (by omega) (by omega) (by omega) (by omega)]; exact z), if_neg z]
      rfl
end
