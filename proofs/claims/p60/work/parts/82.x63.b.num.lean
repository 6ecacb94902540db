/-! NUMBERS, written out -/
def nd (v : Int) : Int := if v < 10 then 1 else if v < 100 then 2 else 3
theorem nd_b (v : Int) : 1 ≤ nd v ∧ nd v ≤ 3 := by unfold nd; split; omega; split <;> omega
theorem s_ssize {v : Int} (v0 : 0 ≤ v) (v1 : v < 1000) : f_J6_stringSize_0f7a4 (jI v) = some (jI (nd v)) := by
  have go : ∀ (n : Nat) (y k : Int), -2147483648 ≤ y → y < 0 → 1 ≤ k → k < 10 → ¬ (-v ≤ y) → p_J6_stringSize_0f7a4_16b (jI (-v)) (n + 1) (jI y) (jI k) = some (.inr (jI k)) := by
    intro n y k y0 y1 k0 k1 q
    rw [p_J6_stringSize_0f7a4_16b, l32_10, if_neg (by rw [jI_le (by omega) (by omega) (by omega) (by omega)]; omega), if_neg (by rw [jI_le (by omega) (by omega) (by omega) (by omega)]; exact q), l32_0, jI_add, Int.add_zero]
  have up : ∀ (n : Nat) (y k : Int), -200000000 ≤ y → y < 0 → 1 ≤ k → k < 10 → (-v ≤ y) → p_J6_stringSize_0f7a4_16b (jI (-v)) (n + 1) (jI y) (jI k) = p_J6_stringSize_0f7a4_16b (jI (-v)) n (jI (10 * y)) (jI (k + 1)) := by
    intro n y k y0 y1 k0 k1 q
    rw [p_J6_stringSize_0f7a4_16b, l32_10, if_neg (by rw [jI_le (by omega) (by omega) (by omega) (by omega)]; omega), if_pos (by rw [jI_le (by omega) (by omega) (by omega) (by omega)]; exact q), l32_1, jI_add, jI_mul]
  have P : p_J6_stringSize_0f7a4_16b (jI (-v)) 2000 (-10 : Int32) (1 : Int32) = some (.inr (jI (nd v))) := by
    show p_J6_stringSize_0f7a4_16b (jI (-v)) (1999 + 1) (jI (-10)) (jI 1) = _
    unfold nd
    by_cases q : v < 10
    · rw [go 1999 (-10) 1 (by omega) (by omega) (by omega) (by omega) (by omega), if_pos q]
    · rw [up 1999 (-10) 1 (by omega) (by omega) (by omega) (by omega) (by omega), if_neg q]
      show p_J6_stringSize_0f7a4_16b (jI (-v)) (1998 + 1) (jI (-100)) (jI 2) = _
      by_cases q2 : v < 100
      · rw [go 1998 (-100) 2 (by omega) (by omega) (by omega) (by omega) (by omega), if_pos q2]
      · rw [up 1998 (-100) 2 (by omega) (by omega) (by omega) (by omega) (by omega), if_neg q2]
        show p_J6_stringSize_0f7a4_16b (jI (-v)) (1997 + 1) (jI (-1000)) (jI 3) = _
        rw [go 1997 (-1000) 3 (by omega) (by omega) (by omega) (by omega) (by omega)]
  unfold f_J6_stringSize_0f7a4
  rw [l32_0, if_neg (by rw [jI_lt (by omega) (by omega) (by omega) (by omega)]; omega), jI_neg, P, bs_p, zr_p]
/-- the reference's sign -/
theorem s_writes {w : Wd} {n c : Int} (h : gI w 141 11 = jI n) (n0 : 0 ≤ n) (n1 : n < 100) (c0 : 0 ≤ c) (c1 : c ≤ 127) : f_X11_writes w (jI c) = some (uI (uI w 147 n.toNat (jI c)) 141 11 (jI (n + 1))) := by
  have e : (((jI c).toUInt32 % 65536).toInt32) = jI c := by
    have h := List.all_eq_true.mp (show (List.range 128).all (fun n => ((jI (n : Nat)).toUInt32 % 65536).toInt32 == jI (n : Nat)) = true by decide +kernel) c.toNat (List.mem_range.mpr (by omega))
    rw [show ((c.toNat : Nat) : Int) = c by omega] at h
    exact eq_of_beq h
  have f : gI (uI w 147 n.toNat (jI c)) 141 11 = jI n := by rw [gI_uI, if_neg (by omega)]; exact h
  unfold f_X11_writes
  rw [h, if_pos (by rw [inR_j (by omega) (by omega)]; omega), wl_p, jI_clamp (by omega) (by omega), e, narC c0 c1, f, wl_p, l32_1, jI_add]
def pu (Y : Int → Int) (n c : Int) : Int → Int := fun i => if i = n then c else Y i
def num (v n : Int) (Y : Int → Int) : Int → Int := if v < 10 then pu Y n (48 + v) else if v < 100 then pu (pu Y n (48 + v / 10)) (n + 1) (48 + v % 10) else pu (pu (pu Y n (48 + v / 100)) (n + 1) (48 + v / 10 % 10)) (n + 2) (48 + v % 10)
def KW (k : Nat) : Prop := k = 141 ∨ k = 147
def TR (w : Wd) (n : Int) (Y : Int → Int) : Prop := gI w 141 11 = jI n ∧ ∀ i : Int, 0 ≤ i → i < n → gI w 147 i.toNat = jI (Y i)
def Wr (w w' : Wd) (n : Int) (Y : Int → Int) : Prop := Sm KW w w' ∧ (∀ i, i ≠ 11 → gI w' 141 i = gI w 141 i) ∧ TR w' n Y
theorem Wr.tr {w w1 w2 : Wd} {n m : Int} {Y Z : Int → Int} (h : Wr w w1 n Y) (k : Wr w1 w2 m Z) : Wr w w2 m Z := ⟨h.1.tr k.1, fun i hi => (k.2.1 i hi).trans (h.2.1 i hi), k.2.2⟩
theorem s_w1 {w : Wd} {n c : Int} {Y : Int → Int} (h : TR w n Y) (n0 : 0 ≤ n) (n1 : n < 100) (c0 : 0 ≤ c) (c1 : c ≤ 127) : ∃ w', f_X11_writes w (jI c) = some w' ∧ Wr w w' (n + 1) (pu Y n c) := by
  refine ⟨_, s_writes h.1 n0 n1 c0 c1, (Sm.wI w (Or.inr rfl)).tr (Sm.wI _ (Or.inl rfl)), fun i hi => by rw [gI_uI, if_neg (fun z => hi z.2), gI_uI, if_neg (by omega)], by rw [gI_uI, if_pos ⟨rfl, rfl⟩], fun i i0 i1 => ?_⟩
  unfold pu
  rw [gI_uI, if_neg (by omega), gI_uI]
  by_cases y : i = n
  · rw [if_pos ⟨rfl, by rw [y]⟩, if_pos y]
  · rw [if_neg (by omega), if_neg y]
    exact h.2 i i0 (by omega)
theorem s_wnum {w : Wd} {n v : Int} {Y : Int → Int} (h : TR w n Y) (n0 : 0 ≤ n) (n1 : n + 3 ≤ 100) (v0 : 0 ≤ v) (v1 : v < 1000) : ∃ w', f_X11_writesNumber w (jI v) = some w' ∧ Wr w w' (n + nd v) (num v n Y) := by
  have n10 : ¬ (10 : Int32) = 0 := by decide +kernel
  have dn : ∀ (m : Nat) (y : Int), 1 < y → y ≤ 1000 → v < y → p_X11_writesNumber_4 (jI v) (m + 1) (jI y) = p_X11_writesNumber_4 (jI v) m (jI (y / 10)) := by
    intro m y y0 y1 q
    rw [p_X11_writesNumber_4, l32_1, if_neg (by rw [jI_le (by omega) (by omega) (by omega) (by omega)]; omega), if_neg (by rw [jI_le (by omega) (by omega) (by omega) (by omega)]; omega), if_pos n10, l32_10, jI_div (by omega) (by omega) (by omega) (by omega), Int.tdiv_eq_ediv_of_nonneg (by omega)]
  have st : ∀ (m : Nat) (y : Int), 1 ≤ y → y ≤ 1000 → (y ≤ v ∨ y = 1) → p_X11_writesNumber_4 (jI v) (m + 1) (jI y) = some (.inl (jI y)) := by
    intro m y y0 y1 q
    rw [p_X11_writesNumber_4, l32_1]
    by_cases z : y ≤ 1
    · rw [if_pos (by rw [jI_le (by omega) (by omega) (by omega) (by omega)]; exact z)]
    · rw [if_neg (by rw [jI_le (by omega) (by omega) (by omega) (by omega)]; exact z), if_pos (by rw [jI_le (by omega) (by omega) (by omega) (by omega)]; omega)]
  have one : ∀ (m : Nat) (y : Int) (w1 w2 : Wd), 1 ≤ y → y ≤ 1000 → f_X11_writes w1 (jI (48 + v / y % 10)) = some w2 → p_X11_writesNumber_22 (jI v) (m + 1) (jI y) w1 = p_X11_writesNumber_22 (jI v) m (jI (y / 10)) w2 := by
    intro m y w1 w2 y0 y1 e
    have d0 : 0 ≤ v / y := Int.ediv_nonneg v0 (by omega)
    have d1 : v / y ≤ v := Int.ediv_le_self _ v0
    have e2 : v / y - v / y / 10 * 10 = v / y % 10 := by omega
    rw [p_X11_writesNumber_22, l32_0, if_neg (by rw [jI_le (by omega) (by omega) (by omega) (by omega)]; omega), if_pos (by rw [jI_eq (by omega) (by omega) (by omega) (by omega)]; omega), if_pos (show ¬ (10 : Int32) = jI 0 from n10), l32_10, jI_div (by omega) (by omega) (by omega) (by omega), Int.tdiv_eq_ediv_of_nonneg v0, jI_div (by omega) (by omega) (by omega) (by omega), Int.tdiv_eq_ediv_of_nonneg d0, jI_mul, jI_sub, e2, l32_48, jI_add, e, bs_p, if_pos (show ¬ jI 10 = jI 0 from n10), jI_div (by omega) (by omega) (by omega) (by omega), Int.tdiv_eq_ediv_of_nonneg (by omega)]
  have fin : ∀ (m : Nat) (w1 : Wd), p_X11_writesNumber_22 (jI v) (m + 1) (jI 0) w1 = some (.inl (jI 0, w1)) := by
    intro m w1
    rw [p_X11_writesNumber_22]
    exact if_pos (by decide +kernel)
  have P4 : p_X11_writesNumber_4 (jI v) 2000 (1000 : Int32) = some (.inl (jI (if v < 10 then 1 else if v < 100 then 10 else 100))) := by
    show p_X11_writesNumber_4 (jI v) (1999 + 1) (jI 1000) = _
    rw [dn 1999 1000 (by omega) (by omega) (by omega)]
    show p_X11_writesNumber_4 (jI v) (1998 + 1) (jI 100) = _
    by_cases q : v < 10
    · rw [if_pos q, dn 1998 100 (by omega) (by omega) (by omega)]
      show p_X11_writesNumber_4 (jI v) (1997 + 1) (jI 10) = _
      rw [dn 1997 10 (by omega) (by omega) (by omega)]
      exact st 1996 1 (by omega) (by omega) (Or.inr rfl)
    · rw [if_neg q]
      by_cases q2 : v < 100
      · rw [if_pos q2, dn 1998 100 (by omega) (by omega) (by omega)]
        exact st 1997 10 (by omega) (by omega) (Or.inl (by omega))
      · rw [if_neg q2]
        exact st 1998 100 (by omega) (by omega) (Or.inl (by omega))
  unfold f_X11_writesNumber num nd
  rw [P4, bs_p, zl_p]
  by_cases q : v < 10
  · rw [if_pos q, if_pos q, if_pos q]
    obtain ⟨w1, e1, k1⟩ := s_w1 h n0 (by omega) (c := 48 + v) (by omega) (by omega)
    refine ⟨w1, ?_, k1⟩
    rw [one 1999 1 w w1 (by omega) (by omega) (by rw [show 48 + v / 1 % 10 = 48 + v by omega]; exact e1)]
    show ((p_X11_writesNumber_22 (jI v) (1998 + 1) (jI 0) w1).bind _) = _
    rw [fin]
    rfl
  · rw [if_neg q, if_neg q, if_neg q]
    by_cases q2 : v < 100
    · rw [if_pos q2, if_pos q2, if_pos q2]
      obtain ⟨w1, e1, k1⟩ := s_w1 h n0 (by omega) (c := 48 + v / 10) (by omega) (by omega)
      obtain ⟨w2, e2, k2⟩ := s_w1 k1.2.2 (by omega) (by omega) (c := 48 + v % 10) (by omega) (by omega)
      refine ⟨w2, ?_, k1.tr (by rw [show n + 2 = n + 1 + 1 by omega]; exact k2)⟩
      rw [one 1999 10 w w1 (by omega) (by omega) (by rw [show 48 + v / 10 % 10 = 48 + v / 10 by omega]; exact e1)]
      show ((p_X11_writesNumber_22 (jI v) (1998 + 1) (jI 1) w1).bind _) = _
      rw [one 1998 1 w1 w2 (by omega) (by omega) (by rw [show 48 + v / 1 % 10 = 48 + v % 10 by omega]; exact e2)]
      show ((p_X11_writesNumber_22 (jI v) (1997 + 1) (jI 0) w2).bind _) = _
      rw [fin]
      rfl
    · rw [if_neg q2, if_neg q2, if_neg q2]
      obtain ⟨w1, e1, k1⟩ := s_w1 h n0 (by omega) (c := 48 + v / 100) (by omega) (by omega)
      obtain ⟨w2, e2, k2⟩ := s_w1 k1.2.2 (by omega) (by omega) (c := 48 + v / 10 % 10) (by omega) (by omega)
      obtain ⟨w3, e3, k3⟩ := s_w1 k2.2.2 (by omega) (by omega) (c := 48 + v % 10) (by omega) (by omega)
      refine ⟨w3, ?_, (k1.tr k2).tr (by rw [show n + 3 = n + 1 + 1 + 1 by omega, show n + 2 = n + 1 + 1 by omega]; exact k3)⟩
      rw [one 1999 100 w w1 (by omega) (by omega) (by rw [show 48 + v / 100 % 10 = 48 + v / 100 by omega]; exact e1)]
      show ((p_X11_writesNumber_22 (jI v) (1998 + 1) (jI 10) w1).bind _) = _
      rw [one 1998 10 w1 w2 (by omega) (by omega) e2]
      show ((p_X11_writesNumber_22 (jI v) (1997 + 1) (jI 1) w2).bind _) = _
      rw [one 1997 1 w2 w3 (by omega) (by omega) (by rw [show 48 + v / 1 % 10 = 48 + v % 10 by omega]; exact e3)]
      show ((p_X11_writesNumber_22 (jI v) (1996 + 1) (jI 0) w3).bind _) = _
      rw [fin]
      rfl
