/-! TEXTS: how long, and which signs -/
abbrev Tx : Type := Int × (Int → Int)
def tx1 (c : Int) (q : Tx) : Tx := (q.1 + 1, pu q.2 q.1 c)
def txN (v : Int) (q : Tx) : Tx := (q.1 + nd v, num v q.1 q.2)
def txI (b c : Int) (q : Tx) : Tx := if b = 0 then q else tx1 c q
/-- a text of at most k signs -/
def TG (k : Int) (q : Tx) : Prop := (0 ≤ q.1 ∧ q.1 ≤ k) ∧ ∀ i, 0 ≤ i → i < q.1 → 0 ≤ q.2 i ∧ q.2 i ≤ 127
theorem TG.x1 {k c : Int} {q : Tx} (h : TG k q) (c0 : 0 ≤ c) (c1 : c ≤ 127) : TG (k + 1) (tx1 c q) := by
  obtain ⟨⟨h1, h2⟩, h3⟩ := h
  refine ⟨⟨by show 0 ≤ q.1 + 1; omega, by show q.1 + 1 ≤ k + 1; omega⟩, fun i i0 i1 => ?_⟩
  have i1 : i < q.1 + 1 := i1
  show 0 ≤ pu q.2 q.1 c i ∧ pu q.2 q.1 c i ≤ 127
  rw [pu_at]
  split
  · exact ⟨c0, c1⟩
  · exact h3 i i0 (by omega)
theorem TG.le {k l : Int} {q : Tx} (h : TG k q) (e : k ≤ l) : TG l q := ⟨⟨h.1.1, by have := h.1.2; omega⟩, h.2⟩
theorem xN_is (v : Int) (q : Tx) : txN v q = if v < 10 then tx1 (48 + v) q else if v < 100 then tx1 (48 + v % 10) (tx1 (48 + v / 10) q) else tx1 (48 + v % 10) (tx1 (48 + v / 10 % 10) (tx1 (48 + v / 100) q)) := by
  unfold txN num nd tx1
  by_cases a : v < 10
  · simp only [if_pos a]
  · simp only [if_neg a]
    by_cases b : v < 100
    · simp only [if_pos b, show q.1 + 2 = q.1 + 1 + 1 by omega]
    · simp only [if_neg b, show q.1 + 3 = q.1 + 1 + 1 + 1 by omega, show q.1 + 2 = q.1 + 1 + 1 by omega]
theorem TG.xN {k v : Int} {q : Tx} (h : TG k q) (v0 : 0 ≤ v) (v1 : v < 1000) : TG (k + nd v) (txN v q) := by
  rw [xN_is]
  unfold nd
  by_cases a : v < 10
  · rw [if_pos a, if_pos a]
    exact h.x1 (by omega) (by omega)
  · rw [if_neg a, if_neg a]
    by_cases b : v < 100
    · rw [if_pos b, if_pos b]
      exact ((h.x1 (c := 48 + v / 10) (by omega) (by omega)).x1 (c := 48 + v % 10) (by omega) (by omega)).le (by omega)
    · rw [if_neg b, if_neg b]
      exact (((h.x1 (c := 48 + v / 100) (by omega) (by omega)).x1 (c := 48 + v / 10 % 10) (by omega) (by omega)).x1 (c := 48 + v % 10) (by omega) (by omega)).le (by omega)
theorem TG.xI {k b c : Int} {q : Tx} (h : TG k q) (c0 : 0 ≤ c) (c1 : c ≤ 127) : TG (k + 1) (txI b c q) := by
  unfold txI
  split
  · exact h.le (by omega)
  · exact h.x1 c0 c1
/-- the class's text, the reference's -/
def OX (w : Wd) (q : Tx) : Prop := OC w q.1 q.2
def RX (w : Wd) (q : Tx) : Prop := TR w q.1 q.2
def WX (w w' : Wd) (q : Tx) : Prop := Wr w w' q.1 q.2
theorem WX.tr {w w1 w2 : Wd} {p q : Tx} (h : WX w w1 p) (k : WX w1 w2 q) : WX w w2 q := Wr.tr h k
theorem WX.rx {w w' : Wd} {q : Tx} (h : WX w w' q) : RX w' q := h.2.2
theorem t_c1 {w : Wd} {q : Tx} {c k : Int} (h : OX w q) (g : TG k q) (k1 : k + 1 ≤ 34) (c0 : 0 ≤ c) (c1 : c ≤ 127) : ∃ w', f_J4_append_cf468 w (jI c) = some w' ∧ Sm KO w w' ∧ OX w' (tx1 c q) :=
  s_app1 h g.1.1 (by have := g.1.2; omega) c0 c1
theorem t_cN {w : Wd} {q : Tx} {v k : Int} (h : OX w q) (g : TG k q) (k1 : k + 3 ≤ 34) (v0 : 0 ≤ v) (v1 : v < 1000) : ∃ w', f_J4_append_bf812 w (jI v) = some w' ∧ Sm KO w w' ∧ OX w' (txN v q) :=
  s_appN h g.1.1 v0 v1 (by have := g.1.2; omega)
theorem t_r1 {w : Wd} {q : Tx} {c k : Int} (h : RX w q) (g : TG k q) (k1 : k + 1 ≤ 100) (c0 : 0 ≤ c) (c1 : c ≤ 127) : ∃ w', f_X11_writes w (jI c) = some w' ∧ WX w w' (tx1 c q) :=
  s_w1 h g.1.1 (by have := g.1.2; omega) c0 c1
theorem t_rN {w : Wd} {q : Tx} {v k : Int} (h : RX w q) (g : TG k q) (k1 : k + 3 ≤ 100) (v0 : 0 ≤ v) (v1 : v < 1000) : ∃ w', f_X11_writesNumber w (jI v) = some w' ∧ WX w w' (txN v q) :=
  s_wnum h g.1.1 (by have := g.1.2; omega) v0 v1
theorem WX.refl {w : Wd} {q : Tx} (h : RX w q) : WX w w q := ⟨Sm.refl w, fun _ _ => rfl, h⟩
theorem t_rI {w : Wd} {q : Tx} {b c k : Int} (h : RX w q) (g : TG k q) (k1 : k + 1 ≤ 100) (hb : b = 0 ∨ b = 1) (c0 : 0 ≤ c) (c1 : c ≤ 127) : ∃ w', f_X11_writesIf w (jI b) (jI c) = some w' ∧ WX w w' (txI b c q) := by
  unfold f_X11_writesIf txI
  rcases hb with rfl | rfl
  · rw [if_pos (show jI 0 = 0 from rfl), if_pos rfl]
    exact ⟨w, rfl, WX.refl h⟩
  · rw [if_neg (show ¬ jI 1 = 0 by decide +kernel), if_neg (by decide)]
    obtain ⟨w', e, k⟩ := t_r1 h g k1 c0 c1
    exact ⟨w', by rw [e]; rfl, k⟩
theorem t_len {w : Wd} {q : Tx} (h : OX w q) : f_J4_length_8abf5 w = some (jI q.1) := by
  unfold f_J4_length_8abf5 f_J5_length_8abf5
  rw [h.2.1]
  rfl
def tx0 : Tx := (0, fun _ => 0)
theorem TG.x0 : TG 0 tx0 := ⟨⟨by decide, by decide⟩, fun i i0 i1 => by have i1 : i < 0 := i1; omega⟩
/-- the text is emptied -/
theorem t_c0 {w : Wd} {n : Int} {Y : Int → Int} (h : OC w n Y) (n0 : 0 ≤ n) (n1 : n ≤ 100) : ∃ w', f_J4_setLength_d00df w (0 : Int32) = some w' ∧ Sm KO w w' ∧ OX w' tx0 := by
  obtain ⟨w4, e4, s4, h4, -⟩ := s_ensure (k := 0) h (by decide) (by decide)
  obtain ⟨a1, a2, a3, a4, a5, a6⟩ := h4
  unfold f_J4_setLength_d00df f_J5_setLength_d00df
  rw [l32_0, if_pos (show jI 0 ≤ jI 0 by rw [jI_le (by omega) (by omega) (by omega) (by omega)]; omega), e4, bs_p, a2, if_pos (by rw [jI_le (by omega) (by omega) (by omega) (by omega)]; omega)]
  by_cases q : n ≤ 0
  · rw [if_pos (by rw [jI_le (by omega) (by omega) (by omega) (by omega)]; exact q), wl_p]
    refine ⟨_, rfl, s4.tr (Sm.wI _ (Or.inl rfl)), ⟨by rw [gI_uI, if_neg (by omega)]; exact a1, by rw [gI_uI, if_pos ⟨rfl, rfl⟩]; rfl, a3, by show (0 : Int) ≤ ((gC w4 : Nat) : Int); omega, fun i i0 i1 => by have i1 : i < 0 := i1; omega, fun i hi => by rw [gI_uI, if_neg (by omega)]; exact a6 i hi⟩⟩
  · rw [if_neg (by rw [jI_le (by omega) (by omega) (by omega) (by omega)]; exact q), wl_p, wl_p]
    refine ⟨_, rfl, (s4.tr (Sm.wI _ (Or.inl rfl))).tr (Sm.wI _ (Or.inl rfl)), ⟨by rw [gI_uI, if_neg (by omega), gI_uI, if_neg (by omega)]; exact a1, by rw [gI_uI, if_pos ⟨rfl, rfl⟩]; rfl, a3, by show (0 : Int) ≤ ((gC w4 : Nat) : Int); omega, fun i i0 i1 => by have i1 : i < 0 := i1; omega, fun i hi => by rw [gI_uI, if_neg (by omega), gI_uI, if_neg (by omega)]; exact a6 i hi⟩⟩
theorem t_r0 {w : Wd} : WX w (uI w 141 11 (0 : Int32)) tx0 :=
  ⟨Sm.wI w (Or.inl rfl), fun i hi => by rw [gI_uI, if_neg (fun z => hi z.2)], by rw [gI_uI, if_pos ⟨rfl, rfl⟩]; rfl, fun i i0 i1 => by have i1 : i < 0 := i1; omega⟩
/-! THE TRAIN, shown -/
noncomputable def cpl (S : Ab) (g : Int) : Int := @ite _ (∃ p, 0 ≤ p ∧ p < S 1 ∧ S (86 + p) = g) (Classical.propDecidable _) 1 0
theorem cpl_b (S : Ab) (g : Int) : cpl S g = 0 ∨ cpl S g = 1 := by unfold cpl; split; exact Or.inr rfl; exact Or.inl rfl
theorem cpl_T {S : Ab} {g : Int} (h : ∃ p, 0 ≤ p ∧ p < S 1 ∧ S (86 + p) = g) : cpl S g = 1 := if_pos h
theorem cpl_F {S : Ab} {g : Int} (h : ¬ ∃ p, 0 ≤ p ∧ p < S 1 ∧ S (86 + p) = g) : cpl S g = 0 := if_neg h
theorem c_cpl {w : Wd} {S : Ab} (h : CSt w 1 S) (hG : Good S) {g : Int} (g0 : 0 ≤ g) (g1 : g < 10) : f_X7_carriesPlanet w (jI g) = some (jI (cpl S g)) := by
  obtain ⟨r, e, ⟨rfl, k⟩ | ⟨rfl, k⟩⟩ := s_carriesPlanet h hG g0 g1
  · rw [cpl_F k]; exact e
  · rw [cpl_T k]; exact e
theorem r_cpl {w : Wd} {S : Ab} (h : RSt w 142 0 S) (hG : Good S) {g : Int} (g0 : 0 ≤ g) (g1 : g < 10) : ∃ r, f_X11_planetOn w (jI g) = some (jI r) ∧ -1 ≤ r ∧ r < 10 ∧ (r = -1 ↔ cpl S g = 0) := by
  have hg := hG.1
  obtain ⟨r, e, ⟨r0, r1, k, -⟩ | ⟨rfl, k⟩⟩ := s_rPlanetOn h hG g0 g1
  · refine ⟨r, e, by omega, by omega, ?_⟩
    rw [cpl_T ⟨r, r0, r1, k⟩]
    constructor <;> intro z <;> omega
  · refine ⟨-1, e, by omega, by omega, ?_⟩
    rw [cpl_F (fun ⟨p, p0, p1, z⟩ => k p p0 p1 z)]
    constructor <;> intro z <;> rfl
noncomputable def tt (S u : Ab) : Nat → Tx
  | 0 => tx0
  | k + 1 => if u k = 0 then tt S u k else txI (cpl S k) 42 (txN k (txI (if (tt S u k).1 ≤ 0 then 0 else 1) 44 (tt S u k)))
theorem tt_s (S u : Ab) (k : Nat) : tt S u (k + 1) = if u k = 0 then tt S u k else txI (cpl S k) 42 (txN k (txI (if (tt S u k).1 ≤ 0 then 0 else 1) 44 (tt S u k))) := rfl
theorem tt_g (S u : Ab) : ∀ k : Nat, k ≤ 10 → TG (3 * k) (tt S u k) := by
  intro k
  induction k with
  | zero => exact fun _ => TG.x0
  | succ k ih =>
    intro hk
    have h := ih (by omega)
    rw [tt_s]
    split
    · exact h.le (by omega)
    · have e : nd (k : Int) = 1 := if_pos (by omega)
      have a := ((h.xI (b := if (tt S u k).1 ≤ 0 then 0 else 1) (c := 44) (by decide) (by decide)).xN (v := k) (by omega) (by omega)).xI (b := cpl S k) (c := 42) (by decide) (by decide)
      rw [e] at a
      exact a.le (by omega)
theorem tt_out {S u : Ab} {m : Nat} (h : ∀ x : Int, 0 ≤ x → x < 10 → m ≤ x → u x = 0) : ∀ k : Nat, m + k ≤ 10 → tt S u (m + k) = tt S u m := by
  intro k
  induction k with
  | zero => exact fun _ => rfl
  | succ k ih =>
    intro hk
    rw [show m + (k + 1) = (m + k) + 1 from rfl, tt_s, if_pos (h _ (by omega) (by omega) (by omega))]
    exact ih (by omega)
