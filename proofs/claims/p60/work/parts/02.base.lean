/-! THE WORLD: one value for all cells of the system, the law and the reference; the rows of the kit over it.
    Things are numbered: 0 the workshop, 1 now, 12 before, 23 snapshot, 34 history, 36 + 11 i its states, 124 train, 127 changes, 128 eclipses, 129 ratios, 134 script, 139 output, 140 its bytes, 141 the reference, 151 out, 152 outD. -/
/-- what a thing is: .inl (its class's place in vwCl, its fields: a reference to a thing, or a number), .inr (the kind of its elements, its length) -/
abbrev Ds : Type := (Nat × List (Option Nat)) ⊕ (Nat × Nat)
def kSt (b r : Nat) : Ds := match r with
  | 0 => .inl (9, [some (b + 1), some (b + 2), some (b + 3), some (b + 4), some (b + 5), some (b + 6), some (b + 7), some (b + 8), some (b + 9), some (b + 10), none, none, none, none, none, none, none])
  | 1 => .inr (0, 10)
  | 2 => .inr (1, 10)
  | 3 => .inr (2, 10)
  | 4 => .inr (1, 10)
  | 5 => .inr (2, 10)
  | 6 => .inr (0, 10)
  | 7 => .inr (0, 10)
  | 8 => .inr (2, 10)
  | 9 => .inr (3, 100)
  | _ => .inr (0, 6)
def kEnd (cap r : Nat) : Ds := match r with
  | 0 => .inl (10, [some 125, some 126, none])
  | 1 => .inr (1, 10)
  | 2 => .inr (0, 10)
  | 3 => .inl (4, [some 1, some 124])
  | 4 => .inl (5, [some 1, some 124])
  | 5 => .inl (7, [some 1, some 130, some 131, some 132, some 133, none])
  | 6 => .inr (0, 90)
  | 7 => .inr (0, 90)
  | 8 => .inr (0, 90)
  | 9 => .inr (0, 90)
  | 10 => .inl (8, [some 135, none, none, some 136, some 137, some 138, none, none])
  | 11 => .inr (3, 60)
  | 12 => .inr (7, 60)
  | 13 => .inr (0, 60)
  | 14 => .inr (0, 60)
  | 15 => .inl (1, [some 140, none, none, none])
  | 16 => .inr (4, cap)
  | _ => .inr (0, 0)
def dsc (cap k : Nat) : Ds :=
  if k = 0 then .inl (11, [some 1, some 12, some 23, none, some 34, some 124, some 127, some 128, some 129, some 134, some 139, none, none])
  else if k < 34 then kSt (1 + 11 * ((k - 1) / 11)) ((k - 1) % 11)
  else if k = 34 then .inl (6, [some 35, none, none])
  else if k = 35 then .inr (6, 8)
  else if k < 124 then kSt (36 + 11 * ((k - 36) / 11)) ((k - 36) % 11)
  else kEnd cap (k - 124)
def isSt (b : Nat) : Prop := b = 1 ∨ b = 12 ∨ b = 23 ∨ ∃ i, i < 8 ∧ b = 36 + 11 * i
theorem dsc_st {b : Nat} (h : isSt b) (cap r : Nat) (hr : r < 11) : dsc cap (b + r) = kSt b r := by
  rcases h with h | h | h | ⟨i, hi, h⟩ <;> subst h
  · unfold dsc; rw [if_neg (by omega), if_pos (by omega), show 1 + 11 * ((1 + r - 1) / 11) = 1 by omega, show (1 + r - 1) % 11 = r by omega]
  · unfold dsc; rw [if_neg (by omega), if_pos (by omega), show 1 + 11 * ((12 + r - 1) / 11) = 12 by omega, show (12 + r - 1) % 11 = r by omega]
  · unfold dsc; rw [if_neg (by omega), if_pos (by omega), show 1 + 11 * ((23 + r - 1) / 11) = 23 by omega, show (23 + r - 1) % 11 = r by omega]
  · unfold dsc; rw [if_neg (by omega), if_neg (by omega), if_neg (by omega), if_neg (by omega), if_pos (by omega), show 36 + 11 * ((36 + 11 * i + r - 36) / 11) = 36 + 11 * i by omega, show (36 + 11 * i + r - 36) % 11 = r by omega]
theorem st_lt {b : Nat} (h : isSt b) (r : Nat) (hr : r < 11) : b + r < 141 := by
  rcases h with h | h | h | ⟨i, hi, h⟩ <;> omega
theorem st_1 : isSt 1 := Or.inl rfl
theorem st_12 : isSt 12 := Or.inr (Or.inl rfl)
theorem st_23 : isSt 23 := Or.inr (Or.inr (Or.inl rfl))
theorem st_h {i : Nat} (h : i < 8) : isSt (36 + 11 * i) := Or.inr (Or.inr (Or.inr ⟨i, h, rfl⟩))
/-- the fields of an object -/
def mkF (ad : Nat → Nat) (w : Wd) (k : Nat) : Nat → List (Option Nat) → List Value
  | _, [] => []
  | i, o :: os => (match o with | some j => Value.ref (ad j) | none => .int (gI w k i)) :: mkF ad w k (i + 1) os
theorem mkF_r {ad : Nat → Nat} {w : Wd} {k : Nat} : ∀ {ks : List (Option Nat)} {i j x : Nat}, ks[j]? = some (some x) → (mkF ad w k i ks)[j]? = some (.ref (ad x))
  | [], i, j, x, h => by simp at h
  | o :: os, i, 0, x, h => by
    rw [List.getElem?_cons_zero] at h
    cases h
    rfl
  | o :: os, i, j + 1, x, h => by
    rw [List.getElem?_cons_succ] at h
    show (_ :: mkF ad w k (i + 1) os)[j + 1]? = _
    rw [List.getElem?_cons_succ]
    exact mkF_r h
theorem mkF_i {ad : Nat → Nat} {w : Wd} {k : Nat} : ∀ {ks : List (Option Nat)} {i j : Nat}, ks[j]? = some none → (mkF ad w k i ks)[j]? = some (.int (gI w k (i + j)))
  | [], i, j, h => by simp at h
  | o :: os, i, 0, h => by
    rw [List.getElem?_cons_zero] at h
    cases h
    rfl
  | o :: os, i, j + 1, h => by
    rw [List.getElem?_cons_succ] at h
    show (_ :: mkF ad w k (i + 1) os)[j + 1]? = _
    rw [List.getElem?_cons_succ, mkF_i h, Nat.add_right_comm i 1 j]
    rfl
theorem mkF_len {ad : Nat → Nat} {w : Wd} {k : Nat} : ∀ {ks : List (Option Nat)} {i : Nat}, (mkF ad w k i ks).length = ks.length
  | [], _ => rfl
  | _ :: os, i => by
    show (mkF ad w k (i + 1) os).length + 1 = os.length + 1
    rw [mkF_len]
theorem mkF_ne {ad : Nat → Nat} {w w' : Wd} {k : Nat} (h : ∀ i, gI w' k i = gI w k i) : ∀ {ks : List (Option Nat)} {i : Nat}, mkF ad w' k i ks = mkF ad w k i ks
  | [], _ => rfl
  | o :: os, i => by
    show _ :: _ = _ :: _
    rw [mkF_ne h (i := i + 1)]
    cases o with
    | none => show Value.int _ :: _ = Value.int _ :: _; rw [h]
    | some x => rfl
theorem mkF_set {ad : Nat → Nat} {w : Wd} {k : Nat} {v : Int32} : ∀ {ks : List (Option Nat)} {i j : Nat}, ks[j]? = some none → mkF ad (uI w k (i + j) v) k i ks = (mkF ad w k i ks).set j (.int v) := by
  intro ks i j h
  apply List.ext_getElem?
  intro n
  have hj : j < ks.length := (List.getElem?_eq_some_iff.mp h).1
  by_cases hn : n = j
  · subst hn
    rw [List.getElem?_set_self (by rw [mkF_len]; exact hj), mkF_i h, gI_uI, if_pos ⟨rfl, rfl⟩]
  · rw [List.getElem?_set_ne (fun z => hn z.symm)]
    by_cases hl : n < ks.length
    · cases ho : ks[n]? with
      | none => rw [List.getElem?_eq_none_iff] at ho; omega
      | some o =>
        cases o with
        | none => rw [mkF_i ho, mkF_i ho, gI_uI, if_neg (fun z => hn (by omega))]
        | some x => rw [mkF_r ho, mkF_r ho]
    · rw [List.getElem?_eq_none (by rw [mkF_len]; omega), List.getElem?_eq_none (by rw [mkF_len]; omega)]
/-- the elements of an array, by their kind -/
def mkA (ad av : Nat → Nat) (w : Wd) (k t n : Nat) : vp_A := match t with
  | 1 => (n, .inr (.inl (gL w k)))
  | 5 => (n, .inr (.inr (.inr (.inl (gD w)))))
  | 6 => (n, .inr (.inr (.inr (.inr (fun i => some (ad (36 + 11 * i)))))))
  | 7 => (n, .inr (.inr (.inr (.inr (fun i => (gV w i).map av)))))
  | _ => (n, .inl (gI w k))
def toE (ad : Nat → Nat) (cy : Nat → ClassId) (av : Nat → Nat) (w : Wd) (k : Nat) : va_E := match dsc (gC w) k with
  | .inl (ci, ks) => .inr (ci, mkF ad w k 0 ks)
  | .inr (t, n) => .inl (cy t, mkA ad av w k t n)
theorem toE_o {ad : Nat → Nat} {cy : Nat → ClassId} {av : Nat → Nat} {w : Wd} {k ci : Nat} {ks : List (Option Nat)} (h : dsc (gC w) k = .inl (ci, ks)) : toE ad cy av w k = .inr (ci, mkF ad w k 0 ks) := by
  unfold toE; rw [h]
theorem toE_a {ad : Nat → Nat} {cy : Nat → ClassId} {av : Nat → Nat} {w : Wd} {k t n : Nat} (h : dsc (gC w) k = .inr (t, n)) : toE ad cy av w k = .inl (cy t, mkA ad av w k t n) := by
  unfold toE; rw [h]
def wsOf (ad : Nat → Nat) (cy : Nat → ClassId) (av : Nat → Nat) (w : Wd) : va_W := (List.range 141).map (fun k => (ad k, toE ad cy av w k))
theorem ws_at {ad : Nat → Nat} {cy : Nat → ClassId} {av : Nat → Nat} {w : Wd} {k : Nat} (h : k < 141) : (wsOf ad cy av w)[k]? = some (ad k, toE ad cy av w k) := by
  unfold wsOf
  rw [List.getElem?_map, List.getElem?_range h]
  rfl
theorem ws_set {ad : Nat → Nat} {cy : Nat → ClassId} {av : Nat → Nat} {w w' : Wd} {k : Nat} {e : va_E} (hk : k < 141) (he : toE ad cy av w' k = e) (ho : ∀ j, j < 141 → j ≠ k → toE ad cy av w' j = toE ad cy av w j) : (wsOf ad cy av w).set k (ad k, e) = wsOf ad cy av w' := by
  apply List.ext_getElem?
  intro n
  by_cases hn : n < 141
  · by_cases hnk : n = k
    · subst hnk
      rw [List.getElem?_set_self (by unfold wsOf; simpa using hn), ws_at hn, he]
    · rw [List.getElem?_set_ne (fun z => hnk z.symm), ws_at hn, ws_at hn, ho n hn hnk]
  · rw [List.getElem?_eq_none (by rw [List.length_set]; unfold wsOf; simpa using hn), List.getElem?_eq_none (by unfold wsOf; simpa using hn)]
theorem toE_uI_ne {ad : Nat → Nat} {cy : Nat → ClassId} {av : Nat → Nat} {w : Wd} {k i : Nat} {v : Int32} {j : Nat} (h : j ≠ k) : toE ad cy av (uI w k i v) j = toE ad cy av w j := by
  have hg : gI (uI w k i v) j = gI w j := by
    funext b
    rw [gI_uI, if_neg (fun z => h z.1)]
  unfold toE
  rw [gC_uI]
  cases dsc (gC w) j with
  | inl x => show Sum.inr _ = Sum.inr _; rw [mkF_ne (fun i => congrFun hg i)]
  | inr x =>
    show Sum.inl _ = Sum.inl _
    unfold mkA
    rw [hg]
    rfl
theorem toE_uL_ne {ad : Nat → Nat} {cy : Nat → ClassId} {av : Nat → Nat} {w : Wd} {k i : Nat} {v : Int64} {j : Nat} (h : j ≠ k) : toE ad cy av (uL w k i v) j = toE ad cy av w j := by
  have hg : gL (uL w k i v) j = gL w j := by
    funext b
    rw [gL_uL, if_neg (fun z => h z.1)]
  unfold toE
  rw [gC_uL]
  cases dsc (gC w) j with
  | inl x => show Sum.inr _ = Sum.inr _; rw [mkF_ne (w := w) (w' := uL w k i v) (fun i => rfl)]
  | inr x =>
    show Sum.inl _ = Sum.inl _
    unfold mkA
    rw [hg]
    rfl
/-- only thing 136 holds constants, only thing 152 doubles -/
theorem dsc_7 {cap j n : Nat} (hj : j < 141) (h : dsc cap j = .inr (7, n)) : j = 136 := by
  have h2 : ∀ j, j < 141 → j ≠ 136 → (match dsc 0 j with | .inr (t, _) => decide (t ≠ 7) | _ => true) = true := by decide +kernel
  by_cases hq : j = 136
  · exact hq
  · by_cases h0 : j = 140
    · subst h0; cases h
    · have h3 : dsc cap j = dsc 0 j := by
        unfold dsc kEnd
        repeat' split
        all_goals first | rfl | (exfalso; omega)
      have := h2 j hj hq
      rw [← h3, h] at this
      cases this
theorem dsc_5 {cap j n : Nat} (hj : j < 141) (h : dsc cap j = .inr (5, n)) : j = 152 := by
  have h2 : ∀ j, j < 141 → j ≠ 152 → (match dsc 0 j with | .inr (t, _) => decide (t ≠ 5) | _ => true) = true := by decide +kernel
  by_cases hq : j = 152
  · exact hq
  · by_cases h0 : j = 140
    · subst h0; cases h
    · have h3 : dsc cap j = dsc 0 j := by
        unfold dsc kEnd
        repeat' split
        all_goals first | rfl | (exfalso; omega)
      have := h2 j hj hq
      rw [← h3, h] at this
      cases this
theorem toE_uV_ne {ad : Nat → Nat} {cy : Nat → ClassId} {av : Nat → Nat} {w : Wd} {i : Nat} {v : Option Nat} {j : Nat} (hj : j < 141) (h : j ≠ 136) : toE ad cy av (uV w i v) j = toE ad cy av w j := by
  unfold toE
  rw [gC_uV]
  cases hd : dsc (gC w) j with
  | inl x => show Sum.inr _ = Sum.inr _; rw [mkF_ne (w := w) (w' := uV w i v) (fun i => rfl)]
  | inr x =>
    obtain ⟨t, n⟩ := x
    show Sum.inl _ = Sum.inl _
    by_cases ht : t = 7
    · subst ht; exact absurd (dsc_7 hj hd) h
    · unfold mkA
      split
      all_goals first | rfl | exact absurd rfl ht
theorem toE_uD_ne {ad : Nat → Nat} {cy : Nat → ClassId} {av : Nat → Nat} {w : Wd} {i : Nat} {v : UInt64} {j : Nat} (hj : j < 141) (h : j ≠ 152) : toE ad cy av (uD w i v) j = toE ad cy av w j := by
  unfold toE
  rw [gC_uD]
  cases hd : dsc (gC w) j with
  | inl x => show Sum.inr _ = Sum.inr _; rw [mkF_ne (w := w) (w' := uD w i v) (fun i => rfl)]
  | inr x =>
    obtain ⟨t, n⟩ := x
    show Sum.inl _ = Sum.inl _
    by_cases ht : t = 5
    · subst ht; exact absurd (dsc_5 hj hd) h
    · unfold mkA
      split
      all_goals first | rfl | exact absurd rfl ht
