/-! what the written walks stand on -/
theorem inR_vp {i : Int32} {n : Nat} (h : inR i n = true) : vp_in i n := by
  unfold inR at h
  unfold vp_in
  simp only [Bool.not_eq_true', Bool.or_eq_false_iff, decide_eq_false_iff_not] at h
  exact fun z => z.elim h.1 h.2
theorem am_ifR {i : Int32} {n : Nat} {α : Type} {a : Option α} {x : α} (hF : (if inR i n then a else none) = some x) : vp_in i n ∧ a = some x := ⟨inR_vp (am_if hF).1, (am_if hF).2⟩
theorem am_ifN64 {r : UInt64} {α : Type} {a : Option α} {x : α} (hF : (if okN64 r then a else none) = some x) : vf_n64 r ∧ a = some x := ⟨of_decide_eq_true (p := r &&& 0x7fffffffffffffff ≤ 0x7ff0000000000000) (am_if hF).1, (am_if hF).2⟩
theorem am_ifN32 {r : UInt32} {α : Type} {a : Option α} {x : α} (hF : (if okN32 r then a else none) = some x) : vf_n32 r ∧ a = some x := ⟨of_decide_eq_true (p := r &&& 0x7fffffff ≤ 0x7f800000) (am_if hF).1, (am_if hF).2⟩
theorem am_zl {α β γ : Type} {a : α} {f : α → γ} {h : β → γ} {x : γ} (hF : zc (.inl a) f h = x) : f a = x := hF
theorem am_zr {α β γ : Type} {b : β} {f : α → γ} {h : β → γ} {x : γ} (hF : zc (.inr b) f h = x) : h b = x := hF
theorem am_u2 {a b r : Type} {x : a} {y : b} {f : a → b → r} {z : r} (h : u2 (x, y) f = z) : f x y = z := h
theorem am_u3 {a b c r : Type} {x : a} {y : b} {v : c} {f : a → b → c → r} {z : r} (h : u3 (x, y, v) f = z) : f x y v = z := h
theorem am_u4 {a b c d r : Type} {x : a} {y : b} {v : c} {w : d} {f : a → b → c → d → r} {z : r} (h : u4 (x, y, v, w) f = z) : f x y v w = z := h
theorem am_u5 {a b c d e r : Type} {x : a} {y : b} {v : c} {w : d} {u : e} {f : a → b → c → d → e → r} {z : r} (h : u5 (x, y, v, w, u) f = z) : f x y v w u = z := h
theorem am_u6 {a b c d e g r : Type} {x : a} {y : b} {v : c} {w : d} {u : e} {t : g} {f : a → b → c → d → e → g → r} {z : r} (h : u6 (x, y, v, w, u, t) f = z) : f x y v w u t = z := h
theorem am_u7 {a b c d e g i r : Type} {x : a} {y : b} {v : c} {w : d} {u : e} {t : g} {s : i} {f : a → b → c → d → e → g → i → r} {z : r} (h : u7 (x, y, v, w, u, t, s) f = z) : f x y v w u t s = z := h
theorem am_wl {α : Type} {x : Wd} {f : Wd → α} {z : α} (h : wl x f = z) : ∃ y, y = x ∧ f y = z := ⟨x, rfl, h⟩
theorem AH_eq {G : GG} {H0 : Heap} {x y : Wd} {ab : Nat} {H : Heap} {locs : List Loc} (h : y = x) (hh : AH G H0 x ab H locs) : AH G H0 y ab H locs := by rw [h]; exact hh
theorem am_opt {α β : Type} {o : Option α} {n : β} {f : α → β} {x : β} (h : mo o n f = x) : (o = none ∧ n = x) ∨ ∃ k, o = some k ∧ f k = x := by
  cases o with
  | none => exact Or.inl ⟨rfl, h⟩
  | some k => exact Or.inr ⟨k, rfl, h⟩
theorem am_zw {τ : Type} {z0 : Nat ⊕ τ} {k : Nat} {w w1 : Wd} (h : some ((Sum.inl k : Nat ⊕ τ), w) = some (z0, w1)) : z0 = .inl k ∧ w1 = w := by cases h; exact ⟨rfl, rfl⟩
theorem am_zp {τ : Type} {z0 : Nat ⊕ τ} {k : Nat} (h : some (Sum.inl k : Nat ⊕ τ) = some z0) : z0 = .inl k := by cases h; rfl
theorem am_qp {G : GG} {τ : Type} {mk : τ → Option Value} {v r0 : τ} {w : Wd} {args : Array Value} {s t : State} (h : some v = some r0) (ht : RelP G w t ∧ va_F (gA G) s t) : amQ G (mk r0) w args s (.returned (mk v)) t := by cases h; exact ⟨rfl, ht⟩
theorem am_qw {G : GG} {τ : Type} {mk : τ → Option Value} {v r0 : τ} {w w1 : Wd} {args : Array Value} {s t : State} (h : some (v, w) = some (r0, w1)) (ht : RelP G w t ∧ va_F (gA G) s t) : amQ G (mk r0) w1 args s (.returned (mk v)) t := by cases h; exact ⟨rfl, ht⟩
theorem am_qv {G : GG} {w w1 : Wd} {args : Array Value} {s t : State} (h : some w = some w1) (ht : RelP G w t ∧ va_F (gA G) s t) : amQ G none w1 args s (.returned none) t := by cases h; exact ⟨rfl, ht⟩
theorem am_qpX {G : GG} {τ : Type} {mk : τ → Option Value} {v : τ} {z0 : Nat ⊕ τ} {w : Wd} {args : Array Value} {s t : State} (h : some (Sum.inr v : Nat ⊕ τ) = some z0) (ht : RelP G w t ∧ va_F (gA G) s t) : amR G mk z0 w args s (.returned (mk v)) t := by cases h; exact ⟨⟨v, rfl, rfl⟩, ht⟩
theorem am_qwX {G : GG} {τ : Type} {mk : τ → Option Value} {v : τ} {z0 : Nat ⊕ τ} {w w1 : Wd} {args : Array Value} {s t : State} (h : some ((Sum.inr v : Nat ⊕ τ), w) = some (z0, w1)) (ht : RelP G w t ∧ va_F (gA G) s t) : amR G mk z0 w1 args s (.returned (mk v)) t := by cases h; exact ⟨⟨v, rfl, rfl⟩, ht⟩
def EXN : List String := ["java/lang/RuntimeException", "java/lang/Exception"]
theorem ng_0 (own : String) (ic : Nat) : (vx_at0 own ic (exN 0) ["java/lang/RuntimeException", "java/lang/Exception"]).filter (fun q => !goodWord q) = [.declares (Bundle.init0 "java/lang/RuntimeException"), .declares (Bundle.init0 "java/lang/Exception"), .declares (Bundle.init0 Bundle.tN), .castable (exN 0) (exN 0)] := by rfl
theorem ng_1 (own : String) (ic : Nat) : (vx_at0 own ic (exN 1) ["java/lang/RuntimeException", "java/lang/Exception"]).filter (fun q => !goodWord q) = [.declares (Bundle.init0 "java/lang/RuntimeException"), .declares (Bundle.init0 "java/lang/Exception"), .declares (Bundle.init0 Bundle.tN), .castable (exN 1) (exN 1)] := by rfl
theorem ng_2 (own : String) (ic : Nat) : (vx_at0 own ic (exN 2) ["java/lang/RuntimeException", "java/lang/Exception"]).filter (fun q => !goodWord q) = [.declares (Bundle.init0 "java/lang/RuntimeException"), .declares (Bundle.init0 "java/lang/Exception"), .declares (Bundle.init0 Bundle.tN), .castable (exN 2) (exN 2)] := by rfl
theorem ng_3 (own : String) (ic : Nat) : (vx_at0 own ic (exN 3) ["java/lang/RuntimeException", "java/lang/Exception"]).filter (fun q => !goodWord q) = [.declares (Bundle.init0 "java/lang/RuntimeException"), .declares (Bundle.init0 "java/lang/Exception"), .declares (Bundle.init0 Bundle.tN), .castable (exN 3) (exN 3)] := by rfl
theorem ng_4 (own : String) (ic : Nat) : (vx_at0 own ic (exN 4) ["java/lang/RuntimeException", "java/lang/Exception"]).filter (fun q => !goodWord q) = [.declares (Bundle.init0 "java/lang/RuntimeException"), .declares (Bundle.init0 "java/lang/Exception"), .declares (Bundle.init0 Bundle.tN), .castable (exN 4) (exN 4)] := by rfl
theorem ng_5 (own : String) (ic : Nat) : (vx_at0 own ic (exN 5) ["java/lang/RuntimeException", "java/lang/Exception"]).filter (fun q => !goodWord q) = [.declares (Bundle.init0 "java/lang/RuntimeException"), .declares (Bundle.init0 "java/lang/Exception"), .declares (Bundle.init0 Bundle.tN), .castable (exN 5) (exN 5)] := by rfl
theorem ot_of {L : List Cond} (h : L.all vx_ot = true) : ∀ q ∈ L, vx_ot q = true := fun q hq => List.all_eq_true.mp h q hq
theorem ot_0 (own : String) (ic : Nat) : ∀ q ∈ vx_at0 own ic (exN 0) ["java/lang/RuntimeException", "java/lang/Exception"], vx_ot q = true := ot_of (by rfl)
theorem ot_1 (own : String) (ic : Nat) : ∀ q ∈ vx_at0 own ic (exN 1) ["java/lang/RuntimeException", "java/lang/Exception"], vx_ot q = true := ot_of (by rfl)
theorem ot_2 (own : String) (ic : Nat) : ∀ q ∈ vx_at0 own ic (exN 2) ["java/lang/RuntimeException", "java/lang/Exception"], vx_ot q = true := ot_of (by rfl)
theorem ot_3 (own : String) (ic : Nat) : ∀ q ∈ vx_at0 own ic (exN 3) ["java/lang/RuntimeException", "java/lang/Exception"], vx_ot q = true := ot_of (by rfl)
theorem ot_4 (own : String) (ic : Nat) : ∀ q ∈ vx_at0 own ic (exN 4) ["java/lang/RuntimeException", "java/lang/Exception"], vx_ot q = true := ot_of (by rfl)
theorem ot_5 (own : String) (ic : Nat) : ∀ q ∈ vx_at0 own ic (exN 5) ["java/lang/RuntimeException", "java/lang/Exception"], vx_ot q = true := ot_of (by rfl)
section AML
variable {p : Program} {l : Launch} {e : Env} {R : Room} {s : State} {m : MethodId} {args : Array Value} {below : List Frame} {meth : Method} {c : Code} {H : Heap} {locs : List Loc} {cells slots : Nat} {Q : State → Prop} {G : GG} {w : Wd} {ab : Nat} {cc : ByteArray} {pc nL : Nat} {ls : Array Slot} {rest : List Value} {own : String} {Ts : List Cond}
theorem am_sw_in {x : Int32} {lo : Int} {n : Nat} (h1 : ¬ x.toInt < lo) (h2 : ¬ lo + n - 1 < x.toInt) : ∃ k, k < n ∧ x = Int32.ofInt (lo + (k : Nat)) := by
  refine ⟨(x.toInt - lo).toNat, by omega, ?_⟩
  rw [show lo + (((x.toInt - lo).toNat : Nat) : Int) = x.toInt by omega, Int32.ofInt_toInt]
theorem am_tableIn (hexec : p.tables.exec = Jvm.exec) (hb : c.code = cc) {dflt lo hi : Int} {offs : Array Int} {len : Nat} {x v : Int32} {off : Int} {k tgt : Nat} (hdg : decode cc pc = .ok (.tableswitch dflt lo hi offs, len)) (hx : x = v) (hv : v.toInt = lo + k ∧ ¬ hi < v.toInt) (ho : offs[k]? = some off) (ht : (pc : Int) + off = (tgt : Int))
    (kk : W p l e R s m args below meth c H locs cells slots Q (F0 m tgt ls rest)) : W p l e R s m args below meth c H locs cells slots Q (F0 m pc ls (.int x :: rest)) := by
  subst hx
  refine lv_tableIn hexec hb hdg (by omega) hv.2 ?_ ht kk
  rw [show (x.toInt - lo).toNat = k by omega]
  exact ho
theorem am_tableD {keys : List Int32} (hexec : p.tables.exec = Jvm.exec) (hb : c.code = cc) {dflt lo hi : Int} {offs : Array Int} {len : Nat} {x : Int32} {tgt : Nat} (hdg : decode cc pc = .ok (.tableswitch dflt lo hi offs, len)) (hk : ∀ k ∈ keys, ¬ x = k) (hall : ((List.range offs.size).all (fun k => decide (Int32.ofInt (lo + (k : Nat)) ∈ keys) || decide (offs[k]? = some dflt && (Int32.ofInt (lo + (k : Nat))).toInt = lo + (k : Nat)))) = true) (hsz : hi = lo + offs.size - 1) (ht : (pc : Int) + dflt = (tgt : Int))
    (kk : W p l e R s m args below meth c H locs cells slots Q (F0 m tgt ls rest)) : W p l e R s m args below meth c H locs cells slots Q (F0 m pc ls (.int x :: rest)) := by
  by_cases h : x.toInt < lo ∨ hi < x.toInt
  · exact lv_tableOut hexec hb hdg h ht kk
  · obtain ⟨k, hkn, hxk⟩ := am_sw_in (x := x) (lo := lo) (n := offs.size) (fun z => h (Or.inl z)) (fun z => h (Or.inr (by omega)))
    have h1 := List.all_eq_true.mp hall k (List.mem_range.mpr hkn)
    simp only [Bool.or_eq_true, decide_eq_true_eq, Bool.and_eq_true] at h1
    rcases h1 with h1 | h1
    · exact absurd hxk (hk _ h1)
    · refine lv_tableIn hexec hb hdg (fun z => h (Or.inl z)) (fun z => h (Or.inr z)) (off := dflt) ?_ ht kk
      have h2 : x.toInt = lo + (k : Nat) := by rw [hxk]; exact h1.2
      rw [show (x.toInt - lo).toNat = k by omega]
      exact h1.1
theorem am_lcmp_eq (hexec : p.tables.exec = Jvm.exec) (hb : c.code = cc) {x y : Int64} {off : Int} {tgt : Nat} (hdg : decode cc pc = .ok (.lcmp, 1)) (hdg2 : decode cc (pc + 1) = .ok (.ifCond .eq off, 3)) (ht : ((pc + 1 : Nat) : Int) + off = (tgt : Int))
    (kt : x = y → W p l e R s m args below meth c H locs cells slots Q (F0 m tgt ls rest)) (kf : ¬ x = y → W p l e R s m args below meth c H locs cells slots Q (F0 m (pc + 1 + 3) ls rest)) : W p l e R s m args below meth c H locs cells slots Q (F0 m pc ls (.long y :: .long x :: rest)) := by
  refine W.lcmp hexec hb hdg (lv_if_eq hexec hb hdg2 ht (fun h => kt ?_) (fun h => kf ?_))
  · exact (lg_cmp_eq _ _).mp h
  · exact fun z => h ((lg_cmp_eq _ _).mpr z)
theorem am_lcmp_ne (hexec : p.tables.exec = Jvm.exec) (hb : c.code = cc) {x y : Int64} {off : Int} {tgt : Nat} (hdg : decode cc pc = .ok (.lcmp, 1)) (hdg2 : decode cc (pc + 1) = .ok (.ifCond .ne off, 3)) (ht : ((pc + 1 : Nat) : Int) + off = (tgt : Int))
    (kt : ¬ x = y → W p l e R s m args below meth c H locs cells slots Q (F0 m tgt ls rest)) (kf : x = y → W p l e R s m args below meth c H locs cells slots Q (F0 m (pc + 1 + 3) ls rest)) : W p l e R s m args below meth c H locs cells slots Q (F0 m pc ls (.long y :: .long x :: rest)) := by
  refine W.lcmp hexec hb hdg (lv_if_ne hexec hb hdg2 ht (fun h => kt ?_) (fun h => kf ?_))
  · exact fun z => h ((lg_cmp_eq _ _).mpr z)
  · exact (lg_cmp_eq _ _).mp h
theorem am_lcmp_lt (hexec : p.tables.exec = Jvm.exec) (hb : c.code = cc) {x y : Int64} {off : Int} {tgt : Nat} (hdg : decode cc pc = .ok (.lcmp, 1)) (hdg2 : decode cc (pc + 1) = .ok (.ifCond .lt off, 3)) (ht : ((pc + 1 : Nat) : Int) + off = (tgt : Int))
    (kt : x < y → W p l e R s m args below meth c H locs cells slots Q (F0 m tgt ls rest)) (kf : ¬ x < y → W p l e R s m args below meth c H locs cells slots Q (F0 m (pc + 1 + 3) ls rest)) : W p l e R s m args below meth c H locs cells slots Q (F0 m pc ls (.long y :: .long x :: rest)) := by
  refine W.lcmp hexec hb hdg (lv_if_lt hexec hb hdg2 ht (fun h => kt ?_) (fun h => kf ?_))
  · exact (lg_cmp_lt _ _).mp h
  · exact fun z => h ((lg_cmp_lt _ _).mpr z)
theorem am_lcmp_ge (hexec : p.tables.exec = Jvm.exec) (hb : c.code = cc) {x y : Int64} {off : Int} {tgt : Nat} (hdg : decode cc pc = .ok (.lcmp, 1)) (hdg2 : decode cc (pc + 1) = .ok (.ifCond .ge off, 3)) (ht : ((pc + 1 : Nat) : Int) + off = (tgt : Int))
    (kt : y ≤ x → W p l e R s m args below meth c H locs cells slots Q (F0 m tgt ls rest)) (kf : ¬ y ≤ x → W p l e R s m args below meth c H locs cells slots Q (F0 m (pc + 1 + 3) ls rest)) : W p l e R s m args below meth c H locs cells slots Q (F0 m pc ls (.long y :: .long x :: rest)) := by
  refine W.lcmp hexec hb hdg (lv_if_ge hexec hb hdg2 ht (fun h => kt ?_) (fun h => kf ?_))
  · exact (lg_cmp_ge _ _).mp h
  · exact fun z => h ((lg_cmp_ge _ _).mpr z)
theorem am_lcmp_gt (hexec : p.tables.exec = Jvm.exec) (hb : c.code = cc) {x y : Int64} {off : Int} {tgt : Nat} (hdg : decode cc pc = .ok (.lcmp, 1)) (hdg2 : decode cc (pc + 1) = .ok (.ifCond .gt off, 3)) (ht : ((pc + 1 : Nat) : Int) + off = (tgt : Int))
    (kt : y < x → W p l e R s m args below meth c H locs cells slots Q (F0 m tgt ls rest)) (kf : ¬ y < x → W p l e R s m args below meth c H locs cells slots Q (F0 m (pc + 1 + 3) ls rest)) : W p l e R s m args below meth c H locs cells slots Q (F0 m pc ls (.long y :: .long x :: rest)) := by
  refine W.lcmp hexec hb hdg (lv_if_gt hexec hb hdg2 ht (fun h => kt ?_) (fun h => kf ?_))
  · exact (lg_cmp_gt _ _).mp h
  · exact fun z => h ((lg_cmp_gt _ _).mpr z)
theorem am_lcmp_le (hexec : p.tables.exec = Jvm.exec) (hb : c.code = cc) {x y : Int64} {off : Int} {tgt : Nat} (hdg : decode cc pc = .ok (.lcmp, 1)) (hdg2 : decode cc (pc + 1) = .ok (.ifCond .le off, 3)) (ht : ((pc + 1 : Nat) : Int) + off = (tgt : Int))
    (kt : x ≤ y → W p l e R s m args below meth c H locs cells slots Q (F0 m tgt ls rest)) (kf : ¬ x ≤ y → W p l e R s m args below meth c H locs cells slots Q (F0 m (pc + 1 + 3) ls rest)) : W p l e R s m args below meth c H locs cells slots Q (F0 m pc ls (.long y :: .long x :: rest)) := by
  refine W.lcmp hexec hb hdg (lv_if_le hexec hb hdg2 ht (fun h => kt ?_) (fun h => kf ?_))
  · exact (lg_cmp_le _ _).mp h
  · exact fun z => h ((lg_cmp_le _ _).mpr z)
theorem st_ne {b : Nat} (h : isSt b) (r : Nat) (hr : r < 11) : b + r ≠ 140 := by
  rcases h with h | h | h | ⟨i, hi, h⟩ <;> omega
theorem adx_st {ad : Nat → Nat} {ab b : Nat} (h : isSt b) (r : Nat) (hr : r < 11) : adx ad ab (b + r) = ad (b + r) := by
  unfold adx
  rw [if_neg (st_ne h r hr)]
theorem adx_b {ad : Nat → Nat} {ab b : Nat} (h : isSt b) : adx ad ab b = ad b := adx_st h 0 (by decide)
/-- a thing that is a row of longs -/
def isLA (k n : Nat) : Prop := k < 141 ∧ k ≠ 140 ∧ ∀ cap, dsc cap k = .inr (1, n)
theorem la_of {k n : Nat} (h1 : k < 141) (h2 : k ≠ 140) (h3 : ∀ cap, dsc cap k = .inr (1, n)) : isLA k n := ⟨h1, h2, h3⟩
theorem adx_la {ad : Nat → Nat} {ab k n : Nat} (h : isLA k n) : adx ad ab k = ad k := by
  unfold adx
  rw [if_neg h.2.1]
theorem vp_lt {x : Int32} {n : Nat} (h : vp_in x n) : x.toNatClampNeg < n := by
  have h1 : ¬ n ≤ x.toNatClampNeg := fun z => h (Or.inr z)
  omega
theorem am_preVg (X : CX G p s m args meth c cc nL own Ts) (hh : AH G s.heap w ab H locs) (k ci : Nat) {ks : List (Option Nat)} (hk : k < 141) (hd : dsc (gC w) k = .inl (ci, ks)) (hne : k ≠ 140) {q : vw_C} (hc : vwCl[ci]? = some q) {As : List Value} : PreV s H q.1 (gAd G k) (va_Pc (.ref (gAd G k) :: As) (Rel G w)) As := by
  have h := am_preV X hh k ci hk hd hc (As := As)
  have e : adx (gAd G) ab k = gAd G k := by unfold adx; rw [if_neg hne]
  rw [e] at h
  exact h
theorem am_alds (X : CX G p s m args meth c cc nL own Ts) (hh : AH G s.heap w ab H locs) (k : Nat) {n : Nat} (hk : k < 141) (hd : dsc (gC w) k = .inr (6, n)) {i : Int32} (hin : vp_in i n) (hdg : decode cc pc = .ok (.aaload, 1))
    (kk : W p l e R s m args below meth c H locs cells slots Q (F0 m (pc + 1) ls (.ref (gAd G (36 + 11 * i.toNatClampNeg)) :: rest))) : W p l e R s m args below meth c H locs cells slots Q (F0 m pc ls (.int i :: .ref (adx (gAd G) ab k) :: rest)) := by
  refine va_aldq X.1.1 X.1.2.1 X.2.1 hh.1 k 6 (ws_arr hk hd rfl) rfl hin hdg ?_
  have ea : adx (gAd G) ab (36 + 11 * i.toNatClampNeg) = gAd G (36 + 11 * i.toNatClampNeg) := by unfold adx; rw [if_neg (by omega)]
  show W p l e R s m args below meth c H locs cells slots Q (F0 m (pc + 1) ls (.ref (adx (gAd G) ab (36 + 11 * i.toNatClampNeg)) :: rest))
  rw [ea]
  exact kk
theorem am_aldv (X : CX G p s m args meth c cc nL own Ts) (hh : AH G s.heap w ab H locs) (k : Nat) {n : Nat} (hk : k < 141) (hd : dsc (gC w) k = .inr (7, n)) {i : Int32} (hin : vp_in i n) (hdg : decode cc pc = .ok (.aaload, 1))
    (kk : W p l e R s m args below meth c H locs cells slots Q (F0 m (pc + 1) ls (va_rf ((gV w i.toNatClampNeg).map (gVb G)) :: rest))) : W p l e R s m args below meth c H locs cells slots Q (F0 m pc ls (.int i :: .ref (adx (gAd G) ab k) :: rest)) :=
  va_aldq X.1.1 X.1.2.1 X.2.1 hh.1 k 7 (ws_arr hk hd rfl) rfl hin hdg kk
/-- loads and stores of what may be null -/
theorem lv_aload_nQ (hexec : p.tables.exec = Jvm.exec) (hb : c.code = cc) {k : Fin 4} {i : Nat} {v : Option Nat} (hdg : decode cc pc = .ok (.aload_n k, 1)) (hi : (k : Nat) = i) (hl : ls[i]? = some (.val (va_rf v)))
    (kk : W p l e R s m args below meth c H locs cells slots Q (F0 m (pc + 1) ls (va_rf v :: rest))) : W p l e R s m args below meth c H locs cells slots Q (F0 m pc ls rest) := by
  cases v with
  | none => exact lv_aload_nN hexec hb hdg hi hl kk
  | some a => exact lv_aload_n hexec hb hdg hi hl kk
theorem lv_aloadQ (hexec : p.tables.exec = Jvm.exec) (hb : c.code = cc) {i : Nat} {v : Option Nat} (hdg : decode cc pc = .ok (.aload i, 2)) (hl : ls[i]? = some (.val (va_rf v)))
    (kk : W p l e R s m args below meth c H locs cells slots Q (F0 m (pc + 2) ls (va_rf v :: rest))) : W p l e R s m args below meth c H locs cells slots Q (F0 m pc ls rest) := by
  cases v with
  | none => exact lv_aloadN hexec hb hdg hl kk
  | some a => exact lv_aload hexec hb hdg hl kk
theorem cat_rf (v : Option Nat) : (va_rf v).category = 1 := by cases v <;> rfl
theorem lv_astore_nQ (hexec : p.tables.exec = Jvm.exec) (hb : c.code = cc) {k : Fin 4} {i nL : Nat} {v : Option Nat} {lv lv' : List (Nat × Value)} (hdg : decode cc pc = .ok (.astore_n k, 1)) (hi : (k : Nat) = i) (h : lv_has ls nL lv) (hn : i < nL) (hl : (i, va_rf v) :: lv.filter (fun q => !(q.1 == i) && !(q.1 + 1 == i && q.2.category == 2)) = lv')
    (kk : ∀ ls' : Array Slot, lv_has ls' nL lv' → W p l e R s m args below meth c H locs cells slots Q (F0 m (pc + 1) ls' rest)) : W p l e R s m args below meth c H locs cells slots Q (F0 m pc ls (va_rf v :: rest)) := by
  cases v with
  | none => exact lv_astore_nN hexec hb hdg hi h hn hl kk
  | some a => exact lv_astore_n hexec hb hdg hi h hn hl kk
theorem lv_astoreQ (hexec : p.tables.exec = Jvm.exec) (hb : c.code = cc) {i nL : Nat} {v : Option Nat} {lv lv' : List (Nat × Value)} (hdg : decode cc pc = .ok (.astore i, 2)) (h : lv_has ls nL lv) (hn : i < nL) (hl : (i, va_rf v) :: lv.filter (fun q => !(q.1 == i) && !(q.1 + 1 == i && q.2.category == 2)) = lv')
    (kk : ∀ ls' : Array Slot, lv_has ls' nL lv' → W p l e R s m args below meth c H locs cells slots Q (F0 m (pc + 2) ls' rest)) : W p l e R s m args below meth c H locs cells slots Q (F0 m pc ls (va_rf v :: rest)) := by
  cases v with
  | none => exact lv_astoreN hexec hb hdg h hn hl kk
  | some a => exact lv_astore hexec hb hdg h hn hl kk
end AML
