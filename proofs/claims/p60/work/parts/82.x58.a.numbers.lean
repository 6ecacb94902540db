/-! NUMBERS WITH A POINT: never none -/
def Fin64 (n : Nat) : Prop := n < 18446744073709551616 ∧ n % 9223372036854775808 ≤ 9218868437227405312
theorem as64 (s : Bool) {e t : Nat} (he : e ≤ 2046) (ht : t < 4503599627370496) : Fin64 (FP.Core.assemble FP.Core.b64 s e t) := by
  have h : FP.Core.assemble FP.Core.b64 s e t = (s.toNat * 2048 + e) * 4503599627370496 + t := rfl
  have hs : s.toNat = 0 ∨ s.toNat = 1 := by cases s <;> simp
  unfold Fin64
  rw [h]
  omega
theorem as64i (s : Bool) : Fin64 (FP.Core.assemble FP.Core.b64 s (FP.Core.b64.exps - 1) 0) := by cases s <;> (unfold Fin64; decide +kernel)
theorem en64 {s : Bool} {c : Nat} {q : Int} (hc : c < 9007199254740992) (hq : -1074 ≤ q) : Fin64 (FP.Core.encode FP.Core.b64 (FP.Core.bound FP.Core.b64 s c q)) := by
  unfold FP.Core.bound
  have e1 : FP.Core.b64.qmax = 971 := by decide +kernel
  have e2 : FP.Core.b64.qmin = -1074 := by decide +kernel
  have e3 : FP.Core.b64.tails = 4503599627370496 := by decide +kernel
  rw [e1]
  split
  · show Fin64 (if c < FP.Core.b64.tails then FP.Core.assemble FP.Core.b64 s 0 c else FP.Core.assemble FP.Core.b64 s ((q - FP.Core.b64.qmin).toNat + 1) (c - FP.Core.b64.tails))
    rw [e2, e3]
    split
    · exact as64 s (by omega) (by omega)
    · exact as64 s (by omega) (by omega)
  · exact as64i s
theorem rr64 (s : Bool) (num den : Nat) (e : Int) : Fin64 (FP.Core.encode FP.Core.b64 (FP.Core.roundRatio FP.Core.b64 s num den e)) := by
  unfold FP.Core.roundRatio
  have e2 : FP.Core.b64.qmin = -1074 := by decide +kernel
  have e3 : FP.Core.b64.tails = 4503599627370496 := by decide +kernel
  split
  · have k : FP.Core.encode FP.Core.b64 (.fin s 0 FP.Core.b64.qmin) = FP.Core.assemble FP.Core.b64 s 0 0 := by
      show (if (0 : Nat) < FP.Core.b64.tails then FP.Core.assemble FP.Core.b64 s 0 0 else FP.Core.assemble FP.Core.b64 s ((FP.Core.b64.qmin - FP.Core.b64.qmin).toNat + 1) (0 - FP.Core.b64.tails)) = _
      rw [if_pos (by rw [e3]; decide)]
    rw [k]
    exact as64 s (by decide) (by decide)
  · unfold FP.Core.roundAt FP.Core.settle
    have hq : -1074 ≤ FP.Core.quantum FP.Core.b64 num den e := by
      unfold FP.Core.quantum
      rw [e2]
      exact Int.le_max_left _ _
    generalize FP.Core.quantum FP.Core.b64 num den e = q at hq
    generalize FP.Core.nearest _ _ = c
    split
    · rename_i h
      have h : c < 2 ^ 53 := h
      exact en64 (by omega) hq
    · rw [e3]
      exact en64 (by decide) (by omega)
theorem de64 {n : Nat} (h : Fin64 n) : FP.Core.decode FP.Core.b64 n ≠ .nan := by
  unfold FP.Core.decode
  have e3 : FP.Core.b64.tails = 4503599627370496 := by decide +kernel
  have e4 : FP.Core.b64.exps = 2048 := by decide +kernel
  unfold FP.Core.fieldE FP.Core.fieldT Fin64 at *
  rw [e3, e4]
  split
  · split
    · exact fun z => by cases z
    · omega
  · split <;> exact fun z => by cases z
theorem qu64 {x y : FP.Core.Datum} {t : Bool} {d : Nat} {r : Int} (hx : x ≠ .nan) (hy : y = .fin t d r) (hd : d ≠ 0) : Fin64 (FP.Core.encode FP.Core.b64 (FP.Core.quotient FP.Core.b64 x y)) := by
  subst hy
  cases x with
  | nan => exact absurd rfl hx
  | inf s => exact as64i _
  | fin s c q =>
    show Fin64 (FP.Core.encode FP.Core.b64 (if d = 0 then (if c = 0 then .nan else .inf (s != t)) else FP.Core.roundRatio FP.Core.b64 (s != t) c d (q - r)))
    rw [if_neg hd]
    exact rr64 _ _ _ _
theorem fi64 (i : Int) : Fin64 (FP.Core.fromInt FP.Core.b64 i) := rr64 _ _ _ _
theorem ok64 {r : UInt64} (h : Fin64 r.toNat) : okN64 r = true := by
  unfold okN64
  have k : (r &&& 0x7fffffffffffffff).toNat = r.toNat % 2 ^ 63 := by
    rw [UInt64.toNat_and]
    exact Nat.and_two_pow_sub_one_eq_mod r.toNat 63
  refine decide_eq_true ?_
  rw [UInt64.le_iff_toNat_le, k]
  exact h.2
theorem cmp64 {r : UInt64} (h : Fin64 r.toNat) : FP.dcmp r r = some .eq := by
  have k := de64 h
  show FP.Core.order (FP.Core.decode FP.Core.b64 r.toNat) (FP.Core.decode FP.Core.b64 r.toNat) = _
  generalize FP.Core.decode FP.Core.b64 r.toNat = d at k
  cases d with
  | nan => exact absurd rfl k
  | inf s => show some (compare (FP.Core.signed s 1) (FP.Core.signed s 1)) = _; simp
  | fin s c q => show some (compare _ _) = _; simp
theorem dd64 {a b : UInt64} {t : Bool} {d : Nat} {r : Int} (ha : Fin64 a.toNat) (hb : FP.Core.decode FP.Core.b64 b.toNat = .fin t d r) (hd : d ≠ 0) : Fin64 (FP.ddiv a b).toNat := by
  have k := qu64 (de64 ha) hb hd
  have e : (FP.ddiv a b).toNat = FP.Core.encode FP.Core.b64 (FP.Core.quotient FP.Core.b64 (FP.Core.decode FP.Core.b64 a.toNat) (FP.Core.decode FP.Core.b64 b.toNat)) := by
    show (UInt64.ofNat _).toNat = _
    rw [UInt64.toNat_ofNat']
    exact Nat.mod_eq_of_lt k.1
  rw [e]
  exact k
theorem l264 (a : Int64) : Fin64 (FP.l2d a).toNat := by
  have k := fi64 a.toInt
  have e : (FP.l2d a).toNat = FP.Core.fromInt FP.Core.b64 a.toInt := by
    show (UInt64.ofNat _).toNat = _
    rw [UInt64.toNat_ofNat']
    exact Nat.mod_eq_of_lt k.1
  rw [e]
  exact k
theorem i2l64 {z : Int} (h1 : -2147483648 ≤ z) (h2 : z < 2147483648) : FP.i2d (jI z) = FP.l2d (jL z) := by
  show UInt64.ofNat (FP.Core.fromInt FP.Core.b64 (jI z).toInt) = UInt64.ofNat (FP.Core.fromInt FP.Core.b64 (jL z).toInt)
  rw [jI_toInt h1 h2, jL_toInt (by omega) (by omega)]
theorem cv_eq : (Op.cmpValue (some Ordering.eq) .l) = 0 := rfl
/-! THE LAW over them -/
theorem Sm.wD {K : Nat → Prop} (w : Wd) {i : Nat} {v : UInt64} : Sm K w (uD w i v) := ⟨fun _ _ => ⟨rfl, rfl⟩, fun _ => rfl, fun _ => rfl⟩
theorem InvC.read' {w : Wd} {T : TS} {v : Int32} (h : InvC w T) : InvC (uI w 141 12 v) T := h.kept (Sm.wI w (by unfold KJ; omega))
theorem InvR.read' {w : Wd} {T : TS} (h : InvR w T) (v : Int32) : InvR (uI w 141 12 v) T := h.read (Sm.wI w (by unfold KN; omega)) (fun i hi _ _ => by rw [gI_uI, if_neg (fun z => hi z.2)])
theorem lawQF {w : Wd} {T : TS} {L : Option (Int32 × Wd)} {M : Wd → Option (UInt64 × Wd)} {c : Int} {v : UInt64} (hG : InvG T) (hC : InvC w T) (hR : InvR w T) (c0 : 0 ≤ c) (c1 : c < 100) (hL : (c = 0 ∧ Fin64 v.toNat ∧ L = some (jI 0, uD w 0 v)) ∨ (c ≠ 0 ∧ L = some (jI c, w))) (hM : ∀ w', InvR w' T → ∃ r, M w' = some (r, uI w' 141 12 (jI c)) ∧ (c = 0 → r = v)) : ∃ w1, (L.bind fun z => u2 z fun r2 w3 => ((M w3).bind fun z => u2 z fun r5 w6 => ((f_X11_thrown w6).bind fun r8 => (if r8 = r2 then (if r2 = 0 then (if inR (0 : Int32) 1 then (if (Op.cmpValue (FP.dcmp (gD w6 ((0 : Int32)).toNatClampNeg) r5) .l) = 0 then (some w6) else (if inR (0 : Int32) 1 then (if inR (0 : Int32) 1 then (if (Op.cmpValue (FP.dcmp (gD w6 ((0 : Int32)).toNatClampNeg) (gD w6 ((0 : Int32)).toNatClampNeg)) .l) = 0 then none else (if (Op.cmpValue (FP.dcmp r5 r5) .l) = 0 then none else (some w6))) else none) else none)) else none) else (some w6)) else none)))) = some w1 ∧ Inv w1 := by
  rcases hL with ⟨rfl, hv, hL⟩ | ⟨q, hL⟩
  · obtain ⟨r, hm, k⟩ := hM (uD w 0 v) (hR.read (Sm.wD w) (fun _ _ _ _ => rfl))
    refine ⟨uI (uD w 0 v) 141 12 (jI 0), ?_, T, hG, (hC.read (Sm.wD w)).read' , (hR.read (Sm.wD w) (fun _ _ _ _ => rfl)).read' _⟩
    rw [hL, bs_p, u2_p, hm, bs_p, u2_p, k rfl]
    unfold f_X11_thrown
    have hgi : gI (uI (uD w 0 v) 141 12 (jI 0)) 141 12 = jI 0 := by rw [gI_uI, if_pos ⟨rfl, rfl⟩]
    rw [bs_p, hgi, if_pos rfl, if_pos (show jI 0 = 0 from rfl), if_pos (show inR (0 : Int32) 1 = true by decide +kernel)]
    have e : gD (uI (uD w 0 v) 141 12 (jI 0)) ((0 : Int32)).toNatClampNeg = v := by
      show (if (0 : Nat) = 0 then v else gD w 0) = v
      exact if_pos rfl
    rw [e, cmp64 hv]
    exact if_pos cv_eq
  · obtain ⟨r, hm, k⟩ := hM w hR
    refine ⟨uI w 141 12 (jI c), ?_, T, hG, hC.read', hR.read' _⟩
    rw [hL, bs_p, u2_p, hm, bs_p, u2_p]
    unfold f_X11_thrown
    have hgi : gI (uI w 141 12 (jI c)) 141 12 = jI c := by rw [gI_uI, if_pos ⟨rfl, rfl⟩]
    rw [bs_p, hgi, if_pos rfl]
    exact if_neg (fun z => q (by rw [show (0 : Int32) = jI 0 from rfl, jI_eq (by omega) (by omega) (by omega) (by omega)] at z; exact z))
theorem ap64 (a : Int64) : Fin64 (FP.ddiv (FP.l2d a) (4762324188084043776 : UInt64)).toNat := by
  obtain ⟨t, d, r, h, hd⟩ : ∃ t d r, FP.Core.decode FP.Core.b64 (4762324188084043776 : UInt64).toNat = .fin t d r ∧ d ≠ 0 := ⟨_, _, _, rfl, by decide +kernel⟩
  exact dd64 (l264 a) h hd
theorem lq_anglePart {w : Wd} (h : Inv w) (x1 x2 x3 : Int32) : ∃ w1, f_law_1544 w x1 x2 x3 = some w1 ∧ Inv w1 := by
  obtain ⟨T, hG, hC, hR⟩ := h
  obtain ⟨x, rfl, xb1, xb2⟩ := jI_ex x1
  have hS := hG.1
  have hg := hS.1
  have c1 := hC.1
  unfold f_law_1544
  by_cases q : 0 ≤ x ∧ x < tS T 0
  · have ir : inR (jI x) 10 = true := by rw [inR_j (by omega) (by omega)]; omega
    have ir2 : inR ((16 : Int32) + jI x) 192 = true := by rw [l32_16, jI_add, inR_j (by omega) (by omega)]; omega
    have ci : (jI x).toNatClampNeg = x.toNat := jI_clamp (by omega) (by omega)
    have ci2 : ((16 : Int32) + jI x).toNatClampNeg = (16 + x).toNat := by rw [l32_16, jI_add, jI_clamp (by omega) (by omega)]
    have ok := ok64 (ap64 (jL (tS T (16 + x))))
    refine lawQF (c := 0) (v := FP.ddiv (FP.l2d (jL (tS T (16 + x)))) (4762324188084043776 : UInt64)) hG hC hR (by decide) (by decide) (Or.inl ⟨rfl, ap64 _, ?_⟩) (fun w' hR' => ⟨_, ?_, fun _ => rfl⟩)
    · unfold f_L_anglePart f_X10_anglePart
      rw [cg_T c1 hS q, bs_p, zr_p, if_pos ir, ci, c_a c1 x q.1 (by omega), if_pos ok, bs_p, zr_p, if_pos (show inR (0 : Int32) 1 = true by decide +kernel), wl_p]
      rfl
    · have k : gL (uI w' 141 12 (jI 0)) 142 (16 + x).toNat = jL (tS T (16 + x)) := r_g (u12 hR'.1) (16 + x) (by omega) (by omega)
      unfold f_X11_anglePart
      rw [s_rIsGear hR'.1 hS xb1 xb2, bs_p, if_neg (bz_n q)]
      show (wl (uI w' 141 12 (jI 0)) fun w8 => _) = _
      rw [wl_p, if_pos (by rw [gI_uI, if_pos ⟨rfl, rfl⟩]; decide +kernel), if_pos ir2, ci2, k, if_pos ok]
  · refine lawQF (c := 1) (v := 0) hG hC hR (by decide) (by decide) (Or.inr ⟨by decide, ?_⟩) (fun w' hR' => ⟨0, ?_, fun z => absurd z (by decide)⟩)
    · unfold f_L_anglePart f_X10_anglePart
      rw [cg_F c1 hS xb1 xb2 q, bs_p, zl_p, bs_p, zl_p, if_pos rfl]
      rfl
    · unfold f_X11_anglePart
      rw [s_rIsGear hR'.1 hS xb1 xb2, bs_p, if_pos (bz_z q)]
      show (wl (uI w' 141 12 (jI 1)) fun w8 => _) = _
      rw [wl_p, if_neg (by rw [gI_uI, if_pos ⟨rfl, rfl⟩]; decide +kernel)]
theorem mt_d : ∀ n : Nat, n < 11 → n ≠ 0 → ∃ t d r, FP.Core.decode FP.Core.b64 (FP.Core.fromInt FP.Core.b64 (n : Int)) = .fin t d r ∧ d ≠ 0 := by
  intro n h0 h1
  have k : n = 1 ∨ n = 2 ∨ n = 3 ∨ n = 4 ∨ n = 5 ∨ n = 6 ∨ n = 7 ∨ n = 8 ∨ n = 9 ∨ n = 10 := by omega
  rcases k with rfl | rfl | rfl | rfl | rfl | rfl | rfl | rfl | rfl | rfl
  all_goals exact ⟨_, _, _, rfl, by decide +kernel⟩
theorem mt64 (a : Int64) {n : Int} (n0 : 0 < n) (n1 : n ≤ 10) : Fin64 (FP.ddiv (FP.l2d a) (FP.l2d (jL n))).toNat := by
  obtain ⟨t, d, r, h, hd⟩ := mt_d n.toNat (by omega) (by omega)
  have k := fi64 n
  have e : (FP.l2d (jL n)).toNat = FP.Core.fromInt FP.Core.b64 n := by
    show (UInt64.ofNat (FP.Core.fromInt FP.Core.b64 (jL n).toInt)).toNat = _
    rw [UInt64.toNat_ofNat', jL_toInt (by omega) (by omega)]
    exact Nat.mod_eq_of_lt k.1
  rw [show ((n.toNat : Nat) : Int) = n by omega, ← e] at h
  exact dd64 (l264 a) h hd
theorem lq_meanTeeth {w : Wd} (h : Inv w) (x1 x2 x3 : Int32) : ∃ w1, f_law_2707 w x1 x2 x3 = some w1 ∧ Inv w1 := by
  obtain ⟨T, hG, hC, hR⟩ := h
  have hS := hG.1
  have hg := hS.1
  have c1 := hC.1
  have tb : ∀ i : Int, 0 ≤ i → i < 10 → 0 ≤ tS T (6 + i) ∧ tS T (6 + i) ≤ 60 := fun i i0 i1 => by
    have k := hS.2.1 i i0 i1
    by_cases q : i < tS T 0
    · have := tooth_b (k.1 q); omega
    · have := k.2.1 (by omega); omega
  have s0 := sm_lo (g := fun i => tS T (6 + i)) (c := 0) (n := 10) (fun i a b => (tb i a (by omega)).1)
  have s1 := sm_hi (g := fun i => tS T (6 + i)) (c := 60) (n := 10) (fun i a b => (tb i a (by omega)).2)
  have M : ∀ w', InvR w' T → p_X11_meanTeeth_4 w' 2000 (0 : Int64) (0 : Int32) = some (.inl (jL (sm (fun i => tS T (6 + i)) 10), jI 10)) := by
    intro w' hR'
    refine lpF (fun n (s : Int64 × Int32) => p_X11_meanTeeth_4 w' n s.1 s.2) 10 (fun i => (jL (sm (fun i => tS T (6 + i)) i), jI (i : Int))) _ (fun i n hi => ?_) (fun n => ?_) 2000 (by omega)
    · show p_X11_meanTeeth_4 w' (n + 1) (jL _) (jI (i : Int)) = p_X11_meanTeeth_4 w' n (jL (sm (fun i => tS T (6 + i)) i + tS T (6 + (i : Int)))) (jI ((i + 1 : Nat) : Int))
      rw [p_X11_meanTeeth_4]
      simp (disch := omega) only [l32_0, l32_1, l32_2, l32_3, l32_4, l32_5, l32_6, l32_7, l32_8, l32_9, l32_10, l32_11, l32_12, l32_13, l32_14, l32_15, l32_16, l32_17, l32_18, l32_19, l32_20, l32_21, l32_22, l32_23, l32_24, l32_25, l32_26, l32_27, l32_28, l32_29, l32_30, l32_31, l32_32, l32_33, l32_34, l32_35, l32_36, l32_37, l32_38, l32_39, l32_40, l32_41, l32_42, l32_43, l32_44, l32_45, l32_46, l32_47, l32_48, l32_49, l32_50, l32_51, l32_52, l32_53, l32_54, l32_55, l32_56, l32_57, l32_58, l32_59, l32_60, l32_61, l32_62, l32_63, l32_64, l32_65, l32_66, l32_76, l32_86, l32_90, l32_92, l32_97, l32_98, l32_99, l32_100, l32_101, l32_102, l32_103, l32_104, l32_105, l32_106, l32_107, l32_108, l32_109, l32_110, l32_111, l32_112, l32_113, l32_114, l32_115, l32_116, l32_117, l32_118, l32_119, l32_120, l32_121, l32_122, l32_123, l32_124, l32_125, l32_126, l32_192, l32_200, l32_255, l32_999, l32_1000, l32_1344, l32_2147483639, l32_2147483647, l64_0, l64_1, l64_99, l64_999, l64_24883200000, l64_746496000000, jI_add, jI_sub, jI_mul, jI_neg, jL_add, jL_sub, jL_mul, jL_neg, jL_toI, jI_toL, jI_lt, jI_le, jI_eq, jL_lt, jL_le, jL_eq, inR_j, jI_clamp, nI_j, Option.bind_some, zc, u2, u3, u4, u5, wl, mo, if_pos, if_neg, ite_true, ite_false, r_g hR'.1] <;> rfl
    · show p_X11_meanTeeth_4 w' (n + 1) (jL _) (jI ((10 : Nat) : Int)) = _
      rw [p_X11_meanTeeth_4]
      exact if_pos (show jI 10 ≤ jI 10 by rw [jI_le (by omega) (by omega) (by omega) (by omega)]; omega)
  have cz : (0 : Int32).toNatClampNeg = 0 := rfl
  unfold f_law_2707
  generalize hs : sm (fun i => tS T (6 + i)) 10 = s at *
  by_cases q : tS T 0 = 0
  · refine lawQF (c := 1) (v := 0) hG hC hR (by decide) (by decide) (Or.inr ⟨by decide, ?_⟩) (fun w' hR' => ⟨0, ?_, fun z => absurd z (by decide)⟩)
    · unfold f_L_meanTeeth f_X10_meanTeeth
      rw [if_pos (by rw [c_g c1, q]; rfl), bs_p, zl_p]
      rfl
    · have k := r_g hR'.1 0 (by decide) (by decide)
      unfold f_X11_meanTeeth
      rw [M w' hR', bs_p, zl_p, u2_p, if_pos (show inR (0 : Int32) 192 = true by decide +kernel), cz, if_pos (show gL w' 142 0 = 0 by rw [show (0 : Nat) = (0 : Int).toNat from rfl, k, q]; rfl)]
      show (wl (uI w' 141 12 (jI 1)) fun w8 => _) = _
      rw [wl_p, if_neg (by rw [gI_uI, if_pos ⟨rfl, rfl⟩]; decide +kernel)]
  · have ok := ok64 (mt64 (jL s) (n := tS T 0) (by omega) (by omega))
    refine lawQF (c := 0) (v := FP.ddiv (FP.l2d (jL s)) (FP.l2d (jL (tS T 0)))) hG hC hR (by decide) (by decide) (Or.inl ⟨rfl, mt64 _ (by omega) (by omega), ?_⟩) (fun w' hR' => ⟨_, ?_, fun _ => rfl⟩)
    · unfold f_L_meanTeeth f_X10_meanTeeth
      rw [c_g c1, if_neg (show ¬ jI (tS T 0) = 0 from fun z => q ((iff_of_eq (jI_eq (by omega) (by omega) (by omega) (by omega))).mp (show jI (tS T 0) = jI 0 from z))), s_sumOfTeeth c1 hS, bs_p, hs, i2l64 (by omega) (by omega), i2l64 (by omega) (by omega), if_pos ok, bs_p, zr_p, if_pos (show inR (0 : Int32) 1 = true by decide +kernel), wl_p]
      rfl
    · have k := r_g hR'.1 0 (by decide) (by decide)
      have k2 : gL (uI w' 141 12 (jI 0)) 142 0 = jL (tS T 0) := k
      unfold f_X11_meanTeeth
      rw [M w' hR', bs_p, zl_p, u2_p, if_pos (show inR (0 : Int32) 192 = true by decide +kernel), cz, if_neg (show ¬ gL w' 142 0 = 0 by
        rw [show (0 : Nat) = (0 : Int).toNat from rfl, k]
        intro z
        exact q ((iff_of_eq (jL_eq (by omega) (by omega) (by omega) (by omega))).mp (show jL (tS T 0) = jL 0 from z)))]
      show (wl (uI w' 141 12 (jI 0)) fun w8 => _) = _
      rw [wl_p, if_pos (by rw [gI_uI, if_pos ⟨rfl, rfl⟩]; decide +kernel), if_pos (show inR (0 : Int32) 192 = true by decide +kernel), k2, if_pos ok]
/-- the dry gears' share: of each of the few cases -/
def dsOk (d n : Int) : Bool := okN32 (FP.fdiv (FP.i2f (jI d)) (FP.i2f (jI n))) && okN64 (FP.f2d (FP.fdiv (FP.i2f (jI d)) (FP.i2f (jI n)))) && (FP.dcmp (FP.f2d (FP.fdiv (FP.i2f (jI d)) (FP.i2f (jI n)))) (FP.f2d (FP.fdiv (FP.i2f (jI d)) (FP.i2f (jI n)))) == some .eq)
theorem ds_all : (List.range 11).all (fun d => (List.range 10).all (fun n => dsOk d (n + 1 : Nat))) = true := by decide +kernel
theorem ds_ok {d n : Int} (d0 : 0 ≤ d) (d1 : d ≤ 10) (n0 : 0 < n) (n1 : n ≤ 10) : okN32 (FP.fdiv (FP.i2f (jI d)) (FP.i2f (jI n))) = true ∧ okN64 (FP.f2d (FP.fdiv (FP.i2f (jI d)) (FP.i2f (jI n)))) = true ∧ FP.dcmp (FP.f2d (FP.fdiv (FP.i2f (jI d)) (FP.i2f (jI n)))) (FP.f2d (FP.fdiv (FP.i2f (jI d)) (FP.i2f (jI n)))) = some .eq := by
  have h := List.all_eq_true.mp ds_all d.toNat (List.mem_range.mpr (by omega))
  have h2 := List.all_eq_true.mp h (n.toNat - 1) (List.mem_range.mpr (by omega))
  rw [show ((d.toNat : Nat) : Int) = d by omega, show ((n.toNat - 1 + 1 : Nat) : Int) = n by omega] at h2
  unfold dsOk at h2
  rw [Bool.and_eq_true, Bool.and_eq_true] at h2
  exact ⟨h2.1.1, h2.1.2, eq_of_beq h2.2⟩
theorem lq_dryShare {w : Wd} (h : Inv w) (x1 x2 x3 : Int32) : ∃ w1, f_law_2772 w x1 x2 x3 = some w1 ∧ Inv w1 := by
  obtain ⟨T, hG, hC, hR⟩ := h
  have hS := hG.1
  have hg := hS.1
  have c1 := hC.1
  have e1 : (((tS T 0).toNat : Nat) : Int) = tS T 0 := by omega
  have s0 := sm_lo (g := fun i => if tS T (66 + i) = 0 then 1 else 0) (c := 0) (n := (tS T 0).toNat) (fun i _ _ => by split <;> decide)
  have s1 := sm_hi (g := fun i => if tS T (66 + i) = 0 then 1 else 0) (c := 1) (n := (tS T 0).toNat) (fun i _ _ => by split <;> decide)
  have M : ∀ w', InvR w' T → p_X11_dryShare_4 w' 2000 (0 : Int32) (0 : Int32) = some (.inl (jI (dry (tS T)), jI (tS T 0))) := by
    intro w' hR'
    have k := lpSum (p_X11_dryShare_4 w') (fun i => if tS T (66 + i) = 0 then 1 else 0) (tS T 0).toNat 0
      (fun i n a hi => by
        have k := hS.2.1 i (by omega) (by omega)
        have k4 := k.2.2.2.1
        rw [p_X11_dryShare_4]
        by_cases q : tS T (66 + (i : Int)) = 0
        · rw [if_pos q]
          simp (disch := omega) only [l32_0, l32_1, l32_2, l32_3, l32_4, l32_5, l32_6, l32_7, l32_8, l32_9, l32_10, l32_11, l32_12, l32_13, l32_14, l32_15, l32_16, l32_17, l32_18, l32_19, l32_20, l32_21, l32_22, l32_23, l32_24, l32_25, l32_26, l32_27, l32_28, l32_29, l32_30, l32_31, l32_32, l32_33, l32_34, l32_35, l32_36, l32_37, l32_38, l32_39, l32_40, l32_41, l32_42, l32_43, l32_44, l32_45, l32_46, l32_47, l32_48, l32_49, l32_50, l32_51, l32_52, l32_53, l32_54, l32_55, l32_56, l32_57, l32_58, l32_59, l32_60, l32_61, l32_62, l32_63, l32_64, l32_65, l32_66, l32_76, l32_86, l32_90, l32_92, l32_97, l32_98, l32_99, l32_100, l32_101, l32_102, l32_103, l32_104, l32_105, l32_106, l32_107, l32_108, l32_109, l32_110, l32_111, l32_112, l32_113, l32_114, l32_115, l32_116, l32_117, l32_118, l32_119, l32_120, l32_121, l32_122, l32_123, l32_124, l32_125, l32_126, l32_192, l32_200, l32_255, l32_999, l32_1000, l32_1344, l32_2147483639, l32_2147483647, l64_0, l64_1, l64_99, l64_999, l64_24883200000, l64_746496000000, jI_add, jI_sub, jI_mul, jI_neg, jL_add, jL_sub, jL_mul, jL_neg, jL_toI, jI_toL, jI_lt, jI_le, jI_eq, jL_lt, jL_le, jL_eq, inR_j, jI_clamp, nI_j, Option.bind_some, zc, u2, u3, u4, u5, wl, mo, if_pos, if_neg, ite_true, ite_false, s_at hR'.1, r_g hR'.1] <;> rfl
        · rw [if_neg q]
          simp (disch := omega) only [l32_0, l32_1, l32_2, l32_3, l32_4, l32_5, l32_6, l32_7, l32_8, l32_9, l32_10, l32_11, l32_12, l32_13, l32_14, l32_15, l32_16, l32_17, l32_18, l32_19, l32_20, l32_21, l32_22, l32_23, l32_24, l32_25, l32_26, l32_27, l32_28, l32_29, l32_30, l32_31, l32_32, l32_33, l32_34, l32_35, l32_36, l32_37, l32_38, l32_39, l32_40, l32_41, l32_42, l32_43, l32_44, l32_45, l32_46, l32_47, l32_48, l32_49, l32_50, l32_51, l32_52, l32_53, l32_54, l32_55, l32_56, l32_57, l32_58, l32_59, l32_60, l32_61, l32_62, l32_63, l32_64, l32_65, l32_66, l32_76, l32_86, l32_90, l32_92, l32_97, l32_98, l32_99, l32_100, l32_101, l32_102, l32_103, l32_104, l32_105, l32_106, l32_107, l32_108, l32_109, l32_110, l32_111, l32_112, l32_113, l32_114, l32_115, l32_116, l32_117, l32_118, l32_119, l32_120, l32_121, l32_122, l32_123, l32_124, l32_125, l32_126, l32_192, l32_200, l32_255, l32_999, l32_1000, l32_1344, l32_2147483639, l32_2147483647, l64_0, l64_1, l64_99, l64_999, l64_24883200000, l64_746496000000, jI_add, jI_sub, jI_mul, jI_neg, jL_add, jL_sub, jL_mul, jL_neg, jL_toI, jI_toL, jI_lt, jI_le, jI_eq, jL_lt, jL_le, jL_eq, inR_j, jI_clamp, nI_j, Option.bind_some, zc, u2, u3, u4, u5, wl, mo, if_pos, if_neg, ite_true, ite_false, s_at hR'.1, r_g hR'.1] <;> rfl)
      (fun n a => by
        rw [p_X11_dryShare_4, e1]
        simp (disch := omega) only [l32_0, l32_1, l32_2, l32_3, l32_4, l32_5, l32_6, l32_7, l32_8, l32_9, l32_10, l32_11, l32_12, l32_13, l32_14, l32_15, l32_16, l32_17, l32_18, l32_19, l32_20, l32_21, l32_22, l32_23, l32_24, l32_25, l32_26, l32_27, l32_28, l32_29, l32_30, l32_31, l32_32, l32_33, l32_34, l32_35, l32_36, l32_37, l32_38, l32_39, l32_40, l32_41, l32_42, l32_43, l32_44, l32_45, l32_46, l32_47, l32_48, l32_49, l32_50, l32_51, l32_52, l32_53, l32_54, l32_55, l32_56, l32_57, l32_58, l32_59, l32_60, l32_61, l32_62, l32_63, l32_64, l32_65, l32_66, l32_76, l32_86, l32_90, l32_92, l32_97, l32_98, l32_99, l32_100, l32_101, l32_102, l32_103, l32_104, l32_105, l32_106, l32_107, l32_108, l32_109, l32_110, l32_111, l32_112, l32_113, l32_114, l32_115, l32_116, l32_117, l32_118, l32_119, l32_120, l32_121, l32_122, l32_123, l32_124, l32_125, l32_126, l32_192, l32_200, l32_255, l32_999, l32_1000, l32_1344, l32_2147483639, l32_2147483647, l64_0, l64_1, l64_99, l64_999, l64_24883200000, l64_746496000000, jI_add, jI_sub, jI_mul, jI_neg, jL_add, jL_sub, jL_mul, jL_neg, jL_toI, jI_toL, jI_lt, jI_le, jI_eq, jL_lt, jL_le, jL_eq, inR_j, jI_clamp, nI_j, Option.bind_some, zc, u2, u3, u4, u5, wl, mo, if_pos, if_neg, ite_true, ite_false, s_at hR'.1]) 2000 (by omega)
    have k : p_X11_dryShare_4 w' 2000 (jI 0) (jI 0) = _ := k
    rw [l32_0, k, Int.zero_add, e1]
    rfl
  have cz : (0 : Int32).toNatClampNeg = 0 := rfl
  have hd : dry (tS T) = sm (fun i => if tS T (66 + i) = 0 then 1 else 0) (tS T 0).toNat := rfl
  unfold f_law_2772
  by_cases q : tS T 0 = 0
  · have L : f_L_dryShare w = some (jI 1, w) := by
      unfold f_L_dryShare f_X10_dryShare
      rw [if_pos (by rw [c_g c1, q]; rfl), bs_p, zl_p]
      rfl
    have B : f_X11_dryShare w = some (0, uI w 141 12 (jI 1)) := by
      have k := r_g hR.1 0 (by decide) (by decide)
      unfold f_X11_dryShare
      rw [M w hR, bs_p, zl_p, u2_p, if_pos (show inR (0 : Int32) 192 = true by decide +kernel), cz, if_pos (show gL w 142 0 = 0 by rw [show (0 : Nat) = (0 : Int).toNat from rfl, k, q]; rfl)]
      show (wl (uI w 141 12 (jI 1)) fun w8 => _) = _
      rw [wl_p, if_neg (by rw [gI_uI, if_pos ⟨rfl, rfl⟩]; decide +kernel)]
    refine ⟨uI w 141 12 (jI 1), ?_, T, hG, hC.read', hR.read' _⟩
    have hgi : gI (uI w 141 12 (jI 1)) 141 12 = jI 1 := by rw [gI_uI, if_pos ⟨rfl, rfl⟩]
    rw [L, bs_p, u2_p, B, bs_p, u2_p]
    unfold f_X11_thrown
    rw [bs_p, hgi, if_pos rfl]
    exact if_neg (by decide +kernel)
  · obtain ⟨k1, k2, k3⟩ := ds_ok (d := dry (tS T)) (n := tS T 0) (by omega) (by omega) (by omega) (by omega)
    have L : f_L_dryShare w = some (jI 0, uD w 0 (FP.f2d (FP.fdiv (FP.i2f (jI (dry (tS T)))) (FP.i2f (jI (tS T 0)))))) := by
      unfold f_L_dryShare f_X10_dryShare
      rw [c_g c1, if_neg (show ¬ jI (tS T 0) = 0 from fun z => q ((iff_of_eq (jI_eq (by omega) (by omega) (by omega) (by omega))).mp (show jI (tS T 0) = jI 0 from z))), s_dryGears c1 hS, bs_p, if_pos k1, bs_p, zr_p, if_pos k2, if_pos (show inR (0 : Int32) 1 = true by decide +kernel), wl_p]
      rfl
    generalize hv : FP.f2d (FP.fdiv (FP.i2f (jI (dry (tS T)))) (FP.i2f (jI (tS T 0)))) = v at *
    have hR2 : InvR (uD w 0 v) T := hR.read (Sm.wD w) (fun _ _ _ _ => rfl)
    have B : f_X11_dryShare (uD w 0 v) = some (FP.fdiv (FP.i2f (jI (dry (tS T)))) (FP.i2f (jI (tS T 0))), uI (uD w 0 v) 141 12 (jI 0)) := by
      have k : gL (uD w 0 v) 142 0 = jL (tS T 0) := r_g hR2.1 0 (by decide) (by decide)
      have ka := s_at (u12 (v := jI 0) hR2.1) (z := 0) (by decide) (by decide)
      unfold f_X11_dryShare
      rw [M _ hR2, bs_p, zl_p, u2_p, if_pos (show inR (0 : Int32) 192 = true by decide +kernel), cz, if_neg (show ¬ gL (uD w 0 v) 142 0 = 0 by
        rw [k]
        intro z
        exact q ((iff_of_eq (jL_eq (by omega) (by omega) (by omega) (by omega))).mp (show jL (tS T 0) = jL 0 from z)))]
      show (wl (uI (uD w 0 v) 141 12 (jI 0)) fun w8 => _) = _
      rw [wl_p, if_pos (by rw [gI_uI, if_pos ⟨rfl, rfl⟩]; decide +kernel)]
      show ((f_X11_at (uI (uD w 0 v) 141 12 (jI 0)) (jI 0)).bind _) = _
      rw [ka, bs_p, if_pos k1]
    refine ⟨uI (uD w 0 v) 141 12 (jI 0), ?_, T, hG, (hC.read (Sm.wD w)).read', hR2.read' _⟩
    have hgi : gI (uI (uD w 0 v) 141 12 (jI 0)) 141 12 = jI 0 := by rw [gI_uI, if_pos ⟨rfl, rfl⟩]
    have e : gD (uI (uD w 0 v) 141 12 (jI 0)) ((0 : Int32)).toNatClampNeg = v := by
      show (if (0 : Nat) = 0 then v else gD w 0) = v
      exact if_pos rfl
    rw [L, bs_p, u2_p, B, bs_p, u2_p]
    unfold f_X11_thrown
    rw [bs_p, hgi, if_pos rfl, if_pos (show jI 0 = 0 from rfl), if_pos (show inR (0 : Int32) 1 = true by decide +kernel), hv, if_pos k2, e, k3]
    exact if_pos cv_eq
