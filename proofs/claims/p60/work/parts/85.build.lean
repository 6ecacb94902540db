/-! A NEW OBJECT: the law's build -/
theorem lw_key (cy : Nat → ClassId) (av : Nat → Nat) (q0 : Nat) (u0 : (Nat → Nat) × (Nat → Nat → Nat) × (Nat × (Nat → Nat) × (Nat → Nat → Nat))) (i : Nat) (p : Nat × va_E) (h : (wsOf (adx (lwA cy q0 u0) (lwA cy q0 u0 140)) cy av w0)[i]? = some p) : ∃ p2, (lwL cy q0 u0)[i]? = some p2 ∧ p2.1 = p.1 := by
  rw [lwL_X]
  rw [← lwM_ws cy av q0 u0] at h
  by_cases h35 : i = 35
  · subst h35
    have e := en_35 cy q0 u0
    rw [List.getElem?_set_self (List.getElem?_eq_some_iff.mp e).1] at h
    cases h
    exact ⟨_, e, (xa_35 cy q0 u0).symm⟩
  · rw [List.getElem?_set_ne (fun z => h35 z.symm)] at h
    exact ⟨p, h, rfl⟩
/-- other cells at the same addresses -/
theorem va_D.same {A : Nat → Prop} {ws ws' : va_W} (h : va_D A ws) (key : ∀ (i : Nat) (p : Nat × va_E), ws'[i]? = some p → ∃ p2, ws[i]? = some p2 ∧ p2.1 = p.1) : va_D A ws' := by
  refine ⟨fun i j p q hp hq e => ?_, fun k q hq => ?_⟩
  · obtain ⟨p2, a1, a2⟩ := key i p hp
    obtain ⟨q2, b1, b2⟩ := key j q hq
    exact h.1 i j p2 q2 a1 b1 (by rw [a2, b2]; exact e)
  · obtain ⟨q2, b1, b2⟩ := key k q hq
    rw [← b2]
    exact h.2 k q2 b1
def bdP (D : va_G) (cy : Nat → ClassId) (av : Nat → Nat) (b : Nat) (sc : Sc) (sz : Nat) (U : State) : Prop := U.heap.size = sz ∧ va_K D vwCl (TYs cy) U ∧ Cst av (fun q : Nat => sz ≤ q) U U.heap ∧ ctE (fun q : Nat => sz ≤ q) U U.heap ∧ va_X b sc.1 sc.2 U U.heap ∧ b < sz
theorem bd_blind {D : va_G} {cy : Nat → ClassId} {av : Nat → Nat} {b : Nat} {sc : Sc} {sz : Nat} {avs : List Value} : FrameBlind (va_Pc avs (bdP D cy av b sc sz)) := fun a U g mk h =>
  ⟨h.1, h.2.1, va_K.moved (u := U) (U := U.calling g mk a) (Vm.Alike.refl U.vm) h.2.2.1, Cst.moved (u := U) (U := U.calling g mk a) (State.WarmedH.refl U) h.2.2.2.1, ctE.moved (u := U) (U := U.calling g mk a) (State.WarmedH.refl U) h.2.2.2.2.1, va_X.moved (u := U) (U := U.calling g mk a) (Vm.Alike.refl U.vm) h.2.2.2.2.2.1, h.2.2.2.2.2.2⟩
set_option maxHeartbeats 8000000 in
set_option maxRecDepth 100000 in
theorem c_L_build (l : Launch) (hst : l.stackTraces = false) (D : va_G) (cy : Nat → ClassId) (av : Nat → Nat) {b : Nat} {sc : Sc} {w1 : Wd} (sz : Nat) (hF : f_L_build sc = some w1) : Met l yL_build wsL_buildQ ({ frames := 11, cells := 750, slots := 6572, locals := 216 } : Room) (va_Pc [.ref b] (bdP D cy av b sc sz)) (bdR D cy av (fun q : Nat => sz ≤ q) w1) 750 6572 (fun q : Nat => sz ≤ q) := by
  refine at_met (cc := cL_build) (maxL := 8) (ret := some (.object "PlanetWorkshop")) (by decide +kernel) rfl (Nat.le_of_ble_eq_true rfl) ?_
  intro p e s m args below meth c ls hx hb hml hown hts hr hlk hPre hl
  obtain ⟨rfl, hK, hC, hE, hX, hbl⟩ := hPre
  have hown : s.vm.findClass RL = some m.cls := hown
  have hl : lv_has ls 8 [(0, .ref b)] := hl
  have hS : va_S (fun q : Nat => s.heap.size ≤ q) s.heap s.heap [] := va_S.rf
  have hA : ∀ q : Nat, s.heap.size ≤ q → (fun q : Nat => s.heap.size ≤ q) q := fun _ h => h
  have hAA : ∀ q : Nat, (fun q : Nat => s.heap.size ≤ q) q → (fun q : Nat => s.heap.size ≤ q) q := fun _ h => h
  have hP : va_P D vwCl ([] : va_W) s.heap := fun k q h => by simp at h
  have hD : va_D (fun q : Nat => s.heap.size ≤ q) ([] : va_W) := ⟨fun i j p q h => by simp at h, fun k q h => by simp at h⟩
  have F : CallFix p m c cL_build 8 s args wsL_buildQ RL := ⟨hx, hb, hml, hown, hts⟩
  have hin : ∀ z ∈ u_ws RX10 TX10 13, z ∈ wsL_buildQ := by decide +kernel
  refine va_new (ci := 11) (fs := [.null, .null, .null, .int 0, .null, .null, .null, .null, .null, .null, .null, .int 0, .int 0]) (C := RX10) (T := TX10) (N := 13) (ws := ([] : va_W)) hx hb hts hin tyX10 tyX10_ok hown (hts _ (show Cond.classLink RL 18 RX10 ∈ wsL_buildQ by decide +kernel)) (hts _ (show Cond.instantiable RX10 13 ∈ wsL_buildQ by decide +kernel)) (hts _ (show Cond.initialized RX10 ∈ wsL_buildQ by decide +kernel)) hK hP hD hS hA rfl (fun j hj => match j, hj with | 0, _ => rfl | 1, _ => rfl | 2, _ => rfl | 3, _ => rfl | 4, _ => rfl | 5, _ => rfl | 6, _ => rfl | 7, _ => rfl | 8, _ => rfl | 9, _ => rfl | 10, _ => rfl | 11, _ => rfl | 12, _ => rfl | n + 13, hn => absurd hn (by omega)) (Nat.le_of_ble_eq_true rfl) (Nat.le_of_ble_eq_true rfl) dL_build_0 (fun q0 H hP hD hS => ?_)
  refine lv_dup hx hb dL_build_3 rfl ?_
  have hP : va_P D vwCl (([] : va_W) ++ [(q0, .inr (11, [.null, .null, .null, .int 0, .null, .null, .null, .null, .null, .null, .null, .int 0, .int 0]))]) H := hP
  have hD : va_D _ (([] : va_W) ++ [(q0, .inr (11, [.null, .null, .null, .int 0, .null, .null, .null, .null, .null, .null, .null, .int 0, .int 0]))]) := hD
  refine ct_call (ws := ([] : va_W)) (x := (q0, .inr (11, [.null, .null, .null, .int 0, .null, .null, .null, .null, .null, .null, .null, .int 0, .int 0]))) (blk := fun u : (Nat → Nat) × (Nat → Nat → Nat) × (Nat × (Nat → Nat) × (Nat → Nat → Nat)) => woB cy q0 u) (va_runI (As := []) (rest := [.ref q0]) F (c_X10_init l D cy (fun q : Nat => s.heap.size ≤ q) q0 H.size (ct_AA (ws := ([] : va_W)) hD hS hA hAA)) (cwI 0 hts gL_build_X10_init rfl rfl rfl (hts _ (show Cond.initialized RX10 ∈ wsL_buildQ by decide +kernel)) (hts _ (show Cond.methodLink RL 23 yX10_init ∈ wsL_buildQ by decide +kernel)) (hts _ (show Cond.instanceMethod yX10_init ∈ wsL_buildQ by decide +kernel)) rfl (by decide +kernel) ⟨Nat.le_of_ble_eq_true rfl, Nat.le_of_ble_eq_true rfl⟩) (ct_pre (ws := ([] : va_W)) hK hP hE hS hAA) rfl rfl hl.1 rfl (lv_room (Nat.le_of_ble_eq_true rfl)) dL_build_4 ⟨Nat.le_of_ble_eq_true rfl, Nat.le_of_ble_eq_true rfl⟩) hP hD hS hA (fun u0 H locs hP hD hS => ?_)
  have hP : va_P D vwCl (lwL cy q0 u0) H := hP
  have hD : va_D (fun q : Nat => s.heap.size ≤ q) (lwL cy q0 u0) := hD
  refine lv_astore_n (lv' := [(1, .ref q0), (0, .ref b)]) hx hb dL_build_7 rfl hl (by decide) rfl (fun ls hl => ?_)
  have hP := lw_wsP cy (vbs av) q0 u0 hP
  have hD := lw_wsD cy (vbs av) q0 u0 hD
  have X : CX (D, lwA cy q0 u0, cy, av, fun q : Nat => s.heap.size ≤ q) p s m args meth c cL_build 8 RL wsL_buildQ := ⟨F, hK, hC, hA, hlk⟩
  exact W.widen (Nat.le_of_ble_eq_true rfl) (Nat.le_of_ble_eq_true rfl) (L_build_8 l hst X hr hX hbl (fun h => Nat.lt_irrefl _ (Nat.lt_of_lt_of_le hbl h)) hF ⟨hP, hD, hS⟩ hl)
