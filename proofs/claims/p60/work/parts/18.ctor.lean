/-! CONSTRUCTORS: worlds as lists; the object at the list's end is handed on and becomes a block of cells -/
theorem ct_join {A0 : Nat → Prop} {D : va_G} {cl : List vw_C} {ws w1 : va_W} {x : Nat × va_E} {H0 H H1 : Heap} {locs : List Loc} (hP : va_P D cl (ws ++ [x]) H) (hD : va_D A0 (ws ++ [x])) (hS : va_S A0 H0 H locs) (hA : ∀ q, H0.size ≤ q → A0 q) (hk : ∀ q : Nat, q < H.size → ¬ va_A [x] H.size q → H1[q]? = H[q]?) (hP1 : va_P D cl w1 H1) (hD1 : va_D (va_A [x] H.size) w1) : va_P D cl (ws ++ w1) H1 ∧ va_D A0 (ws ++ w1) := by
  have hF : ∀ q, va_A [x] H.size q → A0 q := va_free (wc := [x]) hD hS hA [ws.length] (by simp)
  have hx : (ws ++ [x])[ws.length]? = some x := by simp
  have hl : ∀ (i : Nat) (q : Nat × va_E), ws[i]? = some q → (ws ++ [x])[i]? = some q := fun i q h => by rw [List.getElem?_append_left (List.getElem?_eq_some_iff.mp h).1]; exact h
  have apart : ∀ (i : Nat) (q : Nat × va_E), ws[i]? = some q → q.1 < H.size ∧ ¬ va_A [x] H.size q.1 := by
    intro i q h
    have h1 : q.1 < H.size := (hP i q (hl i q h)).lt
    refine ⟨h1, fun h2 => ?_⟩
    rcases h2 with ⟨k2, e, h2⟩ | h2
    · have hk2 : k2 < 1 := (List.getElem?_eq_some_iff.mp h2).1
      have hk0 : k2 = 0 := by omega
      subst hk0
      rw [List.getElem?_cons_zero] at h2
      have hxe : x = (q.1, e) := Option.some.inj h2
      have h3 := hD.1 i ws.length q x (hl i q h) hx (by rw [hxe])
      have h4 := (List.getElem?_eq_some_iff.mp h).1
      omega
    · omega
  exact ⟨va_P.app (fun i q h => (hP i q (hl i q h)).kept (hk q.1 (apart i q h).1 (apart i q h).2)) hP1, va_D.app ⟨fun i j p q hp hq e => hD.1 i j p q (hl i p hp) (hl j q hq) e, fun i q h => hD.2 i q (hl i q h)⟩ (hD1.weaken (fun k q _ h => hF q.1 h)) (fun i j y z hy hz hyz => (apart i y hy).2 (by rw [hyz]; exact hD1.2 j z hz))⟩
theorem ct_one {D : va_G} {cl : List vw_C} {ws : va_W} {x : Nat × va_E} {H : Heap} (hP : va_P D cl (ws ++ [x]) H) : va_P D cl [x] H := by
  intro k q hk
  have h1 : k < 1 := (List.getElem?_eq_some_iff.mp hk).1
  have h0 : k = 0 := by omega
  subst h0
  exact hP ws.length q (by rw [List.getElem?_append_right (Nat.le_refl _), Nat.sub_self]; exact hk)
theorem ct_D1 (x : Nat × va_E) (sz : Nat) : va_D (va_A [x] sz) [x] := by
  refine ⟨fun i j p q hp hq _ => ?_, fun k q hk => va_A.in hk⟩
  have h1 : i < 1 := (List.getElem?_eq_some_iff.mp hp).1
  have h2 : j < 1 := (List.getElem?_eq_some_iff.mp hq).1
  omega
/-- what stands fast: links between nest mates, classes of arrays, one static -/
def ctE (A : Nat → Prop) (U : State) (H : Heap) : Prop :=
  va_Nw (.methodLinkNest RX3 24 yX7_init "PlanetWorkshop") U ∧ va_Nw (.methodLinkNest RX10 11 yX7_init "PlanetWorkshop") U ∧ va_Nw (.methodLinkNest RX10 35 yX8_init "PlanetWorkshop") U ∧ va_Nw (.methodLinkNest RX10 67 yX6_init "PlanetWorkshop") U ∧
  va_AO RX7 U ∧ va_AO RX9 U ∧ va_Z "java/lang/String" "COMPACT_STRINGS" "Z" (.int 1) A U H
theorem ctE.moved {A : Nat → Prop} {u U : State} {H : Heap} (hW : u.WarmedH U.vm) (h : ctE A u H) : ctE A U H :=
  ⟨h.1.warmM hW, h.2.1.warmM hW, h.2.2.1.warmM hW, h.2.2.2.1.warmM hW, h.2.2.2.2.1.moved hW.alike, h.2.2.2.2.2.1.moved hW.alike, h.2.2.2.2.2.2.moved hW.alike⟩
theorem ctE.kept {A : Nat → Prop} {U : State} {H H1 : Heap} (h : ctE A U H) (hq : ∀ a : Nat, a < H.size → ¬ A a → H1[a]? = H[a]?) : ctE A U H1 :=
  ⟨h.1, h.2.1, h.2.2.1, h.2.2.2.1, h.2.2.2.2.1, h.2.2.2.2.2.1, h.2.2.2.2.2.2.kept hq⟩
def ctP (D : va_G) (cy : Nat → ClassId) (A : Nat → Prop) (sz : Nat) (x : Nat × va_E) (U : State) : Prop := U.heap.size = sz ∧ va_K D vwCl (TYs cy) U ∧ va_P D vwCl [x] U.heap ∧ ctE A U U.heap
def ctQ {β : Type} (D : va_G) (x : Nat × va_E) (sz : Nat) (blk : β → va_W) : Array Value → State → Outcome → State → Prop := fun _ st oc t => oc = .returned none ∧ (∃ u : β, va_P D vwCl (blk u) t.heap ∧ va_D (va_A [x] sz) (blk u)) ∧ va_F (va_A [x] sz) st t
theorem ct_blind {D : va_G} {cy : Nat → ClassId} {A : Nat → Prop} {sz : Nat} {x : Nat × va_E} {avs : List Value} : FrameBlind (va_Pc avs (ctP D cy A sz x)) := fun a U g mk h =>
  ⟨h.1, h.2.1, va_K.moved (u := U) (U := U.calling g mk a) (Vm.Alike.refl U.vm) h.2.2.1, h.2.2.2.1, ctE.moved (u := U) (U := U.calling g mk a) (State.WarmedH.refl U) h.2.2.2.2⟩
theorem ct_met {l : Launch} {y : MethodName} {ws ws' : List Cond} {rm : Room} {cc : ByteArray} {maxL : Nat} {avs : List Value} {own : String} {D : va_G} {cy : Nat → ClassId} {A : Nat → Prop} {sz : Nat} {x : Nat × va_E} {β : Type} {blk : β → va_W} {mc ms : Nat} (hy : plainFor y = true) (hw : ws = Cond.code y cc maxL none :: ws') (hown : y.cls = own) (hlen : (lg_sl avs).length ≤ maxL)
    (body : ∀ (p : Program) (e : Env) (s : State) (m : MethodId) (args : Array Value) (below : List Frame) (meth : Method) (c : Code) (H : Heap) (ls : Array Slot), CallFix p m c cc maxL s args ws own → meth.sig.returnType = none → meth.locks = false → meth.name = y.name → H = s.heap → s.heap.size = sz → va_K D vwCl (TYs cy) s → va_P D vwCl [x] H → va_D (va_A [x] sz) [x] → va_S (va_A [x] sz) s.heap H [] → (∀ q : Nat, s.heap.size ≤ q → va_A [x] sz q) → ctE A s s.heap → lv_has ls maxL (lv_args 0 avs) → W p l e rm s m args below meth c H [] 0 0 (MQ below (ctQ D x sz blk) args s mc ms (va_A [x] sz)) (F0 m 0 ls [])) : Met l y ws rm (va_Pc avs (ctP D cy A sz x)) (ctQ D x sz blk) mc ms (va_A [x] sz) := by
  refine va_MetF hy hw ?_
  intro p e s m args below meth c s₁ B hml hv
  obtain ⟨rfl, hsz, hK, hP, hE⟩ := hv
  rw [lg_entry_eq]
  have hn : s.vm.findClass own = some m.cls := by rw [← hown]; exact findClass_of_methodNamed B.named
  exact body p e s m _ below meth c s.heap _ ⟨B.exec, B.bytes, hml, hn, atoms_spec (ws := ws) B.pre⟩ B.returns B.notSynchronized (name_of_methodNamed B.named B.method).1 rfl hsz hK hP (ct_D1 x sz) va_S.rf (fun q hq => Or.inr (by rw [← hsz]; exact hq)) hE (lv_entry avs hlen)
theorem ct_cy {D : va_G} {cy : Nat → ClassId} {s : State} {cA : ClassId} {ty : FieldType} (t : Nat) (hK : va_K D vwCl (TYs cy) s) (hK2 : va_K D vwCl (TYs cy ++ [(cA, ty)]) s) (ht : (TYs cy)[t]? = some (cy t, ty)) : cA = cy t := by
  have h1 := (hK.2 t _ ht).2
  have h2 := (hK2.2 8 (cA, ty) rfl).2
  cases ty with
  | object C =>
    obtain ⟨k1, c1, -, -, -, e1⟩ := h1
    obtain ⟨k2, c2, -, -, -, e2⟩ := h2
    exact Option.some.inj (e2.symm.trans e1)
  | _ => exact Option.some.inj (Eq.trans (Eq.symm h2) h1)
section CT
variable {p : Program} {l : Launch} {e : Env} {R : Room} {s : State} {m : MethodId} {args : Array Value} {below : List Frame} {meth : Method} {c : Code} {H H0 : Heap} {locs : List Loc} {cells slots mc ms sz : Nat} {Q : State → Prop} {D : va_G} {cy : Nat → ClassId} {A Ac : Nat → Prop} {cc : ByteArray} {pc nL : Nat} {ls : Array Slot} {rest st0 As : List Value} {own : String} {Ts : List Cond} {a : Array Value} {ws : va_W} {x : Nat × va_E} {β : Type} {blk : β → va_W}
theorem ct_pre (hK : va_K D vwCl (TYs cy) s) (hP : va_P D vwCl (ws ++ [x]) H) (hE : ctE A s s.heap) (hS : va_S Ac s.heap H locs) (hAA : ∀ q, Ac q → A q) : PreS s H (va_Pc As (ctP D cy A H.size x)) As :=
  ⟨ct_blind, fun U hU hW => ⟨rfl, by rw [hU], va_K.moved hW.alike hK, by rw [hU]; exact ct_one hP, by rw [hU]; exact (hE.kept (fun q h1 h2 => hS.2.1 q h1 (fun h => h2 (hAA q h)))).moved hW⟩⟩
theorem ct_AA (hD : va_D Ac (ws ++ [x])) (hS : va_S Ac H0 H locs) (hA : ∀ q, H0.size ≤ q → Ac q) (hAA : ∀ q, Ac q → A q) : ∀ q, va_A [x] H.size q → A q := fun q h => hAA q (va_free (wc := [x]) hD hS hA [ws.length] (by simp) q h)
theorem ct_call (hr : va_Run p l e R s m args below meth c H locs cells slots mc ms (F0 m pc ls st0) rest (ctQ D x H.size blk a) (va_A [x] H.size)) (hP : va_P D vwCl (ws ++ [x]) H) (hD : va_D Ac (ws ++ [x])) (hS : va_S Ac H0 H locs) (hA : ∀ q, H0.size ≤ q → Ac q)
    (kk : ∀ (u : β) (H1 : Heap) (locs1 : List Loc), va_P D vwCl (ws ++ blk u) H1 → va_D Ac (ws ++ blk u) → va_S Ac H0 H1 locs1 → W p l e R s m args below meth c H1 locs1 (cells + mc) (slots + ms) Q (F0 m (pc + 3) ls rest)) : W p l e R s m args below meth c H locs cells slots Q (F0 m pc ls st0) := by
  intro T hT X1
  obtain ⟨v, st₀, t, T', L, h0, X', hL, e1, e2, ⟨hv, ⟨u, hp1, hp2⟩, hf⟩, st⟩ := hr T hT X1
  cases hv
  have hF : ∀ q, va_A [x] H.size q → Ac q := va_free (wc := [x]) hD hS hA [ws.length] (by simp)
  obtain ⟨-, k2, k3⟩ := vx_keep (A0 := Ac) (A1 := va_A [x] H.size) (free := va_A [x] H.size) h0 e1 hS (fun q _ h => hF q h) hF hL hf
  rw [← e1] at hp1
  obtain ⟨j1, j2⟩ := ct_join hP hD hS hA k2 hp1 hp2
  obtain ⟨t2, a1, b1⟩ := kk u T'.heap (locs ++ L) j1 j2 k3 T' rfl X'
  exact ⟨t2, st t2 a1, b1⟩
theorem ct_newa (hx : p.tables.exec = Jvm.exec) (hb : c.code = cc) {atype : ArrayType} (ty : FieldType) (t : Nat) (harr : (Cond.arrayClass (newarray.typeOf atype)).before args s = true) (hty : newarray.typeOf atype = ty) (ht : (TYs cy)[t]? = some (cy t, ty)) (hK : va_K D vwCl (TYs cy) s) (hP : va_P D vwCl ws H) (hD : va_D Ac ws) (hS : va_S Ac H0 H locs) (hA : ∀ q, H0.size ≤ q → Ac q)
    {n : Int32} {N' : Nat} {a0 : vp_A} (ha : ∀ cA : ClassId, vp_cell cA a0 = arrV cA N' (fun _ => defaultValue ty)) (hn : ¬ n < 0) (hN : n.toNatClampNeg = N') (hbytes : N' * componentBytes ty ≤ 536870912) (hcells : cells + 1 ≤ R.cells) (hslots : slots + N' ≤ R.slots) (hdg : decode cc pc = .ok (.newarray atype, 2))
    (kk : ∀ (q : Nat) (H1 : Heap), va_P D vwCl (ws ++ [(q, .inl (cy t, a0))]) H1 → va_D Ac (ws ++ [(q, .inl (cy t, a0))]) → va_S Ac H0 H1 locs → W p l e R s m args below meth c H1 locs (cells + 1) (slots + N') Q (F0 m (pc + 2) ls (.ref q :: rest))) : W p l e R s m args below meth c H locs cells slots Q (F0 m pc ls (.int n :: rest)) := by
  refine va_newa hx hb harr hty hK hP hD hS hA ha hn hN hbytes hcells hslots hdg (fun q cA H1 hK2 hP1 hD1 hS1 => ?_)
  have h := ct_cy t hK hK2 ht
  subst h
  exact kk q H1 hP1 hD1 hS1
theorem ct_newq (hx : p.tables.exec = Jvm.exec) (hb : c.code = cc) {C : String} {index : Nat} (t : Nat) (ht : (TYs cy)[t]? = some (cy t, .object C)) (hown : s.vm.findClass own = some m.cls) (hclink : (Cond.classLink own index C).before args s = true) (hover : va_AO C s) (hK : va_K D vwCl (TYs cy) s) (hP : va_P D vwCl ws H) (hD : va_D Ac ws) (hS : va_S Ac H0 H locs) (hA : ∀ q, H0.size ≤ q → Ac q)
    {n : Int32} {N' : Nat} (hn : ¬ n < 0) (hN : n.toNatClampNeg = N') (hbytes : N' * 4 ≤ 536870912) (hcells : cells + 1 ≤ R.cells) (hslots : slots + N' ≤ R.slots) (hdg : decode cc pc = .ok (.anewarray index, 3))
    (kk : ∀ (q : Nat) (H1 : Heap), va_P D vwCl (ws ++ [(q, .inl (cy t, N', .inr (.inr (.inr (.inr (fun _ => none))))))]) H1 → va_D Ac (ws ++ [(q, .inl (cy t, N', .inr (.inr (.inr (.inr (fun _ => none))))))]) → va_S Ac H0 H1 locs → W p l e R s m args below meth c H1 locs (cells + 1) (slots + N') Q (F0 m (pc + 3) ls (.ref q :: rest))) : W p l e R s m args below meth c H locs cells slots Q (F0 m pc ls (.int n :: rest)) := by
  refine va_newq hx hb hown hclink hover hK hP hD hS hA hn hN hbytes hcells hslots hdg (fun q cA H1 hK2 hP1 hD1 hS1 => ?_)
  have h := ct_cy t hK hK2 ht
  subst h
  exact kk q H1 hP1 hD1 hS1
end CT
/-- an array of references, known on its own indices alone -/
theorem ct_ext {D : va_G} {cl : List vw_C} {ws : va_W} {H : Heap} {q n : Nat} {c : ClassId} {f g : Nat → Option Nat} (k : Nat) (hP : va_P D cl ws H) (he : ws[k]? = some (q, .inl (c, n, .inr (.inr (.inr (.inr f)))))) (h : ∀ i, i < n → f i = g i) : va_P D cl (ws.set k (q, .inl (c, n, .inr (.inr (.inr (.inr g)))))) H := by
  intro i x hx
  by_cases hi : i = k
  · subst hi
    rw [List.getElem?_set_self (List.getElem?_eq_some_iff.mp he).1] at hx
    cases hx
    have h1 : H[q]? = some (vp_cell c (n, .inr (.inr (.inr (.inr f))))) := hP i _ he
    show H[q]? = some (vp_cell c (n, .inr (.inr (.inr (.inr g)))))
    rw [h1, vp_cell_q, vp_cell_q]
    have e : (fun j : Fin n => va_rf (f j.val)) = (fun j : Fin n => va_rf (g j.val)) := by
      funext j
      rw [h j.val j.isLt]
    show some ({ cls := c, slots := Array.ofFn (n := n) fun j => va_rf (f j.val), vm := .none } : Cell) = some ({ cls := c, slots := Array.ofFn (n := n) fun j => va_rf (g j.val), vm := .none } : Cell)
    rw [e]
  · rw [List.getElem?_set_ne (fun z => hi z.symm)] at hx
    exact hP i x hx
/-! the blocks -/
def aI (n : Nat) : vp_A := (n, .inl (fun _ => 0))
def aL (n : Nat) : vp_A := (n, .inr (.inl (fun _ => 0)))
def aQ (n : Nat) : vp_A := (n, .inr (.inr (.inr (.inr (fun _ => none)))))
def stB (cy : Nat → ClassId) (h : Nat) (a : Nat → Nat) : va_W := [(h, .inr (9, [.ref (a 0), .ref (a 1), .ref (a 2), .ref (a 3), .ref (a 4), .ref (a 5), .ref (a 6), .ref (a 7), .ref (a 8), .ref (a 9), .int 0, .int 0, .int 0, .int 12, .int 0, .int 0, .int 0])), (a 0, .inl (cy 0, aI 10)), (a 1, .inl (cy 1, aL 10)), (a 2, .inl (cy 2, aI 10)), (a 3, .inl (cy 1, aL 10)), (a 4, .inl (cy 2, aI 10)), (a 5, .inl (cy 0, aI 10)), (a 6, .inl (cy 0, aI 10)), (a 7, .inl (cy 2, aI 10)), (a 8, .inl (cy 3, aI 100)), (a 9, .inl (cy 0, aI 6))]
def trB (cy : Nat → ClassId) (h : Nat) (a : Nat → Nat) : va_W := [(h, .inr (10, [.ref (a 0), .ref (a 1), .int 0])), (a 0, .inl (cy 1, aL 10)), (a 1, .inl (cy 0, aI 10))]
def chB (h n t : Nat) : va_W := [(h, .inr (4, [.ref n, .ref t]))]
def ecB (h n t : Nat) : va_W := [(h, .inr (5, [.ref n, .ref t]))]
def raB (cy : Nat → ClassId) (h n : Nat) (a : Nat → Nat) : va_W := [(h, .inr (7, [.ref n, .ref (a 0), .ref (a 1), .ref (a 2), .ref (a 3), .int 0])), (a 0, .inl (cy 0, aI 90)), (a 1, .inl (cy 0, aI 90)), (a 2, .inl (cy 0, aI 90)), (a 3, .inl (cy 0, aI 90))]
def scB (cy : Nat → ClassId) (h : Nat) (a : Nat → Nat) : va_W := [(h, .inr (8, [.ref (a 0), .int 0, .int 0, .ref (a 1), .ref (a 2), .ref (a 3), .int 0, .int 0])), (a 0, .inl (cy 3, aI 60)), (a 1, .inl (cy 7, aQ 60)), (a 2, .inl (cy 0, aI 60)), (a 3, .inl (cy 0, aI 60))]
def sbB (cy : Nat → ClassId) (h : Nat) (a : Nat → Nat) : va_W := [(h, .inr (1, [.ref (a 0), .int 0, .int 0, .int 0])), (a 0, .inl (cy 4, aI 16))]
def hiB (cy : Nat → ClassId) (h : Nat) (u : Nat × (Nat → Nat) × (Nat → Nat → Nat)) : va_W := [(h, .inr (6, [.ref u.1, .int 0, .int 0])), (u.1, .inl (cy 6, 8, .inr (.inr (.inr (.inr (fun i => some (u.2.1 i)))))))] ++ stB cy (u.2.1 0) (u.2.2 0) ++ stB cy (u.2.1 1) (u.2.2 1) ++ stB cy (u.2.1 2) (u.2.2 2) ++ stB cy (u.2.1 3) (u.2.2 3) ++ stB cy (u.2.1 4) (u.2.2 4) ++ stB cy (u.2.1 5) (u.2.2 5) ++ stB cy (u.2.1 6) (u.2.2 6) ++ stB cy (u.2.1 7) (u.2.2 7)
def woB (cy : Nat → ClassId) (h : Nat) (u : (Nat → Nat) × (Nat → Nat → Nat) × (Nat × (Nat → Nat) × (Nat → Nat → Nat))) : va_W := (h, .inr (11, [.ref (u.1 0), .ref (u.1 1), .ref (u.1 2), .int 0, .ref (u.1 3), .ref (u.1 4), .ref (u.1 5), .ref (u.1 6), .ref (u.1 7), .ref (u.1 8), .ref (u.1 9), .int (-1), .int (-1)])) ::
  (stB cy (u.1 0) (u.2.1 0) ++ stB cy (u.1 1) (u.2.1 1) ++ stB cy (u.1 2) (u.2.1 2) ++ hiB cy (u.1 3) u.2.2 ++ trB cy (u.1 4) (u.2.1 4) ++ chB (u.1 5) (u.1 0) (u.1 4) ++ ecB (u.1 6) (u.1 0) (u.1 4) ++ raB cy (u.1 7) (u.1 0) (u.2.1 7) ++ scB cy (u.1 8) (u.2.1 8) ++ sbB cy (u.1 9) (u.2.1 9))
def moB (cy : Nat → ClassId) (h : Nat) (a : Nat → Nat) : va_W := [(h, .inr (12, [.ref (a 0), .ref (a 1), .ref (a 2), .int 0, .ref (a 3), .int 0, .ref (a 4), .int 0, .int (-1), .int (-1), .ref (a 5), .int 0, .int 0, .ref (a 6), .ref (a 7), .int 0, .int 0, .ref (a 8)])), (a 0, .inl (cy 1, 192, .inr (.inl (vp_updL (fun _ => 0) (Int32.toNatClampNeg 2) 12)))), (a 1, .inl (cy 1, aL 192)), (a 2, .inl (cy 1, aL 1536)), (a 3, .inl (cy 1, aL 192)), (a 4, .inl (cy 3, aI 60)), (a 5, .inl (cy 3, aI 100)), (a 6, .inl (cy 1, aL 10)), (a 7, .inl (cy 2, aI 10)), (a 8, .inl (cy 0, aI 180))]
