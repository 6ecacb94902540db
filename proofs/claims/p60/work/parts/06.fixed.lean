/-! CONTRACTS over the world at a fixed place of the bytes; calls of them; verbs; methods with handlers -/
def RelF (G : GG) (ab : Nat) (w : Wd) (U : State) : Prop :=
  va_K (gDc G) vwCl (TYs (gCy G)) U ∧ va_P (gDc G) vwCl (wsOf (adx (gAd G) ab) (gCy G) (gVb G) w) U.heap ∧ va_D (gA G) (wsOf (adx (gAd G) ab) (gCy G) (gVb G) w) ∧ Cst (gAv G) (gA G) U U.heap ∧ ∀ q : Nat, U.heap.size ≤ q → gA G q
theorem RelF.calling {G : GG} {ab : Nat} {w : Wd} {a : Array Value} {U : State} {g : JFrame} {mk : MethodId} (h : RelF G ab w U) : RelF G ab w (U.calling g mk a) := by
  obtain ⟨h1, h2, h3, h4, h5⟩ := h
  exact ⟨va_K.moved (u := U) (U := U.calling g mk a) (Vm.Alike.refl U.vm) h1, h2, h3, Cst.moved (u := U) (U := U.calling g mk a) (State.WarmedH.refl U) h4, h5⟩
def RelFP (G : GG) (ab : Nat) (w : Wd) (U : State) : Prop :=
  va_P (gDc G) vwCl (wsOf (adx (gAd G) ab) (gCy G) (gVb G) w) U.heap ∧ va_D (gA G) (wsOf (adx (gAd G) ab) (gCy G) (gVb G) w)
def amQF (G : GG) (ab : Nat) (o : Option Value) (w1 : Wd) : Array Value → State → Outcome → State → Prop := fun _ st oc t => oc = .returned o ∧ RelFP G ab w1 t ∧ va_F (gA G) st t
theorem am_blindF {G : GG} {ab : Nat} {w : Wd} {avs : List Value} : FrameBlind (va_Pc avs (RelF G ab w)) := fun _ _ _ _ h => ⟨h.1, h.2.calling⟩
theorem am_metB {l : Launch} {G : GG} {ab : Nat} {w : Wd} {y : MethodName} {ws ws' : List Cond} {rm : Room} {cc : ByteArray} {maxL : Nat} {ret : Option FieldType} {avs : List Value} {own : String} {Qc : Array Value → State → Outcome → State → Prop} {mc ms : Nat} (hy : plainFor y = true) (hw : ws = Cond.code y cc maxL ret :: ws') (hown : y.cls = own) (hlen : (lg_sl avs).length ≤ maxL)
    (body : ∀ (p : Program) (e : Env) (s : State) (m : MethodId) (args : Array Value) (below : List Frame) (meth : Method) (c : Code) (H : Heap) (locs : List Loc) (ls : Array Slot), CX G p s m args meth c cc maxL own ws → meth.sig.returnType = ret → AH G s.heap w ab H locs → lv_has ls maxL (lv_args 0 avs) → W p l e rm s m args below meth c H locs 0 0 (MQ below Qc args s mc ms (gA G)) (F0 m 0 ls [])) : Met l y ws rm (va_Pc avs (RelF G ab w)) Qc mc ms (gA G) := by
  refine va_MetF hy hw ?_
  intro p e s m args below meth c s₁ B hml hv
  obtain ⟨rfl, hK, hP, hD, hC, hA⟩ := hv
  rw [lg_entry_eq]
  have hn : s.vm.findClass own = some m.cls := by rw [← hown]; exact findClass_of_methodNamed B.named
  exact body p e s m _ below meth c s.heap [] _ ⟨⟨B.exec, B.bytes, hml, hn, atoms_spec (ws := ws) B.pre⟩, hK, hC, hA, B.notSynchronized⟩ B.returns ⟨hP, hD, va_S.rf⟩ (lv_entry avs hlen)
/-- a method with handlers, which lets nothing out -/
theorem am_metW {l : Launch} {G : GG} {w : Wd} {y : MethodName} {ws ws' : List Cond} {rm : Room} {cc : ByteArray} {maxL : Nat} {ret : Option FieldType} {hh : List (Nat × Nat × Nat × Nat)} {avs : List Value} {own : String} {Qc : Array Value → State → Outcome → State → Prop} {mc ms : Nat} (hy : plainName y.cls = true) (hw : ws = Cond.codeWith y cc maxL ret hh :: ws') (hown : y.cls = own) (hlen : (lg_sl avs).length ≤ maxL)
    (body : ∀ (p : Program) (e : Env) (s : State) (m : MethodId) (args : Array Value) (below : List Frame) (meth : Method) (c : Code) (ab : Nat) (H : Heap) (locs : List Loc) (ls : Array Slot), CX G p s m args meth c cc maxL own ws → meth.sig.returnType = ret → c.exceptionTable.toList = tableOf hh → AH G s.heap w ab H locs → lv_has ls maxL (lv_args 0 avs) → W p l e rm s m args below meth c H locs 0 0 (MQ below Qc args s mc ms (gA G)) (F0 m 0 ls [])) : vx_Met l y ws rm (va_Pc avs (Rel G w)) Qc (fun _ _ _ => False) mc ms (gA G) := by
  refine vx_ofWH hy hw ?_
  intro p e s m args below meth c s₁ B hml hv
  obtain ⟨rfl, ab, hK, hP, hD, hC, hA⟩ := hv
  rw [lg_entry_eq]
  have hn : s.vm.findClass own = some m.cls := by rw [← hown]; exact findClass_of_methodNamed B.named
  have hts := atoms_spec (ws := ws) B.pre
  have ht := vx_table (x := y) B (hts _ (by rw [hw]; exact List.mem_cons_self))
  exact vx_ret (body p e s m _ below meth c ab s.heap [] _ ⟨⟨B.exec, B.bytes, hml, hn, hts⟩, hK, hC, hA, B.notSynchronized⟩ B.returns ht ⟨hP, hD, va_S.rf⟩ (lv_entry avs hlen))
theorem am_qpF {G : GG} {ab : Nat} {τ : Type} {mk : τ → Option Value} {v r0 : τ} {w : Wd} {args : Array Value} {s t : State} (h : some v = some r0) (ht : RelFP G ab w t ∧ va_F (gA G) s t) : amQF G ab (mk r0) w args s (.returned (mk v)) t := by cases h; exact ⟨rfl, ht⟩
theorem am_qwF {G : GG} {ab : Nat} {τ : Type} {mk : τ → Option Value} {v r0 : τ} {w w1 : Wd} {args : Array Value} {s t : State} (h : some (v, w) = some (r0, w1)) (ht : RelFP G ab w t ∧ va_F (gA G) s t) : amQF G ab (mk r0) w1 args s (.returned (mk v)) t := by cases h; exact ⟨rfl, ht⟩
theorem am_qvF {G : GG} {ab : Nat} {w w1 : Wd} {args : Array Value} {s t : State} (h : some w = some w1) (ht : RelFP G ab w t ∧ va_F (gA G) s t) : amQF G ab none w1 args s (.returned none) t := by cases h; exact ⟨rfl, ht⟩
theorem am_qvT {G : GG} {w w1 : Wd} {v : Value} {args : Array Value} {s t : State} (h : some w = some w1) (ht : RelP G w t ∧ va_F (gA G) s t) : amQ G (some v) w1 args s (.returned (some v)) t := by cases h; exact ⟨rfl, ht⟩
def oQ (G : GG) (r : Option Nat) : Option Value := some (va_rf (r.map (gVb G)))
theorem am_qwQ {G : GG} {v r0 : Option Nat} {w w1 : Wd} {args : Array Value} {s t : State} (h : some (v, w) = some (r0, w1)) (ht : RelP G w t ∧ va_F (gA G) s t) : amQ G (oQ G r0) w1 args s (.returned (some (va_rf (v.map (gVb G))))) t := by cases h; exact ⟨rfl, ht⟩
theorem am_qpQ {G : GG} {v r0 : Option Nat} {w : Wd} {args : Array Value} {s t : State} (h : some v = some r0) (ht : RelP G w t ∧ va_F (gA G) s t) : amQ G (oQ G r0) w args s (.returned (some (va_rf (v.map (gVb G))))) t := by cases h; exact ⟨rfl, ht⟩
theorem rf_cases (o : Option Nat) : va_rf o = .null ∨ ∃ a, va_rf o = .ref a := by
  cases o with
  | none => exact Or.inl rfl
  | some a => exact Or.inr ⟨a, rfl⟩
section AMF
variable {p : Program} {l : Launch} {e : Env} {R : Room} {s : State} {m : MethodId} {args : Array Value} {below : List Frame} {meth : Method} {c : Code} {H : Heap} {locs : List Loc} {cells slots mc ms : Nat} {Q : State → Prop} {G : GG} {w w1 : Wd} {ab : Nat} {cc : ByteArray} {pc nL : Nat} {ls : Array Slot} {rest st0 : List Value} {own : String} {Ts : List Cond} {a : Array Value}
theorem am_relF (X : CX G p s m args meth c cc nL own Ts) (hh : AH G s.heap w ab H locs) {t : State} (ht : t.heap = H) (hW : s.WarmedH t.vm) : RelF G ab w t := by
  obtain ⟨-, hK, hC, hA, -⟩ := X
  obtain ⟨hP, hD, hS⟩ := hh
  exact ⟨va_K.moved hW.alike hK, by rw [ht]; exact hP, hD, by rw [ht]; exact (hC.kept hS.2.1).moved hW, fun q hq => hA q (by rw [ht] at hq; exact Nat.le_trans hS.1 hq)⟩
theorem am_postF (X : CX G p s m args meth c cc nL own Ts) (hh : AH G s.heap w ab H locs) {t : State} (ht : t.heap = H) : RelFP G ab w t ∧ va_F (gA G) s t :=
  ⟨⟨by rw [ht]; exact hh.1, hh.2.1⟩, hh.2.2.F ht⟩
theorem am_preVF (X : CX G p s m args meth c cc nL own Ts) (hh : AH G s.heap w ab H locs) (k ci : Nat) {ks : List (Option Nat)} (hk : k < 141) (hd : dsc (gC w) k = .inl (ci, ks)) {q : vw_C} (hc : vwCl[ci]? = some q) {As : List Value} : PreV s H q.1 (adx (gAd G) ab k) (va_Pc (.ref (adx (gAd G) ab k) :: As) (RelF G ab w)) As :=
  ⟨am_blindF, va_recv X.2.1 hh.1 hc (by rw [ws_at hk, toE_o hd]), fun _ hU hW => ⟨rfl, am_relF X hh hU hW⟩⟩
theorem am_preSF (X : CX G p s m args meth c cc nL own Ts) (hh : AH G s.heap w ab H locs) {As : List Value} : PreS s H (va_Pc As (RelF G ab w)) As :=
  ⟨am_blindF, fun _ hU hW => ⟨rfl, am_relF X hh hU hW⟩⟩
theorem am_callF {o : Option Value} (X : CX G p s m args meth c cc nL own Ts) (hh : AH G s.heap w ab H locs) (hr : va_Run p l e R s m args below meth c H locs cells slots mc ms (F0 m pc ls st0) rest (amQF G ab o w1 a) (gA G))
    (kk : ∀ (H1 : Heap) (locs1 : List Loc), AH G s.heap w1 ab H1 locs1 → W p l e R s m args below meth c H1 locs1 (cells + mc) (slots + ms) Q (F0 m (pc + 3) ls (o.toList ++ rest))) : W p l e R s m args below meth c H locs cells slots Q (F0 m pc ls st0) := by
  intro T hT X1
  obtain ⟨v, st₀, t, T', L, h0, X', hL, e1, e2, ⟨hv, ⟨hp1, hp2⟩, hf⟩, st⟩ := hr T hT X1
  cases hv
  obtain ⟨-, -, k3⟩ := vx_keep (A0 := gA G) (A1 := gA G) (free := gA G) h0 e1 hh.2.2 (fun _ _ h => h) (fun _ h => h) hL hf
  obtain ⟨t2, a1, b1⟩ := kk T'.heap (locs ++ L) ⟨by rw [e1]; exact hp1, hp2, k3⟩ T' rfl X'
  exact ⟨t2, st t2 a1, b1⟩
/-- the call of a method with handlers -/
theorem am_callW {o : Option Value} (X : CX G p s m args meth c cc nL own Ts) (hh : AH G s.heap w ab H locs) (hr : vx_Run p l e R s m args below meth c H locs cells slots mc ms (F0 m pc ls st0) rest (amQ G o w1 a) (fun _ _ _ => False) (gA G))
    (kk : ∀ (ab1 : Nat) (H1 : Heap) (locs1 : List Loc), AH G s.heap w1 ab1 H1 locs1 → W p l e R s m args below meth c H1 locs1 (cells + mc) (slots + ms) Q (F0 m (pc + 3) ls (o.toList ++ rest))) : W p l e R s m args below meth c H locs cells slots Q (F0 m pc ls st0) := by
  intro T hT X1
  rcases hr T hT X1 with ⟨v, st₀, t, T', L, h0, X', hL, e1, e2, ⟨hv, hp, hf⟩, st⟩ | ⟨q, st₀, t, T', L, E, ce, h0, X', hL, e1, e2, hfalse, -⟩
  · cases hv
    obtain ⟨ab1, h3⟩ := am_back X hh h0 hL e1 hp hf
    obtain ⟨t2, a1, b1⟩ := kk ab1 T'.heap (locs ++ L) h3 T' rfl X'
    exact ⟨t2, st t2 a1, b1⟩
  · exact hfalse.elim
theorem amF_iret {v : Int32} (X : CX G p s m args meth c cc nL own Ts) (hr : meth.sig.returnType = some .int) (hh : AH G s.heap w ab H locs) {Qc : Array Value → State → Outcome → State → Prop} (hq : ∀ t : State, RelFP G ab w t ∧ va_F (gA G) s t → Qc args s (.returned (some (.int v))) t) (hc : cells ≤ mc) (hs : slots ≤ ms) (hdg : decode cc pc = .ok (.ireturn, 1)) : W p l e R s m args below meth c H locs cells slots (MQ below Qc args s mc ms (gA G)) (F0 m pc ls [.int v]) :=
  W.widen hc hs (W.iret X.1.1 X.1.2.1 hr (fun t ht _ => hq t (am_postF X hh ht)) hh.2.2.2.2 hdg X.2.2.2.2)
theorem amF_vret (X : CX G p s m args meth c cc nL own Ts) (hr : meth.sig.returnType = none) (hh : AH G s.heap w ab H locs) {Qc : Array Value → State → Outcome → State → Prop} (hq : ∀ t : State, RelFP G ab w t ∧ va_F (gA G) s t → Qc args s (.returned none) t) (hc : cells ≤ mc) (hs : slots ≤ ms) (hdg : decode cc pc = .ok (.return_, 1)) : W p l e R s m args below meth c H locs cells slots (MQ below Qc args s mc ms (gA G)) (F0 m pc ls []) :=
  W.widen hc hs (W.vret X.1.1 X.1.2.1 hr (fun t ht _ => hq t (am_postF X hh ht)) hh.2.2.2.2 hdg X.2.2.2.2)
theorem amF_zret {v v' : Int32} {ty : FieldType} (X : CX G p s m args meth c cc nL own Ts) (hr : meth.sig.returnType = some ty) (hn : narrow ty (.int v) = .int v') (hh : AH G s.heap w ab H locs) {Qc : Array Value → State → Outcome → State → Prop} (hq : ∀ t : State, RelFP G ab w t ∧ va_F (gA G) s t → Qc args s (.returned (some (.int v'))) t) (hc : cells ≤ mc) (hs : slots ≤ ms) (hdg : decode cc pc = .ok (.ireturn, 1)) : W p l e R s m args below meth c H locs cells slots (MQ below Qc args s mc ms (gA G)) (F0 m pc ls [.int v]) :=
  W.widen hc hs (W.zretN X.1.1 X.1.2.1 hr hn (fun t ht _ => hq t (am_postF X hh ht)) hh.2.2.2.2 hdg X.2.2.2.2)
/-- the length of the bytes -/
theorem am_alenC (X : CX G p s m args meth c cc nL own Ts) (hh : AH G s.heap w ab H locs) (hdg : decode cc pc = .ok (.arraylength, 1))
    (kk : W p l e R s m args below meth c H locs cells slots Q (F0 m (pc + 1) ls (.int (nI (gC w)) :: rest))) : W p l e R s m args below meth c H locs cells slots Q (F0 m pc ls (.ref ab :: rest)) := by
  have e : adx (gAd G) ab 140 = ab := by unfold adx; rw [if_pos rfl]
  have h := ws_arr (ad := adx (gAd G) ab) (cy := gCy G) (av := gVb G) (w := w) (k := 140) (t := 4) (n := gC w) (by decide) rfl rfl
  rw [e] at h
  exact va_alen X.1.1 X.1.2.1 X.2.1 hh.1 140 4 h (v := nI (gC w)) rfl rfl hdg kk
/-- a verb is stored -/
theorem am_astv (X : CX G p s m args meth c cc nL own Ts) (hh : AH G s.heap w ab H locs) (k : Nat) {n : Nat} (hk : k < 141) (hd : dsc (gC w) k = .inr (7, n)) {i : Int32} {v : Nat} (hin : vp_in i n) (hv : v < 13) (hdg : decode cc pc = .ok (.aastore, 1))
    (kk : ∀ (H1 : Heap) (locs1 : List Loc), AH G s.heap (uV w i.toNatClampNeg (some v)) ab H1 locs1 → W p l e R s m args below meth c H1 locs1 cells slots Q (F0 m (pc + 1) ls rest)) : W p l e R s m args below meth c H locs cells slots Q (F0 m pc ls (.ref (gVb G v) :: .int i :: .ref (adx (gAd G) ab k) :: rest)) := by
  have h136 := dsc_7 hk hd
  have hany : va_Any "PlanetWorkshop$Verb" s H (gVb G v) := by
    obtain ⟨cell, h1, h2, h3, h4⟩ := (X.2.2.1.2.1.1 v hv).kept hh.2.2.2.1
    obtain ⟨kC, hkC, -⟩ := Vm.findClass_spec h3
    refine ⟨cell, h1, h2, ⟨kC, hkC⟩, fun comp hcomp => ?_⟩
    cases Option.some.inj (hcomp.symm.trans h3)
    exact va_asg _ _
  refine va_astqM X.1.1 X.1.2.1 X.2.1 hh.1 hh.2.1 hh.2.2 k 7 (E := "PlanetWorkshop$Verb") (ws_arr hk hd rfl) rfl hany hin hdg (fun H1 locs1 h1 h2 h3 => kk H1 locs1 ?_)
  have e1 : (wsOf (adx (gAd G) ab) (gCy G) (gVb G) w).set k (adx (gAd G) ab k, .inl (gCy G 7, n, .inr (.inr (.inr (.inr (va_up (fun j => (gV w j).map (gVb G)) i.toNatClampNeg (some (gVb G v)))))))) = wsOf (adx (gAd G) ab) (gCy G) (gVb G) (uV w i.toNatClampNeg (some v)) := by
    refine ws_set hk ?_ (fun j hj hjk => toE_uV_ne hj (by rw [← h136]; exact hjk))
    rw [toE_a (by rw [gC_uV]; exact hd)]
    show Sum.inl (gCy G 7, n, _) = Sum.inl (gCy G 7, n, _)
    congr 7
    funext j
    show (gV (uV w i.toNatClampNeg (some v)) j).map (gVb G) = va_up (fun j => (gV w j).map (gVb G)) i.toNatClampNeg (some (gVb G v)) j
    rw [gV_uV]
    unfold va_up
    by_cases hj : j = i.toNatClampNeg
    · rw [if_pos hj, if_pos hj]; rfl
    · rw [if_neg hj, if_neg hj]
  rw [e1] at h1 h2
  exact ⟨h1, h2, h3⟩
end AMF
