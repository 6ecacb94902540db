/-! CONTRACTS over the world: beginnings, ends, calls -/
/-- the moving part of what holds behind a call -/
def RelP (G : GG) (w : Wd) (U : State) : Prop :=
  ∃ ab, va_P (gDc G) vwCl (wsOf (adx (gAd G) ab) (gCy G) (gVb G) w) U.heap ∧ va_D (gA G) (wsOf (adx (gAd G) ab) (gCy G) (gVb G) w)
def amQ (G : GG) (o : Option Value) (w1 : Wd) : Array Value → State → Outcome → State → Prop := fun _ st oc t => oc = .returned o ∧ RelP G w1 t ∧ va_F (gA G) st t
/-- of a method that may throw: z is what comes, .inl an exception's number -/
def amR {τ : Type} (G : GG) (mk : τ → Option Value) (z : Nat ⊕ τ) (w1 : Wd) : Array Value → State → Outcome → State → Prop := fun _ st oc t => (∃ r, z = .inr r ∧ oc = .returned (mk r)) ∧ RelP G w1 t ∧ va_F (gA G) st t
def amX {τ : Type} (G : GG) (z : Nat ⊕ τ) (w1 : Wd) : String → State → State → Prop := fun E st t => (∃ k, z = .inl k ∧ E = exN k) ∧ RelP G w1 t ∧ va_F (gA G) st t
def oI (r : Int32) : Option Value := some (.int r)
def oL (r : Int64) : Option Value := some (.long r)
def oF (r : UInt32) : Option Value := some (.float r)
def oD (r : UInt64) : Option Value := some (.double r)
def oV (_ : Unit) : Option Value := none
theorem am_blind {G : GG} {w : Wd} {avs : List Value} : FrameBlind (va_Pc avs (Rel G w)) := fun _ _ _ _ h => ⟨h.1, h.2.calling⟩
theorem am_met {l : Launch} {G : GG} {w : Wd} {y : MethodName} {ws ws' : List Cond} {rm : Room} {cc : ByteArray} {maxL : Nat} {ret : Option FieldType} {avs : List Value} {own : String} {Qc : Array Value → State → Outcome → State → Prop} {mc ms : Nat} (hy : plainName y.cls = true) (hw : ws = Cond.code y cc maxL ret :: ws') (hown : y.cls = own) (hlen : (lg_sl avs).length ≤ maxL)
    (body : ∀ (p : Program) (e : Env) (s : State) (m : MethodId) (args : Array Value) (below : List Frame) (meth : Method) (c : Code) (ab : Nat) (H : Heap) (locs : List Loc) (ls : Array Slot), CX G p s m args meth c cc maxL own ws → meth.sig.returnType = ret → AH G s.heap w ab H locs → lv_has ls maxL (lv_args 0 avs) → W p l e rm s m args below meth c H locs 0 0 (MQ below Qc args s mc ms (gA G)) (F0 m 0 ls [])) : Met l y ws rm (va_Pc avs (Rel G w)) Qc mc ms (gA G) := by
  refine Met.ofW hy hw ?_
  intro p e s m args below meth c s₁ B hml hv
  obtain ⟨rfl, ab, hK, hP, hD, hC, hA⟩ := hv
  rw [lg_entry_eq]
  have hn : s.vm.findClass own = some m.cls := by rw [← hown]; exact findClass_of_methodNamed B.named
  exact body p e s m _ below meth c ab s.heap [] _ ⟨⟨B.exec, B.bytes, hml, hn, atoms_spec (ws := ws) B.pre⟩, hK, hC, hA, B.notSynchronized⟩ B.returns ⟨hP, hD, va_S.rf⟩ (lv_entry avs hlen)
theorem am_metF {l : Launch} {G : GG} {w : Wd} {y : MethodName} {ws ws' : List Cond} {rm : Room} {cc : ByteArray} {maxL : Nat} {ret : Option FieldType} {avs : List Value} {own : String} {Qc : Array Value → State → Outcome → State → Prop} {mc ms : Nat} (hy : plainFor y = true) (hw : ws = Cond.code y cc maxL ret :: ws') (hown : y.cls = own) (hlen : (lg_sl avs).length ≤ maxL)
    (body : ∀ (p : Program) (e : Env) (s : State) (m : MethodId) (args : Array Value) (below : List Frame) (meth : Method) (c : Code) (ab : Nat) (H : Heap) (locs : List Loc) (ls : Array Slot), CX G p s m args meth c cc maxL own ws → meth.sig.returnType = ret → AH G s.heap w ab H locs → lv_has ls maxL (lv_args 0 avs) → W p l e rm s m args below meth c H locs 0 0 (MQ below Qc args s mc ms (gA G)) (F0 m 0 ls [])) : Met l y ws rm (va_Pc avs (Rel G w)) Qc mc ms (gA G) := by
  refine va_MetF hy hw ?_
  intro p e s m args below meth c s₁ B hml hv
  obtain ⟨rfl, ab, hK, hP, hD, hC, hA⟩ := hv
  rw [lg_entry_eq]
  have hn : s.vm.findClass own = some m.cls := by rw [← hown]; exact findClass_of_methodNamed B.named
  exact body p e s m _ below meth c ab s.heap [] _ ⟨⟨B.exec, B.bytes, hml, hn, atoms_spec (ws := ws) B.pre⟩, hK, hC, hA, B.notSynchronized⟩ B.returns ⟨hP, hD, va_S.rf⟩ (lv_entry avs hlen)
theorem am_metX {l : Launch} {G : GG} {w : Wd} {y : MethodName} {ws ws' : List Cond} {rm : Room} {cc : ByteArray} {maxL : Nat} {ret : Option FieldType} {avs : List Value} {own : String} {Qc : Array Value → State → Outcome → State → Prop} {XC : String → State → State → Prop} {mc ms : Nat} (hy : plainName y.cls = true) (hw : ws = Cond.code y cc maxL ret :: ws') (hown : y.cls = own) (hlen : (lg_sl avs).length ≤ maxL)
    (body : ∀ (p : Program) (e : Env) (s : State) (m : MethodId) (args : Array Value) (below : List Frame) (meth : Method) (c : Code) (ab : Nat) (H : Heap) (locs : List Loc) (ls : Array Slot), CX G p s m args meth c cc maxL own ws → meth.sig.returnType = ret → (∀ x ∈ c.exceptionTable.toList, False) → AH G s.heap w ab H locs → lv_has ls maxL (lv_args 0 avs) → W p l e rm s m args below meth c H locs 0 0 (vx_MQ below Qc XC args s mc ms (gA G)) (F0 m 0 ls [])) : vx_Met l y ws rm (va_Pc avs (Rel G w)) Qc XC mc ms (gA G) := by
  refine vx_ofW hy hw ?_
  intro p e s m args below meth c s₁ B hml ht hv
  obtain ⟨rfl, ab, hK, hP, hD, hC, hA⟩ := hv
  rw [lg_entry_eq]
  have hn : s.vm.findClass own = some m.cls := by rw [← hown]; exact findClass_of_methodNamed B.named
  exact body p e s m _ below meth c ab s.heap [] _ ⟨⟨B.exec, B.bytes, hml, hn, atoms_spec (ws := ws) B.pre⟩, hK, hC, hA, B.notSynchronized⟩ B.returns ht ⟨hP, hD, va_S.rf⟩ (lv_entry avs hlen)
section AMC
variable {p : Program} {l : Launch} {e : Env} {R : Room} {s : State} {m : MethodId} {args : Array Value} {below : List Frame} {meth : Method} {c : Code} {H : Heap} {locs : List Loc} {cells slots mc ms : Nat} {Q : State → Prop} {G : GG} {w w1 : Wd} {ab : Nat} {cc : ByteArray} {pc nL : Nat} {ls : Array Slot} {rest st0 : List Value} {own : String} {Ts : List Cond} {a : Array Value}
theorem am_post (X : CX G p s m args meth c cc nL own Ts) (hh : AH G s.heap w ab H locs) {t : State} (ht : t.heap = H) : RelP G w t ∧ va_F (gA G) s t :=
  ⟨⟨ab, by rw [ht]; exact hh.1, hh.2.1⟩, hh.2.2.F ht⟩
theorem am_preV (X : CX G p s m args meth c cc nL own Ts) (hh : AH G s.heap w ab H locs) (k ci : Nat) {ks : List (Option Nat)} (hk : k < 141) (hd : dsc (gC w) k = .inl (ci, ks)) {q : vw_C} (hc : vwCl[ci]? = some q) {As : List Value} : PreV s H q.1 (adx (gAd G) ab k) (va_Pc (.ref (adx (gAd G) ab k) :: As) (Rel G w)) As :=
  ⟨am_blind, va_recv X.2.1 hh.1 hc (by rw [ws_at hk, toE_o hd]), fun _ hU hW => ⟨rfl, am_rel X hh hU hW⟩⟩
theorem am_preS (X : CX G p s m args meth c cc nL own Ts) (hh : AH G s.heap w ab H locs) {As : List Value} : PreS s H (va_Pc As (Rel G w)) As :=
  ⟨am_blind, fun _ hU hW => ⟨rfl, am_rel X hh hU hW⟩⟩
theorem am_back (X : CX G p s m args meth c cc nL own Ts) (hh : AH G s.heap w ab H locs) {st₀ t T' : State} {L : List Loc} (h0 : st₀.heap = H) (hL : ∀ q ∈ L, gA G q.base) (e1 : T'.heap = t.heap) (hr : RelP G w1 t) (hf : va_F (gA G) st₀ t) : ∃ ab1, AH G s.heap w1 ab1 T'.heap (locs ++ L) := by
  obtain ⟨ab1, h1, h2⟩ := hr
  obtain ⟨-, -, k3⟩ := vx_keep (A0 := gA G) (A1 := gA G) (free := gA G) h0 e1 hh.2.2 (fun _ _ h => h) (fun _ h => h) hL hf
  exact ⟨ab1, by rw [e1]; exact h1, h2, k3⟩
theorem am_call {o : Option Value} (X : CX G p s m args meth c cc nL own Ts) (hh : AH G s.heap w ab H locs) (hr : va_Run p l e R s m args below meth c H locs cells slots mc ms (F0 m pc ls st0) rest (amQ G o w1 a) (gA G))
    (kk : ∀ (ab1 : Nat) (H1 : Heap) (locs1 : List Loc), AH G s.heap w1 ab1 H1 locs1 → W p l e R s m args below meth c H1 locs1 (cells + mc) (slots + ms) Q (F0 m (pc + 3) ls (o.toList ++ rest))) : W p l e R s m args below meth c H locs cells slots Q (F0 m pc ls st0) := by
  intro T hT X1
  obtain ⟨v, st₀, t, T', L, h0, X', hL, e1, e2, ⟨hv, hp, hf⟩, st⟩ := hr T hT X1
  cases hv
  obtain ⟨ab1, h3⟩ := am_back X hh h0 hL e1 hp hf
  obtain ⟨t2, a1, b1⟩ := kk ab1 T'.heap (locs ++ L) h3 T' rfl X'
  exact ⟨t2, st t2 a1, b1⟩
/-- the call of a method that may throw -/
theorem am_callX {τ : Type} {mk : τ → Option Value} {z : Nat ⊕ τ} (X : CX G p s m args meth c cc nL own Ts) (hh : AH G s.heap w ab H locs) (hr : vx_Run p l e R s m args below meth c H locs cells slots mc ms (F0 m pc ls st0) rest (amR G mk z w1 a) (amX G z w1) (gA G))
    (kx : ∀ (k ab1 : Nat) (H1 : Heap) (locs1 : List Loc) (ce : Cell) (q : Addr), z = .inl k → AH G s.heap w1 ab1 H1 locs1 → H1[q]? = some ce → ce.vm = .none → s.vm.findClass (exN k) = some ce.cls → vx_W p l e R s m args below meth c H1 locs1 (cells + mc) (slots + ms) Q (F0 m pc ls rest) q)
    (kk : ∀ (r : τ) (ab1 : Nat) (H1 : Heap) (locs1 : List Loc), z = .inr r → AH G s.heap w1 ab1 H1 locs1 → W p l e R s m args below meth c H1 locs1 (cells + mc) (slots + ms) Q (F0 m (pc + 3) ls ((mk r).toList ++ rest))) : W p l e R s m args below meth c H locs cells slots Q (F0 m pc ls st0) := by
  intro T hT X1
  rcases hr T hT X1 with ⟨v, st₀, t, T', L, h0, X', hL, e1, e2, ⟨⟨r, hz, hv⟩, hp, hf⟩, st⟩ | ⟨q, st₀, t, T', L, E, ce, h0, X', hL, e1, e2, ⟨⟨k, hz, hE⟩, hp, hf⟩, hce, hcv, hcl, st⟩
  · cases hv
    obtain ⟨ab1, h3⟩ := am_back X hh h0 hL e1 hp hf
    obtain ⟨t2, a1, b1⟩ := kk r ab1 T'.heap (locs ++ L) hz h3 T' rfl X'
    exact ⟨t2, st t2 a1, b1⟩
  · subst hE
    obtain ⟨ab1, h3⟩ := am_back X hh h0 hL e1 hp hf
    obtain ⟨t2, a1, b1⟩ := kx k ab1 T'.heap (locs ++ L) ce q hz h3 (by rw [e1]; exact hce) hcv hcl T' rfl X'
    exact ⟨t2, st.trans a1, b1⟩
/-- not caught here -/
theorem am_out {τ : Type} {z : Nat ⊕ τ} {Qc : Array Value → State → Outcome → State → Prop} {k : Nat} {ce : Cell} {q : Addr} (X : CX G p s m args meth c cc nL own Ts) (htb : ∀ x ∈ c.exceptionTable.toList, False) (hh : AH G s.heap w ab H locs) (hz : z = .inl k) (hw : w1 = w) (hce : H[q]? = some ce) (hcv : ce.vm = .none) (hcl : s.vm.findClass (exN k) = some ce.cls) (hc : cells ≤ mc) (hs : slots ≤ ms) :
    vx_W p l e R s m args below meth c H locs cells slots (vx_MQ below Qc (amX G z w1) args s mc ms (gA G)) (F0 m pc ls rest) q := by
  subst hw
  exact vx_out (fun x hx => (htb x hx).elim) X.2.2.2.2 hce hcv hcl (fun t ht _ => ⟨⟨k, hz, rfl⟩, am_post X hh ht⟩) hh.2.2.2.2 hc hs
/-- ends: the value is named by ho -/
theorem am_iret {v : Int32} (X : CX G p s m args meth c cc nL own Ts) (hr : meth.sig.returnType = some .int) (hh : AH G s.heap w ab H locs) {Qc : Array Value → State → Outcome → State → Prop} (hq : ∀ t : State, RelP G w t ∧ va_F (gA G) s t → Qc args s (.returned (some (.int v))) t) (hc : cells ≤ mc) (hs : slots ≤ ms) (hdg : decode cc pc = .ok (.ireturn, 1)) : W p l e R s m args below meth c H locs cells slots (MQ below Qc args s mc ms (gA G)) (F0 m pc ls [.int v]) :=
  W.widen hc hs (W.iret X.1.1 X.1.2.1 hr (fun t ht _ => hq t (am_post X hh ht)) hh.2.2.2.2 hdg X.2.2.2.2)
theorem am_lret {v : Int64} (X : CX G p s m args meth c cc nL own Ts) (hr : meth.sig.returnType = some .long) (hh : AH G s.heap w ab H locs) {Qc : Array Value → State → Outcome → State → Prop} (hq : ∀ t : State, RelP G w t ∧ va_F (gA G) s t → Qc args s (.returned (some (.long v))) t) (hc : cells ≤ mc) (hs : slots ≤ ms) (hdg : decode cc pc = .ok (.lreturn, 1)) : W p l e R s m args below meth c H locs cells slots (MQ below Qc args s mc ms (gA G)) (F0 m pc ls [.long v]) :=
  W.widen hc hs (W.lret X.1.1 X.1.2.1 hr (fun t ht _ => hq t (am_post X hh ht)) hh.2.2.2.2 hdg X.2.2.2.2)
theorem am_fret {v : UInt32} (X : CX G p s m args meth c cc nL own Ts) (hr : meth.sig.returnType = some .float) (hh : AH G s.heap w ab H locs) {Qc : Array Value → State → Outcome → State → Prop} (hq : ∀ t : State, RelP G w t ∧ va_F (gA G) s t → Qc args s (.returned (some (.float v))) t) (hc : cells ≤ mc) (hs : slots ≤ ms) (hdg : decode cc pc = .ok (.freturn, 1)) : W p l e R s m args below meth c H locs cells slots (MQ below Qc args s mc ms (gA G)) (F0 m pc ls [.float v]) :=
  W.widen hc hs (W.fret X.1.1 X.1.2.1 hr (fun t ht _ => hq t (am_post X hh ht)) hh.2.2.2.2 hdg X.2.2.2.2)
theorem am_dret {v : UInt64} (X : CX G p s m args meth c cc nL own Ts) (hr : meth.sig.returnType = some .double) (hh : AH G s.heap w ab H locs) {Qc : Array Value → State → Outcome → State → Prop} (hq : ∀ t : State, RelP G w t ∧ va_F (gA G) s t → Qc args s (.returned (some (.double v))) t) (hc : cells ≤ mc) (hs : slots ≤ ms) (hdg : decode cc pc = .ok (.dreturn, 1)) : W p l e R s m args below meth c H locs cells slots (MQ below Qc args s mc ms (gA G)) (F0 m pc ls [.double v]) :=
  W.widen hc hs (W.dret X.1.1 X.1.2.1 hr (fun t ht _ => hq t (am_post X hh ht)) hh.2.2.2.2 hdg X.2.2.2.2)
theorem am_vret (X : CX G p s m args meth c cc nL own Ts) (hr : meth.sig.returnType = none) (hh : AH G s.heap w ab H locs) {Qc : Array Value → State → Outcome → State → Prop} (hq : ∀ t : State, RelP G w t ∧ va_F (gA G) s t → Qc args s (.returned none) t) (hc : cells ≤ mc) (hs : slots ≤ ms) (hdg : decode cc pc = .ok (.return_, 1)) : W p l e R s m args below meth c H locs cells slots (MQ below Qc args s mc ms (gA G)) (F0 m pc ls []) :=
  W.widen hc hs (W.vret X.1.1 X.1.2.1 hr (fun t ht _ => hq t (am_post X hh ht)) hh.2.2.2.2 hdg X.2.2.2.2)
/-- a boolean or char on the stack comes out narrowed -/
theorem W.zretN {Qc : Array Value → State → Outcome → State → Prop} {free : Addr → Prop} {v v' : Int32} {ty : FieldType} (hexec : p.tables.exec = Jvm.exec) (hb : c.code = cc) (hr : meth.sig.returnType = some ty) (hn : narrow ty (.int v) = .int v')
    (hq : ∀ t : State, t.heap = H → s.WarmedH t.vm → Qc args s (.returned (some (.int v'))) t) (hf : ∀ q ∈ locs, free q.base)
    (hdg : decode cc pc = .ok (.ireturn, 1)) (hlocks : meth.locks = false) : W p l e R s m args below meth c H locs cells slots (MQ below Qc args s cells slots free) (F0 m pc ls [.int v]) := by
  intro T hT X
  obtain ⟨fs, hret, hrun, hended, hW, hframe⟩ := X.leave (v := some (.int v')) (hlocks := hlocks) (fun h => by rw [hr] at h; cases h)
  have hmeth' : T.vm.method? m = some meth := X.method'
  refine ⟨T.setFrames fs, ?_, .returned (some (.int v')), hrun, hended, hq _ hT hW, locs, ⟨⟨_, rfl⟩, hW, hframe⟩, hf⟩
  jvm_step X.here [X.here.top, hexec, hb, hdg, hmeth', hr, hn]
  (try refine ⟨rfl, ?_⟩); (try refine ⟨rfl, ?_⟩)
  first | (intro acts; rw [hret _ acts rfl rfl rfl]) | rw [hret _ _ rfl rfl rfl]
  exact Steps.refl _
theorem nar_z (v : Int32) : narrow .boolean (.int v) = .int (vp_nar .boolean v) := rfl
theorem nar_c (v : Int32) : narrow .char (.int v) = .int (vp_nar .char v) := rfl
theorem nar_b (v : Int32) : narrow .byte (.int v) = .int (vp_nar .byte v) := rfl
theorem am_zret {v v' : Int32} {ty : FieldType} (X : CX G p s m args meth c cc nL own Ts) (hr : meth.sig.returnType = some ty) (hn : narrow ty (.int v) = .int v') (hh : AH G s.heap w ab H locs) {Qc : Array Value → State → Outcome → State → Prop} (hq : ∀ t : State, RelP G w t ∧ va_F (gA G) s t → Qc args s (.returned (some (.int v'))) t) (hc : cells ≤ mc) (hs : slots ≤ ms) (hdg : decode cc pc = .ok (.ireturn, 1)) : W p l e R s m args below meth c H locs cells slots (MQ below Qc args s mc ms (gA G)) (F0 m pc ls [.int v]) :=
  W.widen hc hs (W.zretN X.1.1 X.1.2.1 hr hn (fun t ht _ => hq t (am_post X hh ht)) hh.2.2.2.2 hdg X.2.2.2.2)
theorem am_aret {v : Value} {rt : FieldType} (X : CX G p s m args meth c cc nL own Ts) (hr : meth.sig.returnType = some rt) (hn : (∃ n, rt = .object n) ∨ ∃ t, rt = .array t) (hv : v = .null ∨ ∃ a, v = .ref a) (hh : AH G s.heap w ab H locs) {Qc : Array Value → State → Outcome → State → Prop} (hq : ∀ t : State, RelP G w t ∧ va_F (gA G) s t → Qc args s (.returned (some v)) t) (hc : cells ≤ mc) (hs : slots ≤ ms) (hdg : decode cc pc = .ok (.areturn, 1)) : W p l e R s m args below meth c H locs cells slots (MQ below Qc args s mc ms (gA G)) (F0 m pc ls [v]) :=
  W.widen hc hs (W.aret X.1.1 X.1.2.1 hr hn hv (fun t ht _ => hq t (am_post X hh ht)) hh.2.2.2.2 hdg X.2.2.2.2)
/-- throw new E() -/
theorem am_throw {τ : Type} {z : Nat ⊕ τ} {Qc : Array Value → State → Outcome → State → Prop} {k ik ic : Nat} (X : CX G p s m args meth c cc nL own Ts) (hl : l.stackTraces = false) (htb : ∀ x ∈ c.exceptionTable.toList, False) (hh : AH G s.heap w ab H locs) {lv : List (Nat × Value)} (hls : lv_has ls nL lv)
    (hk : Cond.classLink own ik (exN k) ∈ Ts) (hini : Cond.initialized (exN k) ∈ Ts) (hat : ∀ q ∈ (vx_at0 own ic (exN k) ["java/lang/RuntimeException", "java/lang/Exception"]).filter goodWord, q ∈ Ts)
    (hfit : Bundle.fit (exN k) = true) (hng : (vx_at0 own ic (exN k) ["java/lang/RuntimeException", "java/lang/Exception"]).filter (fun q => !goodWord q) = [.declares (Bundle.init0 "java/lang/RuntimeException"), .declares (Bundle.init0 "java/lang/Exception"), .declares (Bundle.init0 Bundle.tN), .castable (exN k) (exN k)]) (hot : ∀ q ∈ vx_at0 own ic (exN k) ["java/lang/RuntimeException", "java/lang/Exception"], vx_ot q = true)
    (d0 : decode cc pc = .ok (.new ik, 3)) (d3 : decode cc (pc + 3) = .ok (.dup, 1)) (d4 : decode cc (pc + 4) = .ok (.invokespecial ic, 3)) (d7 : decode cc (pc + 7) = .ok (.athrow, 1))
    (hRf : 5 < R.frames) (hRl : (rest.map fun v => v.category).sum + 81 ≤ R.locals) (hRc : cells + 1 ≤ R.cells) (hRs : slots + 6 ≤ R.slots) (hz : z = .inl k) (hw : w1 = w) (hc : cells + 1 ≤ mc) (hs : slots + 6 ≤ ms) :
    W p l e R s m args below meth c H locs cells slots (vx_MQ below Qc (amX G z w1) args s mc ms (gA G)) (F0 m pc ls rest) := by
  obtain ⟨⟨hx, hb, hml, hown, hts⟩, hK, hC, hA, hlocks⟩ := X
  obtain ⟨hP, hD, hS⟩ := hh
  subst hw
  have hcast : (Cond.castable (exN k) (exN k)).before args s = true := (hC.2.2.2.1 k).use rfl
  refine vx_throw0 hx hb hl (own := own) (cls := exN k) (names := ["java/lang/RuntimeException", "java/lang/Exception"]) hown hfit (by decide +kernel) (hts _ hk) (hts _ hini) (vx_hat (B := [.declares (Bundle.init0 "java/lang/RuntimeException"), .declares (Bundle.init0 "java/lang/Exception"), .declares (Bundle.init0 Bundle.tN), .castable (exN k) (exN k)]) (fun q hq => hts q (hat q hq)) (fun q hq => by rw [hng] at hq; exact hq) (vx_c (hC.2.2.2.2.2.2.2.1.use rfl) (vx_c (hC.2.2.2.2.2.2.2.2.1.use rfl) (vx_c (hC.2.2.2.2.2.2.2.2.2.use rfl) (vx_c hcast vx_n))))) ?_ hC.2.2.1.2.2.1 hC.2.2.1.2.2.2 hS (hls.1.trans hml.symm) d0 d3 d4 d7 (fun x hx => (htb x hx).elim) hRf hRl hRc hRs hlocks (fun t _ hz1 hk1 => ?_) hS.2.2 hc hs
  · intro q hq
    rcases List.mem_cons.mp hq with rfl | hq
    · rfl
    · rcases List.mem_cons.mp hq with rfl | hq
      · rfl
      · exact hot q hq
  · refine ⟨⟨k, hz, rfl⟩, ⟨ab, hP.kept (fun i q hi => hk1 q.1 (hP i q hi).lt), hD⟩, Nat.le_trans hS.1 hz1, fun q h1 h2 => ?_⟩
    rw [hk1 q (Nat.lt_of_lt_of_le h1 hS.1)]
    exact hS.2.1 q h1 h2
end AMC
