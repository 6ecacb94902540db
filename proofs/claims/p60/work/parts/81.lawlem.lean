/-! THE LAW'S OWN METHODS: what their walks stand on -/
abbrev Sc : Type := Nat × (Nat → Int32)
def f_L_at (sc : Sc) (x : Int32) : Option Int32 := if nI sc.1 ≤ x then some 0 else (if inR x sc.1 then some (sc.2 x.toNatClampNeg) else none)
theorem at_met {l : Launch} {y : MethodName} {ws ws' : List Cond} {rm : Room} {cc : ByteArray} {maxL : Nat} {ret : Option FieldType} {avs : List Value} {Pre : State → Prop} {Qc : Array Value → State → Outcome → State → Prop} {mc ms : Nat} {free : Nat → Prop} (hy : plainName y.cls = true) (hw : ws = Cond.code y cc maxL ret :: ws') (hlen : (lg_sl avs).length ≤ maxL)
    (body : ∀ (p : Program) (e : Env) (s : State) (m : MethodId) (args : Array Value) (below : List Frame) (meth : Method) (c : Code) (ls : Array Slot), p.tables.exec = Jvm.exec → c.code = cc → c.maxLocals = maxL → s.vm.findClass y.cls = some m.cls → (∀ w ∈ ws, w.before args s = true) → meth.sig.returnType = ret → meth.locks = false → Pre s → lv_has ls maxL (lv_args 0 avs) → W p l e rm s m args below meth c s.heap [] 0 0 (MQ below Qc args s mc ms free) (F0 m 0 ls [])) : Met l y ws rm (va_Pc avs Pre) Qc mc ms free := by
  refine Met.ofW hy hw ?_
  intro p e s m args below meth c s₁ B hml hv
  obtain ⟨rfl, hX⟩ := hv
  rw [lg_entry_eq]
  exact body p e s m _ below meth c _ B.exec B.bytes hml (findClass_of_methodNamed B.named) (atoms_spec (ws := ws) B.pre) B.returns B.notSynchronized hX (lv_entry avs hlen)
def atQ (r : Int32) : Array Value → State → Outcome → State → Prop := fun _ st oc t => oc = .returned (some (.int r)) ∧ va_F (fun _ => False) st t
def atP (b : Nat) (sc : Sc) (U : State) : Prop := va_X b sc.1 sc.2 U U.heap
theorem at_F {s t : State} (ht : t.heap = s.heap) : va_F (fun _ => False) s t := ⟨by rw [ht]; exact Nat.le_refl _, fun q _ _ => by rw [ht]⟩
set_option maxHeartbeats 4000000 in
set_option maxRecDepth 100000 in
theorem c_L_at (l : Launch) {b : Nat} {sc : Sc} {x r : Int32} (hF : f_L_at sc x = some r) : Met l yL_at wsL_at ({ frames := 0, cells := 0, slots := 0, locals := 0 } : Room) (va_Pc [.ref b, .int x] (atP b sc)) (atQ r) 0 0 (fun _ => False) := by
  refine at_met (cc := cL_at) (maxL := 2) (ret := some .int) (by decide +kernel) rfl (Nat.le_of_ble_eq_true rfl) ?_
  intro p e s m args below meth c ls hx hb hml hown hts hr hlk hX hl
  have hl : lv_has ls 2 [(0, .ref b), (1, .int x)] := hl
  have hX : va_X b sc.1 sc.2 s s.heap := hX
  have hbl : b < s.heap.size := by
    obtain ⟨scr, h1, -⟩ := hX
    exact (Array.getElem?_eq_some_iff.mp h1).1
  have hS : va_S (fun _ => False) s.heap s.heap [] := va_S.rf
  unfold f_L_at at hF
  refine lv_iload_n hx hb dL_at_0 rfl (lv_at hl 1 rfl) ?_
  refine lv_aload_n hx hb dL_at_1 rfl (lv_at hl 0 rfl) ?_
  refine va_slen hx hb hX hbl (fun h => h) hS dL_at_2 ?_
  refine lv_icmp_ge (tgt := 12) hx hb dL_at_3 (by decide) (fun hc1 => ?_) (fun hc1 => ?_)
  · have hF := am_pos (show nI sc.1 ≤ x from hc1) hF
    refine lv_iconst (v := (0 : Int32)) hx hb dL_at_12 (by decide) ?_
    exact W.iret hx hb hr (fun t ht _ => ⟨by cases hF; rfl, at_F ht⟩) (fun q h => by cases h) dL_at_13 hlk
  · have hF := am_neg (show ¬ nI sc.1 ≤ x from hc1) hF
    obtain ⟨hq, hF⟩ := am_ifR hF
    refine lv_aload_n hx hb dL_at_6 rfl (lv_at hl 0 rfl) ?_
    refine lv_iload_n hx hb dL_at_7 rfl (lv_at hl 1 rfl) ?_
    refine va_sld hx hb hX hbl (fun h => h) hS hq dL_at_8 ?_
    refine lv_goto (tgt := 13) hx hb dL_at_9 (by decide) ?_
    exact W.iret hx hb hr (fun t ht _ => ⟨by cases hF; rfl, at_F ht⟩) (fun q h => by cases h) dL_at_13 hlk
theorem at_blind {b : Nat} {sc : Sc} {avs : List Value} : FrameBlind (va_Pc avs (atP b sc)) := fun _ U g mk h => ⟨h.1, va_X.moved (u := U) (U := U.calling g mk _) (Vm.Alike.refl U.vm) h.2⟩
section
variable {p : Program} {l : Launch} {e : Env} {R : Room} {s : State} {m : MethodId} {args : Array Value} {below : List Frame} {meth : Method} {c : Code} {H : Heap} {locs : List Loc} {cells slots : Nat} {Q : State → Prop} {G : GG} {w : Wd} {ab : Nat} {cc : ByteArray} {pc nL : Nat} {ls : Array Slot} {rest st0 : List Value} {own : String} {Ts : List Cond} {a : Array Value} {r : Int32} {b : Nat} {sc : Sc}
theorem at_preS {A : Nat → Prop} (hX : va_X b sc.1 sc.2 s s.heap) (hbl : b < s.heap.size) (hbA : ¬ A b) (hS : va_S A s.heap H locs) {As : List Value} : PreS s H (va_Pc As (atP b sc)) As :=
  ⟨at_blind, fun U hU hW => ⟨rfl, by show va_X b sc.1 sc.2 U U.heap; rw [hU]; exact (hX.kept (hS.2.1 b hbl hbA)).moved hW.alike⟩⟩
theorem at_pre (_X : CX G p s m args meth c cc nL own Ts) (hX : va_X b sc.1 sc.2 s s.heap) (hbl : b < s.heap.size) (hbA : ¬ gA G b) (hh : AH G s.heap w ab H locs) {As : List Value} : PreS s H (va_Pc As (atP b sc)) As := at_preS hX hbl hbA hh.2.2
theorem am_callAt (_X : CX G p s m args meth c cc nL own Ts) (hh : AH G s.heap w ab H locs) (hr : va_Run p l e R s m args below meth c H locs cells slots 0 0 (F0 m pc ls st0) rest (atQ r a) (fun _ => False))
    (kk : ∀ (H1 : Heap) (locs1 : List Loc), AH G s.heap w ab H1 locs1 → W p l e R s m args below meth c H1 locs1 cells slots Q (F0 m (pc + 3) ls (.int r :: rest))) : W p l e R s m args below meth c H locs cells slots Q (F0 m pc ls st0) := by
  intro T hT X1
  obtain ⟨v, st₀, t, T', L, h0, X', hL, e1, e2, ⟨hv, hf⟩, st⟩ := hr T hT X1
  cases hv
  obtain ⟨-, k2, k3⟩ := vx_keep (A0 := gA G) (A1 := fun _ => False) (free := fun _ => False) h0 e1 hh.2.2 (fun _ _ h => h.elim) (fun _ h => h.elim) hL hf
  obtain ⟨t2, a1, b1⟩ := kk T'.heap (locs ++ L) ⟨hh.1.kept (fun i q hi => k2 q.1 (hh.1 i q hi).lt (fun h => h)), hh.2.1, k3⟩ T' rfl X'
  exact ⟨t2, st t2 a1, b1⟩
end
/-- the end of build: an object somewhere -/
def bdR (D : va_G) (cy : Nat → ClassId) (av : Nat → Nat) (A : Nat → Prop) (w1 : Wd) : Array Value → State → Outcome → State → Prop := fun _ st oc t => ∃ ad : Nat → Nat, oc = .returned (some (.ref (ad 0))) ∧ RelP (D, ad, cy, av, A) w1 t ∧ va_F A st t
def bdQ (G : GG) (w1 : Wd) : Array Value → State → Outcome → State → Prop := bdR (gDc G) (gCy G) (gAv G) (gA G) w1
theorem am_bq {G : GG} {w w1 : Wd} {args : Array Value} {s t : State} (h : some w = some w1) (ht : RelP G w t ∧ va_F (gA G) s t) : bdQ G w1 args s (.returned (some (.ref (gAd G 0)))) t := by cases h; exact ⟨gAd G, rfl, ht⟩
theorem pre_pass {own : String} {args : Array Value} {s : State} {E : String} {pre : List ExceptionTableEntry} {pc : Nat} (cts : List Nat) (h : (pre.all fun z => !covers z pc || decide (z.catchType ∈ cts)) = true)
    (hc : ∀ k ∈ cts, k ≠ 0 ∧ ∃ nm : String, (Cond.classLink own k nm).before args s = true ∧ va_Nc E nm s) : ∀ z ∈ pre, covers z pc = false ∨ (z.catchType ≠ 0 ∧ ∃ nm : String, (Cond.classLink own z.catchType nm).before args s = true ∧ va_Nc E nm s) := by
  intro z hz
  have h1 := List.all_eq_true.mp h z hz
  rcases (Bool.or_eq_true _ _).mp h1 with h2 | h2
  · exact Or.inl (by rw [← Bool.not_eq_true']; exact h2)
  · exact Or.inr (hc _ (of_decide_eq_true h2))
def tbL_act : List ExceptionTableEntry := [⟨0, 97, 247, 107⟩, ⟨98, 104, 247, 107⟩, ⟨105, 111, 247, 107⟩, ⟨112, 118, 247, 107⟩, ⟨119, 125, 247, 107⟩, ⟨126, 132, 247, 107⟩, ⟨133, 146, 247, 107⟩, ⟨147, 153, 247, 107⟩, ⟨154, 159, 247, 107⟩, ⟨160, 183, 247, 107⟩, ⟨184, 189, 247, 107⟩, ⟨190, 195, 247, 107⟩, ⟨196, 201, 247, 107⟩, ⟨202, 207, 247, 107⟩, ⟨208, 213, 247, 107⟩, ⟨214, 220, 247, 107⟩, ⟨221, 226, 247, 107⟩, ⟨227, 233, 247, 107⟩, ⟨234, 240, 247, 107⟩, ⟨241, 246, 247, 107⟩, ⟨0, 97, 251, 109⟩, ⟨98, 104, 251, 109⟩, ⟨105, 111, 251, 109⟩, ⟨112, 118, 251, 109⟩, ⟨119, 125, 251, 109⟩, ⟨126, 132, 251, 109⟩, ⟨133, 146, 251, 109⟩, ⟨147, 153, 251, 109⟩, ⟨154, 159, 251, 109⟩, ⟨160, 183, 251, 109⟩, ⟨184, 189, 251, 109⟩, ⟨190, 195, 251, 109⟩, ⟨196, 201, 251, 109⟩, ⟨202, 207, 251, 109⟩, ⟨208, 213, 251, 109⟩, ⟨214, 220, 251, 109⟩, ⟨221, 226, 251, 109⟩, ⟨227, 233, 251, 109⟩, ⟨234, 240, 251, 109⟩, ⟨241, 246, 251, 109⟩, ⟨0, 97, 256, 111⟩, ⟨98, 104, 256, 111⟩, ⟨105, 111, 256, 111⟩, ⟨112, 118, 256, 111⟩, ⟨119, 125, 256, 111⟩, ⟨126, 132, 256, 111⟩, ⟨133, 146, 256, 111⟩, ⟨147, 153, 256, 111⟩, ⟨154, 159, 256, 111⟩, ⟨160, 183, 256, 111⟩, ⟨184, 189, 256, 111⟩, ⟨190, 195, 256, 111⟩, ⟨196, 201, 256, 111⟩, ⟨202, 207, 256, 111⟩, ⟨208, 213, 256, 111⟩, ⟨214, 220, 256, 111⟩, ⟨221, 226, 256, 111⟩, ⟨227, 233, 256, 111⟩, ⟨234, 240, 256, 111⟩, ⟨241, 246, 256, 111⟩, ⟨0, 97, 261, 113⟩, ⟨98, 104, 261, 113⟩, ⟨105, 111, 261, 113⟩, ⟨112, 118, 261, 113⟩, ⟨119, 125, 261, 113⟩, ⟨126, 132, 261, 113⟩, ⟨133, 146, 261, 113⟩, ⟨147, 153, 261, 113⟩, ⟨154, 159, 261, 113⟩, ⟨160, 183, 261, 113⟩, ⟨184, 189, 261, 113⟩, ⟨190, 195, 261, 113⟩, ⟨196, 201, 261, 113⟩, ⟨202, 207, 261, 113⟩, ⟨208, 213, 261, 113⟩, ⟨214, 220, 261, 113⟩, ⟨221, 226, 261, 113⟩, ⟨227, 233, 261, 113⟩, ⟨234, 240, 261, 113⟩, ⟨241, 246, 261, 113⟩, ⟨0, 97, 266, 115⟩, ⟨98, 104, 266, 115⟩, ⟨105, 111, 266, 115⟩, ⟨112, 118, 266, 115⟩, ⟨119, 125, 266, 115⟩, ⟨126, 132, 266, 115⟩, ⟨133, 146, 266, 115⟩, ⟨147, 153, 266, 115⟩, ⟨154, 159, 266, 115⟩, ⟨160, 183, 266, 115⟩, ⟨184, 189, 266, 115⟩, ⟨190, 195, 266, 115⟩, ⟨196, 201, 266, 115⟩, ⟨202, 207, 266, 115⟩, ⟨208, 213, 266, 115⟩, ⟨214, 220, 266, 115⟩, ⟨221, 226, 266, 115⟩, ⟨227, 233, 266, 115⟩, ⟨234, 240, 266, 115⟩, ⟨241, 246, 266, 115⟩]
