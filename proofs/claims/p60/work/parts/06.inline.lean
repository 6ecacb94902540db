/-! A CALLEE WALKED INLINE: whether its class is initialised isn't asked (Enum.ordinal) -/
theorem inl_back {l : Launch} {R : Room} {p : Program} {e : Env} {below : List Frame} {s : State} {sargs : Array Value} {y : MethodName} {len W' maxL lo mc ms : Nat} {bytes : ByteArray} {ret : Option FieldType} {Pc : Array Value → State → Prop} {Qc : Array Value → State → Outcome → State → Prop} {free : Addr → Prop}
    (hy : plainFor y = true) (hblind : FrameBlind Pc) (hcode : ∀ (U : State) (a : Array Value), s.WarmedH U.vm → (Cond.code y bytes maxL ret).before a U = true)
    (hframes : 1 ≤ R.frames) (hlocals : W' + (maxL + 11) + lo ≤ R.locals)
    (body : ∀ (U : State) (a : Array Value) (mk : MethodId) (mt : Method) (ck : Code) (g : JFrame) (bl : List Frame), ck.code = bytes → ck.maxLocals = maxL → mt.sig.returnType = ret → mt.locks = false → U.vm.findClass y.cls = some mk.cls → s.WarmedH U.vm → Pc a (U.calling g mk a) →
      W p l e { frames := 0, cells := mc, slots := ms, locals := lo } (U.calling g mk a) mk a bl mt ck (U.calling g mk a).heap [] 0 0 (MQ bl Qc a (U.calling g mk a) mc ms free) (entryFrame mk a maxL)) :
    Back l R p e below s sargs y len W' (PreOf R mc ms Pc) (PostOf Qc mc ms free) := by
  intro m meth c A g ig mk a X hg hsize hdg hW hn hp
  obtain ⟨U, Ls, c0, s0⟩ := A
  obtain ⟨h4, h5, hP⟩ := hp
  dsimp only [Pt.U, Pt.locs, Pt.cells, Pt.slots] at h4 h5 hP X hn ⊢
  have hc := hcode U a X.warmed
  obtain ⟨mt, ck, hm, hk, hb, hl, hr, hlo, -, -⟩ := Cond.code_spec hn hc
  have hpl : U.plainMethod mk := State.plainMethod.of_named (s := U) hy hn hm
  obtain ⟨Y, hgo⟩ := X.into hg hsize hdg a (R' := { frames := 0, cells := mc, slots := ms, locals := lo }) hm hk hlo hpl hframes (by rw [hl]; show _ + lo ≤ _; omega) h4 h5
  obtain ⟨t, st, o, hrun, hend, hq, L, hF, hL⟩ := body U a mk mt ck g (.java g :: below) hb hl hr hlo (findClass_of_methodNamed hn) X.warmed (hblind _ _ _ _ hP) ((U.setTop g).pushFrame (.java (entryFrame mk a ck.maxLocals))) rfl Y
  have hF' := hF
  obtain ⟨⟨v, hv⟩, hW2, hsame⟩ := hF'
  subst hv
  obtain ⟨T', X', hW3, hB, ht⟩ := X.outOf hg hdg hend hW2 hsame
  refine ⟨v, ⟨T', Ls ++ L, c0 + mc, s0 + ms⟩, X', ⟨g, mk, t, L, by rw [ht]; rfl, by rw [ht]; rfl, hq, rfl, hL, rfl, rfl⟩, ?_⟩
  show Steps p.tables e below (doInvoke e (U.setTop g) [] mk a).1 (T'.setTop { g with pc := g.pc + len, stack := v.toList ++ g.stack })
  rw [hgo [], hl, ← ht]
  rw [hl] at Y
  obtain ⟨n, hn1, hn2⟩ := st
  rw [hl] at hn1 hn2
  exact ⟨n, hn1, fun k hk1 => Within.weaken (mid := [.java g]) (hn2 k hk1)⟩
abbrev ORD : MethodName := ⟨"PlanetWorkshop$Verb", "ordinal", "()I"⟩
theorem am_runO {p : Program} {l : Launch} {e : Env} {R : Room} {s : State} {m : MethodId} {args : Array Value} {below : List Frame} {meth : Method} {c : Code} {H : Heap} {locs : List Loc} {cells slots : Nat} {G : GG} {w : Wd} {ab : Nat} {cc : ByteArray} {pc nL index v : Nat} {ls : Array Slot} {rest : List Value} {own : String} {Ts : List Cond}
    (X : CX G p s m args meth c cc nL own Ts) (hh : AH G s.heap w ab H locs) (hv : v < 13)
    (w1 : Cond.methodLink own index ORD ∈ Ts) (w2 : Cond.sameMethod "PlanetWorkshop$Verb" "java/lang/Enum" "ordinal" "()I" ∈ Ts) (w3 : Cond.selects RX9 ORD yJx29ce0_ordinal_8abf5 ∈ Ts) (w4 : Cond.instanceMethod yJx29ce0_ordinal_8abf5 ∈ Ts) (w5 : Cond.code yJx29ce0_ordinal_8abf5 cJx29ce0_ordinal_8abf5 1 (some .int) ∈ Ts) (w6 : Cond.fieldLink RJx29ce0 7 "java/lang/Enum" "ordinal" "I" ∈ Ts)
    (hf : 1 ≤ R.frames) (hlo : 20 ≤ R.locals) (hsize : ls.size = nL) (hW : 2 * (F0 m pc ls (.ref (gVb G v) :: rest)).monitorRoom + (rest.map fun v => v.category).sum ≤ 8) (hdg : decode cc pc = .ok (.invokevirtual index, 3)) (hcs : cells + 0 ≤ R.cells ∧ slots + 0 ≤ R.slots) :
    va_Run p l e R s m args below meth c H locs cells slots 0 0 (F0 m pc ls (.ref (gVb G v) :: rest)) rest (amQF G ab (some (.int (nI v))) w [Value.ref (gVb G v)].toArray) (gA G) := by
  have hx := X.1.1; have hb := X.1.2.1; have hml := X.1.2.2.1; have hown := X.1.2.2.2.1; have hts := X.1.2.2.2.2
  have hlen : ∀ sig, parseMethodDescriptor ORD.desc = some sig → ([] : List Value).length = sig.parameters.length := by
    intro sig h
    have h2 : (parseMethodDescriptor ORD.desc).map (fun d => d.parameters.length) = some 0 := by decide +kernel
    rw [h] at h2
    exact (Option.some.inj h2).symm
  have hK1 : Back l R p e below s args yJx29ce0_ordinal_8abf5 3 8 (PreOf R 0 0 (va_Pc [.ref (gVb G v)] (RelF G ab w))) (PostOf (amQF G ab (some (.int (nI v))) w) 0 0 (gA G)) := by
    refine inl_back (bytes := cJx29ce0_ordinal_8abf5) (maxL := 1) (ret := some .int) (lo := 0) (by decide +kernel) am_blindF (fun U a hW => word_at hW (Or.inl rfl) (hts _ w5)) hf (by omega) ?_
    intro U a mk mt ck g bl e1 e2 e3 e4 e5 hW hv0
    obtain ⟨rfl, hK, hP, hD, hC, hA⟩ := hv0
    rw [lg_entry_eq]
    have hl := lv_entry [Value.ref (gVb G v)] (n := 1) (Nat.le_of_ble_eq_true rfl)
    have hlink : (Cond.fieldLink RJx29ce0 7 "java/lang/Enum" "ordinal" "I").before [Value.ref (gVb G v)].toArray (U.calling g mk [Value.ref (gVb G v)].toArray) = true := word_at (U := U.calling g mk [Value.ref (gVb G v)].toArray) hW (Or.inl rfl) (hts _ w6)
    refine lv_aload_n hx e1 dJx29ce0_ordinal_8abf5_0 rfl (lv_at hl 0 rfl) ?_
    refine va_getX (i := v) hx e1 hC.2.1.2.2.2.1 hv va_S.rf (own := RJx29ce0) e5 hlink (fun _ h9 => h9) dJx29ce0_ordinal_8abf5_1 ?_
    exact W.iret hx e1 e3 (fun t ht _ => ⟨rfl, ⟨by rw [ht]; exact hP, hD⟩, va_S.F va_S.rf ht⟩) (fun q hq => by cases hq) dJx29ce0_ordinal_8abf5_4 e4
  obtain ⟨cell, h1, h2, h3⟩ := va_Orecv (X.2.2.1.2.1.1 v hv) hh.2.2
  intro T hT X1
  obtain ⟨vv, vm₁, ⟨U', l2, c2, s2⟩, hW₁, X', ⟨g', mk, t, L, e1, e2, hq, q1, hL, q2, q3⟩, st⟩ := va_callVU X1 hx (C := RX9) (owner := "java/lang/Enum") (x := ORD) (bytes := cJx29ce0_ordinal_8abf5) (maxL := 1) (ret := some .int) hown (hts _ w1) (hts _ w2) (show va_Decl s ⟨"java/lang/Enum", ORD.name, ORD.desc⟩ from va_Decl.of (hts _ w4) (hts _ w5)) (by decide) (hts _ w3) (hts _ w4) (hts _ w5) hK1 (b := gVb G v) (cellB := cell) (by rw [hT]; exact h1) h2 h3
    (g := F0 m pc ls (.ref (gVb G v) :: rest)) rfl (hsize.trans hml.symm) (argsL := []) (rest := rest) hlen rfl hW (by rw [hb]; exact hdg) (fun vm₁ hW₁ => ⟨hcs.1, hcs.2, ⟨rfl, am_relF X hh hT hW₁⟩⟩)
  dsimp only [Pt.U, Pt.locs, Pt.cells, Pt.slots] at X' e1 e2 q1 q2 q3 st
  subst q1; subst q2; subst q3
  exact ⟨vv, (T.setVm vm₁).calling g' mk [Value.ref (gVb G v)].toArray, t, U', L, hT, X', hL, e1, e2, hq, st⟩
