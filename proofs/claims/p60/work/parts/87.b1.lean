/-! A BUILDER OF ITS OWN: the rows over a world of two things: 0 the builder, 1 its bytes -/
def dscB (cap k : Nat) : Ds := if k = 0 then .inl (1, [some 1, none, none, none]) else .inr (4, cap)
def toEB (ad : Nat → Nat) (cy : Nat → ClassId) (av : Nat → Nat) (w : Wd) (k : Nat) : va_E := match dscB (gC w) k with
  | .inl (ci, ks) => .inr (ci, mkF ad w k 0 ks)
  | .inr (t, n) => .inl (cy t, mkA ad av w k t n)
theorem toE_oB {ad : Nat → Nat} {cy : Nat → ClassId} {av : Nat → Nat} {w : Wd} {k ci : Nat} {ks : List (Option Nat)} (h : dscB (gC w) k = .inl (ci, ks)) : toEB ad cy av w k = .inr (ci, mkF ad w k 0 ks) := by
  unfold toEB; rw [h]
theorem toE_aB {ad : Nat → Nat} {cy : Nat → ClassId} {av : Nat → Nat} {w : Wd} {k t n : Nat} (h : dscB (gC w) k = .inr (t, n)) : toEB ad cy av w k = .inl (cy t, mkA ad av w k t n) := by
  unfold toEB; rw [h]
def wsOfB (ad : Nat → Nat) (cy : Nat → ClassId) (av : Nat → Nat) (w : Wd) : va_W := (List.range 2).map (fun k => (ad k, toEB ad cy av w k))
theorem ws_atB {ad : Nat → Nat} {cy : Nat → ClassId} {av : Nat → Nat} {w : Wd} {k : Nat} (h : k < 2) : (wsOfB ad cy av w)[k]? = some (ad k, toEB ad cy av w k) := by
  unfold wsOfB
  rw [List.getElem?_map, List.getElem?_range h]
  rfl
theorem ws_setB {ad : Nat → Nat} {cy : Nat → ClassId} {av : Nat → Nat} {w w' : Wd} {k : Nat} {e : va_E} (hk : k < 2) (he : toEB ad cy av w' k = e) (ho : ∀ j, j < 2 → j ≠ k → toEB ad cy av w' j = toEB ad cy av w j) : (wsOfB ad cy av w).set k (ad k, e) = wsOfB ad cy av w' := by
  apply List.ext_getElem?
  intro n
  by_cases hn : n < 2
  · by_cases hnk : n = k
    · subst hnk
      rw [List.getElem?_set_self (by unfold wsOfB; simpa using hn), ws_atB hn, he]
    · rw [List.getElem?_set_ne (fun z => hnk z.symm), ws_atB hn, ws_atB hn, ho n hn hnk]
  · rw [List.getElem?_eq_none (by rw [List.length_set]; unfold wsOfB; simpa using hn), List.getElem?_eq_none (by unfold wsOfB; simpa using hn)]
theorem toE_uI_neB {ad : Nat → Nat} {cy : Nat → ClassId} {av : Nat → Nat} {w : Wd} {k i : Nat} {v : Int32} {j : Nat} (h : j ≠ k) : toEB ad cy av (uI w k i v) j = toEB ad cy av w j := by
  have hg : gI (uI w k i v) j = gI w j := by
    funext b
    rw [gI_uI, if_neg (fun z => h z.1)]
  unfold toEB
  rw [gC_uI]
  cases dscB (gC w) j with
  | inl x => show Sum.inr _ = Sum.inr _; rw [mkF_ne (fun i => congrFun hg i)]
  | inr x =>
    show Sum.inl _ = Sum.inl _
    unfold mkA
    rw [hg]
    rfl
/-- the heap at a point of a walk that began in H0 -/
def AHB (G : GG) (H0 : Heap) (w : Wd) (ab : Nat) (H : Heap) (locs : List Loc) : Prop :=
  va_P (gDc G) vwCl (wsOfB (adx (gAd G) ab) (gCy G) (gVb G) w) H ∧ va_D (gA G) (wsOfB (adx (gAd G) ab) (gCy G) (gVb G) w) ∧ va_S (gA G) H0 H locs
/-- what a state is between calls -/
def RelB (G : GG) (w : Wd) (U : State) : Prop :=
  ∃ ab, va_K (gDc G) vwCl (TYs (gCy G)) U ∧ va_P (gDc G) vwCl (wsOfB (adx (gAd G) ab) (gCy G) (gVb G) w) U.heap ∧ va_D (gA G) (wsOfB (adx (gAd G) ab) (gCy G) (gVb G) w) ∧ Cst (gAv G) (gA G) U U.heap ∧ ∀ q : Nat, U.heap.size ≤ q → gA G q
theorem RelB.calling {G : GG} {w : Wd} {a : Array Value} {U : State} {g : JFrame} {mk : MethodId} (h : RelB G w U) : RelB G w (U.calling g mk a) := by
  obtain ⟨ab, h1, h2, h3, h4, h5⟩ := h
  exact ⟨ab, va_K.moved (u := U) (U := U.calling g mk a) (Vm.Alike.refl U.vm) h1, h2, h3, Cst.moved (u := U) (U := U.calling g mk a) (State.WarmedH.refl U) h4, h5⟩
section
variable {p : Program} {l : Launch} {e : Env} {R : Room} {s : State} {m : MethodId} {args : Array Value} {below : List Frame} {meth : Method} {c : Code} {H : Heap} {locs : List Loc} {cells slots : Nat} {Q : State → Prop} {G : GG} {w : Wd} {ab : Nat} {cc : ByteArray} {pc nL : Nat} {ls : Array Slot} {rest : List Value} {own : String} {Ts : List Cond}
theorem am_relB (X : CX G p s m args meth c cc nL own Ts) (hh : AHB G s.heap w ab H locs) {t : State} (ht : t.heap = H) (hW : s.WarmedH t.vm) : RelB G w t := by
  obtain ⟨-, hK, hC, hA, -⟩ := X
  obtain ⟨hP, hD, hS⟩ := hh
  exact ⟨ab, va_K.moved hW.alike hK, by rw [ht]; exact hP, hD, by rw [ht]; exact (hC.kept hS.2.1).moved hW, fun q hq => hA q (by rw [ht] at hq; exact Nat.le_trans hS.1 hq)⟩
theorem am_getIB (X : CX G p s m args meth c cc nL own Ts) (hh : AHB G s.heap w ab H locs) (k ci slot : Nat) {ks : List (Option Nat)} (hk : k < 2) (hd : dscB (gC w) k = .inl (ci, ks)) {C : String} {T : u_T} {N index : Nat} (hc : vwCl[ci]? = some (C, T, N)) (hs : slot < N) (hin : ∀ z ∈ u_ws C T N, z ∈ Ts) (hlink : Cond.fieldLink own index (T slot).1 (T slot).2.1 (T slot).2.2.1 ∈ Ts) (hn : ks[slot]? = some none) (hdg : decode cc pc = .ok (.getfield index, 3))
    (kk : W p l e R s m args below meth c H locs cells slots Q (F0 m (pc + 3) ls (.int (gI w k slot) :: rest))) : W p l e R s m args below meth c H locs cells slots Q (F0 m pc ls (.ref (adx (gAd G) ab k) :: rest)) := by
  obtain ⟨⟨hx, hb, hml, hown, hts⟩, hK, -⟩ := X
  obtain ⟨hP, hD, hS⟩ := hh
  refine va_get (C := C) (T := T) (N := N) hx hb hts hin hown hK hP k (fs := mkF (adx (gAd G) ab) w k 0 ks) (by rw [ws_atB hk, toE_oB hd]) hc slot hs (hts _ hlink) (fun _ h => h) ?_ hdg kk
  rw [mkF_i hn, Nat.zero_add]
theorem am_getRB (X : CX G p s m args meth c cc nL own Ts) (hh : AHB G s.heap w ab H locs) (k ci slot x : Nat) {ks : List (Option Nat)} (hk : k < 2) (hd : dscB (gC w) k = .inl (ci, ks)) {C : String} {T : u_T} {N index : Nat} (hc : vwCl[ci]? = some (C, T, N)) (hs : slot < N) (hin : ∀ z ∈ u_ws C T N, z ∈ Ts) (hlink : Cond.fieldLink own index (T slot).1 (T slot).2.1 (T slot).2.2.1 ∈ Ts) (hn : ks[slot]? = some (some x)) (hdg : decode cc pc = .ok (.getfield index, 3))
    (kk : W p l e R s m args below meth c H locs cells slots Q (F0 m (pc + 3) ls (.ref (adx (gAd G) ab x) :: rest))) : W p l e R s m args below meth c H locs cells slots Q (F0 m pc ls (.ref (adx (gAd G) ab k) :: rest)) := by
  obtain ⟨⟨hx, hb, hml, hown, hts⟩, hK, -⟩ := X
  obtain ⟨hP, hD, hS⟩ := hh
  refine va_get (C := C) (T := T) (N := N) hx hb hts hin hown hK hP k (fs := mkF (adx (gAd G) ab) w k 0 ks) (by rw [ws_atB hk, toE_oB hd]) hc slot hs (hts _ hlink) (fun _ h => h) (mkF_r hn) hdg kk
theorem am_putIB (X : CX G p s m args meth c cc nL own Ts) (hh : AHB G s.heap w ab H locs) (k ci slot : Nat) {ks : List (Option Nat)} (hk : k < 2) (hd : dscB (gC w) k = .inl (ci, ks)) {C : String} {T : u_T} {N index : Nat} (hc : vwCl[ci]? = some (C, T, N)) (hs : slot < N) (hin : ∀ z ∈ u_ws C T N, z ∈ Ts) (ty0 : Nat → FieldType) (hty : ∀ k, k < N → parseFieldDescriptor (T k).2.2.1 = some (ty0 k)) (hnm : ∀ a, a < N → ∀ b, b < N → a ≠ b → (T a).2.1 ≠ (T b).2.1) (hlink : Cond.fieldLink own index (T slot).1 (T slot).2.1 (T slot).2.2.1 ∈ Ts) (hn : ks[slot]? = some none) (hfin : (T slot).2.2.2 = false) {v : Int32} (hnw : narrow (ty0 slot) (.int v) = .int v) (hfit : fits (ty0 slot) (.int v) = true) (hdg : decode cc pc = .ok (.putfield index, 3))
    (kk : ∀ (H1 : Heap) (locs1 : List Loc), AHB G s.heap (uI w k slot v) ab H1 locs1 → W p l e R s m args below meth c H1 locs1 cells slots Q (F0 m (pc + 3) ls rest)) : W p l e R s m args below meth c H locs cells slots Q (F0 m pc ls (.int v :: .ref (adx (gAd G) ab k) :: rest)) := by
  obtain ⟨⟨hx, hb, hml, hown, hts⟩, hK, -⟩ := X
  obtain ⟨hP, hD, hS⟩ := hh
  have e1 : (wsOfB (adx (gAd G) ab) (gCy G) (gVb G) w).set k (adx (gAd G) ab k, .inr (ci, (mkF (adx (gAd G) ab) w k 0 ks).set slot (.int v))) = wsOfB (adx (gAd G) ab) (gCy G) (gVb G) (uI w k slot v) := by
    refine ws_setB hk ?_ (fun j _ hj => toE_uI_neB hj)
    rw [toE_oB (by rw [gC_uI]; exact hd)]
    have h3 := mkF_set (ad := adx (gAd G) ab) (w := w) (k := k) (v := v) (i := 0) hn
    rw [Nat.zero_add] at h3
    rw [h3]
  refine va_put (C := C) (T := T) (N := N) hx hb hts hin ty0 hty hnm hown hK hP hD hS k (fs := mkF (adx (gAd G) ab) w k 0 ks) (by rw [ws_atB hk, toE_oB hd]) hc slot hs (hts _ hlink) (fun _ h => h) hfin (hty slot hs) hnw hfit (by rw [mkF_len]; exact (List.getElem?_eq_some_iff.mp hn).1) hdg (fun H1 locs1 h1 h2 h3 => ?_)
  rw [e1] at h1 h2
  exact kk H1 locs1 ⟨h1, h2, h3⟩
theorem ws_arrB {ad : Nat → Nat} {cy : Nat → ClassId} {av : Nat → Nat} {w : Wd} {k t n : Nat} {x : vp_A} (hk : k < 2) (hd : dscB (gC w) k = .inr (t, n)) (hx : mkA ad av w k t n = x) : (wsOfB ad cy av w)[k]? = some (ad k, .inl (cy t, x)) := by
  rw [ws_atB hk, toE_aB hd, hx]
theorem am_baldB (X : CX G p s m args meth c cc nL own Ts) (hh : AHB G s.heap w ab H locs) (k : Nat) {n : Nat} (hk : k < 2) (hd : dscB (gC w) k = .inr (4, n)) {i : Int32} (hin : vp_in i n) (hdg : decode cc pc = .ok (.baload, 1))
    (kk : W p l e R s m args below meth c H locs cells slots Q (F0 m (pc + 1) ls (.int (gI w k i.toNatClampNeg) :: rest))) : W p l e R s m args below meth c H locs cells slots Q (F0 m pc ls (.int i :: .ref (adx (gAd G) ab k) :: rest)) :=
  va_bald X.1.1 X.1.2.1 X.2.1 hh.1 k 4 (ws_arrB hk hd rfl) rfl hin hdg kk
theorem am_stIB (hh : AHB G s.heap w ab H locs) {k t n : Nat} (hk : k < 2) (hd : dscB (gC w) k = .inr (t, n)) (hm : ∀ w2 : Wd, mkA (adx (gAd G) ab) (gVb G) w2 k t n = (n, .inl (gI w2 k))) {i : Nat} {v : Int32} {H1 : Heap} {locs1 : List Loc}
    (h1 : va_P (gDc G) vwCl ((wsOfB (adx (gAd G) ab) (gCy G) (gVb G) w).set k (adx (gAd G) ab k, .inl (gCy G t, n, .inl (upd (gI w k) i v)))) H1) (h2 : va_D (gA G) ((wsOfB (adx (gAd G) ab) (gCy G) (gVb G) w).set k (adx (gAd G) ab k, .inl (gCy G t, n, .inl (upd (gI w k) i v))))) (h3 : va_S (gA G) s.heap H1 locs1) : AHB G s.heap (uI w k i v) ab H1 locs1 := by
  have e1 : (wsOfB (adx (gAd G) ab) (gCy G) (gVb G) w).set k (adx (gAd G) ab k, .inl (gCy G t, n, .inl (upd (gI w k) i v))) = wsOfB (adx (gAd G) ab) (gCy G) (gVb G) (uI w k i v) := by
    refine ws_setB hk ?_ (fun j _ hj => toE_uI_neB hj)
    rw [toE_aB (by rw [gC_uI]; exact hd), hm, upd_gI]
  rw [e1] at h1 h2
  exact ⟨h1, h2, h3⟩
theorem am_bastB (X : CX G p s m args meth c cc nL own Ts) (hh : AHB G s.heap w ab H locs) (k : Nat) {n : Nat} (hk : k < 2) (hd : dscB (gC w) k = .inr (4, n)) {i x : Int32} (hin : vp_in i n) (hdg : decode cc pc = .ok (.bastore, 1))
    (kk : ∀ (H1 : Heap) (locs1 : List Loc), AHB G s.heap (uI w k i.toNatClampNeg (vp_nar .byte x)) ab H1 locs1 → W p l e R s m args below meth c H1 locs1 cells slots Q (F0 m (pc + 1) ls rest)) : W p l e R s m args below meth c H locs cells slots Q (F0 m pc ls (.int x :: .int i :: .ref (adx (gAd G) ab k) :: rest)) :=
  va_bast X.1.1 X.1.2.1 X.2.1 hh.1 hh.2.1 hh.2.2 k 4 (ws_arrB hk hd rfl) rfl hin hdg (fun H1 locs1 h1 h2 h3 => kk H1 locs1 (am_stIB hh hk hd (fun _ => rfl) h1 h2 h3))
end
/-- the moving part of what holds behind a call -/
def RelPB (G : GG) (w : Wd) (U : State) : Prop :=
  ∃ ab, va_P (gDc G) vwCl (wsOfB (adx (gAd G) ab) (gCy G) (gVb G) w) U.heap ∧ va_D (gA G) (wsOfB (adx (gAd G) ab) (gCy G) (gVb G) w)
def amQB (G : GG) (o : Option Value) (w1 : Wd) : Array Value → State → Outcome → State → Prop := fun _ st oc t => oc = .returned o ∧ RelPB G w1 t ∧ va_F (gA G) st t
theorem am_blindB {G : GG} {w : Wd} {avs : List Value} : FrameBlind (va_Pc avs (RelB G w)) := fun _ _ _ _ h => ⟨h.1, h.2.calling⟩
theorem am_metFB {l : Launch} {G : GG} {w : Wd} {y : MethodName} {ws ws' : List Cond} {rm : Room} {cc : ByteArray} {maxL : Nat} {ret : Option FieldType} {avs : List Value} {own : String} {Qc : Array Value → State → Outcome → State → Prop} {mc ms : Nat} (hy : plainFor y = true) (hw : ws = Cond.code y cc maxL ret :: ws') (hown : y.cls = own) (hlen : (lg_sl avs).length ≤ maxL)
    (body : ∀ (p : Program) (e : Env) (s : State) (m : MethodId) (args : Array Value) (below : List Frame) (meth : Method) (c : Code) (ab : Nat) (H : Heap) (locs : List Loc) (ls : Array Slot), CX G p s m args meth c cc maxL own ws → meth.sig.returnType = ret → AHB G s.heap w ab H locs → lv_has ls maxL (lv_args 0 avs) → W p l e rm s m args below meth c H locs 0 0 (MQ below Qc args s mc ms (gA G)) (F0 m 0 ls [])) : Met l y ws rm (va_Pc avs (RelB G w)) Qc mc ms (gA G) := by
  refine va_MetF hy hw ?_
  intro p e s m args below meth c s₁ B hml hv
  obtain ⟨rfl, ab, hK, hP, hD, hC, hA⟩ := hv
  rw [lg_entry_eq]
  have hn : s.vm.findClass own = some m.cls := by rw [← hown]; exact findClass_of_methodNamed B.named
  exact body p e s m _ below meth c ab s.heap [] _ ⟨⟨B.exec, B.bytes, hml, hn, atoms_spec (ws := ws) B.pre⟩, hK, hC, hA, B.notSynchronized⟩ B.returns ⟨hP, hD, va_S.rf⟩ (lv_entry avs hlen)
section
variable {p : Program} {l : Launch} {e : Env} {R : Room} {s : State} {m : MethodId} {args : Array Value} {below : List Frame} {meth : Method} {c : Code} {H : Heap} {locs : List Loc} {cells slots mc ms : Nat} {Q : State → Prop} {G : GG} {w w1 : Wd} {ab : Nat} {cc : ByteArray} {pc nL : Nat} {ls : Array Slot} {rest st0 : List Value} {own : String} {Ts : List Cond} {a : Array Value}
theorem am_postB (X : CX G p s m args meth c cc nL own Ts) (hh : AHB G s.heap w ab H locs) {t : State} (ht : t.heap = H) : RelPB G w t ∧ va_F (gA G) s t :=
  ⟨⟨ab, by rw [ht]; exact hh.1, hh.2.1⟩, hh.2.2.F ht⟩
theorem am_preVB (X : CX G p s m args meth c cc nL own Ts) (hh : AHB G s.heap w ab H locs) (k ci : Nat) {ks : List (Option Nat)} (hk : k < 2) (hd : dscB (gC w) k = .inl (ci, ks)) {q : vw_C} (hc : vwCl[ci]? = some q) {As : List Value} : PreV s H q.1 (adx (gAd G) ab k) (va_Pc (.ref (adx (gAd G) ab k) :: As) (RelB G w)) As :=
  ⟨am_blindB, va_recv X.2.1 hh.1 hc (by rw [ws_atB hk, toE_oB hd]), fun _ hU hW => ⟨rfl, am_relB X hh hU hW⟩⟩
theorem am_preSB (X : CX G p s m args meth c cc nL own Ts) (hh : AHB G s.heap w ab H locs) {As : List Value} : PreS s H (va_Pc As (RelB G w)) As :=
  ⟨am_blindB, fun _ hU hW => ⟨rfl, am_relB X hh hU hW⟩⟩
theorem am_backB (X : CX G p s m args meth c cc nL own Ts) (hh : AHB G s.heap w ab H locs) {st₀ t T' : State} {L : List Loc} (h0 : st₀.heap = H) (hL : ∀ q ∈ L, gA G q.base) (e1 : T'.heap = t.heap) (hr : RelPB G w1 t) (hf : va_F (gA G) st₀ t) : ∃ ab1, AHB G s.heap w1 ab1 T'.heap (locs ++ L) := by
  obtain ⟨ab1, h1, h2⟩ := hr
  obtain ⟨-, -, k3⟩ := vx_keep (A0 := gA G) (A1 := gA G) (free := gA G) h0 e1 hh.2.2 (fun _ _ h => h) (fun _ h => h) hL hf
  exact ⟨ab1, by rw [e1]; exact h1, h2, k3⟩
theorem am_callB {o : Option Value} (X : CX G p s m args meth c cc nL own Ts) (hh : AHB G s.heap w ab H locs) (hr : va_Run p l e R s m args below meth c H locs cells slots mc ms (F0 m pc ls st0) rest (amQB G o w1 a) (gA G))
    (kk : ∀ (ab1 : Nat) (H1 : Heap) (locs1 : List Loc), AHB G s.heap w1 ab1 H1 locs1 → W p l e R s m args below meth c H1 locs1 (cells + mc) (slots + ms) Q (F0 m (pc + 3) ls (o.toList ++ rest))) : W p l e R s m args below meth c H locs cells slots Q (F0 m pc ls st0) := by
  intro T hT X1
  obtain ⟨v, st₀, t, T', L, h0, X', hL, e1, e2, ⟨hv, hp, hf⟩, st⟩ := hr T hT X1
  cases hv
  obtain ⟨ab1, h3⟩ := am_backB X hh h0 hL e1 hp hf
  obtain ⟨t2, a1, b1⟩ := kk ab1 T'.heap (locs ++ L) h3 T' rfl X'
  exact ⟨t2, st t2 a1, b1⟩
/-- ends: the value is named by ho -/
theorem am_iretB {v : Int32} (X : CX G p s m args meth c cc nL own Ts) (hr : meth.sig.returnType = some .int) (hh : AHB G s.heap w ab H locs) {Qc : Array Value → State → Outcome → State → Prop} (hq : ∀ t : State, RelPB G w t ∧ va_F (gA G) s t → Qc args s (.returned (some (.int v))) t) (hc : cells ≤ mc) (hs : slots ≤ ms) (hdg : decode cc pc = .ok (.ireturn, 1)) : W p l e R s m args below meth c H locs cells slots (MQ below Qc args s mc ms (gA G)) (F0 m pc ls [.int v]) :=
  W.widen hc hs (W.iret X.1.1 X.1.2.1 hr (fun t ht _ => hq t (am_postB X hh ht)) hh.2.2.2.2 hdg X.2.2.2.2)
theorem am_vretB (X : CX G p s m args meth c cc nL own Ts) (hr : meth.sig.returnType = none) (hh : AHB G s.heap w ab H locs) {Qc : Array Value → State → Outcome → State → Prop} (hq : ∀ t : State, RelPB G w t ∧ va_F (gA G) s t → Qc args s (.returned none) t) (hc : cells ≤ mc) (hs : slots ≤ ms) (hdg : decode cc pc = .ok (.return_, 1)) : W p l e R s m args below meth c H locs cells slots (MQ below Qc args s mc ms (gA G)) (F0 m pc ls []) :=
  W.widen hc hs (W.vret X.1.1 X.1.2.1 hr (fun t ht _ => hq t (am_postB X hh ht)) hh.2.2.2.2 hdg X.2.2.2.2)
theorem am_zretB {v v' : Int32} {ty : FieldType} (X : CX G p s m args meth c cc nL own Ts) (hr : meth.sig.returnType = some ty) (hn : narrow ty (.int v) = .int v') (hh : AHB G s.heap w ab H locs) {Qc : Array Value → State → Outcome → State → Prop} (hq : ∀ t : State, RelPB G w t ∧ va_F (gA G) s t → Qc args s (.returned (some (.int v'))) t) (hc : cells ≤ mc) (hs : slots ≤ ms) (hdg : decode cc pc = .ok (.ireturn, 1)) : W p l e R s m args below meth c H locs cells slots (MQ below Qc args s mc ms (gA G)) (F0 m pc ls [.int v]) :=
  W.widen hc hs (W.zretN X.1.1 X.1.2.1 hr hn (fun t ht _ => hq t (am_postB X hh ht)) hh.2.2.2.2 hdg X.2.2.2.2)
theorem am_aretB {v : Value} {rt : FieldType} (X : CX G p s m args meth c cc nL own Ts) (hr : meth.sig.returnType = some rt) (hn : (∃ n, rt = .object n) ∨ ∃ t, rt = .array t) (hv : v = .null ∨ ∃ a, v = .ref a) (hh : AHB G s.heap w ab H locs) {Qc : Array Value → State → Outcome → State → Prop} (hq : ∀ t : State, RelPB G w t ∧ va_F (gA G) s t → Qc args s (.returned (some v)) t) (hc : cells ≤ mc) (hs : slots ≤ ms) (hdg : decode cc pc = .ok (.areturn, 1)) : W p l e R s m args below meth c H locs cells slots (MQ below Qc args s mc ms (gA G)) (F0 m pc ls [v]) :=
  W.widen hc hs (W.aret X.1.1 X.1.2.1 hr hn hv (fun t ht _ => hq t (am_postB X hh ht)) hh.2.2.2.2 hdg X.2.2.2.2)
end
theorem AH_eqB {G : GG} {H0 : Heap} {x y : Wd} {ab : Nat} {H : Heap} {locs : List Loc} (h : y = x) (hh : AHB G H0 x ab H locs) : AHB G H0 y ab H locs := by rw [h]; exact hh
theorem am_qpB {G : GG} {τ : Type} {mk : τ → Option Value} {v r0 : τ} {w : Wd} {args : Array Value} {s t : State} (h : some v = some r0) (ht : RelPB G w t ∧ va_F (gA G) s t) : amQB G (mk r0) w args s (.returned (mk v)) t := by cases h; exact ⟨rfl, ht⟩
theorem am_qwB {G : GG} {τ : Type} {mk : τ → Option Value} {v r0 : τ} {w w1 : Wd} {args : Array Value} {s t : State} (h : some (v, w) = some (r0, w1)) (ht : RelPB G w t ∧ va_F (gA G) s t) : amQB G (mk r0) w1 args s (.returned (mk v)) t := by cases h; exact ⟨rfl, ht⟩
theorem am_qvB {G : GG} {w w1 : Wd} {args : Array Value} {s t : State} (h : some w = some w1) (ht : RelPB G w t ∧ va_F (gA G) s t) : amQB G none w1 args s (.returned none) t := by cases h; exact ⟨rfl, ht⟩
section
variable {p : Program} {l : Launch} {e : Env} {R : Room} {s : State} {m : MethodId} {args : Array Value} {below : List Frame} {meth : Method} {c : Code} {H : Heap} {locs : List Loc} {cells slots : Nat} {Q : State → Prop} {G : GG} {w : Wd} {ab : Nat} {cc : ByteArray} {pc nL : Nat} {ls : Array Slot} {rest : List Value} {own : String} {Ts : List Cond}
end
def RelFB (G : GG) (ab : Nat) (w : Wd) (U : State) : Prop :=
  va_K (gDc G) vwCl (TYs (gCy G)) U ∧ va_P (gDc G) vwCl (wsOfB (adx (gAd G) ab) (gCy G) (gVb G) w) U.heap ∧ va_D (gA G) (wsOfB (adx (gAd G) ab) (gCy G) (gVb G) w) ∧ Cst (gAv G) (gA G) U U.heap ∧ ∀ q : Nat, U.heap.size ≤ q → gA G q
theorem RelFB.calling {G : GG} {ab : Nat} {w : Wd} {a : Array Value} {U : State} {g : JFrame} {mk : MethodId} (h : RelFB G ab w U) : RelFB G ab w (U.calling g mk a) := by
  obtain ⟨h1, h2, h3, h4, h5⟩ := h
  exact ⟨va_K.moved (u := U) (U := U.calling g mk a) (Vm.Alike.refl U.vm) h1, h2, h3, Cst.moved (u := U) (U := U.calling g mk a) (State.WarmedH.refl U) h4, h5⟩
def RelFPB (G : GG) (ab : Nat) (w : Wd) (U : State) : Prop :=
  va_P (gDc G) vwCl (wsOfB (adx (gAd G) ab) (gCy G) (gVb G) w) U.heap ∧ va_D (gA G) (wsOfB (adx (gAd G) ab) (gCy G) (gVb G) w)
def amQFB (G : GG) (ab : Nat) (o : Option Value) (w1 : Wd) : Array Value → State → Outcome → State → Prop := fun _ st oc t => oc = .returned o ∧ RelFPB G ab w1 t ∧ va_F (gA G) st t
theorem am_blindFB {G : GG} {ab : Nat} {w : Wd} {avs : List Value} : FrameBlind (va_Pc avs (RelFB G ab w)) := fun _ _ _ _ h => ⟨h.1, h.2.calling⟩
theorem am_metBB {l : Launch} {G : GG} {ab : Nat} {w : Wd} {y : MethodName} {ws ws' : List Cond} {rm : Room} {cc : ByteArray} {maxL : Nat} {ret : Option FieldType} {avs : List Value} {own : String} {Qc : Array Value → State → Outcome → State → Prop} {mc ms : Nat} (hy : plainFor y = true) (hw : ws = Cond.code y cc maxL ret :: ws') (hown : y.cls = own) (hlen : (lg_sl avs).length ≤ maxL)
    (body : ∀ (p : Program) (e : Env) (s : State) (m : MethodId) (args : Array Value) (below : List Frame) (meth : Method) (c : Code) (H : Heap) (locs : List Loc) (ls : Array Slot), CX G p s m args meth c cc maxL own ws → meth.sig.returnType = ret → AHB G s.heap w ab H locs → lv_has ls maxL (lv_args 0 avs) → W p l e rm s m args below meth c H locs 0 0 (MQ below Qc args s mc ms (gA G)) (F0 m 0 ls [])) : Met l y ws rm (va_Pc avs (RelFB G ab w)) Qc mc ms (gA G) := by
  refine va_MetF hy hw ?_
  intro p e s m args below meth c s₁ B hml hv
  obtain ⟨rfl, hK, hP, hD, hC, hA⟩ := hv
  rw [lg_entry_eq]
  have hn : s.vm.findClass own = some m.cls := by rw [← hown]; exact findClass_of_methodNamed B.named
  exact body p e s m _ below meth c s.heap [] _ ⟨⟨B.exec, B.bytes, hml, hn, atoms_spec (ws := ws) B.pre⟩, hK, hC, hA, B.notSynchronized⟩ B.returns ⟨hP, hD, va_S.rf⟩ (lv_entry avs hlen)
theorem am_qpFB {G : GG} {ab : Nat} {τ : Type} {mk : τ → Option Value} {v r0 : τ} {w : Wd} {args : Array Value} {s t : State} (h : some v = some r0) (ht : RelFPB G ab w t ∧ va_F (gA G) s t) : amQFB G ab (mk r0) w args s (.returned (mk v)) t := by cases h; exact ⟨rfl, ht⟩
theorem am_qwFB {G : GG} {ab : Nat} {τ : Type} {mk : τ → Option Value} {v r0 : τ} {w w1 : Wd} {args : Array Value} {s t : State} (h : some (v, w) = some (r0, w1)) (ht : RelFPB G ab w t ∧ va_F (gA G) s t) : amQFB G ab (mk r0) w1 args s (.returned (mk v)) t := by cases h; exact ⟨rfl, ht⟩
theorem am_qvFB {G : GG} {ab : Nat} {w w1 : Wd} {args : Array Value} {s t : State} (h : some w = some w1) (ht : RelFPB G ab w t ∧ va_F (gA G) s t) : amQFB G ab none w1 args s (.returned none) t := by cases h; exact ⟨rfl, ht⟩
theorem am_qvTB {G : GG} {w w1 : Wd} {v : Value} {args : Array Value} {s t : State} (h : some w = some w1) (ht : RelPB G w t ∧ va_F (gA G) s t) : amQB G (some v) w1 args s (.returned (some v)) t := by cases h; exact ⟨rfl, ht⟩
section
variable {p : Program} {l : Launch} {e : Env} {R : Room} {s : State} {m : MethodId} {args : Array Value} {below : List Frame} {meth : Method} {c : Code} {H : Heap} {locs : List Loc} {cells slots mc ms : Nat} {Q : State → Prop} {G : GG} {w w1 : Wd} {ab : Nat} {cc : ByteArray} {pc nL : Nat} {ls : Array Slot} {rest st0 : List Value} {own : String} {Ts : List Cond} {a : Array Value}
theorem am_relFB (X : CX G p s m args meth c cc nL own Ts) (hh : AHB G s.heap w ab H locs) {t : State} (ht : t.heap = H) (hW : s.WarmedH t.vm) : RelFB G ab w t := by
  obtain ⟨-, hK, hC, hA, -⟩ := X
  obtain ⟨hP, hD, hS⟩ := hh
  exact ⟨va_K.moved hW.alike hK, by rw [ht]; exact hP, hD, by rw [ht]; exact (hC.kept hS.2.1).moved hW, fun q hq => hA q (by rw [ht] at hq; exact Nat.le_trans hS.1 hq)⟩
theorem am_postFB (X : CX G p s m args meth c cc nL own Ts) (hh : AHB G s.heap w ab H locs) {t : State} (ht : t.heap = H) : RelFPB G ab w t ∧ va_F (gA G) s t :=
  ⟨⟨by rw [ht]; exact hh.1, hh.2.1⟩, hh.2.2.F ht⟩
theorem am_preVFB (X : CX G p s m args meth c cc nL own Ts) (hh : AHB G s.heap w ab H locs) (k ci : Nat) {ks : List (Option Nat)} (hk : k < 2) (hd : dscB (gC w) k = .inl (ci, ks)) {q : vw_C} (hc : vwCl[ci]? = some q) {As : List Value} : PreV s H q.1 (adx (gAd G) ab k) (va_Pc (.ref (adx (gAd G) ab k) :: As) (RelFB G ab w)) As :=
  ⟨am_blindFB, va_recv X.2.1 hh.1 hc (by rw [ws_atB hk, toE_oB hd]), fun _ hU hW => ⟨rfl, am_relFB X hh hU hW⟩⟩
theorem am_preSFB (X : CX G p s m args meth c cc nL own Ts) (hh : AHB G s.heap w ab H locs) {As : List Value} : PreS s H (va_Pc As (RelFB G ab w)) As :=
  ⟨am_blindFB, fun _ hU hW => ⟨rfl, am_relFB X hh hU hW⟩⟩
theorem am_callFB {o : Option Value} (X : CX G p s m args meth c cc nL own Ts) (hh : AHB G s.heap w ab H locs) (hr : va_Run p l e R s m args below meth c H locs cells slots mc ms (F0 m pc ls st0) rest (amQFB G ab o w1 a) (gA G))
    (kk : ∀ (H1 : Heap) (locs1 : List Loc), AHB G s.heap w1 ab H1 locs1 → W p l e R s m args below meth c H1 locs1 (cells + mc) (slots + ms) Q (F0 m (pc + 3) ls (o.toList ++ rest))) : W p l e R s m args below meth c H locs cells slots Q (F0 m pc ls st0) := by
  intro T hT X1
  obtain ⟨v, st₀, t, T', L, h0, X', hL, e1, e2, ⟨hv, ⟨hp1, hp2⟩, hf⟩, st⟩ := hr T hT X1
  cases hv
  obtain ⟨-, -, k3⟩ := vx_keep (A0 := gA G) (A1 := gA G) (free := gA G) h0 e1 hh.2.2 (fun _ _ h => h) (fun _ h => h) hL hf
  obtain ⟨t2, a1, b1⟩ := kk T'.heap (locs ++ L) ⟨by rw [e1]; exact hp1, hp2, k3⟩ T' rfl X'
  exact ⟨t2, st t2 a1, b1⟩
theorem amF_iretB {v : Int32} (X : CX G p s m args meth c cc nL own Ts) (hr : meth.sig.returnType = some .int) (hh : AHB G s.heap w ab H locs) {Qc : Array Value → State → Outcome → State → Prop} (hq : ∀ t : State, RelFPB G ab w t ∧ va_F (gA G) s t → Qc args s (.returned (some (.int v))) t) (hc : cells ≤ mc) (hs : slots ≤ ms) (hdg : decode cc pc = .ok (.ireturn, 1)) : W p l e R s m args below meth c H locs cells slots (MQ below Qc args s mc ms (gA G)) (F0 m pc ls [.int v]) :=
  W.widen hc hs (W.iret X.1.1 X.1.2.1 hr (fun t ht _ => hq t (am_postFB X hh ht)) hh.2.2.2.2 hdg X.2.2.2.2)
theorem amF_vretB (X : CX G p s m args meth c cc nL own Ts) (hr : meth.sig.returnType = none) (hh : AHB G s.heap w ab H locs) {Qc : Array Value → State → Outcome → State → Prop} (hq : ∀ t : State, RelFPB G ab w t ∧ va_F (gA G) s t → Qc args s (.returned none) t) (hc : cells ≤ mc) (hs : slots ≤ ms) (hdg : decode cc pc = .ok (.return_, 1)) : W p l e R s m args below meth c H locs cells slots (MQ below Qc args s mc ms (gA G)) (F0 m pc ls []) :=
  W.widen hc hs (W.vret X.1.1 X.1.2.1 hr (fun t ht _ => hq t (am_postFB X hh ht)) hh.2.2.2.2 hdg X.2.2.2.2)
theorem amF_zretB {v v' : Int32} {ty : FieldType} (X : CX G p s m args meth c cc nL own Ts) (hr : meth.sig.returnType = some ty) (hn : narrow ty (.int v) = .int v') (hh : AHB G s.heap w ab H locs) {Qc : Array Value → State → Outcome → State → Prop} (hq : ∀ t : State, RelFPB G ab w t ∧ va_F (gA G) s t → Qc args s (.returned (some (.int v'))) t) (hc : cells ≤ mc) (hs : slots ≤ ms) (hdg : decode cc pc = .ok (.ireturn, 1)) : W p l e R s m args below meth c H locs cells slots (MQ below Qc args s mc ms (gA G)) (F0 m pc ls [.int v]) :=
  W.widen hc hs (W.zretN X.1.1 X.1.2.1 hr hn (fun t ht _ => hq t (am_postFB X hh ht)) hh.2.2.2.2 hdg X.2.2.2.2)
/-- the length of the bytes -/
theorem am_alenCB (X : CX G p s m args meth c cc nL own Ts) (hh : AHB G s.heap w ab H locs) (hdg : decode cc pc = .ok (.arraylength, 1))
    (kk : W p l e R s m args below meth c H locs cells slots Q (F0 m (pc + 1) ls (.int (nI (gC w)) :: rest))) : W p l e R s m args below meth c H locs cells slots Q (F0 m pc ls (.ref (gAd G 1) :: rest)) := by
  have e : adx (gAd G) ab 1 = gAd G 1 := rfl
  have h := ws_arrB (ad := adx (gAd G) ab) (cy := gCy G) (av := gVb G) (w := w) (k := 1) (t := 4) (n := gC w) (by decide) rfl rfl
  rw [e] at h
  exact va_alen X.1.1 X.1.2.1 X.2.1 hh.1 1 4 h (v := nI (gC w)) rfl rfl hdg kk
end
/-- copying a text's letters into the bytes -/
def cpK (dp n : Int32) (n0 n1 : Nat) : Bool := decide (¬ dp < 0) && (decide (¬ n < 0) && (decide (n.toNatClampNeg ≤ n0) && decide (dp.toNatClampNeg + n.toNatClampNeg ≤ n1)))
def uCpy (w : Wd) (x0 : Nat) (dp n : Int32) : Wd := (fun a b => if a = 1 then va_cpy (fun j => (cWords.getD x0 []).getD j 0) (w.1 1) 0 dp.toNatClampNeg n.toNatClampNeg b else w.1 a b, w.2)
theorem cw_fit (x0 i : Nat) : fits .byte (.int ((cWords.getD x0 []).getD i 0)) = true := by
  have h : (cWords.all fun l => l.all fun z => fits .byte (.int z)) = true := by decide +kernel
  rw [List.getD_eq_getElem?_getD, List.getD_eq_getElem?_getD]
  cases h1 : cWords[x0]? with
  | none => rfl
  | some l =>
    show fits .byte (.int ((l[i]?).getD 0)) = true
    cases h2 : l[i]? with
    | none => rfl
    | some z => exact List.all_eq_true.mp (List.all_eq_true.mp h l (List.mem_of_getElem? h1)) z (List.mem_of_getElem? h2)
section
variable {p : Program} {l : Launch} {e : Env} {R : Room} {s : State} {m : MethodId} {args : Array Value} {below : List Frame} {meth : Method} {c : Code} {H : Heap} {locs : List Loc} {cells slots : Nat} {Q : State → Prop} {G : GG} {w : Wd} {ab : Nat} {cc : ByteArray} {pc nL : Nat} {ls : Array Slot} {rest : List Value} {own : String} {Ts : List Cond}
theorem am_cpytB (X : CX G p s m args meth c cc nL own Ts) (hh : AHB G s.heap w ab H locs) {x0 : Nat} (hx0 : gAv G (300 + x0) = 1) {dp n : Int32} (hk : cpK dp n (cLens.getD x0 0) (gC w) = true) (hml : c.maxLocals = nL) (hsz : ls.size = nL) {index : Nat} (hlink : (Cond.methodLink own index arraycopyName).before args s = true) (hnat : (Cond.native arraycopyName).before args s = true) (hstat : (Cond.static arraycopyName).before args s = true) (hini : (Cond.initialized "java/lang/System").before args s = true)
    (hf : 1 ≤ R.frames) (hlo : (rest.map fun v => v.category).sum + (nativeFrameWords "java/lang/System" "arraycopy" 5 + 11) ≤ R.locals) (hdg : decode cc pc = .ok (.invokestatic index, 3))
    (kk : ∀ (H1 : Heap) (locs1 : List Loc), AHB G s.heap (uCpy w x0 dp n) ab H1 locs1 → W p l e R s m args below meth c H1 locs1 cells slots Q (F0 m (pc + 3) ls rest)) : W p l e R s m args below meth c H locs cells slots Q (F0 m pc ls (.int n :: .int dp :: .ref (gAd G 1) :: .int (0 : Int32) :: .ref (gAv G (200 + x0)) :: rest)) := by
  obtain ⟨⟨hx, hb, hml', hown, hts⟩, hK, hC, hA, hlk⟩ := X
  obtain ⟨hP, hD, hS⟩ := hh
  simp only [cpK, Bool.and_eq_true, decide_eq_true_eq] at hk
  obtain ⟨k1, k2, k3, k4⟩ := hk
  have e0 : (wsOfB (adx (gAd G) ab) (gCy G) (gVb G) w)[1]? = some (gAd G 1, .inl (gCy G 4, gC w, .inl (gI w 1))) := rfl
  refine vk_copyt hx hb (hml.trans hsz.symm) hown hlink hnat hstat hini hK hP hD hS (hC.2.1.2.2.2.2.1 x0 hx0).2.2.2 1 4 e0 rfl (by decide) k1 k2 (by show 0 + _ ≤ _; omega) k4 (fun i _ => cw_fit x0 _) hf hlo hdg (fun H1 locs1 h1 h2 h3 => kk H1 locs1 ?_)
  have e1 : (wsOfB (adx (gAd G) ab) (gCy G) (gVb G) w).set 1 (gAd G 1, .inl (gCy G 4, gC w, .inl (va_cpy (fun j => (cWords.getD x0 []).getD j 0) (gI w 1) (0 : Int32).toNatClampNeg dp.toNatClampNeg n.toNatClampNeg))) = wsOfB (adx (gAd G) ab) (gCy G) (gVb G) (uCpy w x0 dp n) := rfl
  rw [e1] at h1 h2
  exact ⟨h1, h2, h3⟩
end
