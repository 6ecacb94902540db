/-! THE BUILDER'S TEXT: toString over lists of cells -/
abbrev TGG : Type := va_G × (Nat → ClassId) × (Nat → Prop)
def zTR (T : TGG) (ws : va_W) (U : State) : Prop := va_K T.1 vwCl (TYs T.2.1) U ∧ va_P T.1 vwCl ws U.heap ∧ va_D T.2.2 ws ∧ va_Z "java/lang/String" "COMPACT_STRINGS" "Z" (.int 1) T.2.2 U U.heap ∧ ∀ q : Nat, U.heap.size ≤ q → T.2.2 q
def TQ (T : TGG) {β : Type} (rv : β → Option Value) (blk : β → va_W) : Array Value → State → Outcome → State → Prop := fun _ st oc t => ∃ u : β, oc = .returned (rv u) ∧ va_P T.1 vwCl (blk u) t.heap ∧ va_D T.2.2 (blk u) ∧ va_F T.2.2 st t
def TX (T : TGG) (p : Program) (s : State) (m : MethodId) (args : Array Value) (meth : Method) (c : Code) (cc : ByteArray) (nL : Nat) (own : String) (Ts : List Cond) : Prop :=
  CallFix p m c cc nL s args Ts own ∧ va_K T.1 vwCl (TYs T.2.1) s ∧ va_Z "java/lang/String" "COMPACT_STRINGS" "Z" (.int 1) T.2.2 s s.heap ∧ (∀ q : Nat, s.heap.size ≤ q → T.2.2 q) ∧ meth.locks = false
def zTH (T : TGG) (H0 : Heap) (ws : va_W) (H : Heap) (locs : List Loc) : Prop := va_P T.1 vwCl ws H ∧ va_D T.2.2 ws ∧ va_S T.2.2 H0 H locs
theorem tr_blind {T : TGG} {ws : va_W} {avs : List Value} : FrameBlind (va_Pc avs (zTR T ws)) := fun a U g mk h =>
  ⟨h.1, va_K.moved (u := U) (U := U.calling g mk a) (Vm.Alike.refl U.vm) h.2.1, h.2.2.1, h.2.2.2.1, va_Z.moved (u := U) (U := U.calling g mk a) (Vm.Alike.refl U.vm) h.2.2.2.2.1, h.2.2.2.2.2⟩
theorem tq_met {l : Launch} {T : TGG} {wl : va_W} {y : MethodName} {ws ws' : List Cond} {rm : Room} {cc : ByteArray} {maxL : Nat} {ret : Option FieldType} {avs : List Value} {own : String} {Qc : Array Value → State → Outcome → State → Prop} {mc ms : Nat} (hy : plainFor y = true) (hw : ws = Cond.code y cc maxL ret :: ws') (hown : y.cls = own) (hlen : (lg_sl avs).length ≤ maxL)
    (body : ∀ (p : Program) (e : Env) (s : State) (m : MethodId) (args : Array Value) (below : List Frame) (meth : Method) (c : Code) (ls : Array Slot), TX T p s m args meth c cc maxL own ws → meth.sig.returnType = ret → meth.name = y.name → zTH T s.heap wl s.heap [] → lv_has ls maxL (lv_args 0 avs) → W p l e rm s m args below meth c s.heap [] 0 0 (MQ below Qc args s mc ms T.2.2) (F0 m 0 ls [])) : Met l y ws rm (va_Pc avs (zTR T wl)) Qc mc ms T.2.2 := by
  refine va_MetF hy hw ?_
  intro p e s m args below meth c s₁ B hml hv
  obtain ⟨rfl, hK, hP, hD, hZ, hA⟩ := hv
  rw [lg_entry_eq]
  have hn : s.vm.findClass own = some m.cls := by rw [← hown]; exact findClass_of_methodNamed B.named
  exact body p e s m _ below meth c _ ⟨⟨B.exec, B.bytes, hml, hn, atoms_spec (ws := ws) B.pre⟩, hK, hZ, hA, B.notSynchronized⟩ B.returns (name_of_methodNamed B.named B.method).1 ⟨hP, hD, va_S.rf⟩ (lv_entry avs hlen)
section TQC
variable {p : Program} {l : Launch} {e : Env} {R : Room} {s : State} {m : MethodId} {args : Array Value} {below : List Frame} {meth : Method} {c : Code} {H : Heap} {locs : List Loc} {cells slots mc ms : Nat} {Q : State → Prop} {T : TGG} {ws : va_W} {cc : ByteArray} {pc nL : Nat} {ls : Array Slot} {rest st0 As : List Value} {own : String} {Ts : List Cond} {a : Array Value}
theorem tq_rel (X : TX T p s m args meth c cc nL own Ts) (hh : zTH T s.heap ws H locs) {U : State} (hU : U.heap = H) (hW : s.WarmedH U.vm) : zTR T ws U :=
  ⟨va_K.moved hW.alike X.2.1, by rw [hU]; exact hh.1, hh.2.1, by rw [hU]; exact va_Z.moved hW.alike (X.2.2.1.kept hh.2.2.2.1), fun q hq => X.2.2.2.1 q (Nat.le_trans hh.2.2.1 (by rw [← hU]; exact hq))⟩
theorem tq_preS (X : TX T p s m args meth c cc nL own Ts) (hh : zTH T s.heap ws H locs) : PreS s H (va_Pc As (zTR T ws)) As := ⟨tr_blind, fun _ hU hW => ⟨rfl, tq_rel X hh hU hW⟩⟩
theorem tq_preV (X : TX T p s m args meth c cc nL own Ts) (hh : zTH T s.heap ws H locs) (k : Nat) {h ci : Nat} {fs : List Value} (he : ws[k]? = some (h, .inr (ci, fs))) {q : vw_C} (hc : vwCl[ci]? = some q) : PreV s H q.1 h (va_Pc (.ref h :: As) (zTR T ws)) As := ⟨tr_blind, va_recv X.2.1 hh.1 hc he, fun _ hU hW => ⟨rfl, tq_rel X hh hU hW⟩⟩
theorem tq_call {β : Type} {rv : β → Option Value} {blk : β → va_W} (hh : zTH T s.heap ws H locs) (hr : va_Run p l e R s m args below meth c H locs cells slots mc ms (F0 m pc ls st0) rest (TQ T rv blk a) T.2.2)
    (kk : ∀ (u : β) (H1 : Heap) (locs1 : List Loc), zTH T s.heap (blk u) H1 locs1 → W p l e R s m args below meth c H1 locs1 (cells + mc) (slots + ms) Q (F0 m (pc + 3) ls ((rv u).toList ++ rest))) : W p l e R s m args below meth c H locs cells slots Q (F0 m pc ls st0) := by
  intro T0 hT X1
  obtain ⟨v, st₀, t, T', L, h0, X', hL, e1, e2, ⟨u, hv, hp1, hp2, hf⟩, st⟩ := hr T0 hT X1
  cases hv
  obtain ⟨-, -, k3⟩ := vx_keep (A0 := T.2.2) (A1 := T.2.2) (free := T.2.2) h0 e1 hh.2.2 (fun _ _ h => h) (fun _ h => h) hL hf
  rw [← e1] at hp1
  obtain ⟨t2, a1, b1⟩ := kk u T'.heap (locs ++ L) ⟨hp1, hp2, k3⟩ T' rfl X'
  exact ⟨t2, st t2 a1, b1⟩
theorem tq_post {β : Type} {rv : β → Option Value} {blk : β → va_W} (hh : zTH T s.heap ws H locs) (u : β) (hb : blk u = ws) {t : State} (ht : t.heap = H) {r : Option Value} (hr : r = rv u) : TQ T rv blk a s (.returned r) t :=
  ⟨u, by rw [hr], by rw [hb, ht]; exact hh.1, by rw [hb]; exact hh.2.1, hh.2.2.F ht⟩
end TQC
def noV : Unit → Option Value := fun _ => none
def rfV : Nat → Option Value := fun q => some (.ref q)
def inV (x : Int32) : Unit → Option Value := fun _ => some (.int x)
def same_ (ws : va_W) : Unit → va_W := fun _ => ws
set_option maxHeartbeats 4000000 in
set_option maxRecDepth 100000 in
theorem cT_checkLength (l : Launch) (T : TGG) (ws : va_W) : Met l yJ7_checkLength_df160 wsJ7_checkLength_df160 ({ frames := 0, cells := 0, slots := 0, locals := 0 } : Room) (va_Pc [.int 0, .int 13] (zTR T ws)) (TQ T noV (same_ ws)) 0 0 T.2.2 := by
  refine tq_met (own := RJ7) (cc := cJ7_checkLength_df160) (maxL := 2) (ret := none) (by decide +kernel) rfl rfl (Nat.le_of_ble_eq_true rfl) ?_
  intro p e s m args below meth c ls X hr hnm hh hl
  have hx := X.1.1; have hb := X.1.2.1; have hml := X.1.2.2.1; have hown := X.1.2.2.2.1; have hts := X.1.2.2.2.2
  have hl : lv_has ls 2 [(0, .int 0), (1, .int 13)] := hl
  refine lv_iload_n hx hb dJ7_checkLength_df160_0 rfl (lv_at hl 1 rfl) ?_
  refine lv_iload_n hx hb dJ7_checkLength_df160_1 rfl (lv_at hl 0 rfl) ?_
  refine lv_icmp_ge (tgt := 37) hx hb dJ7_checkLength_df160_2 (by decide) (fun _ => ?_) (fun hz => absurd (by decide) hz)
  exact W.vret hx hb hr (fun t ht _ => tq_post hh () rfl ht rfl) (fun q h => by cases h) dJ7_checkLength_df160_37 X.2.2.2.2
def cpB (T : TGG) (ws : va_W) (f : Nat → Int32) (q : Nat) : va_W := ws ++ [(q, .inl (T.2.1 4, 13, .inl (va_cpy f (fun _ => 0) 0 0 13)))]
set_option maxHeartbeats 4000000 in
set_option maxRecDepth 100000 in
theorem cT_copyOfRangeByte (l : Launch) (T : TGG) (ws : va_W) {k a : Nat} {f : Nat → Int32} (he : ws[k]? = some (a, .inl (T.2.1 4, 16, .inl f))) (hf : ∀ i, fits .byte (.int (f i)) = true) : Met l yJ7_copyOfRangeByte_39247 wsJ7_copyOfRangeByte_39247 ({ frames := 1, cells := 1, slots := 13, locals := 60 } : Room) (va_Pc [.ref a, .int 0, .int 13] (zTR T ws)) (TQ T rfV (cpB T ws f)) 1 13 T.2.2 := by
  refine tq_met (own := RJ7) (cc := cJ7_copyOfRangeByte_39247) (maxL := 5) (ret := some (.array .byte)) (by decide +kernel) rfl rfl (Nat.le_of_ble_eq_true rfl) ?_
  intro p e s m args below meth c ls X hr hnm hh hl
  have hx := X.1.1; have hb := X.1.2.1; have hml := X.1.2.2.1; have hown := X.1.2.2.2.1; have hts := X.1.2.2.2.2
  have hl : lv_has ls 5 [(0, .ref a), (1, .int 0), (2, .int 13)] := hl
  refine lv_iload_n hx hb dJ7_copyOfRangeByte_39247_0 rfl (lv_at hl 1 rfl) ?_
  refine lv_iload_n hx hb dJ7_copyOfRangeByte_39247_1 rfl (lv_at hl 2 rfl) ?_
  refine tq_call hh (va_runS (As := [.int 0, .int 13]) (rest := []) X.1 (cT_checkLength l T ws) (va_cwS 2 hts gJ7_copyOfRangeByte_39247_J7_checkLength_df160 rfl rfl rfl (by decide +kernel) ⟨Nat.le_of_ble_eq_true rfl, Nat.le_of_ble_eq_true rfl⟩) (tq_preS X hh) rfl rfl hl.1 rfl (lv_room (Nat.le_of_ble_eq_true rfl)) dJ7_copyOfRangeByte_39247_2 ⟨Nat.le_of_ble_eq_true rfl, Nat.le_of_ble_eq_true rfl⟩) (fun _ H locs hh => ?_)
  have hh : zTH T s.heap ws H locs := hh
  refine lv_iload_n hx hb dJ7_copyOfRangeByte_39247_5 rfl (lv_at hl 2 rfl) ?_
  refine lv_iload_n hx hb dJ7_copyOfRangeByte_39247_6 rfl (lv_at hl 1 rfl) ?_
  refine lv_isub hx hb dJ7_copyOfRangeByte_39247_7 ?_
  rw [show (13 : Int32) - (0 : Int32) = 13 by decide]
  refine lv_istore_n (lv' := [(3, .int 13), (0, .ref a), (1, .int 0), (2, .int 13)]) hx hb dJ7_copyOfRangeByte_39247_8 rfl hl (by decide) rfl (fun ls hl => ?_)
  refine lv_iload_n hx hb dJ7_copyOfRangeByte_39247_9 rfl (lv_at hl 0 rfl) ?_
  obtain ⟨hP, hD, hS⟩ := hh
  refine ct_newa (atype := .byte) (a0 := aI 13) (ws := ws) hx hb .byte 4 (hts _ (show Cond.arrayClass .byte ∈ wsJ7_copyOfRangeByte_39247 by decide +kernel)) rfl rfl X.2.1 hP hD hS X.2.2.2.1 (fun _ => rfl) (by decide) (by decide) (Nat.le_of_ble_eq_true rfl) (Nat.le_of_ble_eq_true rfl) (Nat.le_of_ble_eq_true rfl) dJ7_copyOfRangeByte_39247_10 (fun q H hP hD hS => ?_)
  have hk : k < ws.length := (List.getElem?_eq_some_iff.mp he).1
  have e0 : (ws ++ [(q, Sum.inl (T.2.1 4, aI 13))])[k]? = some (a, .inl (T.2.1 4, 16, .inl f)) := by rw [List.getElem?_append_left hk]; exact he
  have e1 : (ws ++ [(q, Sum.inl (T.2.1 4, aI 13))])[ws.length]? = some (q, .inl (T.2.1 4, 13, .inl (fun _ => (0 : Int32)))) := by rw [List.getElem?_append_right (Nat.le_refl _), Nat.sub_self]; rfl
  refine lv_astore (lv' := [(4, .ref q), (3, .int 13), (0, .ref a), (1, .int 0), (2, .int 13)]) hx hb dJ7_copyOfRangeByte_39247_12 hl (by decide) rfl (fun ls hl => ?_)
  refine lv_aload_n hx hb dJ7_copyOfRangeByte_39247_14 rfl (lv_at hl 2 rfl) ?_
  refine lv_iload_n hx hb dJ7_copyOfRangeByte_39247_15 rfl (lv_at hl 3 rfl) ?_
  refine lv_aload hx hb dJ7_copyOfRangeByte_39247_16 (lv_at hl 0 rfl) ?_
  refine lv_iconst (v := (0 : Int32)) hx hb dJ7_copyOfRangeByte_39247_18 (by decide) ?_
  refine lv_aload_n hx hb dJ7_copyOfRangeByte_39247_19 rfl (lv_at hl 2 rfl) ?_
  refine va_alen hx hb X.2.1 hP k 4 e0 (v := (16 : Int32)) rfl rfl dJ7_copyOfRangeByte_39247_20 ?_
  refine lv_iload_n hx hb dJ7_copyOfRangeByte_39247_21 rfl (lv_at hl 3 rfl) ?_
  refine lv_isub hx hb dJ7_copyOfRangeByte_39247_22 ?_
  refine lv_iload_n hx hb dJ7_copyOfRangeByte_39247_23 rfl (lv_at hl 1 rfl) ?_
  refine va_mmin hx hb (hml.trans hl.1.symm) hown (hts _ (show Cond.methodLink RJ7 304 Lib.Math.min.name ∈ wsJ7_copyOfRangeByte_39247 by decide +kernel)) (hts _ (show Cond.static Lib.Math.min.name ∈ wsJ7_copyOfRangeByte_39247 by decide +kernel)) (hts _ (show Cond.initialized "java/lang/Math" ∈ wsJ7_copyOfRangeByte_39247 by decide +kernel)) (hts _ (show Cond.code Lib.Math.min.name Lib.Math.min.code 2 (some .int) ∈ wsJ7_copyOfRangeByte_39247 by decide +kernel)) (Nat.le_of_ble_eq_true rfl) (Nat.le_of_ble_eq_true rfl) (Nat.le_of_ble_eq_true rfl) (Nat.le_of_ble_eq_true rfl) dJ7_copyOfRangeByte_39247_24 ?_
  rw [show (if (13 : Int32) < ((16 : Int32) - (0 : Int32)) then (13 : Int32) else ((16 : Int32) - (0 : Int32))) = 13 by decide +kernel]
  refine va_copyi hx hb (hml.trans hl.1.symm) hown (hts _ (show Cond.methodLink RJ7 150 arraycopyName ∈ wsJ7_copyOfRangeByte_39247 by decide +kernel)) (hts _ (show Cond.native arraycopyName ∈ wsJ7_copyOfRangeByte_39247 by decide +kernel)) (hts _ (show Cond.static arraycopyName ∈ wsJ7_copyOfRangeByte_39247 by decide +kernel)) (hts _ (show Cond.initialized "java/lang/System" ∈ wsJ7_copyOfRangeByte_39247 by decide +kernel)) X.2.1 hP hD hS k ws.length 4 4 (ty := .byte) e0 e1 rfl rfl rfl (by decide) (by decide) (by decide) (by decide) (by decide) (fun i _ => hf _) (Nat.le_of_ble_eq_true rfl) (Nat.le_of_ble_eq_true rfl) dJ7_copyOfRangeByte_39247_27 (fun H locs hP hD hS => ?_)
  refine lv_aload hx hb dJ7_copyOfRangeByte_39247_30 (lv_at hl 0 rfl) ?_
  have e2 : (ws ++ [(q, Sum.inl (T.2.1 4, aI 13))]).set ws.length (q, .inl (T.2.1 4, 13, .inl (va_cpy f (fun _ => (0 : Int32)) (0 : Int32).toNatClampNeg (0 : Int32).toNatClampNeg (13 : Int32).toNatClampNeg))) = cpB T ws f q := by
    rw [List.set_append_right _ _ (Nat.le_refl _), Nat.sub_self]; rfl
  rw [e2] at hP hD
  exact W.widen (Nat.le_of_ble_eq_true rfl) (Nat.le_of_ble_eq_true rfl) (W.aret hx hb hr (Or.inr ⟨_, rfl⟩) (Or.inr ⟨_, rfl⟩) (fun t ht _ => tq_post ⟨hP, hD, hS⟩ q rfl ht rfl) hS.2.2 dJ7_copyOfRangeByte_39247_32 X.2.2.2.2)
set_option maxHeartbeats 4000000 in
set_option maxRecDepth 100000 in
theorem cT_copyOfRange (l : Launch) (T : TGG) (ws : va_W) {k a : Nat} {f : Nat → Int32} (he : ws[k]? = some (a, .inl (T.2.1 4, 16, .inl f))) (hf : ∀ i, fits .byte (.int (f i)) = true) : Met l yJ7_copyOfRange_39247 wsJ7_copyOfRange_39247 ({ frames := 2, cells := 1, slots := 13, locals := 90 } : Room) (va_Pc [.ref a, .int 0, .int 13] (zTR T ws)) (TQ T rfV (cpB T ws f)) 1 13 T.2.2 := by
  refine tq_met (own := RJ7) (cc := cJ7_copyOfRange_39247) (maxL := 3) (ret := some (.array .byte)) (by decide +kernel) rfl rfl (Nat.le_of_ble_eq_true rfl) ?_
  intro p e s m args below meth c ls X hr hnm hh hl
  have hx := X.1.1; have hb := X.1.2.1; have hml := X.1.2.2.1; have hown := X.1.2.2.2.1; have hts := X.1.2.2.2.2
  have hl : lv_has ls 3 [(0, .ref a), (1, .int 0), (2, .int 13)] := hl
  refine lv_iload_n hx hb dJ7_copyOfRange_39247_0 rfl (lv_at hl 1 rfl) ?_
  refine lv_if_ne (tgt := 10) hx hb dJ7_copyOfRange_39247_1 (by decide) (fun hz => absurd rfl hz) (fun _ => ?_)
  refine lv_iload_n hx hb dJ7_copyOfRange_39247_4 rfl (lv_at hl 2 rfl) ?_
  refine lv_aload_n hx hb dJ7_copyOfRange_39247_5 rfl (lv_at hl 0 rfl) ?_
  refine va_alen hx hb X.2.1 hh.1 k 4 he (v := (16 : Int32)) rfl rfl dJ7_copyOfRange_39247_6 ?_
  refine lv_icmp_eq (tgt := 17) hx hb dJ7_copyOfRange_39247_7 (by decide) (fun hz => absurd hz (by decide)) (fun _ => ?_)
  refine lv_aload_n hx hb dJ7_copyOfRange_39247_10 rfl (lv_at hl 0 rfl) ?_
  refine lv_iload_n hx hb dJ7_copyOfRange_39247_11 rfl (lv_at hl 1 rfl) ?_
  refine lv_iload_n hx hb dJ7_copyOfRange_39247_12 rfl (lv_at hl 2 rfl) ?_
  refine tq_call hh (va_runS (As := [.ref a, .int 0, .int 13]) (rest := []) X.1 (cT_copyOfRangeByte l T ws he hf) (va_cwS 3 hts gJ7_copyOfRange_39247_J7_copyOfRangeByte_39247 rfl rfl rfl (by decide +kernel) ⟨Nat.le_of_ble_eq_true rfl, Nat.le_of_ble_eq_true rfl⟩) (tq_preS X hh) rfl rfl hl.1 rfl (lv_room (Nat.le_of_ble_eq_true rfl)) dJ7_copyOfRange_39247_13 ⟨Nat.le_of_ble_eq_true rfl, Nat.le_of_ble_eq_true rfl⟩) (fun q H locs hh => ?_)
  exact W.widen (Nat.le_of_ble_eq_true rfl) (Nat.le_of_ble_eq_true rfl) (W.aret hx hb hr (Or.inr ⟨_, rfl⟩) (Or.inr ⟨_, rfl⟩) (fun t ht _ => tq_post hh q rfl ht rfl) hh.2.2.2.2 dJ7_copyOfRange_39247_16 X.2.2.2.2)
