/-! THE ROWS over the world. -/
def exN : Nat → String
  | 0 => "java/lang/IndexOutOfBoundsException"
  | 1 => "java/lang/IllegalArgumentException"
  | 2 => "java/lang/IllegalStateException"
  | 3 => "java/lang/UnsupportedOperationException"
  | 4 => "java/util/NoSuchElementException"
  | _ => "java/lang/ArithmeticException"
/-- the verbs alone, of all constants -/
def vbs (av : Nat → Nat) : Nat → Nat := fun k => if k < 13 then av k else 0
/-- the constants: what the statics, the enum's constants and the texts hold; all of it lies outside A and stays -/
def CsA (av : Nat → Nat) (A : Nat → Prop) (U : State) (H : Heap) : Prop :=
  va_Z "PlanetWorkshop" "TEETH" "[I" (.ref (av 20)) A U H ∧ va_T .int (av 20) 10 (fun j => .int (cTeeth.getD j 0)) A U H ∧
  va_Z "PlanetWorkshop" "VERBS" "[LPlanetWorkshop$Verb;" (.ref (av 21)) A U H ∧ va_T (.object "PlanetWorkshop$Verb") (av 21) 13 (fun j => .ref (vbs av j)) A U H ∧
  va_Z "PlanetWorkshop$1" "$SwitchMap$PlanetWorkshop$Verb" "[I" (.ref (av 22)) A U H ∧ va_T .int (av 22) 13 (fun j => .int (nI (j + 1))) A U H ∧
  va_Z "java/lang/Integer" "DigitOnes" "[B" (.ref (av 23)) A U H ∧ va_T .byte (av 23) 100 (fun j => .int (nI (48 + j % 10))) A U H ∧
  va_Z "java/lang/Integer" "DigitTens" "[B" (.ref (av 24)) A U H ∧ va_T .byte (av 24) 100 (fun j => .int (nI (48 + j / 10))) A U H ∧
  va_Z "PlanetWorkshopLaw" "TEETH" "[I" (.ref (av 25)) A U H ∧ va_T .int (av 25) 10 (fun j => .int (cTeeth.getD j 0)) A U H
/-- the texts: of the words and of the law; which of them are there, av says too -/
def txS (av : Nat → Nat) (A : Nat → Prop) (U : State) (H : Heap) : Prop :=
  (∀ i : Nat, av (300 + i) = 1 → va_O "java/lang/String" (av (100 + i)) A U H ∧ va_OF "java/lang/String" "coder" "B" (.int 0) (av (100 + i)) A U H ∧ va_OF "java/lang/String" "value" "[B" (.ref (av (200 + i))) (av (100 + i)) A U H ∧ va_T .byte (av (200 + i)) (cLens.getD i 0) (fun j => .int ((cWords.getD i []).getD j 0)) A U H) ∧ ∀ i : Nat, i < 13 → av (300 + i) = 1
theorem txS.moved {av : Nat → Nat} {A : Nat → Prop} {u U : State} {H : Heap} (hvm : u.vm.Alike U.vm) (h : txS av A u H) : txS av A U H :=
  ⟨fun i hi => ⟨va_O.moved hvm (h.1 i hi).1, va_OF.moved hvm (h.1 i hi).2.1, va_OF.moved hvm (h.1 i hi).2.2.1, va_T.moved hvm (h.1 i hi).2.2.2⟩, h.2⟩
theorem txS.kept {av : Nat → Nat} {A : Nat → Prop} {U : State} {H H1 : Heap} (h : txS av A U H) (hq : ∀ a : Nat, a < H.size → ¬ A a → H1[a]? = H[a]?) : txS av A U H1 :=
  ⟨fun i hi => ⟨(h.1 i hi).1.kept hq, (h.1 i hi).2.1.kept hq, (h.1 i hi).2.2.1.kept hq, (h.1 i hi).2.2.2.kept hq⟩, h.2⟩
theorem tx_recv {av : Nat → Nat} {A : Nat → Prop} {s : State} {H : Heap} {locs : List Loc} {i : Nat} (hE : txS av A s s.heap) (hi : av (300 + i) = 1) (hS : va_S A s.heap H locs) : ∃ cell : Cell, H[av (100 + i)]? = some cell ∧ cell.vm.isStatics = false ∧ s.vm.findClass "java/lang/String" = some cell.cls := by
  obtain ⟨cell, h1, h2, h3, -⟩ := (hE.1 i hi).1.kept hS.2.1
  exact ⟨cell, h1, h2, h3⟩
def CsB (av : Nat → Nat) (A : Nat → Prop) (U : State) (H : Heap) : Prop :=
  (∀ i, i < 13 → va_O "PlanetWorkshop$Verb" (vbs av i) A U H) ∧ va_Ef 13 "PlanetWorkshop$Verb" "word" "Ljava/lang/String;" (fun i => .ref (av (100 + i))) (vbs av) A U H ∧ va_Ef 13 "PlanetWorkshop$Verb" "shape" "I" (fun i => .int (cShapes.getD i 0)) (vbs av) A U H ∧ va_Ef 13 "java/lang/Enum" "ordinal" "I" (fun i => .int (nI i)) (vbs av) A U H ∧
  txS av A U H
def CsC (A : Nat → Prop) (U : State) (H : Heap) : Prop :=
  va_Z "java/lang/String" "COMPACT_STRINGS" "Z" (.int 1) A U H ∧ va_Zq "jdk/internal/util/Preconditions" "SIOOBE_FORMATTER" "Ljava/util/function/BiFunction;" A U H ∧
  vx_Zq Bundle.tN "UNASSIGNED_STACK" Bundle.steD A U H ∧ vx_Zq Bundle.tN "SUPPRESSED_SENTINEL" Bundle.listD A U H
def CsD (U : State) : Prop :=
  (∀ k, va_Nw (.castable (exN k) (exN k)) U) ∧ (∀ j k, j < 5 → k < 5 → j ≠ k → va_Nc (exN j) (exN k) U) ∧
  va_Nw (.fieldLinkNest "PlanetWorkshop$Changes" 33 "PlanetWorkshop" "TEETH" "[I" "PlanetWorkshop") U ∧ va_Nw (.fieldLinkNest "PlanetWorkshop$Script" 59 "PlanetWorkshop" "VERBS" "[LPlanetWorkshop$Verb;" "PlanetWorkshop") U ∧
  va_Nw (.declares (Bundle.init0 "java/lang/RuntimeException")) U ∧ va_Nw (.declares (Bundle.init0 "java/lang/Exception")) U ∧ va_Nw (.declares (Bundle.init0 Bundle.tN)) U
def Cst (av : Nat → Nat) (A : Nat → Prop) (U : State) (H : Heap) : Prop := CsA av A U H ∧ CsB av A U H ∧ CsC A U H ∧ CsD U
theorem Cst.moved {av : Nat → Nat} {A : Nat → Prop} {u U : State} {H : Heap} (hW : u.WarmedH U.vm) (h : Cst av A u H) : Cst av A U H := by
  have hvm := hW.alike
  obtain ⟨⟨a1, a2, a3, a4, a5, a6, a7, a8, a9, a10, a11, a12⟩, ⟨b1, b2, b3, b4, b5⟩, ⟨c1, c2, c3, c4⟩, ⟨d1, d2, d3, d4, d5, d6, d7⟩⟩ := h
  exact ⟨⟨a1.moved hvm, a2.moved hvm, a3.moved hvm, a4.moved hvm, a5.moved hvm, a6.moved hvm, a7.moved hvm, a8.moved hvm, a9.moved hvm, a10.moved hvm, a11.moved hvm, a12.moved hvm⟩,
    ⟨fun i hi => (b1 i hi).moved hvm, b2.moved hvm, b3.moved hvm, b4.moved hvm, b5.moved hvm⟩, ⟨c1.moved hvm, c2.moved hvm, c3.moved hvm, c4.moved hvm⟩,
    ⟨fun k => (d1 k).warmC hW, fun j k hj hk hjk => (d2 j k hj hk hjk).moved hvm, d3.warmF hW, d4.warmF hW, d5.warmD hW, d6.warmD hW, d7.warmD hW⟩⟩
theorem Cst.kept {av : Nat → Nat} {A : Nat → Prop} {U : State} {H H1 : Heap} (h : Cst av A U H) (hq : ∀ a : Nat, a < H.size → ¬ A a → H1[a]? = H[a]?) : Cst av A U H1 := by
  obtain ⟨⟨a1, a2, a3, a4, a5, a6, a7, a8, a9, a10, a11, a12⟩, ⟨b1, b2, b3, b4, b5⟩, ⟨c1, c2, c3, c4⟩, d⟩ := h
  exact ⟨⟨a1.kept hq, a2.kept hq, a3.kept hq, a4.kept hq, a5.kept hq, a6.kept hq, a7.kept hq, a8.kept hq, a9.kept hq, a10.kept hq, a11.kept hq, a12.kept hq⟩,
    ⟨fun i hi => (b1 i hi).kept hq, b2.kept hq, b3.kept hq, b4.kept hq, b5.kept hq⟩, ⟨c1.kept hq, c2.kept hq, c3.kept hq, c4.kept hq⟩, d⟩
def adx (ad : Nat → Nat) (ab k : Nat) : Nat := if k = 140 then ab else ad k
/-- the kinds of arrays: 0 int, 1 long, 2 boolean, 3 char, 4 byte, 5 double, 6 states, 7 verbs -/
def TYs (cy : Nat → ClassId) : List (ClassId × FieldType) := [(cy 0, .int), (cy 1, .long), (cy 2, .boolean), (cy 3, .char), (cy 4, .byte), (cy 5, .int), (cy 6, .object "PlanetWorkshop$State"), (cy 7, .object "PlanetWorkshop$Verb")]
/-- the parameters of a walk: classes, addresses, array classes, constants, what may be written -/
abbrev GG : Type := va_G × (Nat → Nat) × (Nat → ClassId) × (Nat → Nat) × (Nat → Prop)
abbrev gDc (G : GG) : va_G := G.1
abbrev gAd (G : GG) : Nat → Nat := G.2.1
abbrev gCy (G : GG) : Nat → ClassId := G.2.2.1
abbrev gAv (G : GG) : Nat → Nat := G.2.2.2.1
/-- where the verbs lie -/
abbrev gVb (G : GG) : Nat → Nat := vbs G.2.2.2.1
abbrev gA (G : GG) : Nat → Prop := G.2.2.2.2
/-- the heap at a point of a walk that began in H0 -/
def AH (G : GG) (H0 : Heap) (w : Wd) (ab : Nat) (H : Heap) (locs : List Loc) : Prop :=
  va_P (gDc G) vwCl (wsOf (adx (gAd G) ab) (gCy G) (gVb G) w) H ∧ va_D (gA G) (wsOf (adx (gAd G) ab) (gCy G) (gVb G) w) ∧ va_S (gA G) H0 H locs
/-- what a state is between calls -/
def Rel (G : GG) (w : Wd) (U : State) : Prop :=
  ∃ ab, va_K (gDc G) vwCl (TYs (gCy G)) U ∧ va_P (gDc G) vwCl (wsOf (adx (gAd G) ab) (gCy G) (gVb G) w) U.heap ∧ va_D (gA G) (wsOf (adx (gAd G) ab) (gCy G) (gVb G) w) ∧ Cst (gAv G) (gA G) U U.heap ∧ ∀ q : Nat, U.heap.size ≤ q → gA G q
theorem Rel.calling {G : GG} {w : Wd} {a : Array Value} {U : State} {g : JFrame} {mk : MethodId} (h : Rel G w U) : Rel G w (U.calling g mk a) := by
  obtain ⟨ab, h1, h2, h3, h4, h5⟩ := h
  exact ⟨ab, va_K.moved (u := U) (U := U.calling g mk a) (Vm.Alike.refl U.vm) h1, h2, h3, Cst.moved (u := U) (U := U.calling g mk a) (State.WarmedH.refl U) h4, h5⟩
/-- the fixed part of a walk -/
def CX (G : GG) (p : Program) (s : State) (m : MethodId) (args : Array Value) (meth : Method) (c : Code) (cc : ByteArray) (nL : Nat) (own : String) (Ts : List Cond) : Prop :=
  CallFix p m c cc nL s args Ts own ∧ va_K (gDc G) vwCl (TYs (gCy G)) s ∧ Cst (gAv G) (gA G) s s.heap ∧ (∀ q : Nat, s.heap.size ≤ q → gA G q) ∧ meth.locks = false
section AMW
variable {p : Program} {l : Launch} {e : Env} {R : Room} {s : State} {m : MethodId} {args : Array Value} {below : List Frame} {meth : Method} {c : Code} {H : Heap} {locs : List Loc} {cells slots : Nat} {Q : State → Prop} {G : GG} {w : Wd} {ab : Nat} {cc : ByteArray} {pc nL : Nat} {ls : Array Slot} {rest : List Value} {own : String} {Ts : List Cond}
theorem am_rel (X : CX G p s m args meth c cc nL own Ts) (hh : AH G s.heap w ab H locs) {t : State} (ht : t.heap = H) (hW : s.WarmedH t.vm) : Rel G w t := by
  obtain ⟨-, hK, hC, hA, -⟩ := X
  obtain ⟨hP, hD, hS⟩ := hh
  exact ⟨ab, va_K.moved hW.alike hK, by rw [ht]; exact hP, hD, by rw [ht]; exact (hC.kept hS.2.1).moved hW, fun q hq => hA q (by rw [ht] at hq; exact Nat.le_trans hS.1 hq)⟩
theorem am_getI (X : CX G p s m args meth c cc nL own Ts) (hh : AH G s.heap w ab H locs) (k ci slot : Nat) {ks : List (Option Nat)} (hk : k < 141) (hd : dsc (gC w) k = .inl (ci, ks)) {C : String} {T : u_T} {N index : Nat} (hc : vwCl[ci]? = some (C, T, N)) (hs : slot < N) (hin : ∀ z ∈ u_ws C T N, z ∈ Ts) (hlink : Cond.fieldLink own index (T slot).1 (T slot).2.1 (T slot).2.2.1 ∈ Ts) (hn : ks[slot]? = some none) (hdg : decode cc pc = .ok (.getfield index, 3))
    (kk : W p l e R s m args below meth c H locs cells slots Q (F0 m (pc + 3) ls (.int (gI w k slot) :: rest))) : W p l e R s m args below meth c H locs cells slots Q (F0 m pc ls (.ref (adx (gAd G) ab k) :: rest)) := by
  obtain ⟨⟨hx, hb, hml, hown, hts⟩, hK, -⟩ := X
  obtain ⟨hP, hD, hS⟩ := hh
  refine va_get (C := C) (T := T) (N := N) hx hb hts hin hown hK hP k (fs := mkF (adx (gAd G) ab) w k 0 ks) (by rw [ws_at hk, toE_o hd]) hc slot hs (hts _ hlink) (fun _ h => h) ?_ hdg kk
  rw [mkF_i hn, Nat.zero_add]
theorem am_getR (X : CX G p s m args meth c cc nL own Ts) (hh : AH G s.heap w ab H locs) (k ci slot x : Nat) {ks : List (Option Nat)} (hk : k < 141) (hd : dsc (gC w) k = .inl (ci, ks)) {C : String} {T : u_T} {N index : Nat} (hc : vwCl[ci]? = some (C, T, N)) (hs : slot < N) (hin : ∀ z ∈ u_ws C T N, z ∈ Ts) (hlink : Cond.fieldLink own index (T slot).1 (T slot).2.1 (T slot).2.2.1 ∈ Ts) (hn : ks[slot]? = some (some x)) (hdg : decode cc pc = .ok (.getfield index, 3))
    (kk : W p l e R s m args below meth c H locs cells slots Q (F0 m (pc + 3) ls (.ref (adx (gAd G) ab x) :: rest))) : W p l e R s m args below meth c H locs cells slots Q (F0 m pc ls (.ref (adx (gAd G) ab k) :: rest)) := by
  obtain ⟨⟨hx, hb, hml, hown, hts⟩, hK, -⟩ := X
  obtain ⟨hP, hD, hS⟩ := hh
  refine va_get (C := C) (T := T) (N := N) hx hb hts hin hown hK hP k (fs := mkF (adx (gAd G) ab) w k 0 ks) (by rw [ws_at hk, toE_o hd]) hc slot hs (hts _ hlink) (fun _ h => h) (mkF_r hn) hdg kk
theorem am_putI (X : CX G p s m args meth c cc nL own Ts) (hh : AH G s.heap w ab H locs) (k ci slot : Nat) {ks : List (Option Nat)} (hk : k < 141) (hd : dsc (gC w) k = .inl (ci, ks)) {C : String} {T : u_T} {N index : Nat} (hc : vwCl[ci]? = some (C, T, N)) (hs : slot < N) (hin : ∀ z ∈ u_ws C T N, z ∈ Ts) (ty0 : Nat → FieldType) (hty : ∀ k, k < N → parseFieldDescriptor (T k).2.2.1 = some (ty0 k)) (hnm : ∀ a, a < N → ∀ b, b < N → a ≠ b → (T a).2.1 ≠ (T b).2.1) (hlink : Cond.fieldLink own index (T slot).1 (T slot).2.1 (T slot).2.2.1 ∈ Ts) (hn : ks[slot]? = some none) (hfin : (T slot).2.2.2 = false) {v : Int32} (hnw : narrow (ty0 slot) (.int v) = .int v) (hfit : fits (ty0 slot) (.int v) = true) (hdg : decode cc pc = .ok (.putfield index, 3))
    (kk : ∀ (H1 : Heap) (locs1 : List Loc), AH G s.heap (uI w k slot v) ab H1 locs1 → W p l e R s m args below meth c H1 locs1 cells slots Q (F0 m (pc + 3) ls rest)) : W p l e R s m args below meth c H locs cells slots Q (F0 m pc ls (.int v :: .ref (adx (gAd G) ab k) :: rest)) := by
  obtain ⟨⟨hx, hb, hml, hown, hts⟩, hK, -⟩ := X
  obtain ⟨hP, hD, hS⟩ := hh
  have e1 : (wsOf (adx (gAd G) ab) (gCy G) (gVb G) w).set k (adx (gAd G) ab k, .inr (ci, (mkF (adx (gAd G) ab) w k 0 ks).set slot (.int v))) = wsOf (adx (gAd G) ab) (gCy G) (gVb G) (uI w k slot v) := by
    refine ws_set hk ?_ (fun j _ hj => toE_uI_ne hj)
    rw [toE_o (by rw [gC_uI]; exact hd)]
    have h3 := mkF_set (ad := adx (gAd G) ab) (w := w) (k := k) (v := v) (i := 0) hn
    rw [Nat.zero_add] at h3
    rw [h3]
  refine va_put (C := C) (T := T) (N := N) hx hb hts hin ty0 hty hnm hown hK hP hD hS k (fs := mkF (adx (gAd G) ab) w k 0 ks) (by rw [ws_at hk, toE_o hd]) hc slot hs (hts _ hlink) (fun _ h => h) hfin (hty slot hs) hnw hfit (by rw [mkF_len]; exact (List.getElem?_eq_some_iff.mp hn).1) hdg (fun H1 locs1 h1 h2 h3 => ?_)
  rw [e1] at h1 h2
  exact kk H1 locs1 ⟨h1, h2, h3⟩
theorem ws_arr {ad : Nat → Nat} {cy : Nat → ClassId} {av : Nat → Nat} {w : Wd} {k t n : Nat} {x : vp_A} (hk : k < 141) (hd : dsc (gC w) k = .inr (t, n)) (hx : mkA ad av w k t n = x) : (wsOf ad cy av w)[k]? = some (ad k, .inl (cy t, x)) := by
  rw [ws_at hk, toE_a hd, hx]
theorem upd_gI (w : Wd) (k i : Nat) (v : Int32) : upd (gI w k) i v = gI (uI w k i v) k := by
  funext b
  show (if b = i then v else gI w k b) = if k = k ∧ b = i then v else gI w k b
  by_cases h : b = i
  · rw [if_pos h, if_pos ⟨rfl, h⟩]
  · rw [if_neg h, if_neg (fun z => h z.2)]
theorem upd_gL (w : Wd) (k i : Nat) (v : Int64) : vp_updL (gL w k) i v = gL (uL w k i v) k := by
  funext b
  show (if b = i then v else gL w k b) = if k = k ∧ b = i then v else gL w k b
  by_cases h : b = i
  · rw [if_pos h, if_pos ⟨rfl, h⟩]
  · rw [if_neg h, if_neg (fun z => h z.2)]
theorem am_iald (X : CX G p s m args meth c cc nL own Ts) (hh : AH G s.heap w ab H locs) (k : Nat) {n : Nat} (hk : k < 141) (hd : dsc (gC w) k = .inr (0, n)) {i : Int32} (hin : vp_in i n) (hdg : decode cc pc = .ok (.iaload, 1))
    (kk : W p l e R s m args below meth c H locs cells slots Q (F0 m (pc + 1) ls (.int (gI w k i.toNatClampNeg) :: rest))) : W p l e R s m args below meth c H locs cells slots Q (F0 m pc ls (.int i :: .ref (adx (gAd G) ab k) :: rest)) :=
  va_iald X.1.1 X.1.2.1 X.2.1 hh.1 k 0 (ws_arr hk hd rfl) rfl hin hdg kk
theorem am_zald (X : CX G p s m args meth c cc nL own Ts) (hh : AH G s.heap w ab H locs) (k : Nat) {n : Nat} (hk : k < 141) (hd : dsc (gC w) k = .inr (2, n)) {i : Int32} (hin : vp_in i n) (hdg : decode cc pc = .ok (.baload, 1))
    (kk : W p l e R s m args below meth c H locs cells slots Q (F0 m (pc + 1) ls (.int (gI w k i.toNatClampNeg) :: rest))) : W p l e R s m args below meth c H locs cells slots Q (F0 m pc ls (.int i :: .ref (adx (gAd G) ab k) :: rest)) :=
  va_zald X.1.1 X.1.2.1 X.2.1 hh.1 k 2 (ws_arr hk hd rfl) rfl hin hdg kk
theorem am_bald (X : CX G p s m args meth c cc nL own Ts) (hh : AH G s.heap w ab H locs) (k : Nat) {n : Nat} (hk : k < 141) (hd : dsc (gC w) k = .inr (4, n)) {i : Int32} (hin : vp_in i n) (hdg : decode cc pc = .ok (.baload, 1))
    (kk : W p l e R s m args below meth c H locs cells slots Q (F0 m (pc + 1) ls (.int (gI w k i.toNatClampNeg) :: rest))) : W p l e R s m args below meth c H locs cells slots Q (F0 m pc ls (.int i :: .ref (adx (gAd G) ab k) :: rest)) :=
  va_bald X.1.1 X.1.2.1 X.2.1 hh.1 k 4 (ws_arr hk hd rfl) rfl hin hdg kk
theorem am_cald (X : CX G p s m args meth c cc nL own Ts) (hh : AH G s.heap w ab H locs) (k : Nat) {n : Nat} (hk : k < 141) (hd : dsc (gC w) k = .inr (3, n)) {i : Int32} (hin : vp_in i n) (hdg : decode cc pc = .ok (.caload, 1))
    (kk : W p l e R s m args below meth c H locs cells slots Q (F0 m (pc + 1) ls (.int (gI w k i.toNatClampNeg) :: rest))) : W p l e R s m args below meth c H locs cells slots Q (F0 m pc ls (.int i :: .ref (adx (gAd G) ab k) :: rest)) :=
  va_cald X.1.1 X.1.2.1 X.2.1 hh.1 k 3 (ws_arr hk hd rfl) rfl hin hdg kk
theorem am_lald (X : CX G p s m args meth c cc nL own Ts) (hh : AH G s.heap w ab H locs) (k : Nat) {n : Nat} (hk : k < 141) (hd : dsc (gC w) k = .inr (1, n)) {i : Int32} (hin : vp_in i n) (hdg : decode cc pc = .ok (.laload, 1))
    (kk : W p l e R s m args below meth c H locs cells slots Q (F0 m (pc + 1) ls (.long (gL w k i.toNatClampNeg) :: rest))) : W p l e R s m args below meth c H locs cells slots Q (F0 m pc ls (.int i :: .ref (adx (gAd G) ab k) :: rest)) :=
  va_lald X.1.1 X.1.2.1 X.2.1 hh.1 k 1 (ws_arr hk hd rfl) rfl hin hdg kk
theorem am_stI (hh : AH G s.heap w ab H locs) {k t n : Nat} (hk : k < 141) (hd : dsc (gC w) k = .inr (t, n)) (hm : ∀ w2 : Wd, mkA (adx (gAd G) ab) (gVb G) w2 k t n = (n, .inl (gI w2 k))) {i : Nat} {v : Int32} {H1 : Heap} {locs1 : List Loc}
    (h1 : va_P (gDc G) vwCl ((wsOf (adx (gAd G) ab) (gCy G) (gVb G) w).set k (adx (gAd G) ab k, .inl (gCy G t, n, .inl (upd (gI w k) i v)))) H1) (h2 : va_D (gA G) ((wsOf (adx (gAd G) ab) (gCy G) (gVb G) w).set k (adx (gAd G) ab k, .inl (gCy G t, n, .inl (upd (gI w k) i v))))) (h3 : va_S (gA G) s.heap H1 locs1) : AH G s.heap (uI w k i v) ab H1 locs1 := by
  have e1 : (wsOf (adx (gAd G) ab) (gCy G) (gVb G) w).set k (adx (gAd G) ab k, .inl (gCy G t, n, .inl (upd (gI w k) i v))) = wsOf (adx (gAd G) ab) (gCy G) (gVb G) (uI w k i v) := by
    refine ws_set hk ?_ (fun j _ hj => toE_uI_ne hj)
    rw [toE_a (by rw [gC_uI]; exact hd), hm, upd_gI]
  rw [e1] at h1 h2
  exact ⟨h1, h2, h3⟩
theorem am_iast (X : CX G p s m args meth c cc nL own Ts) (hh : AH G s.heap w ab H locs) (k : Nat) {n : Nat} (hk : k < 141) (hd : dsc (gC w) k = .inr (0, n)) {i x : Int32} (hin : vp_in i n) (hdg : decode cc pc = .ok (.iastore, 1))
    (kk : ∀ (H1 : Heap) (locs1 : List Loc), AH G s.heap (uI w k i.toNatClampNeg x) ab H1 locs1 → W p l e R s m args below meth c H1 locs1 cells slots Q (F0 m (pc + 1) ls rest)) : W p l e R s m args below meth c H locs cells slots Q (F0 m pc ls (.int x :: .int i :: .ref (adx (gAd G) ab k) :: rest)) :=
  va_iast X.1.1 X.1.2.1 X.2.1 hh.1 hh.2.1 hh.2.2 k 0 (ws_arr hk hd rfl) rfl hin hdg (fun H1 locs1 h1 h2 h3 => kk H1 locs1 (am_stI hh hk hd (fun _ => rfl) h1 h2 h3))
theorem am_zast (X : CX G p s m args meth c cc nL own Ts) (hh : AH G s.heap w ab H locs) (k : Nat) {n : Nat} (hk : k < 141) (hd : dsc (gC w) k = .inr (2, n)) {i x : Int32} (hin : vp_in i n) (hdg : decode cc pc = .ok (.bastore, 1))
    (kk : ∀ (H1 : Heap) (locs1 : List Loc), AH G s.heap (uI w k i.toNatClampNeg (vp_nar .boolean x)) ab H1 locs1 → W p l e R s m args below meth c H1 locs1 cells slots Q (F0 m (pc + 1) ls rest)) : W p l e R s m args below meth c H locs cells slots Q (F0 m pc ls (.int x :: .int i :: .ref (adx (gAd G) ab k) :: rest)) :=
  va_zast X.1.1 X.1.2.1 X.2.1 hh.1 hh.2.1 hh.2.2 k 2 (ws_arr hk hd rfl) rfl hin hdg (fun H1 locs1 h1 h2 h3 => kk H1 locs1 (am_stI hh hk hd (fun _ => rfl) h1 h2 h3))
theorem am_bast (X : CX G p s m args meth c cc nL own Ts) (hh : AH G s.heap w ab H locs) (k : Nat) {n : Nat} (hk : k < 141) (hd : dsc (gC w) k = .inr (4, n)) {i x : Int32} (hin : vp_in i n) (hdg : decode cc pc = .ok (.bastore, 1))
    (kk : ∀ (H1 : Heap) (locs1 : List Loc), AH G s.heap (uI w k i.toNatClampNeg (vp_nar .byte x)) ab H1 locs1 → W p l e R s m args below meth c H1 locs1 cells slots Q (F0 m (pc + 1) ls rest)) : W p l e R s m args below meth c H locs cells slots Q (F0 m pc ls (.int x :: .int i :: .ref (adx (gAd G) ab k) :: rest)) :=
  va_bast X.1.1 X.1.2.1 X.2.1 hh.1 hh.2.1 hh.2.2 k 4 (ws_arr hk hd rfl) rfl hin hdg (fun H1 locs1 h1 h2 h3 => kk H1 locs1 (am_stI hh hk hd (fun _ => rfl) h1 h2 h3))
theorem am_cast (X : CX G p s m args meth c cc nL own Ts) (hh : AH G s.heap w ab H locs) (k : Nat) {n : Nat} (hk : k < 141) (hd : dsc (gC w) k = .inr (3, n)) {i x : Int32} (hin : vp_in i n) (hdg : decode cc pc = .ok (.castore, 1))
    (kk : ∀ (H1 : Heap) (locs1 : List Loc), AH G s.heap (uI w k i.toNatClampNeg (vp_nar .char x)) ab H1 locs1 → W p l e R s m args below meth c H1 locs1 cells slots Q (F0 m (pc + 1) ls rest)) : W p l e R s m args below meth c H locs cells slots Q (F0 m pc ls (.int x :: .int i :: .ref (adx (gAd G) ab k) :: rest)) :=
  va_cast X.1.1 X.1.2.1 X.2.1 hh.1 hh.2.1 hh.2.2 k 3 (ws_arr hk hd rfl) rfl hin hdg (fun H1 locs1 h1 h2 h3 => kk H1 locs1 (am_stI hh hk hd (fun _ => rfl) h1 h2 h3))
theorem am_last (X : CX G p s m args meth c cc nL own Ts) (hh : AH G s.heap w ab H locs) (k : Nat) {n : Nat} (hk : k < 141) (hd : dsc (gC w) k = .inr (1, n)) {i : Int32} {x : Int64} (hin : vp_in i n) (hdg : decode cc pc = .ok (.lastore, 1))
    (kk : ∀ (H1 : Heap) (locs1 : List Loc), AH G s.heap (uL w k i.toNatClampNeg x) ab H1 locs1 → W p l e R s m args below meth c H1 locs1 cells slots Q (F0 m (pc + 1) ls rest)) : W p l e R s m args below meth c H locs cells slots Q (F0 m pc ls (.long x :: .int i :: .ref (adx (gAd G) ab k) :: rest)) := by
  refine va_last X.1.1 X.1.2.1 X.2.1 hh.1 hh.2.1 hh.2.2 k 1 (ws_arr hk hd rfl) rfl hin hdg (fun H1 locs1 h1 h2 h3 => kk H1 locs1 ?_)
  have e1 : (wsOf (adx (gAd G) ab) (gCy G) (gVb G) w).set k (adx (gAd G) ab k, .inl (gCy G 1, n, .inr (.inl (vp_updL (gL w k) i.toNatClampNeg x)))) = wsOf (adx (gAd G) ab) (gCy G) (gVb G) (uL w k i.toNatClampNeg x) := by
    refine ws_set hk ?_ (fun j _ hj => toE_uL_ne hj)
    rw [toE_a (by rw [gC_uL]; exact hd), upd_gL]
    rfl
  rw [e1] at h1 h2
  exact ⟨h1, h2, h3⟩
end AMW
/-! the pure side of a walk -/
theorem am_pos {c : Prop} [Decidable c] {α : Type} {a b x : α} (h : c) (hF : (if c then a else b) = x) : a = x := by rw [if_pos h] at hF; exact hF
theorem am_neg {c : Prop} [Decidable c] {α : Type} {a b x : α} (h : ¬ c) (hF : (if c then a else b) = x) : b = x := by rw [if_neg h] at hF; exact hF
theorem am_if {c : Prop} [Decidable c] {α : Type} {a : Option α} {x : α} (hF : (if c then a else none) = some x) : c ∧ a = some x := by
  by_cases h : c
  · rw [if_pos h] at hF; exact ⟨h, hF⟩
  · rw [if_neg h] at hF; cases hF
theorem am_bind {α β : Type} {o : Option α} {f : α → Option β} {x : β} (hF : o.bind f = some x) : ∃ a, o = some a ∧ f a = some x := by
  cases o with
  | none => cases hF
  | some a => exact ⟨a, rfl, hF⟩
