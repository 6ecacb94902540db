/-! THE START: what the Statement gives at the law's entry -/
theorem sI {args : Array Value} {s : State} (hs : ∀ w ∈ flatC (Jvm.Cond.and given_1 narrow_1), w.before args s = true) (i : Nat) {w : Cond} (h : (flatC (Jvm.Cond.and given_1 narrow_1))[i]? = some w) : w.before args s = true := hs w (List.mem_of_getElem? h)
theorem sT {args : Array Value} {s : State} (ht : ∀ w ∈ lw_tbl, w.before args s = true) (i : Nat) {w : Cond} (h : lw_tbl[i]? = some w) : w.before args s = true := ht w (List.mem_of_getElem? h)
def sN : List String := ["GEAR", "MESHING", "SHARING", "CUT", "SPRING", "WIND", "REVERSE", "RUN", "RATCHET", "FREE", "OIL", "BUY", "PLANET"]
def sW : List Nat := [73, 79, 82, 85, 88, 91, 94, 97, 100, 103, 106, 109, 112]
def pE : List Nat := [264, 268, 273, 279, 286, 294, 303, 313, 324, 336, 349, 363, 378]
def pO : List Nat := [265, 269, 274, 280, 287, 295, 304, 314, 325, 337, 350, 364, 379]
def pS : List Nat := [267, 271, 276, 282, 289, 297, 306, 316, 327, 339, 352, 366, 381]
def pW : List Nat := [266, 270, 275, 281, 288, 296, 305, 315, 326, 338, 351, 365, 380]
def pX : List Nat := [664, 679, 695, 712, 729, 750, 770, 794, 815, 841, 865, 889, 914]
def pC : List Nat := [665, 680, 696, 713, 730, 751, 771, 795, 816, 842, 866, 890, 915]
def pA : List Nat := [666, 681, 697, 714, 731, 752, 772, 796, 817, 843, 867, 891, 916]
def pL : List Nat := [667, 682, 698, 715, 732, 753, 773, 797, 818, 844, 868, 892, 917]
def pB : List Nat := [668, 683, 699, 716, 733, 754, 774, 798, 819, 845, 869, 893, 918]
def pN : List Nat := [0, 694, 710, 726, 746, 765, 788, 808, 833, 856, 879, 903, 931, 0, 0, 711, 727, 747, 766, 789, 809, 834, 857, 880, 904, 932, 0, 0, 0, 728, 748, 767, 790, 810, 835, 858, 881, 905, 933, 0, 0, 0, 0, 749, 768, 791, 811, 836, 859, 882, 906, 934, 0, 0, 0, 0, 0, 769, 792, 812, 837, 860, 883, 907, 935, 0, 0, 0, 0, 0, 0, 793, 813, 838, 861, 884, 908, 936, 0, 0, 0, 0, 0, 0, 0, 814, 839, 862, 885, 909, 937, 0, 0, 0, 0, 0, 0, 0, 0, 840, 863, 886, 910, 938, 0, 0, 0, 0, 0, 0, 0, 0, 0, 864, 887, 911, 939, 0, 0, 0, 0, 0, 0, 0, 0, 0, 0, 888, 912, 940, 0, 0, 0, 0, 0, 0, 0, 0, 0, 0, 0, 913, 941, 0, 0, 0, 0, 0, 0, 0, 0, 0, 0, 0, 0, 942, 0, 0, 0, 0, 0, 0, 0, 0, 0, 0, 0, 0, 0]
set_option maxRecDepth 100000 in
theorem hE : ∀ i, i < 13 → (flatC (Jvm.Cond.and given_1 narrow_1))[pE.getD i 0]? = some (Cond.exactly (.static "PlanetWorkshop$Verb" (sN.getD i "") "LPlanetWorkshop$Verb;") "PlanetWorkshop$Verb") := by decide +kernel
set_option maxRecDepth 100000 in
theorem hO : ∀ i, i < 13 → (flatC (Jvm.Cond.and given_1 narrow_1))[pO.getD i 0]? = some (Cond.eq (.field (.static "PlanetWorkshop$Verb" (sN.getD i "") "LPlanetWorkshop$Verb;") "java/lang/Enum" "ordinal" "I") (.int (nI i))) := by decide +kernel
set_option maxRecDepth 100000 in
theorem hSh : ∀ i, i < 13 → (flatC (Jvm.Cond.and given_1 narrow_1))[pS.getD i 0]? = some (Cond.eq (.field (.static "PlanetWorkshop$Verb" (sN.getD i "") "LPlanetWorkshop$Verb;") "PlanetWorkshop$Verb" "shape" "I") (.int (cShapes.getD i 0))) := by decide +kernel
set_option maxRecDepth 100000 in
theorem hWd : ∀ i, i < 13 → (flatC (Jvm.Cond.and given_1 narrow_1))[pW.getD i 0]? = some (Cond.eq (.field (.static "PlanetWorkshop$Verb" (sN.getD i "") "LPlanetWorkshop$Verb;") "PlanetWorkshop$Verb" "word" "Ljava/lang/String;") (.string "PlanetWorkshop$Verb" (sW.getD i 0))) := by decide +kernel
set_option maxRecDepth 100000 in
theorem hX_ : ∀ i, i < 13 → (flatC (Jvm.Cond.and given_1 narrow_1))[pX.getD i 0]? = some (Cond.exactly (.string "PlanetWorkshop$Verb" (sW.getD i 0)) "java/lang/String") := by decide +kernel
set_option maxRecDepth 100000 in
theorem hC_ : ∀ i, i < 13 → (flatC (Jvm.Cond.and given_1 narrow_1))[pC.getD i 0]? = some (Cond.eq (.field (.string "PlanetWorkshop$Verb" (sW.getD i 0)) "java/lang/String" "coder" "B") (.int 0)) := by decide +kernel
set_option maxRecDepth 100000 in
theorem hA_ : ∀ i, i < 13 → (flatC (Jvm.Cond.and given_1 narrow_1))[pA.getD i 0]? = some (Cond.arrayOf (.field (.string "PlanetWorkshop$Verb" (sW.getD i 0)) "java/lang/String" "value" "[B") .byte) := by decide +kernel
set_option maxRecDepth 100000 in
theorem hL_ : ∀ i, i < 13 → (flatC (Jvm.Cond.and given_1 narrow_1))[pL.getD i 0]? = some (Cond.eq (.length (.field (.string "PlanetWorkshop$Verb" (sW.getD i 0)) "java/lang/String" "value" "[B")) (.int (Int32.ofNat (cLens.getD i 0)))) := by decide +kernel
set_option maxRecDepth 100000 in
theorem hB_ : ∀ i, i < 13 → ∀ j, j < cLens.getD i 0 → (flatC (Jvm.Cond.and given_1 narrow_1))[pB.getD i 0 + j]? = some (Cond.eq (.elem (.field (.string "PlanetWorkshop$Verb" (sW.getD i 0)) "java/lang/String" "value" "[B") (.int (Int32.ofNat j))) (.int ((cWords.getD i []).getD j 0))) := by decide +kernel
set_option maxRecDepth 100000 in
theorem hN_ : ∀ i, i < 13 → ∀ j, j < 13 → i < j → (flatC (Jvm.Cond.and given_1 narrow_1))[pN.getD (13 * i + j) 0]? = some (Cond.not (Cond.eq (.string "PlanetWorkshop$Verb" (sW.getD i 0)) (.string "PlanetWorkshop$Verb" (sW.getD j 0)))) := by decide +kernel
set_option maxRecDepth 100000 in
theorem hRT : ∀ i, i < 10 → (flatC (Jvm.Cond.and given_1 narrow_1))[8 + i]? = some (Cond.eq (.elem (.static "PlanetWorkshop" "TEETH" "[I") (.int (Int32.ofNat i))) (.int (cTeeth.getD i 0))) := by decide +kernel
set_option maxRecDepth 100000 in
theorem hRS : ∀ i, i < 13 → (flatC (Jvm.Cond.and given_1 narrow_1))[251 + i]? = some (Cond.eq (.elem (.static "PlanetWorkshop$1" "$SwitchMap$PlanetWorkshop$Verb" "[I") (.int (Int32.ofNat i))) (.int (nI (i + 1)))) := by decide +kernel
set_option maxRecDepth 100000 in
theorem hRO : ∀ i, i < 100 → (flatC (Jvm.Cond.and given_1 narrow_1))[27 + i]? = some (Cond.eq (.elem (.static "java/lang/Integer" "DigitOnes" "[B") (.int (Int32.ofNat i))) (.int (nI (48 + i % 10)))) := by decide +kernel
set_option maxRecDepth 100000 in
theorem hRD : ∀ i, i < 100 → (flatC (Jvm.Cond.and given_1 narrow_1))[130 + i]? = some (Cond.eq (.elem (.static "java/lang/Integer" "DigitTens" "[B") (.int (Int32.ofNat i))) (.int (nI (48 + i / 10)))) := by decide +kernel
set_option maxRecDepth 100000 in
theorem hRV : ∀ i, i < 13 → (flatC (Jvm.Cond.and given_1 narrow_1))[235 + i]? = some (Cond.eq (.elem (.static "PlanetWorkshop" "VERBS" "[LPlanetWorkshop$Verb;") (.int (Int32.ofNat i))) (.static "PlanetWorkshop$Verb" (sN.getD i "") "LPlanetWorkshop$Verb;")) := by decide +kernel
set_option maxRecDepth 100000 in
theorem st_T {args : Array Value} {s : State} {A : Nat → Prop} (hs : ∀ w ∈ flatC (Jvm.Cond.and given_1 narrow_1), w.before args s = true) (ht : ∀ w ∈ lw_tbl, w.before args s = true) (hA : ∀ a : Nat, a < s.heap.size → ¬ A a) : ∃ t : Nat, va_Z "PlanetWorkshop" "TEETH" "[I" (.ref t) A s s.heap ∧ va_T .int t 10 (fun j => .int (cTeeth.getD j 0)) A s s.heap := by
  obtain ⟨t, h1, h2⟩ := va_Tof (tm := .static "PlanetWorkshop" "TEETH" "[I") (ty := .int) (N := 10) (f := fun j => .int (cTeeth.getD j 0)) (A := A) (by decide) (sI hs 6 (show (flatC (Jvm.Cond.and given_1 narrow_1))[6]? = some (Cond.arrayOf (.static "PlanetWorkshop" "TEETH" "[I") .int) by decide +kernel)) (va_eqt (sI hs 7 (show (flatC (Jvm.Cond.and given_1 narrow_1))[7]? = some (Cond.eq (.length (.static "PlanetWorkshop" "TEETH" "[I")) (.int (Int32.ofNat 10))) by decide +kernel))) (fun j hj => va_eqt (sI hs _ (hRT j hj))) hA
  exact ⟨t, va_Zof (sT ht 611 (show lw_tbl[611]? = some (Cond.laysStatic "PlanetWorkshop" "TEETH" "[I") by decide +kernel)) (sT ht 74 (show lw_tbl[74]? = some (Cond.initialized "PlanetWorkshop") by decide +kernel)) h1 hA, h2⟩
set_option maxRecDepth 100000 in
theorem st_S {args : Array Value} {s : State} {A : Nat → Prop} (hs : ∀ w ∈ flatC (Jvm.Cond.and given_1 narrow_1), w.before args s = true) (ht : ∀ w ∈ lw_tbl, w.before args s = true) (hA : ∀ a : Nat, a < s.heap.size → ¬ A a) : ∃ t : Nat, va_Z "PlanetWorkshop$1" "$SwitchMap$PlanetWorkshop$Verb" "[I" (.ref t) A s s.heap ∧ va_T .int t 13 (fun j => .int (nI (j + 1))) A s s.heap := by
  obtain ⟨t, h1, h2⟩ := va_Tof (tm := .static "PlanetWorkshop$1" "$SwitchMap$PlanetWorkshop$Verb" "[I") (ty := .int) (N := 13) (f := fun j => .int (nI (j + 1))) (A := A) (by decide) (sI hs 249 (show (flatC (Jvm.Cond.and given_1 narrow_1))[249]? = some (Cond.arrayOf (.static "PlanetWorkshop$1" "$SwitchMap$PlanetWorkshop$Verb" "[I") .int) by decide +kernel)) (va_eqt (sI hs 250 (show (flatC (Jvm.Cond.and given_1 narrow_1))[250]? = some (Cond.eq (.length (.static "PlanetWorkshop$1" "$SwitchMap$PlanetWorkshop$Verb" "[I")) (.int (Int32.ofNat 13))) by decide +kernel))) (fun j hj => va_eqt (sI hs _ (hRS j hj))) hA
  exact ⟨t, va_Zof (sT ht 1593 (show lw_tbl[1593]? = some (Cond.laysStatic "PlanetWorkshop$1" "$SwitchMap$PlanetWorkshop$Verb" "[I") by decide +kernel)) (sT ht 107 (show lw_tbl[107]? = some (Cond.initialized "PlanetWorkshop$1") by decide +kernel)) h1 hA, h2⟩
set_option maxRecDepth 100000 in
theorem st_O {args : Array Value} {s : State} {A : Nat → Prop} (hs : ∀ w ∈ flatC (Jvm.Cond.and given_1 narrow_1), w.before args s = true) (ht : ∀ w ∈ lw_tbl, w.before args s = true) (hA : ∀ a : Nat, a < s.heap.size → ¬ A a) : ∃ t : Nat, va_Z "java/lang/Integer" "DigitOnes" "[B" (.ref t) A s s.heap ∧ va_T .byte t 100 (fun j => .int (nI (48 + j % 10))) A s s.heap := by
  obtain ⟨t, h1, h2⟩ := va_Tof (tm := .static "java/lang/Integer" "DigitOnes" "[B") (ty := .byte) (N := 100) (f := fun j => .int (nI (48 + j % 10))) (A := A) (by decide) (sI hs 25 (show (flatC (Jvm.Cond.and given_1 narrow_1))[25]? = some (Cond.arrayOf (.static "java/lang/Integer" "DigitOnes" "[B") .byte) by decide +kernel)) (va_eqt (sI hs 26 (show (flatC (Jvm.Cond.and given_1 narrow_1))[26]? = some (Cond.eq (.length (.static "java/lang/Integer" "DigitOnes" "[B")) (.int (Int32.ofNat 100))) by decide +kernel))) (fun j hj => va_eqt (sI hs _ (hRO j hj))) hA
  exact ⟨t, va_Zof (sT ht 1359 (show lw_tbl[1359]? = some (Cond.laysStatic "java/lang/Integer" "DigitOnes" "[B") by decide +kernel)) (sT ht 106 (show lw_tbl[106]? = some (Cond.initialized "java/lang/Integer") by decide +kernel)) h1 hA, h2⟩
set_option maxRecDepth 100000 in
theorem st_D {args : Array Value} {s : State} {A : Nat → Prop} (hs : ∀ w ∈ flatC (Jvm.Cond.and given_1 narrow_1), w.before args s = true) (ht : ∀ w ∈ lw_tbl, w.before args s = true) (hA : ∀ a : Nat, a < s.heap.size → ¬ A a) : ∃ t : Nat, va_Z "java/lang/Integer" "DigitTens" "[B" (.ref t) A s s.heap ∧ va_T .byte t 100 (fun j => .int (nI (48 + j / 10))) A s s.heap := by
  obtain ⟨t, h1, h2⟩ := va_Tof (tm := .static "java/lang/Integer" "DigitTens" "[B") (ty := .byte) (N := 100) (f := fun j => .int (nI (48 + j / 10))) (A := A) (by decide) (sI hs 128 (show (flatC (Jvm.Cond.and given_1 narrow_1))[128]? = some (Cond.arrayOf (.static "java/lang/Integer" "DigitTens" "[B") .byte) by decide +kernel)) (va_eqt (sI hs 129 (show (flatC (Jvm.Cond.and given_1 narrow_1))[129]? = some (Cond.eq (.length (.static "java/lang/Integer" "DigitTens" "[B")) (.int (Int32.ofNat 100))) by decide +kernel))) (fun j hj => va_eqt (sI hs _ (hRD j hj))) hA
  exact ⟨t, va_Zof (sT ht 1361 (show lw_tbl[1361]? = some (Cond.laysStatic "java/lang/Integer" "DigitTens" "[B") by decide +kernel)) (sT ht 106 (show lw_tbl[106]? = some (Cond.initialized "java/lang/Integer") by decide +kernel)) h1 hA, h2⟩
set_option maxRecDepth 100000 in
theorem st_E {args : Array Value} {s : State} {A : Nat → Prop} (hs : ∀ w ∈ flatC (Jvm.Cond.and given_1 narrow_1), w.before args s = true) (ht : ∀ w ∈ lw_tbl, w.before args s = true) (hA : ∀ a : Nat, a < s.heap.size → ¬ A a) : ∃ ad : Nat → Nat, ∀ i, i < 13 → (Term.static "PlanetWorkshop$Verb" (sN.getD i "") "LPlanetWorkshop$Verb;").eval args s none [] s = some (.ref (ad i)) ∧ va_O "PlanetWorkshop$Verb" (ad i) A s s.heap := by
  have h : ∀ i : Nat, ∃ a : Nat, i < 13 → (Term.static "PlanetWorkshop$Verb" (sN.getD i "") "LPlanetWorkshop$Verb;").eval args s none [] s = some (.ref a) ∧ va_O "PlanetWorkshop$Verb" a A s s.heap := by
    intro i
    by_cases hi : i < 13
    · obtain ⟨a, c, cA, kA, q1, -⟩ := Cond.exactly_spec (args := args) (first := s) (o := none) (s := s) (idx := []) (t := .static "PlanetWorkshop$Verb" (sN.getD i "") "LPlanetWorkshop$Verb;") (cls := "PlanetWorkshop$Verb") (sI hs _ (hE i hi))
      exact ⟨a, fun _ => ⟨q1, va_Oof (sI hs _ (hE i hi)) q1 hA⟩⟩
    · exact ⟨0, fun h => absurd h hi⟩
  obtain ⟨f, hf⟩ := Classical.axiomOfChoice h
  exact ⟨f, hf⟩
theorem va_T.congr {ty : FieldType} {t N : Nat} {f g : Nat → Value} {A : Nat → Prop} {U : State} {H : Heap} (h : va_T ty t N f A U H) (e : ∀ j, j < N → f j = g j) : va_T ty t N g A U H := by
  obtain ⟨cell, h1, h2, h3, h4, h5, h6, h7⟩ := h
  exact ⟨cell, h1, h2, h3, h4, h5, fun j hj => by rw [← e j hj]; exact h6 j hj, h7⟩
theorem va_Ef.congr {N : Nat} {o n d : String} {v v2 : Nat → Value} {ad ad2 : Nat → Nat} {A : Nat → Prop} {U : State} {H : Heap} (h : va_Ef N o n d v ad A U H) (e : ∀ i, i < N → v i = v2 i ∧ ad i = ad2 i) : va_Ef N o n d v2 ad2 A U H := fun i hi => by
  have h1 := h i hi
  rw [(e i hi).1, (e i hi).2] at h1
  exact h1
theorem vk_S.congr {N : Nat} {len : List Nat} {byt : List (List Int32)} {k1 k2 v1 v2 : Nat → Nat} {A : Nat → Prop} {U : State} {H : Heap} (h : vk_S N len byt k1 v1 A U H) (e : ∀ i, i < N → k1 i = k2 i ∧ v1 i = v2 i) : vk_S N len byt k2 v2 A U H := by
  refine ⟨fun i hi => ?_, fun i j hi hj q => h.2 i j hi hj (by rw [(e i hi).1, (e j hj).1]; exact q)⟩
  have h1 := h.1 i hi
  rw [(e i hi).1, (e i hi).2] at h1
  exact h1
set_option maxHeartbeats 4000000 in
set_option maxRecDepth 100000 in
theorem st_Cst {args : Array Value} {s : State} {A : Nat → Prop} (hs : ∀ w ∈ flatC (Jvm.Cond.and given_1 narrow_1), w.before args s = true) (ht : ∀ w ∈ lw_tbl, w.before args s = true) (hA : ∀ a : Nat, a < s.heap.size → ¬ A a) : ∃ av : Nat → Nat, Cst av A s s.heap := by
  obtain ⟨t20, z20, y20⟩ := st_T hs ht hA
  obtain ⟨t22, z22, y22⟩ := st_S hs ht hA
  obtain ⟨t23, z23, y23⟩ := st_O hs ht hA
  obtain ⟨t24, z24, y24⟩ := st_D hs ht hA
  obtain ⟨adE, hEv⟩ := st_E (A := A) hs ht hA
  obtain ⟨t21, e21, y21⟩ := va_Tof (tm := .static "PlanetWorkshop" "VERBS" "[LPlanetWorkshop$Verb;") (ty := .object "PlanetWorkshop$Verb") (N := 13) (f := fun j => .ref (adE j)) (A := A) (by decide) (sI hs 232 (show (flatC (Jvm.Cond.and given_1 narrow_1))[232]? = some (Cond.arrayOf (.static "PlanetWorkshop" "VERBS" "[LPlanetWorkshop$Verb;") (.object "PlanetWorkshop$Verb")) by decide +kernel)) (va_eqt (sI hs 233 (show (flatC (Jvm.Cond.and given_1 narrow_1))[233]? = some (Cond.eq (.length (.static "PlanetWorkshop" "VERBS" "[LPlanetWorkshop$Verb;")) (.int (Int32.ofNat 13))) by decide +kernel))) (fun j hj => va_eqv (sI hs _ (hRV j hj)) (hEv j hj).1) hA
  have z21 := va_Zof (A := A) (sT ht 1550 (show lw_tbl[1550]? = some (Cond.laysStatic "PlanetWorkshop" "VERBS" "[LPlanetWorkshop$Verb;") by decide +kernel)) (sT ht 74 (show lw_tbl[74]? = some (Cond.initialized "PlanetWorkshop") by decide +kernel)) e21 hA
  obtain ⟨adK, adV, hS, hKe⟩ := vk_Sof (N := 13) (tm := fun i => .string "PlanetWorkshop$Verb" (sW.getD i 0)) (len := cLens) (byt := cWords) (A := A) (by decide) (fun i hi => sI hs _ (hX_ i hi)) (fun i hi => sI hs _ (hC_ i hi)) (fun i hi => sI hs _ (hA_ i hi)) (fun i hi => sI hs _ (hL_ i hi)) (fun i hi j hj => sI hs _ (hB_ i hi j hj)) (fun i j hi hj hij => by
    rcases Nat.lt_or_gt_of_ne hij with h | h
    · exact Or.inl (sI hs _ (hN_ i hi j hj h))
    · exact Or.inr (sI hs _ (hN_ j hj i hi h))) hA
  have fW : va_Ef 13 "PlanetWorkshop$Verb" "word" "Ljava/lang/String;" (fun i => .ref (adK i)) adE A s s.heap := va_Efof (E := "PlanetWorkshop$Verb") (d0 := "LPlanetWorkshop$Verb;") (nm := sN) (tm := fun i => .string "PlanetWorkshop$Verb" (sW.getD i 0)) (fun i hi => (hEv i hi).1) (fun i hi => sI hs _ (hWd i hi)) hKe hA
  have fS : va_Ef 13 "PlanetWorkshop$Verb" "shape" "I" (fun i => .int (cShapes.getD i 0)) adE A s s.heap := va_Efof (E := "PlanetWorkshop$Verb") (d0 := "LPlanetWorkshop$Verb;") (nm := sN) (tm := fun i => .int (cShapes.getD i 0)) (fun i hi => (hEv i hi).1) (fun i hi => sI hs _ (hSh i hi)) (fun i hi => rfl) hA
  have fO : va_Ef 13 "java/lang/Enum" "ordinal" "I" (fun i => .int (nI i)) adE A s s.heap := va_Efof (E := "PlanetWorkshop$Verb") (d0 := "LPlanetWorkshop$Verb;") (nm := sN) (tm := fun i => .int (nI i)) (fun i hi => (hEv i hi).1) (fun i hi => sI hs _ (hO i hi)) (fun i hi => rfl) hA
  have aE : ∀ i, i < 13 → adE i = (fun k => if k < 13 then adE k else if k = 20 then t20 else if k = 21 then t21 else if k = 22 then t22 else if k = 23 then t23 else if k = 24 then t24 else if k < 60 then adK (k - 30) else adV (k - 60)) i := fun i hi => by show _ = if i < 13 then adE i else _; rw [if_pos hi]
  have aK : ∀ i, i < 13 → adK i = (fun k => if k < 13 then adE k else if k = 20 then t20 else if k = 21 then t21 else if k = 22 then t22 else if k = 23 then t23 else if k = 24 then t24 else if k < 60 then adK (k - 30) else adV (k - 60)) (30 + i) := fun i hi => by show _ = if 30 + i < 13 then _ else _; rw [if_neg (by omega), if_neg (by omega), if_neg (by omega), if_neg (by omega), if_neg (by omega), if_neg (by omega), if_pos (by omega), Nat.add_sub_cancel_left]
  have aV : ∀ i, i < 13 → adV i = (fun k => if k < 13 then adE k else if k = 20 then t20 else if k = 21 then t21 else if k = 22 then t22 else if k = 23 then t23 else if k = 24 then t24 else if k < 60 then adK (k - 30) else adV (k - 60)) (60 + i) := fun i hi => by show _ = if 60 + i < 13 then _ else _; rw [if_neg (by omega), if_neg (by omega), if_neg (by omega), if_neg (by omega), if_neg (by omega), if_neg (by omega), if_neg (by omega), Nat.add_sub_cancel_left]
  refine ⟨(fun k => if k < 13 then adE k else if k = 20 then t20 else if k = 21 then t21 else if k = 22 then t22 else if k = 23 then t23 else if k = 24 then t24 else if k < 60 then adK (k - 30) else adV (k - 60)), ⟨z20, y20, z21, y21.congr (fun j hj => by rw [aE j hj]), z22, y22, z23, y23, z24, y24⟩, ⟨fun i hi => by rw [← aE i hi]; exact (hEv i hi).2, fW.congr (fun i hi => ⟨by rw [aK i hi], aE i hi⟩), fS.congr (fun i hi => ⟨rfl, aE i hi⟩), fO.congr (fun i hi => ⟨rfl, aE i hi⟩), hS.congr (fun i hi => ⟨aK i hi, aV i hi⟩)⟩, ⟨?_, ?_, ?_, ?_⟩, ⟨?_, ?_, ?_, ?_, ?_, ?_, ?_⟩⟩
  · exact va_Zof (sT ht 359 (show lw_tbl[359]? = some (Cond.laysStatic "java/lang/String" "COMPACT_STRINGS" "Z") by decide +kernel)) (sT ht 84 (show lw_tbl[84]? = some (Cond.initialized "java/lang/String") by decide +kernel)) (va_eqt (sI hs 4 (show (flatC (Jvm.Cond.and given_1 narrow_1))[4]? = some (Cond.eq (.static "java/lang/String" "COMPACT_STRINGS" "Z") (.int 1)) by decide +kernel))) hA
  · exact va_Zqof (sT ht 1289 (show lw_tbl[1289]? = some (Cond.laysStatic "jdk/internal/util/Preconditions" "SIOOBE_FORMATTER" "Ljava/util/function/BiFunction;") by decide +kernel)) (sT ht 103 (show lw_tbl[103]? = some (Cond.initialized "jdk/internal/util/Preconditions") by decide +kernel)) (sI hs 20 (show (flatC (Jvm.Cond.and given_1 narrow_1))[20]? = some (Cond.isRef (.static "jdk/internal/util/Preconditions" "SIOOBE_FORMATTER" "Ljava/util/function/BiFunction;")) by decide +kernel)) hA
  · exact vx_Zqof (sT ht 646 (show lw_tbl[646]? = some (Cond.laysStatic "java/lang/Throwable" "UNASSIGNED_STACK" "[Ljava/lang/StackTraceElement;") by decide +kernel)) (sT ht 87 (show lw_tbl[87]? = some (Cond.initialized "java/lang/Throwable") by decide +kernel)) (sI hs 18 (show (flatC (Jvm.Cond.and given_1 narrow_1))[18]? = some (Cond.isRef (.static "java/lang/Throwable" "UNASSIGNED_STACK" "[Ljava/lang/StackTraceElement;")) by decide +kernel)) hA
  · exact vx_Zqof (sT ht 648 (show lw_tbl[648]? = some (Cond.laysStatic "java/lang/Throwable" "SUPPRESSED_SENTINEL" "Ljava/util/List;") by decide +kernel)) (sT ht 87 (show lw_tbl[87]? = some (Cond.initialized "java/lang/Throwable") by decide +kernel)) (sI hs 19 (show (flatC (Jvm.Cond.and given_1 narrow_1))[19]? = some (Cond.isRef (.static "java/lang/Throwable" "SUPPRESSED_SENTINEL" "Ljava/util/List;")) by decide +kernel)) hA
  · intro k
    match k with
    | 0 => exact va_Nw.of rfl (sT ht 621 (show lw_tbl[621]? = some (Cond.castable "java/lang/IndexOutOfBoundsException" "java/lang/IndexOutOfBoundsException") by decide +kernel))
    | 1 => exact va_Nw.of rfl (sT ht 690 (show lw_tbl[690]? = some (Cond.castable "java/lang/IllegalArgumentException" "java/lang/IllegalArgumentException") by decide +kernel))
    | 2 => exact va_Nw.of rfl (sT ht 705 (show lw_tbl[705]? = some (Cond.castable "java/lang/IllegalStateException" "java/lang/IllegalStateException") by decide +kernel))
    | 3 => exact va_Nw.of rfl (sT ht 720 (show lw_tbl[720]? = some (Cond.castable "java/lang/UnsupportedOperationException" "java/lang/UnsupportedOperationException") by decide +kernel))
    | 4 => exact va_Nw.of rfl (sT ht 735 (show lw_tbl[735]? = some (Cond.castable "java/util/NoSuchElementException" "java/util/NoSuchElementException") by decide +kernel))
    | n + 5 => exact va_Nw.of rfl (sT ht 1179 (show lw_tbl[1179]? = some (Cond.castable "java/lang/ArithmeticException" "java/lang/ArithmeticException") by decide +kernel))
  · intro j k hj hk hjk
    match j, k with
    | 0, 0 => exact absurd rfl hjk
    | 0, 1 => exact va_Nc.of (sI hs 404 (show (flatC (Jvm.Cond.and given_1 narrow_1))[404]? = some (Cond.not (.castable "java/lang/IndexOutOfBoundsException" "java/lang/IllegalArgumentException")) by decide +kernel))
    | 0, 2 => exact va_Nc.of (sI hs 423 (show (flatC (Jvm.Cond.and given_1 narrow_1))[423]? = some (Cond.not (.castable "java/lang/IndexOutOfBoundsException" "java/lang/IllegalStateException")) by decide +kernel))
    | 0, 3 => exact va_Nc.of (sI hs 459 (show (flatC (Jvm.Cond.and given_1 narrow_1))[459]? = some (Cond.not (.castable "java/lang/IndexOutOfBoundsException" "java/lang/UnsupportedOperationException")) by decide +kernel))
    | 0, 4 => exact va_Nc.of (sI hs 478 (show (flatC (Jvm.Cond.and given_1 narrow_1))[478]? = some (Cond.not (.castable "java/lang/IndexOutOfBoundsException" "java/util/NoSuchElementException")) by decide +kernel))
    | 0, 5 => exact va_Nc.of (sI hs 497 (show (flatC (Jvm.Cond.and given_1 narrow_1))[497]? = some (Cond.not (.castable "java/lang/IndexOutOfBoundsException" "java/lang/ArithmeticException")) by decide +kernel))
    | 1, 0 => exact va_Nc.of (sI hs 442 (show (flatC (Jvm.Cond.and given_1 narrow_1))[442]? = some (Cond.not (.castable "java/lang/IllegalArgumentException" "java/lang/IndexOutOfBoundsException")) by decide +kernel))
    | 1, 1 => exact absurd rfl hjk
    | 1, 2 => exact va_Nc.of (sI hs 424 (show (flatC (Jvm.Cond.and given_1 narrow_1))[424]? = some (Cond.not (.castable "java/lang/IllegalArgumentException" "java/lang/IllegalStateException")) by decide +kernel))
    | 1, 3 => exact va_Nc.of (sI hs 460 (show (flatC (Jvm.Cond.and given_1 narrow_1))[460]? = some (Cond.not (.castable "java/lang/IllegalArgumentException" "java/lang/UnsupportedOperationException")) by decide +kernel))
    | 1, 4 => exact va_Nc.of (sI hs 479 (show (flatC (Jvm.Cond.and given_1 narrow_1))[479]? = some (Cond.not (.castable "java/lang/IllegalArgumentException" "java/util/NoSuchElementException")) by decide +kernel))
    | 1, 5 => exact va_Nc.of (sI hs 498 (show (flatC (Jvm.Cond.and given_1 narrow_1))[498]? = some (Cond.not (.castable "java/lang/IllegalArgumentException" "java/lang/ArithmeticException")) by decide +kernel))
    | 2, 0 => exact va_Nc.of (sI hs 443 (show (flatC (Jvm.Cond.and given_1 narrow_1))[443]? = some (Cond.not (.castable "java/lang/IllegalStateException" "java/lang/IndexOutOfBoundsException")) by decide +kernel))
    | 2, 1 => exact va_Nc.of (sI hs 405 (show (flatC (Jvm.Cond.and given_1 narrow_1))[405]? = some (Cond.not (.castable "java/lang/IllegalStateException" "java/lang/IllegalArgumentException")) by decide +kernel))
    | 2, 2 => exact absurd rfl hjk
    | 2, 3 => exact va_Nc.of (sI hs 461 (show (flatC (Jvm.Cond.and given_1 narrow_1))[461]? = some (Cond.not (.castable "java/lang/IllegalStateException" "java/lang/UnsupportedOperationException")) by decide +kernel))
    | 2, 4 => exact va_Nc.of (sI hs 480 (show (flatC (Jvm.Cond.and given_1 narrow_1))[480]? = some (Cond.not (.castable "java/lang/IllegalStateException" "java/util/NoSuchElementException")) by decide +kernel))
    | 2, 5 => exact va_Nc.of (sI hs 499 (show (flatC (Jvm.Cond.and given_1 narrow_1))[499]? = some (Cond.not (.castable "java/lang/IllegalStateException" "java/lang/ArithmeticException")) by decide +kernel))
    | 3, 0 => exact va_Nc.of (sI hs 444 (show (flatC (Jvm.Cond.and given_1 narrow_1))[444]? = some (Cond.not (.castable "java/lang/UnsupportedOperationException" "java/lang/IndexOutOfBoundsException")) by decide +kernel))
    | 3, 1 => exact va_Nc.of (sI hs 406 (show (flatC (Jvm.Cond.and given_1 narrow_1))[406]? = some (Cond.not (.castable "java/lang/UnsupportedOperationException" "java/lang/IllegalArgumentException")) by decide +kernel))
    | 3, 2 => exact va_Nc.of (sI hs 425 (show (flatC (Jvm.Cond.and given_1 narrow_1))[425]? = some (Cond.not (.castable "java/lang/UnsupportedOperationException" "java/lang/IllegalStateException")) by decide +kernel))
    | 3, 3 => exact absurd rfl hjk
    | 3, 4 => exact va_Nc.of (sI hs 481 (show (flatC (Jvm.Cond.and given_1 narrow_1))[481]? = some (Cond.not (.castable "java/lang/UnsupportedOperationException" "java/util/NoSuchElementException")) by decide +kernel))
    | 3, 5 => exact va_Nc.of (sI hs 500 (show (flatC (Jvm.Cond.and given_1 narrow_1))[500]? = some (Cond.not (.castable "java/lang/UnsupportedOperationException" "java/lang/ArithmeticException")) by decide +kernel))
    | 4, 0 => exact va_Nc.of (sI hs 445 (show (flatC (Jvm.Cond.and given_1 narrow_1))[445]? = some (Cond.not (.castable "java/util/NoSuchElementException" "java/lang/IndexOutOfBoundsException")) by decide +kernel))
    | 4, 1 => exact va_Nc.of (sI hs 407 (show (flatC (Jvm.Cond.and given_1 narrow_1))[407]? = some (Cond.not (.castable "java/util/NoSuchElementException" "java/lang/IllegalArgumentException")) by decide +kernel))
    | 4, 2 => exact va_Nc.of (sI hs 426 (show (flatC (Jvm.Cond.and given_1 narrow_1))[426]? = some (Cond.not (.castable "java/util/NoSuchElementException" "java/lang/IllegalStateException")) by decide +kernel))
    | 4, 3 => exact va_Nc.of (sI hs 462 (show (flatC (Jvm.Cond.and given_1 narrow_1))[462]? = some (Cond.not (.castable "java/util/NoSuchElementException" "java/lang/UnsupportedOperationException")) by decide +kernel))
    | 4, 4 => exact absurd rfl hjk
    | 4, 5 => exact va_Nc.of (sI hs 501 (show (flatC (Jvm.Cond.and given_1 narrow_1))[501]? = some (Cond.not (.castable "java/util/NoSuchElementException" "java/lang/ArithmeticException")) by decide +kernel))
    | 5, 0 => exact va_Nc.of (sI hs 446 (show (flatC (Jvm.Cond.and given_1 narrow_1))[446]? = some (Cond.not (.castable "java/lang/ArithmeticException" "java/lang/IndexOutOfBoundsException")) by decide +kernel))
    | 5, 1 => exact va_Nc.of (sI hs 409 (show (flatC (Jvm.Cond.and given_1 narrow_1))[409]? = some (Cond.not (.castable "java/lang/ArithmeticException" "java/lang/IllegalArgumentException")) by decide +kernel))
    | 5, 2 => exact va_Nc.of (sI hs 428 (show (flatC (Jvm.Cond.and given_1 narrow_1))[428]? = some (Cond.not (.castable "java/lang/ArithmeticException" "java/lang/IllegalStateException")) by decide +kernel))
    | 5, 3 => exact va_Nc.of (sI hs 464 (show (flatC (Jvm.Cond.and given_1 narrow_1))[464]? = some (Cond.not (.castable "java/lang/ArithmeticException" "java/lang/UnsupportedOperationException")) by decide +kernel))
    | 5, 4 => exact va_Nc.of (sI hs 483 (show (flatC (Jvm.Cond.and given_1 narrow_1))[483]? = some (Cond.not (.castable "java/lang/ArithmeticException" "java/util/NoSuchElementException")) by decide +kernel))
    | 5, 5 => exact absurd rfl hjk
    | n + 6, _ => exact absurd hj (by omega)
    | _, n + 6 => exact absurd hk (by omega)
  · exact va_Nw.of rfl (sT ht 610 (show lw_tbl[610]? = some (Cond.fieldLinkNest "PlanetWorkshop$Changes" (33 : Nat) "PlanetWorkshop" "TEETH" "[I" "PlanetWorkshop") by decide +kernel))
  · exact va_Nw.of rfl (sT ht 1549 (show lw_tbl[1549]? = some (Cond.fieldLinkNest "PlanetWorkshop$Script" (59 : Nat) "PlanetWorkshop" "VERBS" "[LPlanetWorkshop$Verb;" "PlanetWorkshop") by decide +kernel))
  · exact va_Nw.of rfl (sT ht 622 (show lw_tbl[622]? = some (Cond.declares ({ cls := "java/lang/RuntimeException", name := "<init>", desc := "()V" } : Jvm.MethodName)) by decide +kernel))
  · exact va_Nw.of rfl (sT ht 624 (show lw_tbl[624]? = some (Cond.declares ({ cls := "java/lang/Exception", name := "<init>", desc := "()V" } : Jvm.MethodName)) by decide +kernel))
  · exact va_Nw.of rfl (sT ht 626 (show lw_tbl[626]? = some (Cond.declares ({ cls := "java/lang/Throwable", name := "<init>", desc := "()V" } : Jvm.MethodName)) by decide +kernel))
set_option maxRecDepth 100000 in
theorem st_ctE {args : Array Value} {s : State} {A : Nat → Prop} (hs : ∀ w ∈ flatC (Jvm.Cond.and given_1 narrow_1), w.before args s = true) (ht : ∀ w ∈ lw_tbl, w.before args s = true) (hA : ∀ a : Nat, a < s.heap.size → ¬ A a) : ctE A s s.heap := by
  exact ⟨va_Nw.of rfl (sT ht 227 (show lw_tbl[227]? = some (Cond.methodLinkNest "PlanetWorkshop$History" (24 : Nat) ({ cls := "PlanetWorkshop$State", name := "<init>", desc := "()V" } : Jvm.MethodName) "PlanetWorkshop") by decide +kernel)), va_Nw.of rfl (sT ht 118 (show lw_tbl[118]? = some (Cond.methodLinkNest "PlanetWorkshop" (11 : Nat) ({ cls := "PlanetWorkshop$State", name := "<init>", desc := "()V" } : Jvm.MethodName) "PlanetWorkshop") by decide +kernel)), va_Nw.of rfl (sT ht 241 (show lw_tbl[241]? = some (Cond.methodLinkNest "PlanetWorkshop" (35 : Nat) ({ cls := "PlanetWorkshop$Train", name := "<init>", desc := "()V" } : Jvm.MethodName) "PlanetWorkshop") by decide +kernel)), va_Nw.of rfl (sT ht 313 (show lw_tbl[313]? = some (Cond.methodLinkNest "PlanetWorkshop" (67 : Nat) ({ cls := "PlanetWorkshop$Script", name := "<init>", desc := "()V" } : Jvm.MethodName) "PlanetWorkshop") by decide +kernel)), va_AO.of (sT ht 226 (show lw_tbl[226]? = some (Cond.arrayOver (.object "PlanetWorkshop$State")) by decide +kernel)), va_AO.of (sT ht 318 (show lw_tbl[318]? = some (Cond.arrayOver (.object "PlanetWorkshop$Verb")) by decide +kernel)), va_Zof (sT ht 359 (show lw_tbl[359]? = some (Cond.laysStatic "java/lang/String" "COMPACT_STRINGS" "Z") by decide +kernel)) (sT ht 84 (show lw_tbl[84]? = some (Cond.initialized "java/lang/String") by decide +kernel)) (va_eqt (sI hs 4 (show (flatC (Jvm.Cond.and given_1 narrow_1))[4]? = some (Cond.eq (.static "java/lang/String" "COMPACT_STRINGS" "Z") (.int 1)) by decide +kernel))) hA⟩
theorem st_A {args : Array Value} {s : State} {ty : FieldType} (hp : ∀ n, ty ≠ .object n) (h : (Cond.arrayClass ty).before args s = true) : ∃ cA, ArrOfT s cA ty ∧ va_RA s cA ty := by
  obtain ⟨c, k, comp, h1, h2, h3⟩ := Cond.arrayClass_spec (args := args) (first := s) (o := none) (s := s) (idx := []) h
  refine ⟨c, fun n z => ⟨fun k' h' => (by cases h'), k, h2, comp, h3⟩, ?_⟩
  cases ty with
  | object n => exact absurd rfl (hp n)
  | _ => exact h1
theorem st_Aq {args : Array Value} {s : State} {C : String} (h : (Cond.arrayOver (.object C)).before args s = true) : ∃ cA, ArrOfT s cA (.object C) ∧ va_RA s cA (.object C) := by
  obtain ⟨comp, c, k, h1, h2, h3, h4, h5⟩ := Cond.arrayOver_spec (args := args) (first := s) (o := none) (s := s) (idx := []) h
  exact ⟨c, fun n z => ⟨fun k' h' => (by cases h'), k, h3, comp, h4⟩, k, comp, h3, h4, h1, h5⟩
set_option maxHeartbeats 4000000 in
set_option maxRecDepth 100000 in
theorem st_K {args : Array Value} {s : State} (ht : ∀ w ∈ lw_tbl, w.before args s = true) : ∃ (D : va_G) (cy : Nat → ClassId), va_K D vwCl (TYs cy) s := by
  have hb := lw_hts ht
  obtain ⟨a0, i0, h0⟩ := u_known (C := RJ0) (T := TJ0) (N := 4) (n := 4) hb inJ0 (sT ht 783 (show lw_tbl[783]? = some (Cond.instantiable RJ0 4) by decide +kernel))
  obtain ⟨a1, i1, h1⟩ := u_known (C := RJ4) (T := TJ4) (N := 4) (n := 4) hb inJ4 (sT ht 350 (show lw_tbl[350]? = some (Cond.instantiable RJ4 4) by decide +kernel))
  obtain ⟨a2, i2, h2⟩ := u_known (C := RJx00060) (T := TJx00060) (N := 6) (n := 6) hb inJx00060 (sT ht 757 (show lw_tbl[757]? = some (Cond.instantiable RJx00060 6) by decide +kernel))
  obtain ⟨a3, i3, h3⟩ := u_known (C := RJx7c733) (T := TJx7c733) (N := 6) (n := 6) hb inJx7c733 (sT ht 1220 (show lw_tbl[1220]? = some (Cond.instantiable RJx7c733 6) by decide +kernel))
  obtain ⟨a4, i4, h4⟩ := u_known (C := RX1) (T := TX1) (N := 2) (n := 2) hb inX1 (sT ht 261 (show lw_tbl[261]? = some (Cond.instantiable RX1 2) by decide +kernel))
  obtain ⟨a5, i5, h5⟩ := u_known (C := RX2) (T := TX2) (N := 2) (n := 2) hb inX2 (sT ht 274 (show lw_tbl[274]? = some (Cond.instantiable RX2 2) by decide +kernel))
  obtain ⟨a6, i6, h6⟩ := u_known (C := RX3) (T := TX3) (N := 3) (n := 3) hb inX3 (sT ht 220 (show lw_tbl[220]? = some (Cond.instantiable RX3 3) by decide +kernel))
  obtain ⟨a7, i7, h7⟩ := u_known (C := RX5) (T := TX5) (N := 6) (n := 6) hb inX5 (sT ht 287 (show lw_tbl[287]? = some (Cond.instantiable RX5 6) by decide +kernel))
  obtain ⟨a8, i8, h8⟩ := u_known (C := RX6) (T := TX6) (N := 8) (n := 8) hb inX6 (sT ht 312 (show lw_tbl[312]? = some (Cond.instantiable RX6 8) by decide +kernel))
  obtain ⟨a9, i9, h9⟩ := u_known (C := RX7) (T := TX7) (N := 17) (n := 17) hb inX7 (sT ht 117 (show lw_tbl[117]? = some (Cond.instantiable RX7 17) by decide +kernel))
  obtain ⟨a10, i10, h10⟩ := u_known (C := RX8) (T := TX8) (N := 3) (n := 3) hb inX8 (sT ht 240 (show lw_tbl[240]? = some (Cond.instantiable RX8 3) by decide +kernel))
  obtain ⟨a11, i11, h11⟩ := u_known (C := RX10) (T := TX10) (N := 13) (n := 13) hb inX10 (sT ht 109 (show lw_tbl[109]? = some (Cond.instantiable RX10 13) by decide +kernel))
  obtain ⟨a12, i12, h12⟩ := u_known (C := RX11) (T := TX11) (N := 18) (n := 18) hb inX11 (sT ht 1637 (show lw_tbl[1637]? = some (Cond.instantiable RX11 18) by decide +kernel))
  have hD : ∀ c : Nat, ∃ q : ClassId × (Nat → Nat), ∀ r : vw_C, vwCl[c]? = some r → u_Kn s r.1 r.2.1 r.2.2 q.1 q.2 := by
    intro c
    match c with
    | 0 => exact ⟨(a0, i0), fun r hr => by have e : ((RJ0, TJ0, 4) : vw_C) = r := Option.some.inj hr; subst e; exact h0⟩
    | 1 => exact ⟨(a1, i1), fun r hr => by have e : ((RJ4, TJ4, 4) : vw_C) = r := Option.some.inj hr; subst e; exact h1⟩
    | 2 => exact ⟨(a2, i2), fun r hr => by have e : ((RJx00060, TJx00060, 6) : vw_C) = r := Option.some.inj hr; subst e; exact h2⟩
    | 3 => exact ⟨(a3, i3), fun r hr => by have e : ((RJx7c733, TJx7c733, 6) : vw_C) = r := Option.some.inj hr; subst e; exact h3⟩
    | 4 => exact ⟨(a4, i4), fun r hr => by have e : ((RX1, TX1, 2) : vw_C) = r := Option.some.inj hr; subst e; exact h4⟩
    | 5 => exact ⟨(a5, i5), fun r hr => by have e : ((RX2, TX2, 2) : vw_C) = r := Option.some.inj hr; subst e; exact h5⟩
    | 6 => exact ⟨(a6, i6), fun r hr => by have e : ((RX3, TX3, 3) : vw_C) = r := Option.some.inj hr; subst e; exact h6⟩
    | 7 => exact ⟨(a7, i7), fun r hr => by have e : ((RX5, TX5, 6) : vw_C) = r := Option.some.inj hr; subst e; exact h7⟩
    | 8 => exact ⟨(a8, i8), fun r hr => by have e : ((RX6, TX6, 8) : vw_C) = r := Option.some.inj hr; subst e; exact h8⟩
    | 9 => exact ⟨(a9, i9), fun r hr => by have e : ((RX7, TX7, 17) : vw_C) = r := Option.some.inj hr; subst e; exact h9⟩
    | 10 => exact ⟨(a10, i10), fun r hr => by have e : ((RX8, TX8, 3) : vw_C) = r := Option.some.inj hr; subst e; exact h10⟩
    | 11 => exact ⟨(a11, i11), fun r hr => by have e : ((RX10, TX10, 13) : vw_C) = r := Option.some.inj hr; subst e; exact h11⟩
    | 12 => exact ⟨(a12, i12), fun r hr => by have e : ((RX11, TX11, 18) : vw_C) = r := Option.some.inj hr; subst e; exact h12⟩
    | n + 13 => exact ⟨(a0, i0), fun r hr => absurd (List.getElem?_eq_some_iff.mp hr).1 (by show ¬ n + 13 < 13; omega)⟩
  obtain ⟨f, hf⟩ := Classical.axiomOfChoice hD
  obtain ⟨c0, e0⟩ := st_A (ty := .int) (fun n h => by cases h) (sT ht 215 (show lw_tbl[215]? = some (Cond.arrayClass .int) by decide +kernel))
  obtain ⟨c1, e1⟩ := st_A (ty := .long) (fun n h => by cases h) (sT ht 216 (show lw_tbl[216]? = some (Cond.arrayClass .long) by decide +kernel))
  obtain ⟨c2, e2⟩ := st_A (ty := .boolean) (fun n h => by cases h) (sT ht 217 (show lw_tbl[217]? = some (Cond.arrayClass .boolean) by decide +kernel))
  obtain ⟨c3, e3⟩ := st_A (ty := .char) (fun n h => by cases h) (sT ht 218 (show lw_tbl[218]? = some (Cond.arrayClass .char) by decide +kernel))
  obtain ⟨c4, e4⟩ := st_A (ty := .byte) (fun n h => by cases h) (sT ht 381 (show lw_tbl[381]? = some (Cond.arrayClass .byte) by decide +kernel))
  obtain ⟨c5, e5⟩ := st_A (ty := .double) (fun n h => by cases h) (sT ht 2153 (show lw_tbl[2153]? = some (Cond.arrayClass .double) by decide +kernel))
  obtain ⟨c6, e6⟩ := st_Aq (C := "PlanetWorkshop$State") (sT ht 226 (show lw_tbl[226]? = some (Cond.arrayOver (.object "PlanetWorkshop$State")) by decide +kernel))
  obtain ⟨c7, e7⟩ := st_Aq (C := "PlanetWorkshop$Verb") (sT ht 318 (show lw_tbl[318]? = some (Cond.arrayOver (.object "PlanetWorkshop$Verb")) by decide +kernel))
  refine ⟨(fun c => (f c).1, fun c => (f c).2), (fun t => [c0, c1, c2, c3, c4, c5, c6, c7].getD t c0), fun c q hq => hf c q hq, ?_⟩
  intro k q hq
  match k with
  | 0 => cases (Option.some.inj hq : _ = q); exact e0
  | 1 => cases (Option.some.inj hq : _ = q); exact e1
  | 2 => cases (Option.some.inj hq : _ = q); exact e2
  | 3 => cases (Option.some.inj hq : _ = q); exact e3
  | 4 => cases (Option.some.inj hq : _ = q); exact e4
  | 5 => cases (Option.some.inj hq : _ = q); exact e5
  | 6 => cases (Option.some.inj hq : _ = q); exact e6
  | 7 => cases (Option.some.inj hq : _ = q); exact e7
  | n + 8 => exact absurd (List.getElem?_eq_some_iff.mp hq).1 (by show ¬ n + 8 < 8; omega)
