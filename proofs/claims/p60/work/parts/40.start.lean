/-! THE START: what the Statement gives at the law's entry -/
theorem sI {args : Array Value} {s : State} (hs : ∀ w ∈ flatC (Jvm.Cond.and given_1 narrow_1), w.before args s = true) (i : Nat) {w : Cond} (h : (flatC (Jvm.Cond.and given_1 narrow_1))[i]? = some w) : w.before args s = true := hs w (List.mem_of_getElem? h)
theorem sT {args : Array Value} {s : State} (ht : ∀ w ∈ lw_tbl, w.before args s = true) (i : Nat) {w : Cond} (h : lw_tbl[i]? = some w) : w.before args s = true := ht w (List.mem_of_getElem? h)
def sN : List String := ["GEAR", "MESHING", "SHARING", "CUT", "SPRING", "WIND", "REVERSE", "RUN", "RATCHET", "FREE", "OIL", "BUY", "PLANET"]
def sC : List String := ["PlanetWorkshop$Verb", "PlanetWorkshop$Verb", "PlanetWorkshop$Verb", "PlanetWorkshop$Verb", "PlanetWorkshop$Verb", "PlanetWorkshop$Verb", "PlanetWorkshop$Verb", "PlanetWorkshop$Verb", "PlanetWorkshop$Verb", "PlanetWorkshop$Verb", "PlanetWorkshop$Verb", "PlanetWorkshop$Verb", "PlanetWorkshop$Verb", "PlanetWorkshopLaw", "PlanetWorkshopLaw", "PlanetWorkshopLaw", "PlanetWorkshopLaw", "PlanetWorkshopLaw", "PlanetWorkshopLaw", "PlanetWorkshopLaw", "PlanetWorkshopLaw", "PlanetWorkshopLaw", "PlanetWorkshopLaw", "PlanetWorkshopLaw", "PlanetWorkshopLaw", "PlanetWorkshopLaw", "PlanetWorkshopLaw", "PlanetWorkshopLaw", "PlanetWorkshopLaw", "PlanetWorkshopLaw", "PlanetWorkshopLaw"]
def sX : List String := ["gear ", "mesh ", "axle ", "cut ", "spring ", "wind ", "reverse ", "run ", "ratchet ", "free ", "oil ", "buy ", "planet ", "ratchet 0;free 0;ratchet 1", "free 0;gear 7", "cut 00", "r", "re", "mesh 0", "spring 0", "gear 1234", "", "oil 0;", "rx", "run 0 1234", "z", "gear 60;gear 20;gear 10;gear 30;mesh 01;axle 12;mesh 23", "0:60ds", "/100-", "1:20r", "0*,1*,2,3"]
def sW : List Nat := [73, 79, 82, 85, 88, 91, 94, 97, 100, 103, 106, 109, 112, 174, 186, 194, 196, 202, 204, 206, 208, 210, 212, 214, 216, 218, 227, 271, 280, 290, 295]
def pE : List Nat := [277, 281, 286, 292, 299, 307, 316, 326, 337, 349, 362, 376, 391]
def pO : List Nat := [278, 282, 287, 293, 300, 308, 317, 327, 338, 350, 363, 377, 392]
def pS : List Nat := [280, 284, 289, 295, 302, 310, 319, 329, 340, 352, 365, 379, 394]
def pW : List Nat := [279, 283, 288, 294, 301, 309, 318, 328, 339, 351, 364, 378, 393]
def pX : List Nat := [878, 887, 896, 905, 913, 924, 933, 945, 953, 965, 974, 982, 990, 636, 666, 683, 693, 698, 704, 714, 726, 739, 743, 753, 759, 773, 778, 837, 847, 856, 865]
def pC : List Nat := [879, 888, 897, 906, 914, 925, 934, 946, 954, 966, 975, 983, 991, 637, 667, 684, 694, 699, 705, 715, 727, 740, 744, 754, 760, 774, 779, 838, 848, 857, 866]
def pA : List Nat := [880, 889, 898, 907, 915, 926, 935, 947, 955, 967, 976, 984, 992, 638, 668, 685, 695, 700, 706, 716, 728, 741, 745, 755, 761, 775, 780, 839, 849, 858, 867]
def pL : List Nat := [881, 890, 899, 908, 916, 927, 936, 948, 956, 968, 977, 985, 993, 639, 669, 686, 696, 701, 707, 717, 729, 742, 746, 756, 762, 776, 781, 840, 850, 859, 868]
def pB : List Nat := [882, 891, 900, 909, 917, 928, 937, 949, 957, 969, 978, 986, 994, 640, 670, 687, 697, 702, 708, 718, 730, 0, 747, 757, 763, 777, 782, 841, 851, 860, 869]
def pR : List Nat := [0, 0, 0, 0, 0, 0, 0, 0, 0, 0, 0, 0, 0, 1461, 1462, 1463, 1464, 1465, 1466, 1467, 1468, 1469, 1470, 1471, 1472, 1473, 1474, 1480, 1481, 1482, 1483]
set_option maxRecDepth 100000 in
theorem hE : ∀ i, i < 13 → (flatC (Jvm.Cond.and given_1 narrow_1))[pE.getD i 0]? = some (Cond.exactly (.static "PlanetWorkshop$Verb" (sN.getD i "") "LPlanetWorkshop$Verb;") "PlanetWorkshop$Verb") := by decide +kernel
set_option maxRecDepth 100000 in
theorem hO : ∀ i, i < 13 → (flatC (Jvm.Cond.and given_1 narrow_1))[pO.getD i 0]? = some (Cond.eq (.field (.static "PlanetWorkshop$Verb" (sN.getD i "") "LPlanetWorkshop$Verb;") "java/lang/Enum" "ordinal" "I") (.int (nI i))) := by decide +kernel
set_option maxRecDepth 100000 in
theorem hSh : ∀ i, i < 13 → (flatC (Jvm.Cond.and given_1 narrow_1))[pS.getD i 0]? = some (Cond.eq (.field (.static "PlanetWorkshop$Verb" (sN.getD i "") "LPlanetWorkshop$Verb;") "PlanetWorkshop$Verb" "shape" "I") (.int (cShapes.getD i 0))) := by decide +kernel
set_option maxRecDepth 100000 in
theorem hWd : ∀ i, i < 13 → (flatC (Jvm.Cond.and given_1 narrow_1))[pW.getD i 0]? = some (Cond.eq (.field (.static "PlanetWorkshop$Verb" (sN.getD i "") "LPlanetWorkshop$Verb;") "PlanetWorkshop$Verb" "word" "Ljava/lang/String;") (.string "PlanetWorkshop$Verb" (sW.getD i 0))) := by decide +kernel
set_option maxRecDepth 100000 in
theorem hX_ : ∀ i, i < 31 → (flatC (Jvm.Cond.and given_1 narrow_1))[pX.getD i 0]? = some (Cond.exactly (.string (sC.getD i "") (sW.getD i 0)) "java/lang/String") := by decide +kernel
set_option maxRecDepth 100000 in
theorem hC_ : ∀ i, i < 31 → (flatC (Jvm.Cond.and given_1 narrow_1))[pC.getD i 0]? = some (Cond.eq (.field (.string (sC.getD i "") (sW.getD i 0)) "java/lang/String" "coder" "B") (.int 0)) := by decide +kernel
set_option maxRecDepth 100000 in
theorem hA_ : ∀ i, i < 31 → (flatC (Jvm.Cond.and given_1 narrow_1))[pA.getD i 0]? = some (Cond.arrayOf (.field (.string (sC.getD i "") (sW.getD i 0)) "java/lang/String" "value" "[B") .byte) := by decide +kernel
set_option maxRecDepth 100000 in
theorem hL_ : ∀ i, i < 31 → (flatC (Jvm.Cond.and given_1 narrow_1))[pL.getD i 0]? = some (Cond.eq (.length (.field (.string (sC.getD i "") (sW.getD i 0)) "java/lang/String" "value" "[B")) (.int (Int32.ofNat (cLens.getD i 0)))) := by decide +kernel
set_option maxRecDepth 100000 in
theorem hB_ : ∀ i, i < 31 → ∀ j, j < cLens.getD i 0 → (flatC (Jvm.Cond.and given_1 narrow_1))[pB.getD i 0 + j]? = some (Cond.eq (.elem (.field (.string (sC.getD i "") (sW.getD i 0)) "java/lang/String" "value" "[B") (.int (Int32.ofNat j))) (.int ((cWords.getD i []).getD j 0))) := by decide +kernel
set_option maxRecDepth 100000 in
theorem hSR : ∀ i, i < 31 → 13 ≤ i → lw_tbl[pR.getD i 0]? = some (Cond.stringRef "PlanetWorkshopLaw" (sW.getD i 0) (sX.getD i "")) := by decide +kernel
theorem st_len : ∀ i, i < 31 → cLens.getD i 0 < 2 ^ 31 := by decide +kernel
theorem st_own : ∀ i, i < 13 → sC.getD i "" = "PlanetWorkshop$Verb" := by decide +kernel
theorem st_own2 : ∀ i, i < 31 → 13 ≤ i → sC.getD i "" = "PlanetWorkshopLaw" := by decide +kernel
set_option maxRecDepth 100000 in
theorem hRQ : ∀ i, i < 10 → (flatC (Jvm.Cond.and given_1 narrow_1))[267 + i]? = some (Cond.eq (.elem (.static "PlanetWorkshopLaw" "TEETH" "[I") (.int (Int32.ofNat i))) (.int (cTeeth.getD i 0))) := by decide +kernel
set_option maxRecDepth 100000 in
theorem hRT : ∀ i, i < 10 → (flatC (Jvm.Cond.and given_1 narrow_1))[254 + i]? = some (Cond.eq (.elem (.static "PlanetWorkshop" "TEETH" "[I") (.int (Int32.ofNat i))) (.int (cTeeth.getD i 0))) := by decide +kernel
set_option maxRecDepth 100000 in
theorem hRS : ∀ i, i < 13 → (flatC (Jvm.Cond.and given_1 narrow_1))[238 + i]? = some (Cond.eq (.elem (.static "PlanetWorkshop$1" "$SwitchMap$PlanetWorkshop$Verb" "[I") (.int (Int32.ofNat i))) (.int (nI (i + 1)))) := by decide +kernel
set_option maxRecDepth 100000 in
theorem hRO : ∀ i, i < 100 → (flatC (Jvm.Cond.and given_1 narrow_1))[14 + i]? = some (Cond.eq (.elem (.static "java/lang/Integer" "DigitOnes" "[B") (.int (Int32.ofNat i))) (.int (nI (48 + i % 10)))) := by decide +kernel
set_option maxRecDepth 100000 in
theorem hRD : ∀ i, i < 100 → (flatC (Jvm.Cond.and given_1 narrow_1))[117 + i]? = some (Cond.eq (.elem (.static "java/lang/Integer" "DigitTens" "[B") (.int (Int32.ofNat i))) (.int (nI (48 + i / 10)))) := by decide +kernel
set_option maxRecDepth 100000 in
theorem hRV : ∀ i, i < 13 → (flatC (Jvm.Cond.and given_1 narrow_1))[222 + i]? = some (Cond.eq (.elem (.static "PlanetWorkshop" "VERBS" "[LPlanetWorkshop$Verb;") (.int (Int32.ofNat i))) (.static "PlanetWorkshop$Verb" (sN.getD i "") "LPlanetWorkshop$Verb;")) := by decide +kernel
set_option maxRecDepth 100000 in
theorem st_Q {args : Array Value} {s : State} {A : Nat → Prop} (hs : ∀ w ∈ flatC (Jvm.Cond.and given_1 narrow_1), w.before args s = true) (ht : ∀ w ∈ lw_tbl, w.before args s = true) (hA : ∀ a : Nat, a < s.heap.size → ¬ A a) : ∃ t : Nat, va_Z "PlanetWorkshopLaw" "TEETH" "[I" (.ref t) A s s.heap ∧ va_T .int t 10 (fun j => .int (cTeeth.getD j 0)) A s s.heap := by
  obtain ⟨t, h1, h2⟩ := va_Tof (tm := .static "PlanetWorkshopLaw" "TEETH" "[I") (ty := .int) (N := 10) (f := fun j => .int (cTeeth.getD j 0)) (A := A) (by decide) (sI hs 265 (show (flatC (Jvm.Cond.and given_1 narrow_1))[265]? = some (Cond.arrayOf (.static "PlanetWorkshopLaw" "TEETH" "[I") .int) by decide +kernel)) (va_eqt (sI hs 266 (show (flatC (Jvm.Cond.and given_1 narrow_1))[266]? = some (Cond.eq (.length (.static "PlanetWorkshopLaw" "TEETH" "[I")) (.int (Int32.ofNat 10))) by decide +kernel))) (fun j hj => va_eqt (sI hs _ (hRQ j hj))) hA
  exact ⟨t, va_Zof (sT ht 1372 (show lw_tbl[1372]? = some (Cond.laysStatic "PlanetWorkshopLaw" "TEETH" "[I") by decide +kernel)) (sT ht 23 (show lw_tbl[23]? = some (Cond.initialized "PlanetWorkshopLaw") by decide +kernel)) h1 hA, h2⟩
set_option maxRecDepth 100000 in
theorem st_T {args : Array Value} {s : State} {A : Nat → Prop} (hs : ∀ w ∈ flatC (Jvm.Cond.and given_1 narrow_1), w.before args s = true) (ht : ∀ w ∈ lw_tbl, w.before args s = true) (hA : ∀ a : Nat, a < s.heap.size → ¬ A a) : ∃ t : Nat, va_Z "PlanetWorkshop" "TEETH" "[I" (.ref t) A s s.heap ∧ va_T .int t 10 (fun j => .int (cTeeth.getD j 0)) A s s.heap := by
  obtain ⟨t, h1, h2⟩ := va_Tof (tm := .static "PlanetWorkshop" "TEETH" "[I") (ty := .int) (N := 10) (f := fun j => .int (cTeeth.getD j 0)) (A := A) (by decide) (sI hs 252 (show (flatC (Jvm.Cond.and given_1 narrow_1))[252]? = some (Cond.arrayOf (.static "PlanetWorkshop" "TEETH" "[I") .int) by decide +kernel)) (va_eqt (sI hs 253 (show (flatC (Jvm.Cond.and given_1 narrow_1))[253]? = some (Cond.eq (.length (.static "PlanetWorkshop" "TEETH" "[I")) (.int (Int32.ofNat 10))) by decide +kernel))) (fun j hj => va_eqt (sI hs _ (hRT j hj))) hA
  exact ⟨t, va_Zof (sT ht 1323 (show lw_tbl[1323]? = some (Cond.laysStatic "PlanetWorkshop" "TEETH" "[I") by decide +kernel)) (sT ht 24 (show lw_tbl[24]? = some (Cond.initialized "PlanetWorkshop") by decide +kernel)) h1 hA, h2⟩
set_option maxRecDepth 100000 in
theorem st_S {args : Array Value} {s : State} {A : Nat → Prop} (hs : ∀ w ∈ flatC (Jvm.Cond.and given_1 narrow_1), w.before args s = true) (ht : ∀ w ∈ lw_tbl, w.before args s = true) (hA : ∀ a : Nat, a < s.heap.size → ¬ A a) : ∃ t : Nat, va_Z "PlanetWorkshop$1" "$SwitchMap$PlanetWorkshop$Verb" "[I" (.ref t) A s s.heap ∧ va_T .int t 13 (fun j => .int (nI (j + 1))) A s s.heap := by
  obtain ⟨t, h1, h2⟩ := va_Tof (tm := .static "PlanetWorkshop$1" "$SwitchMap$PlanetWorkshop$Verb" "[I") (ty := .int) (N := 13) (f := fun j => .int (nI (j + 1))) (A := A) (by decide) (sI hs 236 (show (flatC (Jvm.Cond.and given_1 narrow_1))[236]? = some (Cond.arrayOf (.static "PlanetWorkshop$1" "$SwitchMap$PlanetWorkshop$Verb" "[I") .int) by decide +kernel)) (va_eqt (sI hs 237 (show (flatC (Jvm.Cond.and given_1 narrow_1))[237]? = some (Cond.eq (.length (.static "PlanetWorkshop$1" "$SwitchMap$PlanetWorkshop$Verb" "[I")) (.int (Int32.ofNat 13))) by decide +kernel))) (fun j hj => va_eqt (sI hs _ (hRS j hj))) hA
  exact ⟨t, va_Zof (sT ht 1308 (show lw_tbl[1308]? = some (Cond.laysStatic "PlanetWorkshop$1" "$SwitchMap$PlanetWorkshop$Verb" "[I") by decide +kernel)) (sT ht 49 (show lw_tbl[49]? = some (Cond.initialized "PlanetWorkshop$1") by decide +kernel)) h1 hA, h2⟩
set_option maxRecDepth 100000 in
theorem st_O {args : Array Value} {s : State} {A : Nat → Prop} (hs : ∀ w ∈ flatC (Jvm.Cond.and given_1 narrow_1), w.before args s = true) (ht : ∀ w ∈ lw_tbl, w.before args s = true) (hA : ∀ a : Nat, a < s.heap.size → ¬ A a) : ∃ t : Nat, va_Z "java/lang/Integer" "DigitOnes" "[B" (.ref t) A s s.heap ∧ va_T .byte t 100 (fun j => .int (nI (48 + j % 10))) A s s.heap := by
  obtain ⟨t, h1, h2⟩ := va_Tof (tm := .static "java/lang/Integer" "DigitOnes" "[B") (ty := .byte) (N := 100) (f := fun j => .int (nI (48 + j % 10))) (A := A) (by decide) (sI hs 12 (show (flatC (Jvm.Cond.and given_1 narrow_1))[12]? = some (Cond.arrayOf (.static "java/lang/Integer" "DigitOnes" "[B") .byte) by decide +kernel)) (va_eqt (sI hs 13 (show (flatC (Jvm.Cond.and given_1 narrow_1))[13]? = some (Cond.eq (.length (.static "java/lang/Integer" "DigitOnes" "[B")) (.int (Int32.ofNat 100))) by decide +kernel))) (fun j hj => va_eqt (sI hs _ (hRO j hj))) hA
  exact ⟨t, va_Zof (sT ht 1079 (show lw_tbl[1079]? = some (Cond.laysStatic "java/lang/Integer" "DigitOnes" "[B") by decide +kernel)) (sT ht 56 (show lw_tbl[56]? = some (Cond.initialized "java/lang/Integer") by decide +kernel)) h1 hA, h2⟩
set_option maxRecDepth 100000 in
theorem st_D {args : Array Value} {s : State} {A : Nat → Prop} (hs : ∀ w ∈ flatC (Jvm.Cond.and given_1 narrow_1), w.before args s = true) (ht : ∀ w ∈ lw_tbl, w.before args s = true) (hA : ∀ a : Nat, a < s.heap.size → ¬ A a) : ∃ t : Nat, va_Z "java/lang/Integer" "DigitTens" "[B" (.ref t) A s s.heap ∧ va_T .byte t 100 (fun j => .int (nI (48 + j / 10))) A s s.heap := by
  obtain ⟨t, h1, h2⟩ := va_Tof (tm := .static "java/lang/Integer" "DigitTens" "[B") (ty := .byte) (N := 100) (f := fun j => .int (nI (48 + j / 10))) (A := A) (by decide) (sI hs 115 (show (flatC (Jvm.Cond.and given_1 narrow_1))[115]? = some (Cond.arrayOf (.static "java/lang/Integer" "DigitTens" "[B") .byte) by decide +kernel)) (va_eqt (sI hs 116 (show (flatC (Jvm.Cond.and given_1 narrow_1))[116]? = some (Cond.eq (.length (.static "java/lang/Integer" "DigitTens" "[B")) (.int (Int32.ofNat 100))) by decide +kernel))) (fun j hj => va_eqt (sI hs _ (hRD j hj))) hA
  exact ⟨t, va_Zof (sT ht 1081 (show lw_tbl[1081]? = some (Cond.laysStatic "java/lang/Integer" "DigitTens" "[B") by decide +kernel)) (sT ht 56 (show lw_tbl[56]? = some (Cond.initialized "java/lang/Integer") by decide +kernel)) h1 hA, h2⟩
set_option maxRecDepth 100000 in
theorem st_E {args : Array Value} {s : State} {A : Nat → Prop} (hs : ∀ w ∈ flatC (Jvm.Cond.and given_1 narrow_1), w.before args s = true) (ht : ∀ w ∈ lw_tbl, w.before args s = true) (hA : ∀ a : Nat, a < s.heap.size → ¬ A a) : ∃ ad : Nat → Nat, ∀ i, i < 13 → (Term.static "PlanetWorkshop$Verb" (sN.getD i "") "LPlanetWorkshop$Verb;").eval args s none [] s = some (.ref (ad i)) ∧ va_O "PlanetWorkshop$Verb" (ad i) A s s.heap := by
  have h : ∀ i : Nat, ∃ a : Nat, i < 13 → (Term.static "PlanetWorkshop$Verb" (sN.getD i "") "LPlanetWorkshop$Verb;").eval args s none [] s = some (.ref a) ∧ va_O "PlanetWorkshop$Verb" a A s s.heap := by
    intro i
    by_cases hi : i < 13
    · obtain ⟨a, c, cA, kA, q1, -⟩ := Cond.exactly_spec (args := args) (first := s) (o := none) (s := s) (idx := []) (t := .static "PlanetWorkshop$Verb" (sN.getD i "") "LPlanetWorkshop$Verb;") (cls := "PlanetWorkshop$Verb") (sI hs _ (hE i hi))
      exact ⟨a, fun _ => ⟨q1, va_Oof (sI hs _ (hE i hi)) q1 hA⟩⟩
    · exact ⟨0, fun h => absurd h hi⟩
  obtain ⟨f, hf⟩ := Classical.axiomOfChoice h
  exact ⟨f, hf⟩
theorem va_T.congr {ty : FieldType} {t N : Nat} {f g : Nat → Value} {A : Nat → Prop} {U : State} {H : Heap} (h : va_T ty t N f A U H) (e : ∀ j, j < N → f j = g j) : va_T ty t N g A U H := by
  obtain ⟨cell, h1, h2, h3, h4, h5, h6, h7⟩ := h
  exact ⟨cell, h1, h2, h3, h4, h5, fun j hj => by rw [← e j hj]; exact h6 j hj, h7⟩
theorem va_Ef.congr {N : Nat} {o n d : String} {v v2 : Nat → Value} {ad ad2 : Nat → Nat} {A : Nat → Prop} {U : State} {H : Heap} (h : va_Ef N o n d v ad A U H) (e : ∀ i, i < N → v i = v2 i ∧ ad i = ad2 i) : va_Ef N o n d v2 ad2 A U H := fun i hi => by
  have h1 := h i hi
  rw [(e i hi).1, (e i hi).2] at h1
  exact h1
theorem vk_S.congr {N : Nat} {len : List Nat} {byt : List (List Int32)} {k1 k2 v1 v2 : Nat → Nat} {A : Nat → Prop} {U : State} {H : Heap} (h : vk_S N len byt k1 v1 A U H) (e : ∀ i, i < N → k1 i = k2 i ∧ v1 i = v2 i) : vk_S N len byt k2 v2 A U H := by
  refine ⟨fun i hi => ?_, fun i j hi hj q => h.2 i j hi hj (by rw [(e i hi).1, (e j hj).1]; exact q)⟩
  have h1 := h.1 i hi
  rw [(e i hi).1, (e i hi).2] at h1
  exact h1
set_option maxHeartbeats 4000000 in
set_option maxRecDepth 100000 in
theorem st_Cst {args : Array Value} {s : State} {A : Nat → Prop} (hs : ∀ w ∈ flatC (Jvm.Cond.and given_1 narrow_1), w.before args s = true) (ht : ∀ w ∈ lw_tbl, w.before args s = true) (hA : ∀ a : Nat, a < s.heap.size → ¬ A a) : ∃ av : Nat → Nat, Cst av A s s.heap ∧ (∀ i, i < 31 → av (300 + i) = 1) ∧ (∀ i, 31 ≤ i → av (300 + i) = 0) ∧ ∀ i, i < 31 → 13 ≤ i → vk_R "PlanetWorkshopLaw" (sW.getD i 0) (sX.getD i "") (av (100 + i)) s := by
  obtain ⟨t20, z20, y20⟩ := st_T hs ht hA
  obtain ⟨t25, z25, y25⟩ := st_Q hs ht hA
  obtain ⟨t22, z22, y22⟩ := st_S hs ht hA
  obtain ⟨t23, z23, y23⟩ := st_O hs ht hA
  obtain ⟨t24, z24, y24⟩ := st_D hs ht hA
  obtain ⟨adE, hEv⟩ := st_E (A := A) hs ht hA
  obtain ⟨t21, e21, y21⟩ := va_Tof (tm := .static "PlanetWorkshop" "VERBS" "[LPlanetWorkshop$Verb;") (ty := .object "PlanetWorkshop$Verb") (N := 13) (f := fun j => .ref (adE j)) (A := A) (by decide) (sI hs 219 (show (flatC (Jvm.Cond.and given_1 narrow_1))[219]? = some (Cond.arrayOf (.static "PlanetWorkshop" "VERBS" "[LPlanetWorkshop$Verb;") (.object "PlanetWorkshop$Verb")) by decide +kernel)) (va_eqt (sI hs 220 (show (flatC (Jvm.Cond.and given_1 narrow_1))[220]? = some (Cond.eq (.length (.static "PlanetWorkshop" "VERBS" "[LPlanetWorkshop$Verb;")) (.int (Int32.ofNat 13))) by decide +kernel))) (fun j hj => va_eqv (sI hs _ (hRV j hj)) (hEv j hj).1) hA
  have z21 := va_Zof (A := A) (sT ht 1265 (show lw_tbl[1265]? = some (Cond.laysStatic "PlanetWorkshop" "VERBS" "[LPlanetWorkshop$Verb;") by decide +kernel)) (sT ht 24 (show lw_tbl[24]? = some (Cond.initialized "PlanetWorkshop") by decide +kernel)) e21 hA
  have hTx : ∀ i : Nat, ∃ q : Nat × Nat, i < 31 → (Term.string (sC.getD i "") (sW.getD i 0)).eval args s none [] s = some (.ref q.1) ∧ va_O "java/lang/String" q.1 A s s.heap ∧ va_OF "java/lang/String" "coder" "B" (.int 0) q.1 A s s.heap ∧ va_OF "java/lang/String" "value" "[B" (.ref q.2) q.1 A s s.heap ∧ va_T .byte q.2 (cLens.getD i 0) (fun j => .int ((cWords.getD i []).getD j 0)) A s s.heap := by
    intro i
    by_cases hi : i < 31
    · obtain ⟨aK, aV, hS, hE⟩ := vk_Sof (N := 1) (tm := fun _ => .string (sC.getD i "") (sW.getD i 0)) (len := [cLens.getD i 0]) (byt := [cWords.getD i []]) (A := A) (fun j hj => by
          obtain rfl : j = 0 := by omega
          exact st_len i hi) (fun _ _ => sI hs _ (hX_ i hi)) (fun _ _ => sI hs _ (hC_ i hi)) (fun _ _ => sI hs _ (hA_ i hi)) (fun j hj => by
          obtain rfl : j = 0 := by omega
          exact sI hs _ (hL_ i hi)) (fun k hk j hj => by
          obtain rfl : k = 0 := by omega
          exact sI hs _ (hB_ i hi j hj)) (fun j k hj hk hjk => absurd (show j = k by omega) hjk) hA
      have h1 := hS.1 0 (by decide)
      exact ⟨(aK 0, aV 0), fun _ => ⟨hE 0 (by decide), h1.1, h1.2.1, h1.2.2.1, h1.2.2.2⟩⟩
    · exact ⟨(0, 0), fun h => absurd h hi⟩
  obtain ⟨aKV, hKV⟩ := Classical.axiomOfChoice hTx
  obtain ⟨adK, hadK⟩ : ∃ f : Nat → Nat, f = fun i => (aKV i).1 := ⟨_, rfl⟩
  obtain ⟨adV, hadV⟩ : ∃ f : Nat → Nat, f = fun i => (aKV i).2 := ⟨_, rfl⟩
  have hKe : ∀ i, i < 31 → (Term.string (sC.getD i "") (sW.getD i 0)).eval args s none [] s = some (.ref (adK i)) := fun i hi => by rw [hadK]; exact (hKV i hi).1
  have hT4 : ∀ i, i < 31 → va_O "java/lang/String" (adK i) A s s.heap ∧ va_OF "java/lang/String" "coder" "B" (.int 0) (adK i) A s s.heap ∧ va_OF "java/lang/String" "value" "[B" (.ref (adV i)) (adK i) A s s.heap ∧ va_T .byte (adV i) (cLens.getD i 0) (fun j => .int ((cWords.getD i []).getD j 0)) A s s.heap := fun i hi => by rw [hadK, hadV]; exact (hKV i hi).2
  have fW : va_Ef 13 "PlanetWorkshop$Verb" "word" "Ljava/lang/String;" (fun i => .ref (adK i)) adE A s s.heap := va_Efof (E := "PlanetWorkshop$Verb") (d0 := "LPlanetWorkshop$Verb;") (nm := sN) (tm := fun i => .string "PlanetWorkshop$Verb" (sW.getD i 0)) (fun i hi => (hEv i hi).1) (fun i hi => sI hs _ (hWd i hi)) (fun i hi => by have := hKe i (by omega); rw [st_own i hi] at this; exact this) hA
  have fS : va_Ef 13 "PlanetWorkshop$Verb" "shape" "I" (fun i => .int (cShapes.getD i 0)) adE A s s.heap := va_Efof (E := "PlanetWorkshop$Verb") (d0 := "LPlanetWorkshop$Verb;") (nm := sN) (tm := fun i => .int (cShapes.getD i 0)) (fun i hi => (hEv i hi).1) (fun i hi => sI hs _ (hSh i hi)) (fun i hi => rfl) hA
  have fO : va_Ef 13 "java/lang/Enum" "ordinal" "I" (fun i => .int (nI i)) adE A s s.heap := va_Efof (E := "PlanetWorkshop$Verb") (d0 := "LPlanetWorkshop$Verb;") (nm := sN) (tm := fun i => .int (nI i)) (fun i hi => (hEv i hi).1) (fun i hi => sI hs _ (hO i hi)) (fun i hi => rfl) hA
  have aE : ∀ i, i < 13 → adE i = vbs (fun k => if k < 13 then adE k else if k = 20 then t20 else if k = 21 then t21 else if k = 22 then t22 else if k = 23 then t23 else if k = 24 then t24 else if k = 25 then t25 else if k < 200 then adK (k - 100) else if k < 300 then adV (k - 200) else if k < 331 then 1 else 0) i := fun i hi => by show _ = if i < 13 then (if i < 13 then adE i else _) else _; rw [if_pos hi, if_pos hi]
  have aK : ∀ i, i < 31 → adK i = (fun k => if k < 13 then adE k else if k = 20 then t20 else if k = 21 then t21 else if k = 22 then t22 else if k = 23 then t23 else if k = 24 then t24 else if k = 25 then t25 else if k < 200 then adK (k - 100) else if k < 300 then adV (k - 200) else if k < 331 then 1 else 0) (100 + i) := fun i hi => by show _ = if 100 + i < 13 then _ else _; rw [if_neg (by omega), if_neg (by omega), if_neg (by omega), if_neg (by omega), if_neg (by omega), if_neg (by omega), if_neg (by omega), if_pos (by omega), Nat.add_sub_cancel_left]
  have aV : ∀ i, i < 31 → adV i = (fun k => if k < 13 then adE k else if k = 20 then t20 else if k = 21 then t21 else if k = 22 then t22 else if k = 23 then t23 else if k = 24 then t24 else if k = 25 then t25 else if k < 200 then adK (k - 100) else if k < 300 then adV (k - 200) else if k < 331 then 1 else 0) (200 + i) := fun i hi => by show _ = if 200 + i < 13 then _ else _; rw [if_neg (by omega), if_neg (by omega), if_neg (by omega), if_neg (by omega), if_neg (by omega), if_neg (by omega), if_neg (by omega), if_neg (by omega), if_pos (by omega), Nat.add_sub_cancel_left]
  have aF : ∀ i, (fun k => if k < 13 then adE k else if k = 20 then t20 else if k = 21 then t21 else if k = 22 then t22 else if k = 23 then t23 else if k = 24 then t24 else if k = 25 then t25 else if k < 200 then adK (k - 100) else if k < 300 then adV (k - 200) else if k < 331 then 1 else 0) (300 + i) = if i < 31 then 1 else 0 := fun i => by show (if 300 + i < 13 then _ else _) = _; rw [if_neg (by omega), if_neg (by omega), if_neg (by omega), if_neg (by omega), if_neg (by omega), if_neg (by omega), if_neg (by omega), if_neg (by omega), if_neg (by omega)]; by_cases h : i < 31 <;> simp [h] <;> omega
  have aF1 : ∀ i, (fun k => if k < 13 then adE k else if k = 20 then t20 else if k = 21 then t21 else if k = 22 then t22 else if k = 23 then t23 else if k = 24 then t24 else if k = 25 then t25 else if k < 200 then adK (k - 100) else if k < 300 then adV (k - 200) else if k < 331 then 1 else 0) (300 + i) = 1 → i < 31 := fun i h => by
    rw [aF i] at h
    by_cases h1 : i < 31
    · exact h1
    · rw [if_neg h1] at h; cases h
  refine ⟨(fun k => if k < 13 then adE k else if k = 20 then t20 else if k = 21 then t21 else if k = 22 then t22 else if k = 23 then t23 else if k = 24 then t24 else if k = 25 then t25 else if k < 200 then adK (k - 100) else if k < 300 then adV (k - 200) else if k < 331 then 1 else 0), ⟨⟨z20, y20, z21, y21.congr (fun j hj => by rw [aE j hj]), z22, y22, z23, y23, z24, y24, z25, y25⟩, ⟨fun i hi => by rw [← aE i hi]; exact (hEv i hi).2, fW.congr (fun i hi => ⟨by rw [aK i (by omega)], aE i hi⟩), fS.congr (fun i hi => ⟨rfl, aE i hi⟩), fO.congr (fun i hi => ⟨rfl, aE i hi⟩), fun i hi => by rw [← aK i (aF1 i hi), ← aV i (aF1 i hi)]; exact hT4 i (aF1 i hi), fun i hi => by rw [aF i, if_pos (by omega)]⟩, ⟨?_, ?_, ?_, ?_⟩, ⟨?_, ?_, ?_, ?_, ?_, ?_, ?_⟩⟩, fun i hi => by rw [aF i, if_pos hi], fun i hi => by rw [aF i, if_neg (by omega)], fun i hi h13 => by rw [← aK i hi]; exact vk_R.of (sT ht _ (hSR i hi h13)) (by have := hKe i hi; rw [st_own2 i hi h13] at this; exact this)⟩
  · exact va_Zof (sT ht 307 (show lw_tbl[307]? = some (Cond.laysStatic "java/lang/String" "COMPACT_STRINGS" "Z") by decide +kernel)) (sT ht 34 (show lw_tbl[34]? = some (Cond.initialized "java/lang/String") by decide +kernel)) (va_eqt (sI hs 4 (show (flatC (Jvm.Cond.and given_1 narrow_1))[4]? = some (Cond.eq (.static "java/lang/String" "COMPACT_STRINGS" "Z") (.int 1)) by decide +kernel))) hA
  · exact va_Zqof (sT ht 1009 (show lw_tbl[1009]? = some (Cond.laysStatic "jdk/internal/util/Preconditions" "SIOOBE_FORMATTER" "Ljava/util/function/BiFunction;") by decide +kernel)) (sT ht 48 (show lw_tbl[48]? = some (Cond.initialized "jdk/internal/util/Preconditions") by decide +kernel)) (sI hs 7 (show (flatC (Jvm.Cond.and given_1 narrow_1))[7]? = some (Cond.isRef (.static "jdk/internal/util/Preconditions" "SIOOBE_FORMATTER" "Ljava/util/function/BiFunction;")) by decide +kernel)) hA
  · exact vx_Zqof (sT ht 463 (show lw_tbl[463]? = some (Cond.laysStatic "java/lang/Throwable" "UNASSIGNED_STACK" "[Ljava/lang/StackTraceElement;") by decide +kernel)) (sT ht 36 (show lw_tbl[36]? = some (Cond.initialized "java/lang/Throwable") by decide +kernel)) (sI hs 5 (show (flatC (Jvm.Cond.and given_1 narrow_1))[5]? = some (Cond.isRef (.static "java/lang/Throwable" "UNASSIGNED_STACK" "[Ljava/lang/StackTraceElement;")) by decide +kernel)) hA
  · exact vx_Zqof (sT ht 465 (show lw_tbl[465]? = some (Cond.laysStatic "java/lang/Throwable" "SUPPRESSED_SENTINEL" "Ljava/util/List;") by decide +kernel)) (sT ht 36 (show lw_tbl[36]? = some (Cond.initialized "java/lang/Throwable") by decide +kernel)) (sI hs 6 (show (flatC (Jvm.Cond.and given_1 narrow_1))[6]? = some (Cond.isRef (.static "java/lang/Throwable" "SUPPRESSED_SENTINEL" "Ljava/util/List;")) by decide +kernel)) hA
  · intro k
    match k with
    | 0 => exact va_Nw.of rfl (sT ht 438 (show lw_tbl[438]? = some (Cond.castable "java/lang/IndexOutOfBoundsException" "java/lang/IndexOutOfBoundsException") by decide +kernel))
    | 1 => exact va_Nw.of rfl (sT ht 507 (show lw_tbl[507]? = some (Cond.castable "java/lang/IllegalArgumentException" "java/lang/IllegalArgumentException") by decide +kernel))
    | 2 => exact va_Nw.of rfl (sT ht 522 (show lw_tbl[522]? = some (Cond.castable "java/lang/IllegalStateException" "java/lang/IllegalStateException") by decide +kernel))
    | 3 => exact va_Nw.of rfl (sT ht 537 (show lw_tbl[537]? = some (Cond.castable "java/lang/UnsupportedOperationException" "java/lang/UnsupportedOperationException") by decide +kernel))
    | 4 => exact va_Nw.of rfl (sT ht 552 (show lw_tbl[552]? = some (Cond.castable "java/util/NoSuchElementException" "java/util/NoSuchElementException") by decide +kernel))
    | n + 5 => exact va_Nw.of rfl (sT ht 882 (show lw_tbl[882]? = some (Cond.castable "java/lang/ArithmeticException" "java/lang/ArithmeticException") by decide +kernel))
  · intro j k hj hk hjk
    match j, k with
    | 0, 0 => exact absurd rfl hjk
    | 0, 1 => exact va_Nc.of (sI hs 433 (show (flatC (Jvm.Cond.and given_1 narrow_1))[433]? = some (Cond.not (.castable "java/lang/IndexOutOfBoundsException" "java/lang/IllegalArgumentException")) by decide +kernel))
    | 0, 2 => exact va_Nc.of (sI hs 451 (show (flatC (Jvm.Cond.and given_1 narrow_1))[451]? = some (Cond.not (.castable "java/lang/IndexOutOfBoundsException" "java/lang/IllegalStateException")) by decide +kernel))
    | 0, 3 => exact va_Nc.of (sI hs 469 (show (flatC (Jvm.Cond.and given_1 narrow_1))[469]? = some (Cond.not (.castable "java/lang/IndexOutOfBoundsException" "java/lang/UnsupportedOperationException")) by decide +kernel))
    | 0, 4 => exact va_Nc.of (sI hs 487 (show (flatC (Jvm.Cond.and given_1 narrow_1))[487]? = some (Cond.not (.castable "java/lang/IndexOutOfBoundsException" "java/util/NoSuchElementException")) by decide +kernel))
    | 1, 0 => exact va_Nc.of (sI hs 416 (show (flatC (Jvm.Cond.and given_1 narrow_1))[416]? = some (Cond.not (.castable "java/lang/IllegalArgumentException" "java/lang/IndexOutOfBoundsException")) by decide +kernel))
    | 1, 1 => exact absurd rfl hjk
    | 1, 2 => exact va_Nc.of (sI hs 452 (show (flatC (Jvm.Cond.and given_1 narrow_1))[452]? = some (Cond.not (.castable "java/lang/IllegalArgumentException" "java/lang/IllegalStateException")) by decide +kernel))
    | 1, 3 => exact va_Nc.of (sI hs 470 (show (flatC (Jvm.Cond.and given_1 narrow_1))[470]? = some (Cond.not (.castable "java/lang/IllegalArgumentException" "java/lang/UnsupportedOperationException")) by decide +kernel))
    | 1, 4 => exact va_Nc.of (sI hs 488 (show (flatC (Jvm.Cond.and given_1 narrow_1))[488]? = some (Cond.not (.castable "java/lang/IllegalArgumentException" "java/util/NoSuchElementException")) by decide +kernel))
    | 2, 0 => exact va_Nc.of (sI hs 417 (show (flatC (Jvm.Cond.and given_1 narrow_1))[417]? = some (Cond.not (.castable "java/lang/IllegalStateException" "java/lang/IndexOutOfBoundsException")) by decide +kernel))
    | 2, 1 => exact va_Nc.of (sI hs 434 (show (flatC (Jvm.Cond.and given_1 narrow_1))[434]? = some (Cond.not (.castable "java/lang/IllegalStateException" "java/lang/IllegalArgumentException")) by decide +kernel))
    | 2, 2 => exact absurd rfl hjk
    | 2, 3 => exact va_Nc.of (sI hs 471 (show (flatC (Jvm.Cond.and given_1 narrow_1))[471]? = some (Cond.not (.castable "java/lang/IllegalStateException" "java/lang/UnsupportedOperationException")) by decide +kernel))
    | 2, 4 => exact va_Nc.of (sI hs 489 (show (flatC (Jvm.Cond.and given_1 narrow_1))[489]? = some (Cond.not (.castable "java/lang/IllegalStateException" "java/util/NoSuchElementException")) by decide +kernel))
    | 3, 0 => exact va_Nc.of (sI hs 418 (show (flatC (Jvm.Cond.and given_1 narrow_1))[418]? = some (Cond.not (.castable "java/lang/UnsupportedOperationException" "java/lang/IndexOutOfBoundsException")) by decide +kernel))
    | 3, 1 => exact va_Nc.of (sI hs 435 (show (flatC (Jvm.Cond.and given_1 narrow_1))[435]? = some (Cond.not (.castable "java/lang/UnsupportedOperationException" "java/lang/IllegalArgumentException")) by decide +kernel))
    | 3, 2 => exact va_Nc.of (sI hs 453 (show (flatC (Jvm.Cond.and given_1 narrow_1))[453]? = some (Cond.not (.castable "java/lang/UnsupportedOperationException" "java/lang/IllegalStateException")) by decide +kernel))
    | 3, 3 => exact absurd rfl hjk
    | 3, 4 => exact va_Nc.of (sI hs 490 (show (flatC (Jvm.Cond.and given_1 narrow_1))[490]? = some (Cond.not (.castable "java/lang/UnsupportedOperationException" "java/util/NoSuchElementException")) by decide +kernel))
    | 4, 0 => exact va_Nc.of (sI hs 419 (show (flatC (Jvm.Cond.and given_1 narrow_1))[419]? = some (Cond.not (.castable "java/util/NoSuchElementException" "java/lang/IndexOutOfBoundsException")) by decide +kernel))
    | 4, 1 => exact va_Nc.of (sI hs 436 (show (flatC (Jvm.Cond.and given_1 narrow_1))[436]? = some (Cond.not (.castable "java/util/NoSuchElementException" "java/lang/IllegalArgumentException")) by decide +kernel))
    | 4, 2 => exact va_Nc.of (sI hs 454 (show (flatC (Jvm.Cond.and given_1 narrow_1))[454]? = some (Cond.not (.castable "java/util/NoSuchElementException" "java/lang/IllegalStateException")) by decide +kernel))
    | 4, 3 => exact va_Nc.of (sI hs 472 (show (flatC (Jvm.Cond.and given_1 narrow_1))[472]? = some (Cond.not (.castable "java/util/NoSuchElementException" "java/lang/UnsupportedOperationException")) by decide +kernel))
    | 4, 4 => exact absurd rfl hjk
    | n + 5, _ => exact absurd hj (by omega)
    | _, n + 5 => exact absurd hk (by omega)
  · exact va_Nw.of rfl (sT ht 1322 (show lw_tbl[1322]? = some (Cond.fieldLinkNest "PlanetWorkshop$Changes" (33 : Nat) "PlanetWorkshop" "TEETH" "[I" "PlanetWorkshop") by decide +kernel))
  · exact va_Nw.of rfl (sT ht 1264 (show lw_tbl[1264]? = some (Cond.fieldLinkNest "PlanetWorkshop$Script" (59 : Nat) "PlanetWorkshop" "VERBS" "[LPlanetWorkshop$Verb;" "PlanetWorkshop") by decide +kernel))
  · exact va_Nw.of rfl (sT ht 439 (show lw_tbl[439]? = some (Cond.declares ({ cls := "java/lang/RuntimeException", name := "<init>", desc := "()V" } : Jvm.MethodName)) by decide +kernel))
  · exact va_Nw.of rfl (sT ht 441 (show lw_tbl[441]? = some (Cond.declares ({ cls := "java/lang/Exception", name := "<init>", desc := "()V" } : Jvm.MethodName)) by decide +kernel))
  · exact va_Nw.of rfl (sT ht 443 (show lw_tbl[443]? = some (Cond.declares ({ cls := "java/lang/Throwable", name := "<init>", desc := "()V" } : Jvm.MethodName)) by decide +kernel))
set_option maxRecDepth 100000 in
theorem st_ctE {args : Array Value} {s : State} {A : Nat → Prop} (hs : ∀ w ∈ flatC (Jvm.Cond.and given_1 narrow_1), w.before args s = true) (ht : ∀ w ∈ lw_tbl, w.before args s = true) (hA : ∀ a : Nat, a < s.heap.size → ¬ A a) : ctE A s s.heap := by
  exact ⟨va_Nw.of rfl (sT ht 175 (show lw_tbl[175]? = some (Cond.methodLinkNest "PlanetWorkshop$History" (24 : Nat) ({ cls := "PlanetWorkshop$State", name := "<init>", desc := "()V" } : Jvm.MethodName) "PlanetWorkshop") by decide +kernel)), va_Nw.of rfl (sT ht 67 (show lw_tbl[67]? = some (Cond.methodLinkNest "PlanetWorkshop" (11 : Nat) ({ cls := "PlanetWorkshop$State", name := "<init>", desc := "()V" } : Jvm.MethodName) "PlanetWorkshop") by decide +kernel)), va_Nw.of rfl (sT ht 189 (show lw_tbl[189]? = some (Cond.methodLinkNest "PlanetWorkshop" (35 : Nat) ({ cls := "PlanetWorkshop$Train", name := "<init>", desc := "()V" } : Jvm.MethodName) "PlanetWorkshop") by decide +kernel)), va_Nw.of rfl (sT ht 261 (show lw_tbl[261]? = some (Cond.methodLinkNest "PlanetWorkshop" (67 : Nat) ({ cls := "PlanetWorkshop$Script", name := "<init>", desc := "()V" } : Jvm.MethodName) "PlanetWorkshop") by decide +kernel)), va_AO.of (sT ht 174 (show lw_tbl[174]? = some (Cond.arrayOver (.object "PlanetWorkshop$State")) by decide +kernel)), va_AO.of (sT ht 266 (show lw_tbl[266]? = some (Cond.arrayOver (.object "PlanetWorkshop$Verb")) by decide +kernel)), va_Zof (sT ht 307 (show lw_tbl[307]? = some (Cond.laysStatic "java/lang/String" "COMPACT_STRINGS" "Z") by decide +kernel)) (sT ht 34 (show lw_tbl[34]? = some (Cond.initialized "java/lang/String") by decide +kernel)) (va_eqt (sI hs 4 (show (flatC (Jvm.Cond.and given_1 narrow_1))[4]? = some (Cond.eq (.static "java/lang/String" "COMPACT_STRINGS" "Z") (.int 1)) by decide +kernel))) hA⟩
theorem st_A {args : Array Value} {s : State} {ty : FieldType} (hp : ∀ n, ty ≠ .object n) (h : (Cond.arrayClass ty).before args s = true) : ∃ cA, ArrOfT s cA ty ∧ va_RA s cA ty := by
  obtain ⟨c, k, comp, h1, h2, h3⟩ := Cond.arrayClass_spec (args := args) (first := s) (o := none) (s := s) (idx := []) h
  refine ⟨c, fun n z => ⟨fun k' h' => (by cases h'), k, h2, comp, h3⟩, ?_⟩
  cases ty with
  | object n => exact absurd rfl (hp n)
  | _ => exact h1
theorem st_Aq {args : Array Value} {s : State} {C : String} (h : (Cond.arrayOver (.object C)).before args s = true) : ∃ cA, ArrOfT s cA (.object C) ∧ va_RA s cA (.object C) := by
  obtain ⟨comp, c, k, h1, h2, h3, h4, h5⟩ := Cond.arrayOver_spec (args := args) (first := s) (o := none) (s := s) (idx := []) h
  exact ⟨c, fun n z => ⟨fun k' h' => (by cases h'), k, h3, comp, h4⟩, k, comp, h3, h4, h1, h5⟩
set_option maxHeartbeats 4000000 in
set_option maxRecDepth 100000 in
theorem st_K {args : Array Value} {s : State} (ht : ∀ w ∈ lw_tbl, w.before args s = true) : ∃ (D : va_G) (cy : Nat → ClassId), va_K D vwCl (TYs cy) s := by
  have hb := lw_hts ht
  obtain ⟨a0, i0, h0⟩ := u_known (C := RJ0) (T := TJ0) (N := 4) (n := 4) hb inJ0 (sT ht 1095 (show lw_tbl[1095]? = some (Cond.instantiable RJ0 4) by decide +kernel))
  obtain ⟨a1, i1, h1⟩ := u_known (C := RJ4) (T := TJ4) (N := 4) (n := 4) hb inJ4 (sT ht 298 (show lw_tbl[298]? = some (Cond.instantiable RJ4 4) by decide +kernel))
  obtain ⟨a2, i2, h2⟩ := u_known (C := RJx00060) (T := TJx00060) (N := 6) (n := 6) hb inJx00060 (sT ht 1193 (show lw_tbl[1193]? = some (Cond.instantiable RJx00060 6) by decide +kernel))
  obtain ⟨a3, i3, h3⟩ := u_known (C := RJx7c733) (T := TJx7c733) (N := 6) (n := 6) hb inJx7c733 (sT ht 940 (show lw_tbl[940]? = some (Cond.instantiable RJx7c733 6) by decide +kernel))
  obtain ⟨a4, i4, h4⟩ := u_known (C := RX1) (T := TX1) (N := 2) (n := 2) hb inX1 (sT ht 209 (show lw_tbl[209]? = some (Cond.instantiable RX1 2) by decide +kernel))
  obtain ⟨a5, i5, h5⟩ := u_known (C := RX2) (T := TX2) (N := 2) (n := 2) hb inX2 (sT ht 222 (show lw_tbl[222]? = some (Cond.instantiable RX2 2) by decide +kernel))
  obtain ⟨a6, i6, h6⟩ := u_known (C := RX3) (T := TX3) (N := 3) (n := 3) hb inX3 (sT ht 168 (show lw_tbl[168]? = some (Cond.instantiable RX3 3) by decide +kernel))
  obtain ⟨a7, i7, h7⟩ := u_known (C := RX5) (T := TX5) (N := 6) (n := 6) hb inX5 (sT ht 235 (show lw_tbl[235]? = some (Cond.instantiable RX5 6) by decide +kernel))
  obtain ⟨a8, i8, h8⟩ := u_known (C := RX6) (T := TX6) (N := 8) (n := 8) hb inX6 (sT ht 260 (show lw_tbl[260]? = some (Cond.instantiable RX6 8) by decide +kernel))
  obtain ⟨a9, i9, h9⟩ := u_known (C := RX7) (T := TX7) (N := 17) (n := 17) hb inX7 (sT ht 66 (show lw_tbl[66]? = some (Cond.instantiable RX7 17) by decide +kernel))
  obtain ⟨a10, i10, h10⟩ := u_known (C := RX8) (T := TX8) (N := 3) (n := 3) hb inX8 (sT ht 188 (show lw_tbl[188]? = some (Cond.instantiable RX8 3) by decide +kernel))
  obtain ⟨a11, i11, h11⟩ := u_known (C := RX10) (T := TX10) (N := 13) (n := 13) hb inX10 (sT ht 58 (show lw_tbl[58]? = some (Cond.instantiable RX10 13) by decide +kernel))
  have hD : ∀ c : Nat, ∃ q : ClassId × (Nat → Nat), ∀ r : vw_C, vwCl[c]? = some r → u_Kn s r.1 r.2.1 r.2.2 q.1 q.2 := by
    intro c
    match c with
    | 0 => exact ⟨(a0, i0), fun r hr => by have e : ((RJ0, TJ0, 4) : vw_C) = r := Option.some.inj hr; subst e; exact h0⟩
    | 1 => exact ⟨(a1, i1), fun r hr => by have e : ((RJ4, TJ4, 4) : vw_C) = r := Option.some.inj hr; subst e; exact h1⟩
    | 2 => exact ⟨(a2, i2), fun r hr => by have e : ((RJx00060, TJx00060, 6) : vw_C) = r := Option.some.inj hr; subst e; exact h2⟩
    | 3 => exact ⟨(a3, i3), fun r hr => by have e : ((RJx7c733, TJx7c733, 6) : vw_C) = r := Option.some.inj hr; subst e; exact h3⟩
    | 4 => exact ⟨(a4, i4), fun r hr => by have e : ((RX1, TX1, 2) : vw_C) = r := Option.some.inj hr; subst e; exact h4⟩
    | 5 => exact ⟨(a5, i5), fun r hr => by have e : ((RX2, TX2, 2) : vw_C) = r := Option.some.inj hr; subst e; exact h5⟩
    | 6 => exact ⟨(a6, i6), fun r hr => by have e : ((RX3, TX3, 3) : vw_C) = r := Option.some.inj hr; subst e; exact h6⟩
    | 7 => exact ⟨(a7, i7), fun r hr => by have e : ((RX5, TX5, 6) : vw_C) = r := Option.some.inj hr; subst e; exact h7⟩
    | 8 => exact ⟨(a8, i8), fun r hr => by have e : ((RX6, TX6, 8) : vw_C) = r := Option.some.inj hr; subst e; exact h8⟩
    | 9 => exact ⟨(a9, i9), fun r hr => by have e : ((RX7, TX7, 17) : vw_C) = r := Option.some.inj hr; subst e; exact h9⟩
    | 10 => exact ⟨(a10, i10), fun r hr => by have e : ((RX8, TX8, 3) : vw_C) = r := Option.some.inj hr; subst e; exact h10⟩
    | 11 => exact ⟨(a11, i11), fun r hr => by have e : ((RX10, TX10, 13) : vw_C) = r := Option.some.inj hr; subst e; exact h11⟩
    | n + 12 => exact ⟨(a0, i0), fun r hr => absurd (List.getElem?_eq_some_iff.mp hr).1 (by show ¬ n + 12 < 12; omega)⟩
  obtain ⟨f, hf⟩ := Classical.axiomOfChoice hD
  obtain ⟨c0, e0⟩ := st_A (ty := .int) (fun n h => by cases h) (sT ht 163 (show lw_tbl[163]? = some (Cond.arrayClass .int) by decide +kernel))
  obtain ⟨c1, e1⟩ := st_A (ty := .long) (fun n h => by cases h) (sT ht 164 (show lw_tbl[164]? = some (Cond.arrayClass .long) by decide +kernel))
  obtain ⟨c2, e2⟩ := st_A (ty := .boolean) (fun n h => by cases h) (sT ht 165 (show lw_tbl[165]? = some (Cond.arrayClass .boolean) by decide +kernel))
  obtain ⟨c3, e3⟩ := st_A (ty := .char) (fun n h => by cases h) (sT ht 166 (show lw_tbl[166]? = some (Cond.arrayClass .char) by decide +kernel))
  obtain ⟨c4, e4⟩ := st_A (ty := .byte) (fun n h => by cases h) (sT ht 329 (show lw_tbl[329]? = some (Cond.arrayClass .byte) by decide +kernel))
  obtain ⟨c5, e5⟩ := st_A (ty := .int) (fun n h => by cases h) (sT ht 163 (show lw_tbl[163]? = some (Cond.arrayClass .int) by decide +kernel))
  obtain ⟨c6, e6⟩ := st_Aq (C := "PlanetWorkshop$State") (sT ht 174 (show lw_tbl[174]? = some (Cond.arrayOver (.object "PlanetWorkshop$State")) by decide +kernel))
  obtain ⟨c7, e7⟩ := st_Aq (C := "PlanetWorkshop$Verb") (sT ht 266 (show lw_tbl[266]? = some (Cond.arrayOver (.object "PlanetWorkshop$Verb")) by decide +kernel))
  refine ⟨(fun c => (f c).1, fun c => (f c).2), (fun t => [c0, c1, c2, c3, c4, c5, c6, c7].getD t c0), fun c q hq => hf c q hq, ?_⟩
  intro k q hq
  match k with
  | 0 => cases (Option.some.inj hq : _ = q); exact e0
  | 1 => cases (Option.some.inj hq : _ = q); exact e1
  | 2 => cases (Option.some.inj hq : _ = q); exact e2
  | 3 => cases (Option.some.inj hq : _ = q); exact e3
  | 4 => cases (Option.some.inj hq : _ = q); exact e4
  | 5 => cases (Option.some.inj hq : _ = q); exact e5
  | 6 => cases (Option.some.inj hq : _ = q); exact e6
  | 7 => cases (Option.some.inj hq : _ = q); exact e7
  | n + 8 => exact absurd (List.getElem?_eq_some_iff.mp hq).1 (by show ¬ n + 8 < 8; omega)
