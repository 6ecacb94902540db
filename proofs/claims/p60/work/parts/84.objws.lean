/-! A NEW OBJECT is the picture's, thing by thing -/
def lwL (cy : Nat → ClassId) (q0 : Nat) (u0 : (Nat → Nat) × (Nat → Nat → Nat) × (Nat × (Nat → Nat) × (Nat → Nat → Nat))) : va_W := woB cy q0 u0
def lwX (cy : Nat → ClassId) (q0 : Nat) (u0 : (Nat → Nat) × (Nat → Nat → Nat) × (Nat × (Nat → Nat) × (Nat → Nat → Nat))) : va_W := [(q0, .inr (11, [.ref (u0.1 0), .ref (u0.1 1), .ref (u0.1 2), .int 0, .ref (u0.1 3), .ref (u0.1 4), .ref (u0.1 5), .ref (u0.1 6), .ref (u0.1 7), .ref (u0.1 8), .ref (u0.1 9), .int (-1), .int (-1)])), (u0.1 0, .inr (9, [.ref (u0.2.1 0 0), .ref (u0.2.1 0 1), .ref (u0.2.1 0 2), .ref (u0.2.1 0 3), .ref (u0.2.1 0 4), .ref (u0.2.1 0 5), .ref (u0.2.1 0 6), .ref (u0.2.1 0 7), .ref (u0.2.1 0 8), .ref (u0.2.1 0 9), .int 0, .int 0, .int 0, .int 12, .int 0, .int 0, .int 0])), (u0.2.1 0 0, .inl (cy 0, aI 10)), (u0.2.1 0 1, .inl (cy 1, aL 10)), (u0.2.1 0 2, .inl (cy 2, aI 10)), (u0.2.1 0 3, .inl (cy 1, aL 10)), (u0.2.1 0 4, .inl (cy 2, aI 10)), (u0.2.1 0 5, .inl (cy 0, aI 10)), (u0.2.1 0 6, .inl (cy 0, aI 10)), (u0.2.1 0 7, .inl (cy 2, aI 10)), (u0.2.1 0 8, .inl (cy 3, aI 100)), (u0.2.1 0 9, .inl (cy 0, aI 6)), (u0.1 1, .inr (9, [.ref (u0.2.1 1 0), .ref (u0.2.1 1 1), .ref (u0.2.1 1 2), .ref (u0.2.1 1 3), .ref (u0.2.1 1 4), .ref (u0.2.1 1 5), .ref (u0.2.1 1 6), .ref (u0.2.1 1 7), .ref (u0.2.1 1 8), .ref (u0.2.1 1 9), .int 0, .int 0, .int 0, .int 12, .int 0, .int 0, .int 0])), (u0.2.1 1 0, .inl (cy 0, aI 10)), (u0.2.1 1 1, .inl (cy 1, aL 10)), (u0.2.1 1 2, .inl (cy 2, aI 10)), (u0.2.1 1 3, .inl (cy 1, aL 10)), (u0.2.1 1 4, .inl (cy 2, aI 10)), (u0.2.1 1 5, .inl (cy 0, aI 10)), (u0.2.1 1 6, .inl (cy 0, aI 10)), (u0.2.1 1 7, .inl (cy 2, aI 10)), (u0.2.1 1 8, .inl (cy 3, aI 100)), (u0.2.1 1 9, .inl (cy 0, aI 6)), (u0.1 2, .inr (9, [.ref (u0.2.1 2 0), .ref (u0.2.1 2 1), .ref (u0.2.1 2 2), .ref (u0.2.1 2 3), .ref (u0.2.1 2 4), .ref (u0.2.1 2 5), .ref (u0.2.1 2 6), .ref (u0.2.1 2 7), .ref (u0.2.1 2 8), .ref (u0.2.1 2 9), .int 0, .int 0, .int 0, .int 12, .int 0, .int 0, .int 0])), (u0.2.1 2 0, .inl (cy 0, aI 10)), (u0.2.1 2 1, .inl (cy 1, aL 10)), (u0.2.1 2 2, .inl (cy 2, aI 10)), (u0.2.1 2 3, .inl (cy 1, aL 10)), (u0.2.1 2 4, .inl (cy 2, aI 10)), (u0.2.1 2 5, .inl (cy 0, aI 10)), (u0.2.1 2 6, .inl (cy 0, aI 10)), (u0.2.1 2 7, .inl (cy 2, aI 10)), (u0.2.1 2 8, .inl (cy 3, aI 100)), (u0.2.1 2 9, .inl (cy 0, aI 6)), (u0.1 3, .inr (6, [.ref (u0.2.2.1), .int 0, .int 0])), (u0.2.2.1, .inl (cy 6, 8, .inr (.inr (.inr (.inr (fun i => some (u0.2.2.2.1 i))))))), (u0.2.2.2.1 0, .inr (9, [.ref (u0.2.2.2.2 0 0), .ref (u0.2.2.2.2 0 1), .ref (u0.2.2.2.2 0 2), .ref (u0.2.2.2.2 0 3), .ref (u0.2.2.2.2 0 4), .ref (u0.2.2.2.2 0 5), .ref (u0.2.2.2.2 0 6), .ref (u0.2.2.2.2 0 7), .ref (u0.2.2.2.2 0 8), .ref (u0.2.2.2.2 0 9), .int 0, .int 0, .int 0, .int 12, .int 0, .int 0, .int 0])), (u0.2.2.2.2 0 0, .inl (cy 0, aI 10)), (u0.2.2.2.2 0 1, .inl (cy 1, aL 10)), (u0.2.2.2.2 0 2, .inl (cy 2, aI 10)), (u0.2.2.2.2 0 3, .inl (cy 1, aL 10)), (u0.2.2.2.2 0 4, .inl (cy 2, aI 10)), (u0.2.2.2.2 0 5, .inl (cy 0, aI 10)), (u0.2.2.2.2 0 6, .inl (cy 0, aI 10)), (u0.2.2.2.2 0 7, .inl (cy 2, aI 10)), (u0.2.2.2.2 0 8, .inl (cy 3, aI 100)), (u0.2.2.2.2 0 9, .inl (cy 0, aI 6)), (u0.2.2.2.1 1, .inr (9, [.ref (u0.2.2.2.2 1 0), .ref (u0.2.2.2.2 1 1), .ref (u0.2.2.2.2 1 2), .ref (u0.2.2.2.2 1 3), .ref (u0.2.2.2.2 1 4), .ref (u0.2.2.2.2 1 5), .ref (u0.2.2.2.2 1 6), .ref (u0.2.2.2.2 1 7), .ref (u0.2.2.2.2 1 8), .ref (u0.2.2.2.2 1 9), .int 0, .int 0, .int 0, .int 12, .int 0, .int 0, .int 0])), (u0.2.2.2.2 1 0, .inl (cy 0, aI 10)), (u0.2.2.2.2 1 1, .inl (cy 1, aL 10)), (u0.2.2.2.2 1 2, .inl (cy 2, aI 10)), (u0.2.2.2.2 1 3, .inl (cy 1, aL 10)), (u0.2.2.2.2 1 4, .inl (cy 2, aI 10)), (u0.2.2.2.2 1 5, .inl (cy 0, aI 10)), (u0.2.2.2.2 1 6, .inl (cy 0, aI 10)), (u0.2.2.2.2 1 7, .inl (cy 2, aI 10)), (u0.2.2.2.2 1 8, .inl (cy 3, aI 100)), (u0.2.2.2.2 1 9, .inl (cy 0, aI 6)), (u0.2.2.2.1 2, .inr (9, [.ref (u0.2.2.2.2 2 0), .ref (u0.2.2.2.2 2 1), .ref (u0.2.2.2.2 2 2), .ref (u0.2.2.2.2 2 3), .ref (u0.2.2.2.2 2 4), .ref (u0.2.2.2.2 2 5), .ref (u0.2.2.2.2 2 6), .ref (u0.2.2.2.2 2 7), .ref (u0.2.2.2.2 2 8), .ref (u0.2.2.2.2 2 9), .int 0, .int 0, .int 0, .int 12, .int 0, .int 0, .int 0])), (u0.2.2.2.2 2 0, .inl (cy 0, aI 10)), (u0.2.2.2.2 2 1, .inl (cy 1, aL 10)), (u0.2.2.2.2 2 2, .inl (cy 2, aI 10)), (u0.2.2.2.2 2 3, .inl (cy 1, aL 10)), (u0.2.2.2.2 2 4, .inl (cy 2, aI 10)), (u0.2.2.2.2 2 5, .inl (cy 0, aI 10)), (u0.2.2.2.2 2 6, .inl (cy 0, aI 10)), (u0.2.2.2.2 2 7, .inl (cy 2, aI 10)), (u0.2.2.2.2 2 8, .inl (cy 3, aI 100)), (u0.2.2.2.2 2 9, .inl (cy 0, aI 6)), (u0.2.2.2.1 3, .inr (9, [.ref (u0.2.2.2.2 3 0), .ref (u0.2.2.2.2 3 1), .ref (u0.2.2.2.2 3 2), .ref (u0.2.2.2.2 3 3), .ref (u0.2.2.2.2 3 4), .ref (u0.2.2.2.2 3 5), .ref (u0.2.2.2.2 3 6), .ref (u0.2.2.2.2 3 7), .ref (u0.2.2.2.2 3 8), .ref (u0.2.2.2.2 3 9), .int 0, .int 0, .int 0, .int 12, .int 0, .int 0, .int 0])), (u0.2.2.2.2 3 0, .inl (cy 0, aI 10)), (u0.2.2.2.2 3 1, .inl (cy 1, aL 10)), (u0.2.2.2.2 3 2, .inl (cy 2, aI 10)), (u0.2.2.2.2 3 3, .inl (cy 1, aL 10)), (u0.2.2.2.2 3 4, .inl (cy 2, aI 10)), (u0.2.2.2.2 3 5, .inl (cy 0, aI 10)), (u0.2.2.2.2 3 6, .inl (cy 0, aI 10)), (u0.2.2.2.2 3 7, .inl (cy 2, aI 10)), (u0.2.2.2.2 3 8, .inl (cy 3, aI 100)), (u0.2.2.2.2 3 9, .inl (cy 0, aI 6)), (u0.2.2.2.1 4, .inr (9, [.ref (u0.2.2.2.2 4 0), .ref (u0.2.2.2.2 4 1), .ref (u0.2.2.2.2 4 2), .ref (u0.2.2.2.2 4 3), .ref (u0.2.2.2.2 4 4), .ref (u0.2.2.2.2 4 5), .ref (u0.2.2.2.2 4 6), .ref (u0.2.2.2.2 4 7), .ref (u0.2.2.2.2 4 8), .ref (u0.2.2.2.2 4 9), .int 0, .int 0, .int 0, .int 12, .int 0, .int 0, .int 0])), (u0.2.2.2.2 4 0, .inl (cy 0, aI 10)), (u0.2.2.2.2 4 1, .inl (cy 1, aL 10)), (u0.2.2.2.2 4 2, .inl (cy 2, aI 10)), (u0.2.2.2.2 4 3, .inl (cy 1, aL 10)), (u0.2.2.2.2 4 4, .inl (cy 2, aI 10)), (u0.2.2.2.2 4 5, .inl (cy 0, aI 10)), (u0.2.2.2.2 4 6, .inl (cy 0, aI 10)), (u0.2.2.2.2 4 7, .inl (cy 2, aI 10)), (u0.2.2.2.2 4 8, .inl (cy 3, aI 100)), (u0.2.2.2.2 4 9, .inl (cy 0, aI 6)), (u0.2.2.2.1 5, .inr (9, [.ref (u0.2.2.2.2 5 0), .ref (u0.2.2.2.2 5 1), .ref (u0.2.2.2.2 5 2), .ref (u0.2.2.2.2 5 3), .ref (u0.2.2.2.2 5 4), .ref (u0.2.2.2.2 5 5), .ref (u0.2.2.2.2 5 6), .ref (u0.2.2.2.2 5 7), .ref (u0.2.2.2.2 5 8), .ref (u0.2.2.2.2 5 9), .int 0, .int 0, .int 0, .int 12, .int 0, .int 0, .int 0])), (u0.2.2.2.2 5 0, .inl (cy 0, aI 10)), (u0.2.2.2.2 5 1, .inl (cy 1, aL 10)), (u0.2.2.2.2 5 2, .inl (cy 2, aI 10)), (u0.2.2.2.2 5 3, .inl (cy 1, aL 10)), (u0.2.2.2.2 5 4, .inl (cy 2, aI 10)), (u0.2.2.2.2 5 5, .inl (cy 0, aI 10)), (u0.2.2.2.2 5 6, .inl (cy 0, aI 10)), (u0.2.2.2.2 5 7, .inl (cy 2, aI 10)), (u0.2.2.2.2 5 8, .inl (cy 3, aI 100)), (u0.2.2.2.2 5 9, .inl (cy 0, aI 6)), (u0.2.2.2.1 6, .inr (9, [.ref (u0.2.2.2.2 6 0), .ref (u0.2.2.2.2 6 1), .ref (u0.2.2.2.2 6 2), .ref (u0.2.2.2.2 6 3), .ref (u0.2.2.2.2 6 4), .ref (u0.2.2.2.2 6 5), .ref (u0.2.2.2.2 6 6), .ref (u0.2.2.2.2 6 7), .ref (u0.2.2.2.2 6 8), .ref (u0.2.2.2.2 6 9), .int 0, .int 0, .int 0, .int 12, .int 0, .int 0, .int 0])), (u0.2.2.2.2 6 0, .inl (cy 0, aI 10)), (u0.2.2.2.2 6 1, .inl (cy 1, aL 10)), (u0.2.2.2.2 6 2, .inl (cy 2, aI 10)), (u0.2.2.2.2 6 3, .inl (cy 1, aL 10)), (u0.2.2.2.2 6 4, .inl (cy 2, aI 10)), (u0.2.2.2.2 6 5, .inl (cy 0, aI 10)), (u0.2.2.2.2 6 6, .inl (cy 0, aI 10)), (u0.2.2.2.2 6 7, .inl (cy 2, aI 10)), (u0.2.2.2.2 6 8, .inl (cy 3, aI 100)), (u0.2.2.2.2 6 9, .inl (cy 0, aI 6)), (u0.2.2.2.1 7, .inr (9, [.ref (u0.2.2.2.2 7 0), .ref (u0.2.2.2.2 7 1), .ref (u0.2.2.2.2 7 2), .ref (u0.2.2.2.2 7 3), .ref (u0.2.2.2.2 7 4), .ref (u0.2.2.2.2 7 5), .ref (u0.2.2.2.2 7 6), .ref (u0.2.2.2.2 7 7), .ref (u0.2.2.2.2 7 8), .ref (u0.2.2.2.2 7 9), .int 0, .int 0, .int 0, .int 12, .int 0, .int 0, .int 0])), (u0.2.2.2.2 7 0, .inl (cy 0, aI 10)), (u0.2.2.2.2 7 1, .inl (cy 1, aL 10)), (u0.2.2.2.2 7 2, .inl (cy 2, aI 10)), (u0.2.2.2.2 7 3, .inl (cy 1, aL 10)), (u0.2.2.2.2 7 4, .inl (cy 2, aI 10)), (u0.2.2.2.2 7 5, .inl (cy 0, aI 10)), (u0.2.2.2.2 7 6, .inl (cy 0, aI 10)), (u0.2.2.2.2 7 7, .inl (cy 2, aI 10)), (u0.2.2.2.2 7 8, .inl (cy 3, aI 100)), (u0.2.2.2.2 7 9, .inl (cy 0, aI 6)), (u0.1 4, .inr (10, [.ref (u0.2.1 4 0), .ref (u0.2.1 4 1), .int 0])), (u0.2.1 4 0, .inl (cy 1, aL 10)), (u0.2.1 4 1, .inl (cy 0, aI 10)), (u0.1 5, .inr (4, [.ref (u0.1 0), .ref (u0.1 4)])), (u0.1 6, .inr (5, [.ref (u0.1 0), .ref (u0.1 4)])), (u0.1 7, .inr (7, [.ref (u0.1 0), .ref (u0.2.1 7 0), .ref (u0.2.1 7 1), .ref (u0.2.1 7 2), .ref (u0.2.1 7 3), .int 0])), (u0.2.1 7 0, .inl (cy 0, aI 90)), (u0.2.1 7 1, .inl (cy 0, aI 90)), (u0.2.1 7 2, .inl (cy 0, aI 90)), (u0.2.1 7 3, .inl (cy 0, aI 90)), (u0.1 8, .inr (8, [.ref (u0.2.1 8 0), .int 0, .int 0, .ref (u0.2.1 8 1), .ref (u0.2.1 8 2), .ref (u0.2.1 8 3), .int 0, .int 0])), (u0.2.1 8 0, .inl (cy 3, aI 60)), (u0.2.1 8 1, .inl (cy 7, aQ 60)), (u0.2.1 8 2, .inl (cy 0, aI 60)), (u0.2.1 8 3, .inl (cy 0, aI 60)), (u0.1 9, .inr (1, [.ref (u0.2.1 9 0), .int 0, .int 0, .int 0])), (u0.2.1 9 0, .inl (cy 4, aI 16))]
set_option maxRecDepth 100000 in
theorem lwL_X (cy : Nat → ClassId) (q0 : Nat) (u0 : (Nat → Nat) × (Nat → Nat → Nat) × (Nat × (Nat → Nat) × (Nat → Nat → Nat))) : lwL cy q0 u0 = lwX cy q0 u0 := by
  simp only [lwL, lwX, woB, stB, hiB, trB, chB, ecB, raB, scB, sbB, List.cons_append, List.nil_append]
def lwA (cy : Nat → ClassId) (q0 : Nat) (u0 : (Nat → Nat) × (Nat → Nat → Nat) × (Nat × (Nat → Nat) × (Nat → Nat → Nat))) (k : Nat) : Nat := ((lwX cy q0 u0).getD k (0, .inr (0, []))).1
section
variable (cy : Nat → ClassId) (av : Nat → Nat) (q0 : Nat) (u0 : (Nat → Nat) × (Nat → Nat → Nat) × (Nat × (Nat → Nat) × (Nat → Nat → Nat)))
set_option maxRecDepth 100000 in
theorem xa_0 : adx (lwA cy q0 u0) (lwA cy q0 u0 140) 0 = q0 := rfl
set_option maxRecDepth 100000 in
theorem xa_1 : adx (lwA cy q0 u0) (lwA cy q0 u0 140) 1 = u0.1 0 := rfl
set_option maxRecDepth 100000 in
theorem xa_2 : adx (lwA cy q0 u0) (lwA cy q0 u0 140) 2 = u0.2.1 0 0 := rfl
set_option maxRecDepth 100000 in
theorem xa_3 : adx (lwA cy q0 u0) (lwA cy q0 u0 140) 3 = u0.2.1 0 1 := rfl
set_option maxRecDepth 100000 in
theorem xa_4 : adx (lwA cy q0 u0) (lwA cy q0 u0 140) 4 = u0.2.1 0 2 := rfl
set_option maxRecDepth 100000 in
theorem xa_5 : adx (lwA cy q0 u0) (lwA cy q0 u0 140) 5 = u0.2.1 0 3 := rfl
set_option maxRecDepth 100000 in
theorem xa_6 : adx (lwA cy q0 u0) (lwA cy q0 u0 140) 6 = u0.2.1 0 4 := rfl
set_option maxRecDepth 100000 in
theorem xa_7 : adx (lwA cy q0 u0) (lwA cy q0 u0 140) 7 = u0.2.1 0 5 := rfl
set_option maxRecDepth 100000 in
theorem xa_8 : adx (lwA cy q0 u0) (lwA cy q0 u0 140) 8 = u0.2.1 0 6 := rfl
set_option maxRecDepth 100000 in
theorem xa_9 : adx (lwA cy q0 u0) (lwA cy q0 u0 140) 9 = u0.2.1 0 7 := rfl
set_option maxRecDepth 100000 in
theorem xa_10 : adx (lwA cy q0 u0) (lwA cy q0 u0 140) 10 = u0.2.1 0 8 := rfl
set_option maxRecDepth 100000 in
theorem xa_11 : adx (lwA cy q0 u0) (lwA cy q0 u0 140) 11 = u0.2.1 0 9 := rfl
set_option maxRecDepth 100000 in
theorem xa_12 : adx (lwA cy q0 u0) (lwA cy q0 u0 140) 12 = u0.1 1 := rfl
set_option maxRecDepth 100000 in
theorem xa_13 : adx (lwA cy q0 u0) (lwA cy q0 u0 140) 13 = u0.2.1 1 0 := rfl
set_option maxRecDepth 100000 in
theorem xa_14 : adx (lwA cy q0 u0) (lwA cy q0 u0 140) 14 = u0.2.1 1 1 := rfl
set_option maxRecDepth 100000 in
theorem xa_15 : adx (lwA cy q0 u0) (lwA cy q0 u0 140) 15 = u0.2.1 1 2 := rfl
set_option maxRecDepth 100000 in
theorem xa_16 : adx (lwA cy q0 u0) (lwA cy q0 u0 140) 16 = u0.2.1 1 3 := rfl
set_option maxRecDepth 100000 in
theorem xa_17 : adx (lwA cy q0 u0) (lwA cy q0 u0 140) 17 = u0.2.1 1 4 := rfl
set_option maxRecDepth 100000 in
theorem xa_18 : adx (lwA cy q0 u0) (lwA cy q0 u0 140) 18 = u0.2.1 1 5 := rfl
set_option maxRecDepth 100000 in
theorem xa_19 : adx (lwA cy q0 u0) (lwA cy q0 u0 140) 19 = u0.2.1 1 6 := rfl
set_option maxRecDepth 100000 in
theorem xa_20 : adx (lwA cy q0 u0) (lwA cy q0 u0 140) 20 = u0.2.1 1 7 := rfl
set_option maxRecDepth 100000 in
theorem xa_21 : adx (lwA cy q0 u0) (lwA cy q0 u0 140) 21 = u0.2.1 1 8 := rfl
set_option maxRecDepth 100000 in
theorem xa_22 : adx (lwA cy q0 u0) (lwA cy q0 u0 140) 22 = u0.2.1 1 9 := rfl
set_option maxRecDepth 100000 in
theorem xa_23 : adx (lwA cy q0 u0) (lwA cy q0 u0 140) 23 = u0.1 2 := rfl
set_option maxRecDepth 100000 in
theorem xa_24 : adx (lwA cy q0 u0) (lwA cy q0 u0 140) 24 = u0.2.1 2 0 := rfl
set_option maxRecDepth 100000 in
theorem xa_25 : adx (lwA cy q0 u0) (lwA cy q0 u0 140) 25 = u0.2.1 2 1 := rfl
set_option maxRecDepth 100000 in
theorem xa_26 : adx (lwA cy q0 u0) (lwA cy q0 u0 140) 26 = u0.2.1 2 2 := rfl
set_option maxRecDepth 100000 in
theorem xa_27 : adx (lwA cy q0 u0) (lwA cy q0 u0 140) 27 = u0.2.1 2 3 := rfl
set_option maxRecDepth 100000 in
theorem xa_28 : adx (lwA cy q0 u0) (lwA cy q0 u0 140) 28 = u0.2.1 2 4 := rfl
set_option maxRecDepth 100000 in
theorem xa_29 : adx (lwA cy q0 u0) (lwA cy q0 u0 140) 29 = u0.2.1 2 5 := rfl
set_option maxRecDepth 100000 in
theorem xa_30 : adx (lwA cy q0 u0) (lwA cy q0 u0 140) 30 = u0.2.1 2 6 := rfl
set_option maxRecDepth 100000 in
theorem xa_31 : adx (lwA cy q0 u0) (lwA cy q0 u0 140) 31 = u0.2.1 2 7 := rfl
set_option maxRecDepth 100000 in
theorem xa_32 : adx (lwA cy q0 u0) (lwA cy q0 u0 140) 32 = u0.2.1 2 8 := rfl
set_option maxRecDepth 100000 in
theorem xa_33 : adx (lwA cy q0 u0) (lwA cy q0 u0 140) 33 = u0.2.1 2 9 := rfl
set_option maxRecDepth 100000 in
theorem xa_34 : adx (lwA cy q0 u0) (lwA cy q0 u0 140) 34 = u0.1 3 := rfl
set_option maxRecDepth 100000 in
theorem xa_35 : adx (lwA cy q0 u0) (lwA cy q0 u0 140) 35 = u0.2.2.1 := rfl
set_option maxRecDepth 100000 in
theorem xa_36 : adx (lwA cy q0 u0) (lwA cy q0 u0 140) 36 = u0.2.2.2.1 0 := rfl
set_option maxRecDepth 100000 in
theorem xa_37 : adx (lwA cy q0 u0) (lwA cy q0 u0 140) 37 = u0.2.2.2.2 0 0 := rfl
set_option maxRecDepth 100000 in
theorem xa_38 : adx (lwA cy q0 u0) (lwA cy q0 u0 140) 38 = u0.2.2.2.2 0 1 := rfl
set_option maxRecDepth 100000 in
theorem xa_39 : adx (lwA cy q0 u0) (lwA cy q0 u0 140) 39 = u0.2.2.2.2 0 2 := rfl
set_option maxRecDepth 100000 in
theorem xa_40 : adx (lwA cy q0 u0) (lwA cy q0 u0 140) 40 = u0.2.2.2.2 0 3 := rfl
set_option maxRecDepth 100000 in
theorem xa_41 : adx (lwA cy q0 u0) (lwA cy q0 u0 140) 41 = u0.2.2.2.2 0 4 := rfl
set_option maxRecDepth 100000 in
theorem xa_42 : adx (lwA cy q0 u0) (lwA cy q0 u0 140) 42 = u0.2.2.2.2 0 5 := rfl
set_option maxRecDepth 100000 in
theorem xa_43 : adx (lwA cy q0 u0) (lwA cy q0 u0 140) 43 = u0.2.2.2.2 0 6 := rfl
set_option maxRecDepth 100000 in
theorem xa_44 : adx (lwA cy q0 u0) (lwA cy q0 u0 140) 44 = u0.2.2.2.2 0 7 := rfl
set_option maxRecDepth 100000 in
theorem xa_45 : adx (lwA cy q0 u0) (lwA cy q0 u0 140) 45 = u0.2.2.2.2 0 8 := rfl
set_option maxRecDepth 100000 in
theorem xa_46 : adx (lwA cy q0 u0) (lwA cy q0 u0 140) 46 = u0.2.2.2.2 0 9 := rfl
set_option maxRecDepth 100000 in
theorem xa_47 : adx (lwA cy q0 u0) (lwA cy q0 u0 140) 47 = u0.2.2.2.1 1 := rfl
set_option maxRecDepth 100000 in
theorem xa_48 : adx (lwA cy q0 u0) (lwA cy q0 u0 140) 48 = u0.2.2.2.2 1 0 := rfl
set_option maxRecDepth 100000 in
theorem xa_49 : adx (lwA cy q0 u0) (lwA cy q0 u0 140) 49 = u0.2.2.2.2 1 1 := rfl
set_option maxRecDepth 100000 in
theorem xa_50 : adx (lwA cy q0 u0) (lwA cy q0 u0 140) 50 = u0.2.2.2.2 1 2 := rfl
set_option maxRecDepth 100000 in
theorem xa_51 : adx (lwA cy q0 u0) (lwA cy q0 u0 140) 51 = u0.2.2.2.2 1 3 := rfl
set_option maxRecDepth 100000 in
theorem xa_52 : adx (lwA cy q0 u0) (lwA cy q0 u0 140) 52 = u0.2.2.2.2 1 4 := rfl
set_option maxRecDepth 100000 in
theorem xa_53 : adx (lwA cy q0 u0) (lwA cy q0 u0 140) 53 = u0.2.2.2.2 1 5 := rfl
set_option maxRecDepth 100000 in
theorem xa_54 : adx (lwA cy q0 u0) (lwA cy q0 u0 140) 54 = u0.2.2.2.2 1 6 := rfl
set_option maxRecDepth 100000 in
theorem xa_55 : adx (lwA cy q0 u0) (lwA cy q0 u0 140) 55 = u0.2.2.2.2 1 7 := rfl
set_option maxRecDepth 100000 in
theorem xa_56 : adx (lwA cy q0 u0) (lwA cy q0 u0 140) 56 = u0.2.2.2.2 1 8 := rfl
set_option maxRecDepth 100000 in
theorem xa_57 : adx (lwA cy q0 u0) (lwA cy q0 u0 140) 57 = u0.2.2.2.2 1 9 := rfl
set_option maxRecDepth 100000 in
theorem xa_58 : adx (lwA cy q0 u0) (lwA cy q0 u0 140) 58 = u0.2.2.2.1 2 := rfl
set_option maxRecDepth 100000 in
theorem xa_59 : adx (lwA cy q0 u0) (lwA cy q0 u0 140) 59 = u0.2.2.2.2 2 0 := rfl
set_option maxRecDepth 100000 in
theorem xa_60 : adx (lwA cy q0 u0) (lwA cy q0 u0 140) 60 = u0.2.2.2.2 2 1 := rfl
set_option maxRecDepth 100000 in
theorem xa_61 : adx (lwA cy q0 u0) (lwA cy q0 u0 140) 61 = u0.2.2.2.2 2 2 := rfl
set_option maxRecDepth 100000 in
theorem xa_62 : adx (lwA cy q0 u0) (lwA cy q0 u0 140) 62 = u0.2.2.2.2 2 3 := rfl
set_option maxRecDepth 100000 in
theorem xa_63 : adx (lwA cy q0 u0) (lwA cy q0 u0 140) 63 = u0.2.2.2.2 2 4 := rfl
set_option maxRecDepth 100000 in
theorem xa_64 : adx (lwA cy q0 u0) (lwA cy q0 u0 140) 64 = u0.2.2.2.2 2 5 := rfl
set_option maxRecDepth 100000 in
theorem xa_65 : adx (lwA cy q0 u0) (lwA cy q0 u0 140) 65 = u0.2.2.2.2 2 6 := rfl
set_option maxRecDepth 100000 in
theorem xa_66 : adx (lwA cy q0 u0) (lwA cy q0 u0 140) 66 = u0.2.2.2.2 2 7 := rfl
set_option maxRecDepth 100000 in
theorem xa_67 : adx (lwA cy q0 u0) (lwA cy q0 u0 140) 67 = u0.2.2.2.2 2 8 := rfl
set_option maxRecDepth 100000 in
theorem xa_68 : adx (lwA cy q0 u0) (lwA cy q0 u0 140) 68 = u0.2.2.2.2 2 9 := rfl
set_option maxRecDepth 100000 in
theorem xa_69 : adx (lwA cy q0 u0) (lwA cy q0 u0 140) 69 = u0.2.2.2.1 3 := rfl
set_option maxRecDepth 100000 in
theorem xa_70 : adx (lwA cy q0 u0) (lwA cy q0 u0 140) 70 = u0.2.2.2.2 3 0 := rfl
set_option maxRecDepth 100000 in
theorem xa_71 : adx (lwA cy q0 u0) (lwA cy q0 u0 140) 71 = u0.2.2.2.2 3 1 := rfl
set_option maxRecDepth 100000 in
theorem xa_72 : adx (lwA cy q0 u0) (lwA cy q0 u0 140) 72 = u0.2.2.2.2 3 2 := rfl
set_option maxRecDepth 100000 in
theorem xa_73 : adx (lwA cy q0 u0) (lwA cy q0 u0 140) 73 = u0.2.2.2.2 3 3 := rfl
set_option maxRecDepth 100000 in
theorem xa_74 : adx (lwA cy q0 u0) (lwA cy q0 u0 140) 74 = u0.2.2.2.2 3 4 := rfl
set_option maxRecDepth 100000 in
theorem xa_75 : adx (lwA cy q0 u0) (lwA cy q0 u0 140) 75 = u0.2.2.2.2 3 5 := rfl
set_option maxRecDepth 100000 in
theorem xa_76 : adx (lwA cy q0 u0) (lwA cy q0 u0 140) 76 = u0.2.2.2.2 3 6 := rfl
set_option maxRecDepth 100000 in
theorem xa_77 : adx (lwA cy q0 u0) (lwA cy q0 u0 140) 77 = u0.2.2.2.2 3 7 := rfl
set_option maxRecDepth 100000 in
theorem xa_78 : adx (lwA cy q0 u0) (lwA cy q0 u0 140) 78 = u0.2.2.2.2 3 8 := rfl
set_option maxRecDepth 100000 in
theorem xa_79 : adx (lwA cy q0 u0) (lwA cy q0 u0 140) 79 = u0.2.2.2.2 3 9 := rfl
set_option maxRecDepth 100000 in
theorem xa_80 : adx (lwA cy q0 u0) (lwA cy q0 u0 140) 80 = u0.2.2.2.1 4 := rfl
set_option maxRecDepth 100000 in
theorem xa_81 : adx (lwA cy q0 u0) (lwA cy q0 u0 140) 81 = u0.2.2.2.2 4 0 := rfl
set_option maxRecDepth 100000 in
theorem xa_82 : adx (lwA cy q0 u0) (lwA cy q0 u0 140) 82 = u0.2.2.2.2 4 1 := rfl
set_option maxRecDepth 100000 in
theorem xa_83 : adx (lwA cy q0 u0) (lwA cy q0 u0 140) 83 = u0.2.2.2.2 4 2 := rfl
set_option maxRecDepth 100000 in
theorem xa_84 : adx (lwA cy q0 u0) (lwA cy q0 u0 140) 84 = u0.2.2.2.2 4 3 := rfl
set_option maxRecDepth 100000 in
theorem xa_85 : adx (lwA cy q0 u0) (lwA cy q0 u0 140) 85 = u0.2.2.2.2 4 4 := rfl
set_option maxRecDepth 100000 in
theorem xa_86 : adx (lwA cy q0 u0) (lwA cy q0 u0 140) 86 = u0.2.2.2.2 4 5 := rfl
set_option maxRecDepth 100000 in
theorem xa_87 : adx (lwA cy q0 u0) (lwA cy q0 u0 140) 87 = u0.2.2.2.2 4 6 := rfl
set_option maxRecDepth 100000 in
theorem xa_88 : adx (lwA cy q0 u0) (lwA cy q0 u0 140) 88 = u0.2.2.2.2 4 7 := rfl
set_option maxRecDepth 100000 in
theorem xa_89 : adx (lwA cy q0 u0) (lwA cy q0 u0 140) 89 = u0.2.2.2.2 4 8 := rfl
set_option maxRecDepth 100000 in
theorem xa_90 : adx (lwA cy q0 u0) (lwA cy q0 u0 140) 90 = u0.2.2.2.2 4 9 := rfl
set_option maxRecDepth 100000 in
theorem xa_91 : adx (lwA cy q0 u0) (lwA cy q0 u0 140) 91 = u0.2.2.2.1 5 := rfl
set_option maxRecDepth 100000 in
theorem xa_92 : adx (lwA cy q0 u0) (lwA cy q0 u0 140) 92 = u0.2.2.2.2 5 0 := rfl
set_option maxRecDepth 100000 in
theorem xa_93 : adx (lwA cy q0 u0) (lwA cy q0 u0 140) 93 = u0.2.2.2.2 5 1 := rfl
set_option maxRecDepth 100000 in
theorem xa_94 : adx (lwA cy q0 u0) (lwA cy q0 u0 140) 94 = u0.2.2.2.2 5 2 := rfl
set_option maxRecDepth 100000 in
theorem xa_95 : adx (lwA cy q0 u0) (lwA cy q0 u0 140) 95 = u0.2.2.2.2 5 3 := rfl
set_option maxRecDepth 100000 in
theorem xa_96 : adx (lwA cy q0 u0) (lwA cy q0 u0 140) 96 = u0.2.2.2.2 5 4 := rfl
set_option maxRecDepth 100000 in
theorem xa_97 : adx (lwA cy q0 u0) (lwA cy q0 u0 140) 97 = u0.2.2.2.2 5 5 := rfl
set_option maxRecDepth 100000 in
theorem xa_98 : adx (lwA cy q0 u0) (lwA cy q0 u0 140) 98 = u0.2.2.2.2 5 6 := rfl
set_option maxRecDepth 100000 in
theorem xa_99 : adx (lwA cy q0 u0) (lwA cy q0 u0 140) 99 = u0.2.2.2.2 5 7 := rfl
set_option maxRecDepth 100000 in
theorem xa_100 : adx (lwA cy q0 u0) (lwA cy q0 u0 140) 100 = u0.2.2.2.2 5 8 := rfl
set_option maxRecDepth 100000 in
theorem xa_101 : adx (lwA cy q0 u0) (lwA cy q0 u0 140) 101 = u0.2.2.2.2 5 9 := rfl
set_option maxRecDepth 100000 in
theorem xa_102 : adx (lwA cy q0 u0) (lwA cy q0 u0 140) 102 = u0.2.2.2.1 6 := rfl
set_option maxRecDepth 100000 in
theorem xa_103 : adx (lwA cy q0 u0) (lwA cy q0 u0 140) 103 = u0.2.2.2.2 6 0 := rfl
set_option maxRecDepth 100000 in
theorem xa_104 : adx (lwA cy q0 u0) (lwA cy q0 u0 140) 104 = u0.2.2.2.2 6 1 := rfl
set_option maxRecDepth 100000 in
theorem xa_105 : adx (lwA cy q0 u0) (lwA cy q0 u0 140) 105 = u0.2.2.2.2 6 2 := rfl
set_option maxRecDepth 100000 in
theorem xa_106 : adx (lwA cy q0 u0) (lwA cy q0 u0 140) 106 = u0.2.2.2.2 6 3 := rfl
set_option maxRecDepth 100000 in
theorem xa_107 : adx (lwA cy q0 u0) (lwA cy q0 u0 140) 107 = u0.2.2.2.2 6 4 := rfl
set_option maxRecDepth 100000 in
theorem xa_108 : adx (lwA cy q0 u0) (lwA cy q0 u0 140) 108 = u0.2.2.2.2 6 5 := rfl
set_option maxRecDepth 100000 in
theorem xa_109 : adx (lwA cy q0 u0) (lwA cy q0 u0 140) 109 = u0.2.2.2.2 6 6 := rfl
set_option maxRecDepth 100000 in
theorem xa_110 : adx (lwA cy q0 u0) (lwA cy q0 u0 140) 110 = u0.2.2.2.2 6 7 := rfl
set_option maxRecDepth 100000 in
theorem xa_111 : adx (lwA cy q0 u0) (lwA cy q0 u0 140) 111 = u0.2.2.2.2 6 8 := rfl
set_option maxRecDepth 100000 in
theorem xa_112 : adx (lwA cy q0 u0) (lwA cy q0 u0 140) 112 = u0.2.2.2.2 6 9 := rfl
set_option maxRecDepth 100000 in
theorem xa_113 : adx (lwA cy q0 u0) (lwA cy q0 u0 140) 113 = u0.2.2.2.1 7 := rfl
set_option maxRecDepth 100000 in
theorem xa_114 : adx (lwA cy q0 u0) (lwA cy q0 u0 140) 114 = u0.2.2.2.2 7 0 := rfl
set_option maxRecDepth 100000 in
theorem xa_115 : adx (lwA cy q0 u0) (lwA cy q0 u0 140) 115 = u0.2.2.2.2 7 1 := rfl
set_option maxRecDepth 100000 in
theorem xa_116 : adx (lwA cy q0 u0) (lwA cy q0 u0 140) 116 = u0.2.2.2.2 7 2 := rfl
set_option maxRecDepth 100000 in
theorem xa_117 : adx (lwA cy q0 u0) (lwA cy q0 u0 140) 117 = u0.2.2.2.2 7 3 := rfl
set_option maxRecDepth 100000 in
theorem xa_118 : adx (lwA cy q0 u0) (lwA cy q0 u0 140) 118 = u0.2.2.2.2 7 4 := rfl
set_option maxRecDepth 100000 in
theorem xa_119 : adx (lwA cy q0 u0) (lwA cy q0 u0 140) 119 = u0.2.2.2.2 7 5 := rfl
set_option maxRecDepth 100000 in
theorem xa_120 : adx (lwA cy q0 u0) (lwA cy q0 u0 140) 120 = u0.2.2.2.2 7 6 := rfl
set_option maxRecDepth 100000 in
theorem xa_121 : adx (lwA cy q0 u0) (lwA cy q0 u0 140) 121 = u0.2.2.2.2 7 7 := rfl
set_option maxRecDepth 100000 in
theorem xa_122 : adx (lwA cy q0 u0) (lwA cy q0 u0 140) 122 = u0.2.2.2.2 7 8 := rfl
set_option maxRecDepth 100000 in
theorem xa_123 : adx (lwA cy q0 u0) (lwA cy q0 u0 140) 123 = u0.2.2.2.2 7 9 := rfl
set_option maxRecDepth 100000 in
theorem xa_124 : adx (lwA cy q0 u0) (lwA cy q0 u0 140) 124 = u0.1 4 := rfl
set_option maxRecDepth 100000 in
theorem xa_125 : adx (lwA cy q0 u0) (lwA cy q0 u0 140) 125 = u0.2.1 4 0 := rfl
set_option maxRecDepth 100000 in
theorem xa_126 : adx (lwA cy q0 u0) (lwA cy q0 u0 140) 126 = u0.2.1 4 1 := rfl
set_option maxRecDepth 100000 in
theorem xa_127 : adx (lwA cy q0 u0) (lwA cy q0 u0 140) 127 = u0.1 5 := rfl
set_option maxRecDepth 100000 in
theorem xa_128 : adx (lwA cy q0 u0) (lwA cy q0 u0 140) 128 = u0.1 6 := rfl
set_option maxRecDepth 100000 in
theorem xa_129 : adx (lwA cy q0 u0) (lwA cy q0 u0 140) 129 = u0.1 7 := rfl
set_option maxRecDepth 100000 in
theorem xa_130 : adx (lwA cy q0 u0) (lwA cy q0 u0 140) 130 = u0.2.1 7 0 := rfl
set_option maxRecDepth 100000 in
theorem xa_131 : adx (lwA cy q0 u0) (lwA cy q0 u0 140) 131 = u0.2.1 7 1 := rfl
set_option maxRecDepth 100000 in
theorem xa_132 : adx (lwA cy q0 u0) (lwA cy q0 u0 140) 132 = u0.2.1 7 2 := rfl
set_option maxRecDepth 100000 in
theorem xa_133 : adx (lwA cy q0 u0) (lwA cy q0 u0 140) 133 = u0.2.1 7 3 := rfl
set_option maxRecDepth 100000 in
theorem xa_134 : adx (lwA cy q0 u0) (lwA cy q0 u0 140) 134 = u0.1 8 := rfl
set_option maxRecDepth 100000 in
theorem xa_135 : adx (lwA cy q0 u0) (lwA cy q0 u0 140) 135 = u0.2.1 8 0 := rfl
set_option maxRecDepth 100000 in
theorem xa_136 : adx (lwA cy q0 u0) (lwA cy q0 u0 140) 136 = u0.2.1 8 1 := rfl
set_option maxRecDepth 100000 in
theorem xa_137 : adx (lwA cy q0 u0) (lwA cy q0 u0 140) 137 = u0.2.1 8 2 := rfl
set_option maxRecDepth 100000 in
theorem xa_138 : adx (lwA cy q0 u0) (lwA cy q0 u0 140) 138 = u0.2.1 8 3 := rfl
set_option maxRecDepth 100000 in
theorem xa_139 : adx (lwA cy q0 u0) (lwA cy q0 u0 140) 139 = u0.1 9 := rfl
set_option maxRecDepth 100000 in
theorem xa_140 : adx (lwA cy q0 u0) (lwA cy q0 u0 140) 140 = u0.2.1 9 0 := rfl
set_option maxRecDepth 100000 in
theorem en_0 : (lwX cy q0 u0)[0]? = some (adx (lwA cy q0 u0) (lwA cy q0 u0 140) 0, toE (adx (lwA cy q0 u0) (lwA cy q0 u0 140)) cy av w0 0) := by
  rw [xa_0 cy q0 u0, toE_o (ci := 11) (ks := [some 1, some 12, some 23, none, some 34, some 124, some 127, some 128, some 129, some 134, some 139, none, none]) rfl]
  show _ = some (q0, Sum.inr (11, [Value.ref (adx (lwA cy q0 u0) (lwA cy q0 u0 140) 1), Value.ref (adx (lwA cy q0 u0) (lwA cy q0 u0 140) 12), Value.ref (adx (lwA cy q0 u0) (lwA cy q0 u0 140) 23), Value.int (gI w0 0 3), Value.ref (adx (lwA cy q0 u0) (lwA cy q0 u0 140) 34), Value.ref (adx (lwA cy q0 u0) (lwA cy q0 u0 140) 124), Value.ref (adx (lwA cy q0 u0) (lwA cy q0 u0 140) 127), Value.ref (adx (lwA cy q0 u0) (lwA cy q0 u0 140) 128), Value.ref (adx (lwA cy q0 u0) (lwA cy q0 u0 140) 129), Value.ref (adx (lwA cy q0 u0) (lwA cy q0 u0 140) 134), Value.ref (adx (lwA cy q0 u0) (lwA cy q0 u0 140) 139), Value.int (gI w0 0 11), Value.int (gI w0 0 12)]))
  rw [xa_1 cy q0 u0, xa_12 cy q0 u0, xa_23 cy q0 u0, xa_34 cy q0 u0, xa_124 cy q0 u0, xa_127 cy q0 u0, xa_128 cy q0 u0, xa_129 cy q0 u0, xa_134 cy q0 u0, xa_139 cy q0 u0]
  rfl
set_option maxRecDepth 100000 in
theorem en_1 : (lwX cy q0 u0)[1]? = some (adx (lwA cy q0 u0) (lwA cy q0 u0 140) 1, toE (adx (lwA cy q0 u0) (lwA cy q0 u0 140)) cy av w0 1) := by
  rw [xa_1 cy q0 u0, toE_o (ci := 9) (ks := [some 2, some 3, some 4, some 5, some 6, some 7, some 8, some 9, some 10, some 11, none, none, none, none, none, none, none]) rfl]
  show _ = some (u0.1 0, Sum.inr (9, [Value.ref (adx (lwA cy q0 u0) (lwA cy q0 u0 140) 2), Value.ref (adx (lwA cy q0 u0) (lwA cy q0 u0 140) 3), Value.ref (adx (lwA cy q0 u0) (lwA cy q0 u0 140) 4), Value.ref (adx (lwA cy q0 u0) (lwA cy q0 u0 140) 5), Value.ref (adx (lwA cy q0 u0) (lwA cy q0 u0 140) 6), Value.ref (adx (lwA cy q0 u0) (lwA cy q0 u0 140) 7), Value.ref (adx (lwA cy q0 u0) (lwA cy q0 u0 140) 8), Value.ref (adx (lwA cy q0 u0) (lwA cy q0 u0 140) 9), Value.ref (adx (lwA cy q0 u0) (lwA cy q0 u0 140) 10), Value.ref (adx (lwA cy q0 u0) (lwA cy q0 u0 140) 11), Value.int (gI w0 1 10), Value.int (gI w0 1 11), Value.int (gI w0 1 12), Value.int (gI w0 1 13), Value.int (gI w0 1 14), Value.int (gI w0 1 15), Value.int (gI w0 1 16)]))
  rw [xa_2 cy q0 u0, xa_3 cy q0 u0, xa_4 cy q0 u0, xa_5 cy q0 u0, xa_6 cy q0 u0, xa_7 cy q0 u0, xa_8 cy q0 u0, xa_9 cy q0 u0, xa_10 cy q0 u0, xa_11 cy q0 u0]
  rfl
set_option maxRecDepth 100000 in
theorem en_2 : (lwX cy q0 u0)[2]? = some (adx (lwA cy q0 u0) (lwA cy q0 u0 140) 2, toE (adx (lwA cy q0 u0) (lwA cy q0 u0 140)) cy av w0 2) := by
  rw [xa_2 cy q0 u0, toE_a (t := 0) (n := 10) rfl]
  rfl
set_option maxRecDepth 100000 in
theorem en_3 : (lwX cy q0 u0)[3]? = some (adx (lwA cy q0 u0) (lwA cy q0 u0 140) 3, toE (adx (lwA cy q0 u0) (lwA cy q0 u0 140)) cy av w0 3) := by
  rw [xa_3 cy q0 u0, toE_a (t := 1) (n := 10) rfl]
  rfl
set_option maxRecDepth 100000 in
theorem en_4 : (lwX cy q0 u0)[4]? = some (adx (lwA cy q0 u0) (lwA cy q0 u0 140) 4, toE (adx (lwA cy q0 u0) (lwA cy q0 u0 140)) cy av w0 4) := by
  rw [xa_4 cy q0 u0, toE_a (t := 2) (n := 10) rfl]
  rfl
set_option maxRecDepth 100000 in
theorem en_5 : (lwX cy q0 u0)[5]? = some (adx (lwA cy q0 u0) (lwA cy q0 u0 140) 5, toE (adx (lwA cy q0 u0) (lwA cy q0 u0 140)) cy av w0 5) := by
  rw [xa_5 cy q0 u0, toE_a (t := 1) (n := 10) rfl]
  rfl
set_option maxRecDepth 100000 in
theorem en_6 : (lwX cy q0 u0)[6]? = some (adx (lwA cy q0 u0) (lwA cy q0 u0 140) 6, toE (adx (lwA cy q0 u0) (lwA cy q0 u0 140)) cy av w0 6) := by
  rw [xa_6 cy q0 u0, toE_a (t := 2) (n := 10) rfl]
  rfl
set_option maxRecDepth 100000 in
theorem en_7 : (lwX cy q0 u0)[7]? = some (adx (lwA cy q0 u0) (lwA cy q0 u0 140) 7, toE (adx (lwA cy q0 u0) (lwA cy q0 u0 140)) cy av w0 7) := by
  rw [xa_7 cy q0 u0, toE_a (t := 0) (n := 10) rfl]
  rfl
set_option maxRecDepth 100000 in
theorem en_8 : (lwX cy q0 u0)[8]? = some (adx (lwA cy q0 u0) (lwA cy q0 u0 140) 8, toE (adx (lwA cy q0 u0) (lwA cy q0 u0 140)) cy av w0 8) := by
  rw [xa_8 cy q0 u0, toE_a (t := 0) (n := 10) rfl]
  rfl
set_option maxRecDepth 100000 in
theorem en_9 : (lwX cy q0 u0)[9]? = some (adx (lwA cy q0 u0) (lwA cy q0 u0 140) 9, toE (adx (lwA cy q0 u0) (lwA cy q0 u0 140)) cy av w0 9) := by
  rw [xa_9 cy q0 u0, toE_a (t := 2) (n := 10) rfl]
  rfl
set_option maxRecDepth 100000 in
theorem en_10 : (lwX cy q0 u0)[10]? = some (adx (lwA cy q0 u0) (lwA cy q0 u0 140) 10, toE (adx (lwA cy q0 u0) (lwA cy q0 u0 140)) cy av w0 10) := by
  rw [xa_10 cy q0 u0, toE_a (t := 3) (n := 100) rfl]
  rfl
set_option maxRecDepth 100000 in
theorem en_11 : (lwX cy q0 u0)[11]? = some (adx (lwA cy q0 u0) (lwA cy q0 u0 140) 11, toE (adx (lwA cy q0 u0) (lwA cy q0 u0 140)) cy av w0 11) := by
  rw [xa_11 cy q0 u0, toE_a (t := 0) (n := 6) rfl]
  rfl
set_option maxRecDepth 100000 in
theorem en_12 : (lwX cy q0 u0)[12]? = some (adx (lwA cy q0 u0) (lwA cy q0 u0 140) 12, toE (adx (lwA cy q0 u0) (lwA cy q0 u0 140)) cy av w0 12) := by
  rw [xa_12 cy q0 u0, toE_o (ci := 9) (ks := [some 13, some 14, some 15, some 16, some 17, some 18, some 19, some 20, some 21, some 22, none, none, none, none, none, none, none]) rfl]
  show _ = some (u0.1 1, Sum.inr (9, [Value.ref (adx (lwA cy q0 u0) (lwA cy q0 u0 140) 13), Value.ref (adx (lwA cy q0 u0) (lwA cy q0 u0 140) 14), Value.ref (adx (lwA cy q0 u0) (lwA cy q0 u0 140) 15), Value.ref (adx (lwA cy q0 u0) (lwA cy q0 u0 140) 16), Value.ref (adx (lwA cy q0 u0) (lwA cy q0 u0 140) 17), Value.ref (adx (lwA cy q0 u0) (lwA cy q0 u0 140) 18), Value.ref (adx (lwA cy q0 u0) (lwA cy q0 u0 140) 19), Value.ref (adx (lwA cy q0 u0) (lwA cy q0 u0 140) 20), Value.ref (adx (lwA cy q0 u0) (lwA cy q0 u0 140) 21), Value.ref (adx (lwA cy q0 u0) (lwA cy q0 u0 140) 22), Value.int (gI w0 12 10), Value.int (gI w0 12 11), Value.int (gI w0 12 12), Value.int (gI w0 12 13), Value.int (gI w0 12 14), Value.int (gI w0 12 15), Value.int (gI w0 12 16)]))
  rw [xa_13 cy q0 u0, xa_14 cy q0 u0, xa_15 cy q0 u0, xa_16 cy q0 u0, xa_17 cy q0 u0, xa_18 cy q0 u0, xa_19 cy q0 u0, xa_20 cy q0 u0, xa_21 cy q0 u0, xa_22 cy q0 u0]
  rfl
set_option maxRecDepth 100000 in
theorem en_13 : (lwX cy q0 u0)[13]? = some (adx (lwA cy q0 u0) (lwA cy q0 u0 140) 13, toE (adx (lwA cy q0 u0) (lwA cy q0 u0 140)) cy av w0 13) := by
  rw [xa_13 cy q0 u0, toE_a (t := 0) (n := 10) rfl]
  rfl
set_option maxRecDepth 100000 in
theorem en_14 : (lwX cy q0 u0)[14]? = some (adx (lwA cy q0 u0) (lwA cy q0 u0 140) 14, toE (adx (lwA cy q0 u0) (lwA cy q0 u0 140)) cy av w0 14) := by
  rw [xa_14 cy q0 u0, toE_a (t := 1) (n := 10) rfl]
  rfl
set_option maxRecDepth 100000 in
theorem en_15 : (lwX cy q0 u0)[15]? = some (adx (lwA cy q0 u0) (lwA cy q0 u0 140) 15, toE (adx (lwA cy q0 u0) (lwA cy q0 u0 140)) cy av w0 15) := by
  rw [xa_15 cy q0 u0, toE_a (t := 2) (n := 10) rfl]
  rfl
set_option maxRecDepth 100000 in
theorem en_16 : (lwX cy q0 u0)[16]? = some (adx (lwA cy q0 u0) (lwA cy q0 u0 140) 16, toE (adx (lwA cy q0 u0) (lwA cy q0 u0 140)) cy av w0 16) := by
  rw [xa_16 cy q0 u0, toE_a (t := 1) (n := 10) rfl]
  rfl
set_option maxRecDepth 100000 in
theorem en_17 : (lwX cy q0 u0)[17]? = some (adx (lwA cy q0 u0) (lwA cy q0 u0 140) 17, toE (adx (lwA cy q0 u0) (lwA cy q0 u0 140)) cy av w0 17) := by
  rw [xa_17 cy q0 u0, toE_a (t := 2) (n := 10) rfl]
  rfl
set_option maxRecDepth 100000 in
theorem en_18 : (lwX cy q0 u0)[18]? = some (adx (lwA cy q0 u0) (lwA cy q0 u0 140) 18, toE (adx (lwA cy q0 u0) (lwA cy q0 u0 140)) cy av w0 18) := by
  rw [xa_18 cy q0 u0, toE_a (t := 0) (n := 10) rfl]
  rfl
set_option maxRecDepth 100000 in
theorem en_19 : (lwX cy q0 u0)[19]? = some (adx (lwA cy q0 u0) (lwA cy q0 u0 140) 19, toE (adx (lwA cy q0 u0) (lwA cy q0 u0 140)) cy av w0 19) := by
  rw [xa_19 cy q0 u0, toE_a (t := 0) (n := 10) rfl]
  rfl
set_option maxRecDepth 100000 in
theorem en_20 : (lwX cy q0 u0)[20]? = some (adx (lwA cy q0 u0) (lwA cy q0 u0 140) 20, toE (adx (lwA cy q0 u0) (lwA cy q0 u0 140)) cy av w0 20) := by
  rw [xa_20 cy q0 u0, toE_a (t := 2) (n := 10) rfl]
  rfl
set_option maxRecDepth 100000 in
theorem en_21 : (lwX cy q0 u0)[21]? = some (adx (lwA cy q0 u0) (lwA cy q0 u0 140) 21, toE (adx (lwA cy q0 u0) (lwA cy q0 u0 140)) cy av w0 21) := by
  rw [xa_21 cy q0 u0, toE_a (t := 3) (n := 100) rfl]
  rfl
set_option maxRecDepth 100000 in
theorem en_22 : (lwX cy q0 u0)[22]? = some (adx (lwA cy q0 u0) (lwA cy q0 u0 140) 22, toE (adx (lwA cy q0 u0) (lwA cy q0 u0 140)) cy av w0 22) := by
  rw [xa_22 cy q0 u0, toE_a (t := 0) (n := 6) rfl]
  rfl
set_option maxRecDepth 100000 in
theorem en_23 : (lwX cy q0 u0)[23]? = some (adx (lwA cy q0 u0) (lwA cy q0 u0 140) 23, toE (adx (lwA cy q0 u0) (lwA cy q0 u0 140)) cy av w0 23) := by
  rw [xa_23 cy q0 u0, toE_o (ci := 9) (ks := [some 24, some 25, some 26, some 27, some 28, some 29, some 30, some 31, some 32, some 33, none, none, none, none, none, none, none]) rfl]
  show _ = some (u0.1 2, Sum.inr (9, [Value.ref (adx (lwA cy q0 u0) (lwA cy q0 u0 140) 24), Value.ref (adx (lwA cy q0 u0) (lwA cy q0 u0 140) 25), Value.ref (adx (lwA cy q0 u0) (lwA cy q0 u0 140) 26), Value.ref (adx (lwA cy q0 u0) (lwA cy q0 u0 140) 27), Value.ref (adx (lwA cy q0 u0) (lwA cy q0 u0 140) 28), Value.ref (adx (lwA cy q0 u0) (lwA cy q0 u0 140) 29), Value.ref (adx (lwA cy q0 u0) (lwA cy q0 u0 140) 30), Value.ref (adx (lwA cy q0 u0) (lwA cy q0 u0 140) 31), Value.ref (adx (lwA cy q0 u0) (lwA cy q0 u0 140) 32), Value.ref (adx (lwA cy q0 u0) (lwA cy q0 u0 140) 33), Value.int (gI w0 23 10), Value.int (gI w0 23 11), Value.int (gI w0 23 12), Value.int (gI w0 23 13), Value.int (gI w0 23 14), Value.int (gI w0 23 15), Value.int (gI w0 23 16)]))
  rw [xa_24 cy q0 u0, xa_25 cy q0 u0, xa_26 cy q0 u0, xa_27 cy q0 u0, xa_28 cy q0 u0, xa_29 cy q0 u0, xa_30 cy q0 u0, xa_31 cy q0 u0, xa_32 cy q0 u0, xa_33 cy q0 u0]
  rfl
set_option maxRecDepth 100000 in
theorem en_24 : (lwX cy q0 u0)[24]? = some (adx (lwA cy q0 u0) (lwA cy q0 u0 140) 24, toE (adx (lwA cy q0 u0) (lwA cy q0 u0 140)) cy av w0 24) := by
  rw [xa_24 cy q0 u0, toE_a (t := 0) (n := 10) rfl]
  rfl
set_option maxRecDepth 100000 in
theorem en_25 : (lwX cy q0 u0)[25]? = some (adx (lwA cy q0 u0) (lwA cy q0 u0 140) 25, toE (adx (lwA cy q0 u0) (lwA cy q0 u0 140)) cy av w0 25) := by
  rw [xa_25 cy q0 u0, toE_a (t := 1) (n := 10) rfl]
  rfl
set_option maxRecDepth 100000 in
theorem en_26 : (lwX cy q0 u0)[26]? = some (adx (lwA cy q0 u0) (lwA cy q0 u0 140) 26, toE (adx (lwA cy q0 u0) (lwA cy q0 u0 140)) cy av w0 26) := by
  rw [xa_26 cy q0 u0, toE_a (t := 2) (n := 10) rfl]
  rfl
set_option maxRecDepth 100000 in
theorem en_27 : (lwX cy q0 u0)[27]? = some (adx (lwA cy q0 u0) (lwA cy q0 u0 140) 27, toE (adx (lwA cy q0 u0) (lwA cy q0 u0 140)) cy av w0 27) := by
  rw [xa_27 cy q0 u0, toE_a (t := 1) (n := 10) rfl]
  rfl
set_option maxRecDepth 100000 in
theorem en_28 : (lwX cy q0 u0)[28]? = some (adx (lwA cy q0 u0) (lwA cy q0 u0 140) 28, toE (adx (lwA cy q0 u0) (lwA cy q0 u0 140)) cy av w0 28) := by
  rw [xa_28 cy q0 u0, toE_a (t := 2) (n := 10) rfl]
  rfl
set_option maxRecDepth 100000 in
theorem en_29 : (lwX cy q0 u0)[29]? = some (adx (lwA cy q0 u0) (lwA cy q0 u0 140) 29, toE (adx (lwA cy q0 u0) (lwA cy q0 u0 140)) cy av w0 29) := by
  rw [xa_29 cy q0 u0, toE_a (t := 0) (n := 10) rfl]
  rfl
set_option maxRecDepth 100000 in
theorem en_30 : (lwX cy q0 u0)[30]? = some (adx (lwA cy q0 u0) (lwA cy q0 u0 140) 30, toE (adx (lwA cy q0 u0) (lwA cy q0 u0 140)) cy av w0 30) := by
  rw [xa_30 cy q0 u0, toE_a (t := 0) (n := 10) rfl]
  rfl
set_option maxRecDepth 100000 in
theorem en_31 : (lwX cy q0 u0)[31]? = some (adx (lwA cy q0 u0) (lwA cy q0 u0 140) 31, toE (adx (lwA cy q0 u0) (lwA cy q0 u0 140)) cy av w0 31) := by
  rw [xa_31 cy q0 u0, toE_a (t := 2) (n := 10) rfl]
  rfl
set_option maxRecDepth 100000 in
theorem en_32 : (lwX cy q0 u0)[32]? = some (adx (lwA cy q0 u0) (lwA cy q0 u0 140) 32, toE (adx (lwA cy q0 u0) (lwA cy q0 u0 140)) cy av w0 32) := by
  rw [xa_32 cy q0 u0, toE_a (t := 3) (n := 100) rfl]
  rfl
set_option maxRecDepth 100000 in
theorem en_33 : (lwX cy q0 u0)[33]? = some (adx (lwA cy q0 u0) (lwA cy q0 u0 140) 33, toE (adx (lwA cy q0 u0) (lwA cy q0 u0 140)) cy av w0 33) := by
  rw [xa_33 cy q0 u0, toE_a (t := 0) (n := 6) rfl]
  rfl
set_option maxRecDepth 100000 in
theorem en_34 : (lwX cy q0 u0)[34]? = some (adx (lwA cy q0 u0) (lwA cy q0 u0 140) 34, toE (adx (lwA cy q0 u0) (lwA cy q0 u0 140)) cy av w0 34) := by
  rw [xa_34 cy q0 u0, toE_o (ci := 6) (ks := [some 35, none, none]) rfl]
  show _ = some (u0.1 3, Sum.inr (6, [Value.ref (adx (lwA cy q0 u0) (lwA cy q0 u0 140) 35), Value.int (gI w0 34 1), Value.int (gI w0 34 2)]))
  rw [xa_35 cy q0 u0]
  rfl
set_option maxRecDepth 100000 in
theorem en_36 : (lwX cy q0 u0)[36]? = some (adx (lwA cy q0 u0) (lwA cy q0 u0 140) 36, toE (adx (lwA cy q0 u0) (lwA cy q0 u0 140)) cy av w0 36) := by
  rw [xa_36 cy q0 u0, toE_o (ci := 9) (ks := [some 37, some 38, some 39, some 40, some 41, some 42, some 43, some 44, some 45, some 46, none, none, none, none, none, none, none]) rfl]
  show _ = some (u0.2.2.2.1 0, Sum.inr (9, [Value.ref (adx (lwA cy q0 u0) (lwA cy q0 u0 140) 37), Value.ref (adx (lwA cy q0 u0) (lwA cy q0 u0 140) 38), Value.ref (adx (lwA cy q0 u0) (lwA cy q0 u0 140) 39), Value.ref (adx (lwA cy q0 u0) (lwA cy q0 u0 140) 40), Value.ref (adx (lwA cy q0 u0) (lwA cy q0 u0 140) 41), Value.ref (adx (lwA cy q0 u0) (lwA cy q0 u0 140) 42), Value.ref (adx (lwA cy q0 u0) (lwA cy q0 u0 140) 43), Value.ref (adx (lwA cy q0 u0) (lwA cy q0 u0 140) 44), Value.ref (adx (lwA cy q0 u0) (lwA cy q0 u0 140) 45), Value.ref (adx (lwA cy q0 u0) (lwA cy q0 u0 140) 46), Value.int (gI w0 36 10), Value.int (gI w0 36 11), Value.int (gI w0 36 12), Value.int (gI w0 36 13), Value.int (gI w0 36 14), Value.int (gI w0 36 15), Value.int (gI w0 36 16)]))
  rw [xa_37 cy q0 u0, xa_38 cy q0 u0, xa_39 cy q0 u0, xa_40 cy q0 u0, xa_41 cy q0 u0, xa_42 cy q0 u0, xa_43 cy q0 u0, xa_44 cy q0 u0, xa_45 cy q0 u0, xa_46 cy q0 u0]
  rfl
set_option maxRecDepth 100000 in
theorem en_37 : (lwX cy q0 u0)[37]? = some (adx (lwA cy q0 u0) (lwA cy q0 u0 140) 37, toE (adx (lwA cy q0 u0) (lwA cy q0 u0 140)) cy av w0 37) := by
  rw [xa_37 cy q0 u0, toE_a (t := 0) (n := 10) rfl]
  rfl
set_option maxRecDepth 100000 in
theorem en_38 : (lwX cy q0 u0)[38]? = some (adx (lwA cy q0 u0) (lwA cy q0 u0 140) 38, toE (adx (lwA cy q0 u0) (lwA cy q0 u0 140)) cy av w0 38) := by
  rw [xa_38 cy q0 u0, toE_a (t := 1) (n := 10) rfl]
  rfl
set_option maxRecDepth 100000 in
theorem en_39 : (lwX cy q0 u0)[39]? = some (adx (lwA cy q0 u0) (lwA cy q0 u0 140) 39, toE (adx (lwA cy q0 u0) (lwA cy q0 u0 140)) cy av w0 39) := by
  rw [xa_39 cy q0 u0, toE_a (t := 2) (n := 10) rfl]
  rfl
set_option maxRecDepth 100000 in
theorem en_40 : (lwX cy q0 u0)[40]? = some (adx (lwA cy q0 u0) (lwA cy q0 u0 140) 40, toE (adx (lwA cy q0 u0) (lwA cy q0 u0 140)) cy av w0 40) := by
  rw [xa_40 cy q0 u0, toE_a (t := 1) (n := 10) rfl]
  rfl
set_option maxRecDepth 100000 in
theorem en_41 : (lwX cy q0 u0)[41]? = some (adx (lwA cy q0 u0) (lwA cy q0 u0 140) 41, toE (adx (lwA cy q0 u0) (lwA cy q0 u0 140)) cy av w0 41) := by
  rw [xa_41 cy q0 u0, toE_a (t := 2) (n := 10) rfl]
  rfl
set_option maxRecDepth 100000 in
theorem en_42 : (lwX cy q0 u0)[42]? = some (adx (lwA cy q0 u0) (lwA cy q0 u0 140) 42, toE (adx (lwA cy q0 u0) (lwA cy q0 u0 140)) cy av w0 42) := by
  rw [xa_42 cy q0 u0, toE_a (t := 0) (n := 10) rfl]
  rfl
set_option maxRecDepth 100000 in
theorem en_43 : (lwX cy q0 u0)[43]? = some (adx (lwA cy q0 u0) (lwA cy q0 u0 140) 43, toE (adx (lwA cy q0 u0) (lwA cy q0 u0 140)) cy av w0 43) := by
  rw [xa_43 cy q0 u0, toE_a (t := 0) (n := 10) rfl]
  rfl
set_option maxRecDepth 100000 in
theorem en_44 : (lwX cy q0 u0)[44]? = some (adx (lwA cy q0 u0) (lwA cy q0 u0 140) 44, toE (adx (lwA cy q0 u0) (lwA cy q0 u0 140)) cy av w0 44) := by
  rw [xa_44 cy q0 u0, toE_a (t := 2) (n := 10) rfl]
  rfl
set_option maxRecDepth 100000 in
theorem en_45 : (lwX cy q0 u0)[45]? = some (adx (lwA cy q0 u0) (lwA cy q0 u0 140) 45, toE (adx (lwA cy q0 u0) (lwA cy q0 u0 140)) cy av w0 45) := by
  rw [xa_45 cy q0 u0, toE_a (t := 3) (n := 100) rfl]
  rfl
set_option maxRecDepth 100000 in
theorem en_46 : (lwX cy q0 u0)[46]? = some (adx (lwA cy q0 u0) (lwA cy q0 u0 140) 46, toE (adx (lwA cy q0 u0) (lwA cy q0 u0 140)) cy av w0 46) := by
  rw [xa_46 cy q0 u0, toE_a (t := 0) (n := 6) rfl]
  rfl
set_option maxRecDepth 100000 in
theorem en_47 : (lwX cy q0 u0)[47]? = some (adx (lwA cy q0 u0) (lwA cy q0 u0 140) 47, toE (adx (lwA cy q0 u0) (lwA cy q0 u0 140)) cy av w0 47) := by
  rw [xa_47 cy q0 u0, toE_o (ci := 9) (ks := [some 48, some 49, some 50, some 51, some 52, some 53, some 54, some 55, some 56, some 57, none, none, none, none, none, none, none]) rfl]
  show _ = some (u0.2.2.2.1 1, Sum.inr (9, [Value.ref (adx (lwA cy q0 u0) (lwA cy q0 u0 140) 48), Value.ref (adx (lwA cy q0 u0) (lwA cy q0 u0 140) 49), Value.ref (adx (lwA cy q0 u0) (lwA cy q0 u0 140) 50), Value.ref (adx (lwA cy q0 u0) (lwA cy q0 u0 140) 51), Value.ref (adx (lwA cy q0 u0) (lwA cy q0 u0 140) 52), Value.ref (adx (lwA cy q0 u0) (lwA cy q0 u0 140) 53), Value.ref (adx (lwA cy q0 u0) (lwA cy q0 u0 140) 54), Value.ref (adx (lwA cy q0 u0) (lwA cy q0 u0 140) 55), Value.ref (adx (lwA cy q0 u0) (lwA cy q0 u0 140) 56), Value.ref (adx (lwA cy q0 u0) (lwA cy q0 u0 140) 57), Value.int (gI w0 47 10), Value.int (gI w0 47 11), Value.int (gI w0 47 12), Value.int (gI w0 47 13), Value.int (gI w0 47 14), Value.int (gI w0 47 15), Value.int (gI w0 47 16)]))
  rw [xa_48 cy q0 u0, xa_49 cy q0 u0, xa_50 cy q0 u0, xa_51 cy q0 u0, xa_52 cy q0 u0, xa_53 cy q0 u0, xa_54 cy q0 u0, xa_55 cy q0 u0, xa_56 cy q0 u0, xa_57 cy q0 u0]
  rfl
set_option maxRecDepth 100000 in
theorem en_48 : (lwX cy q0 u0)[48]? = some (adx (lwA cy q0 u0) (lwA cy q0 u0 140) 48, toE (adx (lwA cy q0 u0) (lwA cy q0 u0 140)) cy av w0 48) := by
  rw [xa_48 cy q0 u0, toE_a (t := 0) (n := 10) rfl]
  rfl
set_option maxRecDepth 100000 in
theorem en_49 : (lwX cy q0 u0)[49]? = some (adx (lwA cy q0 u0) (lwA cy q0 u0 140) 49, toE (adx (lwA cy q0 u0) (lwA cy q0 u0 140)) cy av w0 49) := by
  rw [xa_49 cy q0 u0, toE_a (t := 1) (n := 10) rfl]
  rfl
set_option maxRecDepth 100000 in
theorem en_50 : (lwX cy q0 u0)[50]? = some (adx (lwA cy q0 u0) (lwA cy q0 u0 140) 50, toE (adx (lwA cy q0 u0) (lwA cy q0 u0 140)) cy av w0 50) := by
  rw [xa_50 cy q0 u0, toE_a (t := 2) (n := 10) rfl]
  rfl
set_option maxRecDepth 100000 in
theorem en_51 : (lwX cy q0 u0)[51]? = some (adx (lwA cy q0 u0) (lwA cy q0 u0 140) 51, toE (adx (lwA cy q0 u0) (lwA cy q0 u0 140)) cy av w0 51) := by
  rw [xa_51 cy q0 u0, toE_a (t := 1) (n := 10) rfl]
  rfl
set_option maxRecDepth 100000 in
theorem en_52 : (lwX cy q0 u0)[52]? = some (adx (lwA cy q0 u0) (lwA cy q0 u0 140) 52, toE (adx (lwA cy q0 u0) (lwA cy q0 u0 140)) cy av w0 52) := by
  rw [xa_52 cy q0 u0, toE_a (t := 2) (n := 10) rfl]
  rfl
set_option maxRecDepth 100000 in
theorem en_53 : (lwX cy q0 u0)[53]? = some (adx (lwA cy q0 u0) (lwA cy q0 u0 140) 53, toE (adx (lwA cy q0 u0) (lwA cy q0 u0 140)) cy av w0 53) := by
  rw [xa_53 cy q0 u0, toE_a (t := 0) (n := 10) rfl]
  rfl
set_option maxRecDepth 100000 in
theorem en_54 : (lwX cy q0 u0)[54]? = some (adx (lwA cy q0 u0) (lwA cy q0 u0 140) 54, toE (adx (lwA cy q0 u0) (lwA cy q0 u0 140)) cy av w0 54) := by
  rw [xa_54 cy q0 u0, toE_a (t := 0) (n := 10) rfl]
  rfl
set_option maxRecDepth 100000 in
theorem en_55 : (lwX cy q0 u0)[55]? = some (adx (lwA cy q0 u0) (lwA cy q0 u0 140) 55, toE (adx (lwA cy q0 u0) (lwA cy q0 u0 140)) cy av w0 55) := by
  rw [xa_55 cy q0 u0, toE_a (t := 2) (n := 10) rfl]
  rfl
set_option maxRecDepth 100000 in
theorem en_56 : (lwX cy q0 u0)[56]? = some (adx (lwA cy q0 u0) (lwA cy q0 u0 140) 56, toE (adx (lwA cy q0 u0) (lwA cy q0 u0 140)) cy av w0 56) := by
  rw [xa_56 cy q0 u0, toE_a (t := 3) (n := 100) rfl]
  rfl
set_option maxRecDepth 100000 in
theorem en_57 : (lwX cy q0 u0)[57]? = some (adx (lwA cy q0 u0) (lwA cy q0 u0 140) 57, toE (adx (lwA cy q0 u0) (lwA cy q0 u0 140)) cy av w0 57) := by
  rw [xa_57 cy q0 u0, toE_a (t := 0) (n := 6) rfl]
  rfl
set_option maxRecDepth 100000 in
theorem en_58 : (lwX cy q0 u0)[58]? = some (adx (lwA cy q0 u0) (lwA cy q0 u0 140) 58, toE (adx (lwA cy q0 u0) (lwA cy q0 u0 140)) cy av w0 58) := by
  rw [xa_58 cy q0 u0, toE_o (ci := 9) (ks := [some 59, some 60, some 61, some 62, some 63, some 64, some 65, some 66, some 67, some 68, none, none, none, none, none, none, none]) rfl]
  show _ = some (u0.2.2.2.1 2, Sum.inr (9, [Value.ref (adx (lwA cy q0 u0) (lwA cy q0 u0 140) 59), Value.ref (adx (lwA cy q0 u0) (lwA cy q0 u0 140) 60), Value.ref (adx (lwA cy q0 u0) (lwA cy q0 u0 140) 61), Value.ref (adx (lwA cy q0 u0) (lwA cy q0 u0 140) 62), Value.ref (adx (lwA cy q0 u0) (lwA cy q0 u0 140) 63), Value.ref (adx (lwA cy q0 u0) (lwA cy q0 u0 140) 64), Value.ref (adx (lwA cy q0 u0) (lwA cy q0 u0 140) 65), Value.ref (adx (lwA cy q0 u0) (lwA cy q0 u0 140) 66), Value.ref (adx (lwA cy q0 u0) (lwA cy q0 u0 140) 67), Value.ref (adx (lwA cy q0 u0) (lwA cy q0 u0 140) 68), Value.int (gI w0 58 10), Value.int (gI w0 58 11), Value.int (gI w0 58 12), Value.int (gI w0 58 13), Value.int (gI w0 58 14), Value.int (gI w0 58 15), Value.int (gI w0 58 16)]))
  rw [xa_59 cy q0 u0, xa_60 cy q0 u0, xa_61 cy q0 u0, xa_62 cy q0 u0, xa_63 cy q0 u0, xa_64 cy q0 u0, xa_65 cy q0 u0, xa_66 cy q0 u0, xa_67 cy q0 u0, xa_68 cy q0 u0]
  rfl
set_option maxRecDepth 100000 in
theorem en_59 : (lwX cy q0 u0)[59]? = some (adx (lwA cy q0 u0) (lwA cy q0 u0 140) 59, toE (adx (lwA cy q0 u0) (lwA cy q0 u0 140)) cy av w0 59) := by
  rw [xa_59 cy q0 u0, toE_a (t := 0) (n := 10) rfl]
  rfl
set_option maxRecDepth 100000 in
theorem en_60 : (lwX cy q0 u0)[60]? = some (adx (lwA cy q0 u0) (lwA cy q0 u0 140) 60, toE (adx (lwA cy q0 u0) (lwA cy q0 u0 140)) cy av w0 60) := by
  rw [xa_60 cy q0 u0, toE_a (t := 1) (n := 10) rfl]
  rfl
set_option maxRecDepth 100000 in
theorem en_61 : (lwX cy q0 u0)[61]? = some (adx (lwA cy q0 u0) (lwA cy q0 u0 140) 61, toE (adx (lwA cy q0 u0) (lwA cy q0 u0 140)) cy av w0 61) := by
  rw [xa_61 cy q0 u0, toE_a (t := 2) (n := 10) rfl]
  rfl
set_option maxRecDepth 100000 in
theorem en_62 : (lwX cy q0 u0)[62]? = some (adx (lwA cy q0 u0) (lwA cy q0 u0 140) 62, toE (adx (lwA cy q0 u0) (lwA cy q0 u0 140)) cy av w0 62) := by
  rw [xa_62 cy q0 u0, toE_a (t := 1) (n := 10) rfl]
  rfl
set_option maxRecDepth 100000 in
theorem en_63 : (lwX cy q0 u0)[63]? = some (adx (lwA cy q0 u0) (lwA cy q0 u0 140) 63, toE (adx (lwA cy q0 u0) (lwA cy q0 u0 140)) cy av w0 63) := by
  rw [xa_63 cy q0 u0, toE_a (t := 2) (n := 10) rfl]
  rfl
set_option maxRecDepth 100000 in
theorem en_64 : (lwX cy q0 u0)[64]? = some (adx (lwA cy q0 u0) (lwA cy q0 u0 140) 64, toE (adx (lwA cy q0 u0) (lwA cy q0 u0 140)) cy av w0 64) := by
  rw [xa_64 cy q0 u0, toE_a (t := 0) (n := 10) rfl]
  rfl
set_option maxRecDepth 100000 in
theorem en_65 : (lwX cy q0 u0)[65]? = some (adx (lwA cy q0 u0) (lwA cy q0 u0 140) 65, toE (adx (lwA cy q0 u0) (lwA cy q0 u0 140)) cy av w0 65) := by
  rw [xa_65 cy q0 u0, toE_a (t := 0) (n := 10) rfl]
  rfl
set_option maxRecDepth 100000 in
theorem en_66 : (lwX cy q0 u0)[66]? = some (adx (lwA cy q0 u0) (lwA cy q0 u0 140) 66, toE (adx (lwA cy q0 u0) (lwA cy q0 u0 140)) cy av w0 66) := by
  rw [xa_66 cy q0 u0, toE_a (t := 2) (n := 10) rfl]
  rfl
set_option maxRecDepth 100000 in
theorem en_67 : (lwX cy q0 u0)[67]? = some (adx (lwA cy q0 u0) (lwA cy q0 u0 140) 67, toE (adx (lwA cy q0 u0) (lwA cy q0 u0 140)) cy av w0 67) := by
  rw [xa_67 cy q0 u0, toE_a (t := 3) (n := 100) rfl]
  rfl
set_option maxRecDepth 100000 in
theorem en_68 : (lwX cy q0 u0)[68]? = some (adx (lwA cy q0 u0) (lwA cy q0 u0 140) 68, toE (adx (lwA cy q0 u0) (lwA cy q0 u0 140)) cy av w0 68) := by
  rw [xa_68 cy q0 u0, toE_a (t := 0) (n := 6) rfl]
  rfl
set_option maxRecDepth 100000 in
theorem en_69 : (lwX cy q0 u0)[69]? = some (adx (lwA cy q0 u0) (lwA cy q0 u0 140) 69, toE (adx (lwA cy q0 u0) (lwA cy q0 u0 140)) cy av w0 69) := by
  rw [xa_69 cy q0 u0, toE_o (ci := 9) (ks := [some 70, some 71, some 72, some 73, some 74, some 75, some 76, some 77, some 78, some 79, none, none, none, none, none, none, none]) rfl]
  show _ = some (u0.2.2.2.1 3, Sum.inr (9, [Value.ref (adx (lwA cy q0 u0) (lwA cy q0 u0 140) 70), Value.ref (adx (lwA cy q0 u0) (lwA cy q0 u0 140) 71), Value.ref (adx (lwA cy q0 u0) (lwA cy q0 u0 140) 72), Value.ref (adx (lwA cy q0 u0) (lwA cy q0 u0 140) 73), Value.ref (adx (lwA cy q0 u0) (lwA cy q0 u0 140) 74), Value.ref (adx (lwA cy q0 u0) (lwA cy q0 u0 140) 75), Value.ref (adx (lwA cy q0 u0) (lwA cy q0 u0 140) 76), Value.ref (adx (lwA cy q0 u0) (lwA cy q0 u0 140) 77), Value.ref (adx (lwA cy q0 u0) (lwA cy q0 u0 140) 78), Value.ref (adx (lwA cy q0 u0) (lwA cy q0 u0 140) 79), Value.int (gI w0 69 10), Value.int (gI w0 69 11), Value.int (gI w0 69 12), Value.int (gI w0 69 13), Value.int (gI w0 69 14), Value.int (gI w0 69 15), Value.int (gI w0 69 16)]))
  rw [xa_70 cy q0 u0, xa_71 cy q0 u0, xa_72 cy q0 u0, xa_73 cy q0 u0, xa_74 cy q0 u0, xa_75 cy q0 u0, xa_76 cy q0 u0, xa_77 cy q0 u0, xa_78 cy q0 u0, xa_79 cy q0 u0]
  rfl
set_option maxRecDepth 100000 in
theorem en_70 : (lwX cy q0 u0)[70]? = some (adx (lwA cy q0 u0) (lwA cy q0 u0 140) 70, toE (adx (lwA cy q0 u0) (lwA cy q0 u0 140)) cy av w0 70) := by
  rw [xa_70 cy q0 u0, toE_a (t := 0) (n := 10) rfl]
  rfl
set_option maxRecDepth 100000 in
theorem en_71 : (lwX cy q0 u0)[71]? = some (adx (lwA cy q0 u0) (lwA cy q0 u0 140) 71, toE (adx (lwA cy q0 u0) (lwA cy q0 u0 140)) cy av w0 71) := by
  rw [xa_71 cy q0 u0, toE_a (t := 1) (n := 10) rfl]
  rfl
set_option maxRecDepth 100000 in
theorem en_72 : (lwX cy q0 u0)[72]? = some (adx (lwA cy q0 u0) (lwA cy q0 u0 140) 72, toE (adx (lwA cy q0 u0) (lwA cy q0 u0 140)) cy av w0 72) := by
  rw [xa_72 cy q0 u0, toE_a (t := 2) (n := 10) rfl]
  rfl
set_option maxRecDepth 100000 in
theorem en_73 : (lwX cy q0 u0)[73]? = some (adx (lwA cy q0 u0) (lwA cy q0 u0 140) 73, toE (adx (lwA cy q0 u0) (lwA cy q0 u0 140)) cy av w0 73) := by
  rw [xa_73 cy q0 u0, toE_a (t := 1) (n := 10) rfl]
  rfl
set_option maxRecDepth 100000 in
theorem en_74 : (lwX cy q0 u0)[74]? = some (adx (lwA cy q0 u0) (lwA cy q0 u0 140) 74, toE (adx (lwA cy q0 u0) (lwA cy q0 u0 140)) cy av w0 74) := by
  rw [xa_74 cy q0 u0, toE_a (t := 2) (n := 10) rfl]
  rfl
set_option maxRecDepth 100000 in
theorem en_75 : (lwX cy q0 u0)[75]? = some (adx (lwA cy q0 u0) (lwA cy q0 u0 140) 75, toE (adx (lwA cy q0 u0) (lwA cy q0 u0 140)) cy av w0 75) := by
  rw [xa_75 cy q0 u0, toE_a (t := 0) (n := 10) rfl]
  rfl
set_option maxRecDepth 100000 in
theorem en_76 : (lwX cy q0 u0)[76]? = some (adx (lwA cy q0 u0) (lwA cy q0 u0 140) 76, toE (adx (lwA cy q0 u0) (lwA cy q0 u0 140)) cy av w0 76) := by
  rw [xa_76 cy q0 u0, toE_a (t := 0) (n := 10) rfl]
  rfl
set_option maxRecDepth 100000 in
theorem en_77 : (lwX cy q0 u0)[77]? = some (adx (lwA cy q0 u0) (lwA cy q0 u0 140) 77, toE (adx (lwA cy q0 u0) (lwA cy q0 u0 140)) cy av w0 77) := by
  rw [xa_77 cy q0 u0, toE_a (t := 2) (n := 10) rfl]
  rfl
set_option maxRecDepth 100000 in
theorem en_78 : (lwX cy q0 u0)[78]? = some (adx (lwA cy q0 u0) (lwA cy q0 u0 140) 78, toE (adx (lwA cy q0 u0) (lwA cy q0 u0 140)) cy av w0 78) := by
  rw [xa_78 cy q0 u0, toE_a (t := 3) (n := 100) rfl]
  rfl
set_option maxRecDepth 100000 in
theorem en_79 : (lwX cy q0 u0)[79]? = some (adx (lwA cy q0 u0) (lwA cy q0 u0 140) 79, toE (adx (lwA cy q0 u0) (lwA cy q0 u0 140)) cy av w0 79) := by
  rw [xa_79 cy q0 u0, toE_a (t := 0) (n := 6) rfl]
  rfl
set_option maxRecDepth 100000 in
theorem en_80 : (lwX cy q0 u0)[80]? = some (adx (lwA cy q0 u0) (lwA cy q0 u0 140) 80, toE (adx (lwA cy q0 u0) (lwA cy q0 u0 140)) cy av w0 80) := by
  rw [xa_80 cy q0 u0, toE_o (ci := 9) (ks := [some 81, some 82, some 83, some 84, some 85, some 86, some 87, some 88, some 89, some 90, none, none, none, none, none, none, none]) rfl]
  show _ = some (u0.2.2.2.1 4, Sum.inr (9, [Value.ref (adx (lwA cy q0 u0) (lwA cy q0 u0 140) 81), Value.ref (adx (lwA cy q0 u0) (lwA cy q0 u0 140) 82), Value.ref (adx (lwA cy q0 u0) (lwA cy q0 u0 140) 83), Value.ref (adx (lwA cy q0 u0) (lwA cy q0 u0 140) 84), Value.ref (adx (lwA cy q0 u0) (lwA cy q0 u0 140) 85), Value.ref (adx (lwA cy q0 u0) (lwA cy q0 u0 140) 86), Value.ref (adx (lwA cy q0 u0) (lwA cy q0 u0 140) 87), Value.ref (adx (lwA cy q0 u0) (lwA cy q0 u0 140) 88), Value.ref (adx (lwA cy q0 u0) (lwA cy q0 u0 140) 89), Value.ref (adx (lwA cy q0 u0) (lwA cy q0 u0 140) 90), Value.int (gI w0 80 10), Value.int (gI w0 80 11), Value.int (gI w0 80 12), Value.int (gI w0 80 13), Value.int (gI w0 80 14), Value.int (gI w0 80 15), Value.int (gI w0 80 16)]))
  rw [xa_81 cy q0 u0, xa_82 cy q0 u0, xa_83 cy q0 u0, xa_84 cy q0 u0, xa_85 cy q0 u0, xa_86 cy q0 u0, xa_87 cy q0 u0, xa_88 cy q0 u0, xa_89 cy q0 u0, xa_90 cy q0 u0]
  rfl
set_option maxRecDepth 100000 in
theorem en_81 : (lwX cy q0 u0)[81]? = some (adx (lwA cy q0 u0) (lwA cy q0 u0 140) 81, toE (adx (lwA cy q0 u0) (lwA cy q0 u0 140)) cy av w0 81) := by
  rw [xa_81 cy q0 u0, toE_a (t := 0) (n := 10) rfl]
  rfl
set_option maxRecDepth 100000 in
theorem en_82 : (lwX cy q0 u0)[82]? = some (adx (lwA cy q0 u0) (lwA cy q0 u0 140) 82, toE (adx (lwA cy q0 u0) (lwA cy q0 u0 140)) cy av w0 82) := by
  rw [xa_82 cy q0 u0, toE_a (t := 1) (n := 10) rfl]
  rfl
set_option maxRecDepth 100000 in
theorem en_83 : (lwX cy q0 u0)[83]? = some (adx (lwA cy q0 u0) (lwA cy q0 u0 140) 83, toE (adx (lwA cy q0 u0) (lwA cy q0 u0 140)) cy av w0 83) := by
  rw [xa_83 cy q0 u0, toE_a (t := 2) (n := 10) rfl]
  rfl
set_option maxRecDepth 100000 in
theorem en_84 : (lwX cy q0 u0)[84]? = some (adx (lwA cy q0 u0) (lwA cy q0 u0 140) 84, toE (adx (lwA cy q0 u0) (lwA cy q0 u0 140)) cy av w0 84) := by
  rw [xa_84 cy q0 u0, toE_a (t := 1) (n := 10) rfl]
  rfl
set_option maxRecDepth 100000 in
theorem en_85 : (lwX cy q0 u0)[85]? = some (adx (lwA cy q0 u0) (lwA cy q0 u0 140) 85, toE (adx (lwA cy q0 u0) (lwA cy q0 u0 140)) cy av w0 85) := by
  rw [xa_85 cy q0 u0, toE_a (t := 2) (n := 10) rfl]
  rfl
set_option maxRecDepth 100000 in
theorem en_86 : (lwX cy q0 u0)[86]? = some (adx (lwA cy q0 u0) (lwA cy q0 u0 140) 86, toE (adx (lwA cy q0 u0) (lwA cy q0 u0 140)) cy av w0 86) := by
  rw [xa_86 cy q0 u0, toE_a (t := 0) (n := 10) rfl]
  rfl
set_option maxRecDepth 100000 in
theorem en_87 : (lwX cy q0 u0)[87]? = some (adx (lwA cy q0 u0) (lwA cy q0 u0 140) 87, toE (adx (lwA cy q0 u0) (lwA cy q0 u0 140)) cy av w0 87) := by
  rw [xa_87 cy q0 u0, toE_a (t := 0) (n := 10) rfl]
  rfl
set_option maxRecDepth 100000 in
theorem en_88 : (lwX cy q0 u0)[88]? = some (adx (lwA cy q0 u0) (lwA cy q0 u0 140) 88, toE (adx (lwA cy q0 u0) (lwA cy q0 u0 140)) cy av w0 88) := by
  rw [xa_88 cy q0 u0, toE_a (t := 2) (n := 10) rfl]
  rfl
set_option maxRecDepth 100000 in
theorem en_89 : (lwX cy q0 u0)[89]? = some (adx (lwA cy q0 u0) (lwA cy q0 u0 140) 89, toE (adx (lwA cy q0 u0) (lwA cy q0 u0 140)) cy av w0 89) := by
  rw [xa_89 cy q0 u0, toE_a (t := 3) (n := 100) rfl]
  rfl
set_option maxRecDepth 100000 in
theorem en_90 : (lwX cy q0 u0)[90]? = some (adx (lwA cy q0 u0) (lwA cy q0 u0 140) 90, toE (adx (lwA cy q0 u0) (lwA cy q0 u0 140)) cy av w0 90) := by
  rw [xa_90 cy q0 u0, toE_a (t := 0) (n := 6) rfl]
  rfl
set_option maxRecDepth 100000 in
theorem en_91 : (lwX cy q0 u0)[91]? = some (adx (lwA cy q0 u0) (lwA cy q0 u0 140) 91, toE (adx (lwA cy q0 u0) (lwA cy q0 u0 140)) cy av w0 91) := by
  rw [xa_91 cy q0 u0, toE_o (ci := 9) (ks := [some 92, some 93, some 94, some 95, some 96, some 97, some 98, some 99, some 100, some 101, none, none, none, none, none, none, none]) rfl]
  show _ = some (u0.2.2.2.1 5, Sum.inr (9, [Value.ref (adx (lwA cy q0 u0) (lwA cy q0 u0 140) 92), Value.ref (adx (lwA cy q0 u0) (lwA cy q0 u0 140) 93), Value.ref (adx (lwA cy q0 u0) (lwA cy q0 u0 140) 94), Value.ref (adx (lwA cy q0 u0) (lwA cy q0 u0 140) 95), Value.ref (adx (lwA cy q0 u0) (lwA cy q0 u0 140) 96), Value.ref (adx (lwA cy q0 u0) (lwA cy q0 u0 140) 97), Value.ref (adx (lwA cy q0 u0) (lwA cy q0 u0 140) 98), Value.ref (adx (lwA cy q0 u0) (lwA cy q0 u0 140) 99), Value.ref (adx (lwA cy q0 u0) (lwA cy q0 u0 140) 100), Value.ref (adx (lwA cy q0 u0) (lwA cy q0 u0 140) 101), Value.int (gI w0 91 10), Value.int (gI w0 91 11), Value.int (gI w0 91 12), Value.int (gI w0 91 13), Value.int (gI w0 91 14), Value.int (gI w0 91 15), Value.int (gI w0 91 16)]))
  rw [xa_92 cy q0 u0, xa_93 cy q0 u0, xa_94 cy q0 u0, xa_95 cy q0 u0, xa_96 cy q0 u0, xa_97 cy q0 u0, xa_98 cy q0 u0, xa_99 cy q0 u0, xa_100 cy q0 u0, xa_101 cy q0 u0]
  rfl
set_option maxRecDepth 100000 in
theorem en_92 : (lwX cy q0 u0)[92]? = some (adx (lwA cy q0 u0) (lwA cy q0 u0 140) 92, toE (adx (lwA cy q0 u0) (lwA cy q0 u0 140)) cy av w0 92) := by
  rw [xa_92 cy q0 u0, toE_a (t := 0) (n := 10) rfl]
  rfl
set_option maxRecDepth 100000 in
theorem en_93 : (lwX cy q0 u0)[93]? = some (adx (lwA cy q0 u0) (lwA cy q0 u0 140) 93, toE (adx (lwA cy q0 u0) (lwA cy q0 u0 140)) cy av w0 93) := by
  rw [xa_93 cy q0 u0, toE_a (t := 1) (n := 10) rfl]
  rfl
set_option maxRecDepth 100000 in
theorem en_94 : (lwX cy q0 u0)[94]? = some (adx (lwA cy q0 u0) (lwA cy q0 u0 140) 94, toE (adx (lwA cy q0 u0) (lwA cy q0 u0 140)) cy av w0 94) := by
  rw [xa_94 cy q0 u0, toE_a (t := 2) (n := 10) rfl]
  rfl
set_option maxRecDepth 100000 in
theorem en_95 : (lwX cy q0 u0)[95]? = some (adx (lwA cy q0 u0) (lwA cy q0 u0 140) 95, toE (adx (lwA cy q0 u0) (lwA cy q0 u0 140)) cy av w0 95) := by
  rw [xa_95 cy q0 u0, toE_a (t := 1) (n := 10) rfl]
  rfl
set_option maxRecDepth 100000 in
theorem en_96 : (lwX cy q0 u0)[96]? = some (adx (lwA cy q0 u0) (lwA cy q0 u0 140) 96, toE (adx (lwA cy q0 u0) (lwA cy q0 u0 140)) cy av w0 96) := by
  rw [xa_96 cy q0 u0, toE_a (t := 2) (n := 10) rfl]
  rfl
set_option maxRecDepth 100000 in
theorem en_97 : (lwX cy q0 u0)[97]? = some (adx (lwA cy q0 u0) (lwA cy q0 u0 140) 97, toE (adx (lwA cy q0 u0) (lwA cy q0 u0 140)) cy av w0 97) := by
  rw [xa_97 cy q0 u0, toE_a (t := 0) (n := 10) rfl]
  rfl
set_option maxRecDepth 100000 in
theorem en_98 : (lwX cy q0 u0)[98]? = some (adx (lwA cy q0 u0) (lwA cy q0 u0 140) 98, toE (adx (lwA cy q0 u0) (lwA cy q0 u0 140)) cy av w0 98) := by
  rw [xa_98 cy q0 u0, toE_a (t := 0) (n := 10) rfl]
  rfl
set_option maxRecDepth 100000 in
theorem en_99 : (lwX cy q0 u0)[99]? = some (adx (lwA cy q0 u0) (lwA cy q0 u0 140) 99, toE (adx (lwA cy q0 u0) (lwA cy q0 u0 140)) cy av w0 99) := by
  rw [xa_99 cy q0 u0, toE_a (t := 2) (n := 10) rfl]
  rfl
set_option maxRecDepth 100000 in
theorem en_100 : (lwX cy q0 u0)[100]? = some (adx (lwA cy q0 u0) (lwA cy q0 u0 140) 100, toE (adx (lwA cy q0 u0) (lwA cy q0 u0 140)) cy av w0 100) := by
  rw [xa_100 cy q0 u0, toE_a (t := 3) (n := 100) rfl]
  rfl
set_option maxRecDepth 100000 in
theorem en_101 : (lwX cy q0 u0)[101]? = some (adx (lwA cy q0 u0) (lwA cy q0 u0 140) 101, toE (adx (lwA cy q0 u0) (lwA cy q0 u0 140)) cy av w0 101) := by
  rw [xa_101 cy q0 u0, toE_a (t := 0) (n := 6) rfl]
  rfl
set_option maxRecDepth 100000 in
theorem en_102 : (lwX cy q0 u0)[102]? = some (adx (lwA cy q0 u0) (lwA cy q0 u0 140) 102, toE (adx (lwA cy q0 u0) (lwA cy q0 u0 140)) cy av w0 102) := by
  rw [xa_102 cy q0 u0, toE_o (ci := 9) (ks := [some 103, some 104, some 105, some 106, some 107, some 108, some 109, some 110, some 111, some 112, none, none, none, none, none, none, none]) rfl]
  show _ = some (u0.2.2.2.1 6, Sum.inr (9, [Value.ref (adx (lwA cy q0 u0) (lwA cy q0 u0 140) 103), Value.ref (adx (lwA cy q0 u0) (lwA cy q0 u0 140) 104), Value.ref (adx (lwA cy q0 u0) (lwA cy q0 u0 140) 105), Value.ref (adx (lwA cy q0 u0) (lwA cy q0 u0 140) 106), Value.ref (adx (lwA cy q0 u0) (lwA cy q0 u0 140) 107), Value.ref (adx (lwA cy q0 u0) (lwA cy q0 u0 140) 108), Value.ref (adx (lwA cy q0 u0) (lwA cy q0 u0 140) 109), Value.ref (adx (lwA cy q0 u0) (lwA cy q0 u0 140) 110), Value.ref (adx (lwA cy q0 u0) (lwA cy q0 u0 140) 111), Value.ref (adx (lwA cy q0 u0) (lwA cy q0 u0 140) 112), Value.int (gI w0 102 10), Value.int (gI w0 102 11), Value.int (gI w0 102 12), Value.int (gI w0 102 13), Value.int (gI w0 102 14), Value.int (gI w0 102 15), Value.int (gI w0 102 16)]))
  rw [xa_103 cy q0 u0, xa_104 cy q0 u0, xa_105 cy q0 u0, xa_106 cy q0 u0, xa_107 cy q0 u0, xa_108 cy q0 u0, xa_109 cy q0 u0, xa_110 cy q0 u0, xa_111 cy q0 u0, xa_112 cy q0 u0]
  rfl
set_option maxRecDepth 100000 in
theorem en_103 : (lwX cy q0 u0)[103]? = some (adx (lwA cy q0 u0) (lwA cy q0 u0 140) 103, toE (adx (lwA cy q0 u0) (lwA cy q0 u0 140)) cy av w0 103) := by
  rw [xa_103 cy q0 u0, toE_a (t := 0) (n := 10) rfl]
  rfl
set_option maxRecDepth 100000 in
theorem en_104 : (lwX cy q0 u0)[104]? = some (adx (lwA cy q0 u0) (lwA cy q0 u0 140) 104, toE (adx (lwA cy q0 u0) (lwA cy q0 u0 140)) cy av w0 104) := by
  rw [xa_104 cy q0 u0, toE_a (t := 1) (n := 10) rfl]
  rfl
set_option maxRecDepth 100000 in
theorem en_105 : (lwX cy q0 u0)[105]? = some (adx (lwA cy q0 u0) (lwA cy q0 u0 140) 105, toE (adx (lwA cy q0 u0) (lwA cy q0 u0 140)) cy av w0 105) := by
  rw [xa_105 cy q0 u0, toE_a (t := 2) (n := 10) rfl]
  rfl
set_option maxRecDepth 100000 in
theorem en_106 : (lwX cy q0 u0)[106]? = some (adx (lwA cy q0 u0) (lwA cy q0 u0 140) 106, toE (adx (lwA cy q0 u0) (lwA cy q0 u0 140)) cy av w0 106) := by
  rw [xa_106 cy q0 u0, toE_a (t := 1) (n := 10) rfl]
  rfl
set_option maxRecDepth 100000 in
theorem en_107 : (lwX cy q0 u0)[107]? = some (adx (lwA cy q0 u0) (lwA cy q0 u0 140) 107, toE (adx (lwA cy q0 u0) (lwA cy q0 u0 140)) cy av w0 107) := by
  rw [xa_107 cy q0 u0, toE_a (t := 2) (n := 10) rfl]
  rfl
set_option maxRecDepth 100000 in
theorem en_108 : (lwX cy q0 u0)[108]? = some (adx (lwA cy q0 u0) (lwA cy q0 u0 140) 108, toE (adx (lwA cy q0 u0) (lwA cy q0 u0 140)) cy av w0 108) := by
  rw [xa_108 cy q0 u0, toE_a (t := 0) (n := 10) rfl]
  rfl
set_option maxRecDepth 100000 in
theorem en_109 : (lwX cy q0 u0)[109]? = some (adx (lwA cy q0 u0) (lwA cy q0 u0 140) 109, toE (adx (lwA cy q0 u0) (lwA cy q0 u0 140)) cy av w0 109) := by
  rw [xa_109 cy q0 u0, toE_a (t := 0) (n := 10) rfl]
  rfl
set_option maxRecDepth 100000 in
theorem en_110 : (lwX cy q0 u0)[110]? = some (adx (lwA cy q0 u0) (lwA cy q0 u0 140) 110, toE (adx (lwA cy q0 u0) (lwA cy q0 u0 140)) cy av w0 110) := by
  rw [xa_110 cy q0 u0, toE_a (t := 2) (n := 10) rfl]
  rfl
set_option maxRecDepth 100000 in
theorem en_111 : (lwX cy q0 u0)[111]? = some (adx (lwA cy q0 u0) (lwA cy q0 u0 140) 111, toE (adx (lwA cy q0 u0) (lwA cy q0 u0 140)) cy av w0 111) := by
  rw [xa_111 cy q0 u0, toE_a (t := 3) (n := 100) rfl]
  rfl
set_option maxRecDepth 100000 in
theorem en_112 : (lwX cy q0 u0)[112]? = some (adx (lwA cy q0 u0) (lwA cy q0 u0 140) 112, toE (adx (lwA cy q0 u0) (lwA cy q0 u0 140)) cy av w0 112) := by
  rw [xa_112 cy q0 u0, toE_a (t := 0) (n := 6) rfl]
  rfl
set_option maxRecDepth 100000 in
theorem en_113 : (lwX cy q0 u0)[113]? = some (adx (lwA cy q0 u0) (lwA cy q0 u0 140) 113, toE (adx (lwA cy q0 u0) (lwA cy q0 u0 140)) cy av w0 113) := by
  rw [xa_113 cy q0 u0, toE_o (ci := 9) (ks := [some 114, some 115, some 116, some 117, some 118, some 119, some 120, some 121, some 122, some 123, none, none, none, none, none, none, none]) rfl]
  show _ = some (u0.2.2.2.1 7, Sum.inr (9, [Value.ref (adx (lwA cy q0 u0) (lwA cy q0 u0 140) 114), Value.ref (adx (lwA cy q0 u0) (lwA cy q0 u0 140) 115), Value.ref (adx (lwA cy q0 u0) (lwA cy q0 u0 140) 116), Value.ref (adx (lwA cy q0 u0) (lwA cy q0 u0 140) 117), Value.ref (adx (lwA cy q0 u0) (lwA cy q0 u0 140) 118), Value.ref (adx (lwA cy q0 u0) (lwA cy q0 u0 140) 119), Value.ref (adx (lwA cy q0 u0) (lwA cy q0 u0 140) 120), Value.ref (adx (lwA cy q0 u0) (lwA cy q0 u0 140) 121), Value.ref (adx (lwA cy q0 u0) (lwA cy q0 u0 140) 122), Value.ref (adx (lwA cy q0 u0) (lwA cy q0 u0 140) 123), Value.int (gI w0 113 10), Value.int (gI w0 113 11), Value.int (gI w0 113 12), Value.int (gI w0 113 13), Value.int (gI w0 113 14), Value.int (gI w0 113 15), Value.int (gI w0 113 16)]))
  rw [xa_114 cy q0 u0, xa_115 cy q0 u0, xa_116 cy q0 u0, xa_117 cy q0 u0, xa_118 cy q0 u0, xa_119 cy q0 u0, xa_120 cy q0 u0, xa_121 cy q0 u0, xa_122 cy q0 u0, xa_123 cy q0 u0]
  rfl
set_option maxRecDepth 100000 in
theorem en_114 : (lwX cy q0 u0)[114]? = some (adx (lwA cy q0 u0) (lwA cy q0 u0 140) 114, toE (adx (lwA cy q0 u0) (lwA cy q0 u0 140)) cy av w0 114) := by
  rw [xa_114 cy q0 u0, toE_a (t := 0) (n := 10) rfl]
  rfl
set_option maxRecDepth 100000 in
theorem en_115 : (lwX cy q0 u0)[115]? = some (adx (lwA cy q0 u0) (lwA cy q0 u0 140) 115, toE (adx (lwA cy q0 u0) (lwA cy q0 u0 140)) cy av w0 115) := by
  rw [xa_115 cy q0 u0, toE_a (t := 1) (n := 10) rfl]
  rfl
set_option maxRecDepth 100000 in
theorem en_116 : (lwX cy q0 u0)[116]? = some (adx (lwA cy q0 u0) (lwA cy q0 u0 140) 116, toE (adx (lwA cy q0 u0) (lwA cy q0 u0 140)) cy av w0 116) := by
  rw [xa_116 cy q0 u0, toE_a (t := 2) (n := 10) rfl]
  rfl
set_option maxRecDepth 100000 in
theorem en_117 : (lwX cy q0 u0)[117]? = some (adx (lwA cy q0 u0) (lwA cy q0 u0 140) 117, toE (adx (lwA cy q0 u0) (lwA cy q0 u0 140)) cy av w0 117) := by
  rw [xa_117 cy q0 u0, toE_a (t := 1) (n := 10) rfl]
  rfl
set_option maxRecDepth 100000 in
theorem en_118 : (lwX cy q0 u0)[118]? = some (adx (lwA cy q0 u0) (lwA cy q0 u0 140) 118, toE (adx (lwA cy q0 u0) (lwA cy q0 u0 140)) cy av w0 118) := by
  rw [xa_118 cy q0 u0, toE_a (t := 2) (n := 10) rfl]
  rfl
set_option maxRecDepth 100000 in
theorem en_119 : (lwX cy q0 u0)[119]? = some (adx (lwA cy q0 u0) (lwA cy q0 u0 140) 119, toE (adx (lwA cy q0 u0) (lwA cy q0 u0 140)) cy av w0 119) := by
  rw [xa_119 cy q0 u0, toE_a (t := 0) (n := 10) rfl]
  rfl
set_option maxRecDepth 100000 in
theorem en_120 : (lwX cy q0 u0)[120]? = some (adx (lwA cy q0 u0) (lwA cy q0 u0 140) 120, toE (adx (lwA cy q0 u0) (lwA cy q0 u0 140)) cy av w0 120) := by
  rw [xa_120 cy q0 u0, toE_a (t := 0) (n := 10) rfl]
  rfl
set_option maxRecDepth 100000 in
theorem en_121 : (lwX cy q0 u0)[121]? = some (adx (lwA cy q0 u0) (lwA cy q0 u0 140) 121, toE (adx (lwA cy q0 u0) (lwA cy q0 u0 140)) cy av w0 121) := by
  rw [xa_121 cy q0 u0, toE_a (t := 2) (n := 10) rfl]
  rfl
set_option maxRecDepth 100000 in
theorem en_122 : (lwX cy q0 u0)[122]? = some (adx (lwA cy q0 u0) (lwA cy q0 u0 140) 122, toE (adx (lwA cy q0 u0) (lwA cy q0 u0 140)) cy av w0 122) := by
  rw [xa_122 cy q0 u0, toE_a (t := 3) (n := 100) rfl]
  rfl
set_option maxRecDepth 100000 in
theorem en_123 : (lwX cy q0 u0)[123]? = some (adx (lwA cy q0 u0) (lwA cy q0 u0 140) 123, toE (adx (lwA cy q0 u0) (lwA cy q0 u0 140)) cy av w0 123) := by
  rw [xa_123 cy q0 u0, toE_a (t := 0) (n := 6) rfl]
  rfl
set_option maxRecDepth 100000 in
theorem en_124 : (lwX cy q0 u0)[124]? = some (adx (lwA cy q0 u0) (lwA cy q0 u0 140) 124, toE (adx (lwA cy q0 u0) (lwA cy q0 u0 140)) cy av w0 124) := by
  rw [xa_124 cy q0 u0, toE_o (ci := 10) (ks := [some 125, some 126, none]) rfl]
  show _ = some (u0.1 4, Sum.inr (10, [Value.ref (adx (lwA cy q0 u0) (lwA cy q0 u0 140) 125), Value.ref (adx (lwA cy q0 u0) (lwA cy q0 u0 140) 126), Value.int (gI w0 124 2)]))
  rw [xa_125 cy q0 u0, xa_126 cy q0 u0]
  rfl
set_option maxRecDepth 100000 in
theorem en_125 : (lwX cy q0 u0)[125]? = some (adx (lwA cy q0 u0) (lwA cy q0 u0 140) 125, toE (adx (lwA cy q0 u0) (lwA cy q0 u0 140)) cy av w0 125) := by
  rw [xa_125 cy q0 u0, toE_a (t := 1) (n := 10) rfl]
  rfl
set_option maxRecDepth 100000 in
theorem en_126 : (lwX cy q0 u0)[126]? = some (adx (lwA cy q0 u0) (lwA cy q0 u0 140) 126, toE (adx (lwA cy q0 u0) (lwA cy q0 u0 140)) cy av w0 126) := by
  rw [xa_126 cy q0 u0, toE_a (t := 0) (n := 10) rfl]
  rfl
set_option maxRecDepth 100000 in
theorem en_127 : (lwX cy q0 u0)[127]? = some (adx (lwA cy q0 u0) (lwA cy q0 u0 140) 127, toE (adx (lwA cy q0 u0) (lwA cy q0 u0 140)) cy av w0 127) := by
  rw [xa_127 cy q0 u0, toE_o (ci := 4) (ks := [some 1, some 124]) rfl]
  show _ = some (u0.1 5, Sum.inr (4, [Value.ref (adx (lwA cy q0 u0) (lwA cy q0 u0 140) 1), Value.ref (adx (lwA cy q0 u0) (lwA cy q0 u0 140) 124)]))
  rw [xa_1 cy q0 u0, xa_124 cy q0 u0]
  rfl
set_option maxRecDepth 100000 in
theorem en_128 : (lwX cy q0 u0)[128]? = some (adx (lwA cy q0 u0) (lwA cy q0 u0 140) 128, toE (adx (lwA cy q0 u0) (lwA cy q0 u0 140)) cy av w0 128) := by
  rw [xa_128 cy q0 u0, toE_o (ci := 5) (ks := [some 1, some 124]) rfl]
  show _ = some (u0.1 6, Sum.inr (5, [Value.ref (adx (lwA cy q0 u0) (lwA cy q0 u0 140) 1), Value.ref (adx (lwA cy q0 u0) (lwA cy q0 u0 140) 124)]))
  rw [xa_1 cy q0 u0, xa_124 cy q0 u0]
  rfl
set_option maxRecDepth 100000 in
theorem en_129 : (lwX cy q0 u0)[129]? = some (adx (lwA cy q0 u0) (lwA cy q0 u0 140) 129, toE (adx (lwA cy q0 u0) (lwA cy q0 u0 140)) cy av w0 129) := by
  rw [xa_129 cy q0 u0, toE_o (ci := 7) (ks := [some 1, some 130, some 131, some 132, some 133, none]) rfl]
  show _ = some (u0.1 7, Sum.inr (7, [Value.ref (adx (lwA cy q0 u0) (lwA cy q0 u0 140) 1), Value.ref (adx (lwA cy q0 u0) (lwA cy q0 u0 140) 130), Value.ref (adx (lwA cy q0 u0) (lwA cy q0 u0 140) 131), Value.ref (adx (lwA cy q0 u0) (lwA cy q0 u0 140) 132), Value.ref (adx (lwA cy q0 u0) (lwA cy q0 u0 140) 133), Value.int (gI w0 129 5)]))
  rw [xa_1 cy q0 u0, xa_130 cy q0 u0, xa_131 cy q0 u0, xa_132 cy q0 u0, xa_133 cy q0 u0]
  rfl
set_option maxRecDepth 100000 in
theorem en_130 : (lwX cy q0 u0)[130]? = some (adx (lwA cy q0 u0) (lwA cy q0 u0 140) 130, toE (adx (lwA cy q0 u0) (lwA cy q0 u0 140)) cy av w0 130) := by
  rw [xa_130 cy q0 u0, toE_a (t := 0) (n := 90) rfl]
  rfl
set_option maxRecDepth 100000 in
theorem en_131 : (lwX cy q0 u0)[131]? = some (adx (lwA cy q0 u0) (lwA cy q0 u0 140) 131, toE (adx (lwA cy q0 u0) (lwA cy q0 u0 140)) cy av w0 131) := by
  rw [xa_131 cy q0 u0, toE_a (t := 0) (n := 90) rfl]
  rfl
set_option maxRecDepth 100000 in
theorem en_132 : (lwX cy q0 u0)[132]? = some (adx (lwA cy q0 u0) (lwA cy q0 u0 140) 132, toE (adx (lwA cy q0 u0) (lwA cy q0 u0 140)) cy av w0 132) := by
  rw [xa_132 cy q0 u0, toE_a (t := 0) (n := 90) rfl]
  rfl
set_option maxRecDepth 100000 in
theorem en_133 : (lwX cy q0 u0)[133]? = some (adx (lwA cy q0 u0) (lwA cy q0 u0 140) 133, toE (adx (lwA cy q0 u0) (lwA cy q0 u0 140)) cy av w0 133) := by
  rw [xa_133 cy q0 u0, toE_a (t := 0) (n := 90) rfl]
  rfl
set_option maxRecDepth 100000 in
theorem en_134 : (lwX cy q0 u0)[134]? = some (adx (lwA cy q0 u0) (lwA cy q0 u0 140) 134, toE (adx (lwA cy q0 u0) (lwA cy q0 u0 140)) cy av w0 134) := by
  rw [xa_134 cy q0 u0, toE_o (ci := 8) (ks := [some 135, none, none, some 136, some 137, some 138, none, none]) rfl]
  show _ = some (u0.1 8, Sum.inr (8, [Value.ref (adx (lwA cy q0 u0) (lwA cy q0 u0 140) 135), Value.int (gI w0 134 1), Value.int (gI w0 134 2), Value.ref (adx (lwA cy q0 u0) (lwA cy q0 u0 140) 136), Value.ref (adx (lwA cy q0 u0) (lwA cy q0 u0 140) 137), Value.ref (adx (lwA cy q0 u0) (lwA cy q0 u0 140) 138), Value.int (gI w0 134 6), Value.int (gI w0 134 7)]))
  rw [xa_135 cy q0 u0, xa_136 cy q0 u0, xa_137 cy q0 u0, xa_138 cy q0 u0]
  rfl
set_option maxRecDepth 100000 in
theorem en_135 : (lwX cy q0 u0)[135]? = some (adx (lwA cy q0 u0) (lwA cy q0 u0 140) 135, toE (adx (lwA cy q0 u0) (lwA cy q0 u0 140)) cy av w0 135) := by
  rw [xa_135 cy q0 u0, toE_a (t := 3) (n := 60) rfl]
  rfl
set_option maxRecDepth 100000 in
theorem en_136 : (lwX cy q0 u0)[136]? = some (adx (lwA cy q0 u0) (lwA cy q0 u0 140) 136, toE (adx (lwA cy q0 u0) (lwA cy q0 u0 140)) cy av w0 136) := by
  rw [xa_136 cy q0 u0, toE_a (t := 7) (n := 60) rfl]
  rfl
set_option maxRecDepth 100000 in
theorem en_137 : (lwX cy q0 u0)[137]? = some (adx (lwA cy q0 u0) (lwA cy q0 u0 140) 137, toE (adx (lwA cy q0 u0) (lwA cy q0 u0 140)) cy av w0 137) := by
  rw [xa_137 cy q0 u0, toE_a (t := 0) (n := 60) rfl]
  rfl
set_option maxRecDepth 100000 in
theorem en_138 : (lwX cy q0 u0)[138]? = some (adx (lwA cy q0 u0) (lwA cy q0 u0 140) 138, toE (adx (lwA cy q0 u0) (lwA cy q0 u0 140)) cy av w0 138) := by
  rw [xa_138 cy q0 u0, toE_a (t := 0) (n := 60) rfl]
  rfl
set_option maxRecDepth 100000 in
theorem en_139 : (lwX cy q0 u0)[139]? = some (adx (lwA cy q0 u0) (lwA cy q0 u0 140) 139, toE (adx (lwA cy q0 u0) (lwA cy q0 u0 140)) cy av w0 139) := by
  rw [xa_139 cy q0 u0, toE_o (ci := 1) (ks := [some 140, none, none, none]) rfl]
  show _ = some (u0.1 9, Sum.inr (1, [Value.ref (adx (lwA cy q0 u0) (lwA cy q0 u0 140) 140), Value.int (gI w0 139 1), Value.int (gI w0 139 2), Value.int (gI w0 139 3)]))
  rw [xa_140 cy q0 u0]
  rfl
set_option maxRecDepth 100000 in
theorem en_140 : (lwX cy q0 u0)[140]? = some (adx (lwA cy q0 u0) (lwA cy q0 u0 140) 140, toE (adx (lwA cy q0 u0) (lwA cy q0 u0 140)) cy av w0 140) := by
  rw [xa_140 cy q0 u0, toE_a (t := 4) (n := 16) rfl]
  rfl
set_option maxRecDepth 100000 in
theorem en_35 : (lwX cy q0 u0)[35]? = some (u0.2.2.1, .inl (cy 6, 8, .inr (.inr (.inr (.inr (fun i => some (u0.2.2.2.1 i))))))) := rfl
theorem st_35 : toE (adx (lwA cy q0 u0) (lwA cy q0 u0 140)) cy av w0 35 = .inl (cy 6, 8, .inr (.inr (.inr (.inr (fun i => some (adx (lwA cy q0 u0) (lwA cy q0 u0 140) (36 + 11 * i))))))) := by
  rw [toE_a (t := 6) (n := 8) rfl]
  rfl
theorem lwM_at (n : Nat) (hn : n < 141) (h35 : n ≠ 35) : (lwX cy q0 u0)[n]? = some (adx (lwA cy q0 u0) (lwA cy q0 u0 140) n, toE (adx (lwA cy q0 u0) (lwA cy q0 u0 140)) cy av w0 n) := match n, hn, h35 with
  | 0, _, _ => en_0 cy av q0 u0
  | 1, _, _ => en_1 cy av q0 u0
  | 2, _, _ => en_2 cy av q0 u0
  | 3, _, _ => en_3 cy av q0 u0
  | 4, _, _ => en_4 cy av q0 u0
  | 5, _, _ => en_5 cy av q0 u0
  | 6, _, _ => en_6 cy av q0 u0
  | 7, _, _ => en_7 cy av q0 u0
  | 8, _, _ => en_8 cy av q0 u0
  | 9, _, _ => en_9 cy av q0 u0
  | 10, _, _ => en_10 cy av q0 u0
  | 11, _, _ => en_11 cy av q0 u0
  | 12, _, _ => en_12 cy av q0 u0
  | 13, _, _ => en_13 cy av q0 u0
  | 14, _, _ => en_14 cy av q0 u0
  | 15, _, _ => en_15 cy av q0 u0
  | 16, _, _ => en_16 cy av q0 u0
  | 17, _, _ => en_17 cy av q0 u0
  | 18, _, _ => en_18 cy av q0 u0
  | 19, _, _ => en_19 cy av q0 u0
  | 20, _, _ => en_20 cy av q0 u0
  | 21, _, _ => en_21 cy av q0 u0
  | 22, _, _ => en_22 cy av q0 u0
  | 23, _, _ => en_23 cy av q0 u0
  | 24, _, _ => en_24 cy av q0 u0
  | 25, _, _ => en_25 cy av q0 u0
  | 26, _, _ => en_26 cy av q0 u0
  | 27, _, _ => en_27 cy av q0 u0
  | 28, _, _ => en_28 cy av q0 u0
  | 29, _, _ => en_29 cy av q0 u0
  | 30, _, _ => en_30 cy av q0 u0
  | 31, _, _ => en_31 cy av q0 u0
  | 32, _, _ => en_32 cy av q0 u0
  | 33, _, _ => en_33 cy av q0 u0
  | 34, _, _ => en_34 cy av q0 u0
  | 36, _, _ => en_36 cy av q0 u0
  | 37, _, _ => en_37 cy av q0 u0
  | 38, _, _ => en_38 cy av q0 u0
  | 39, _, _ => en_39 cy av q0 u0
  | 40, _, _ => en_40 cy av q0 u0
  | 41, _, _ => en_41 cy av q0 u0
  | 42, _, _ => en_42 cy av q0 u0
  | 43, _, _ => en_43 cy av q0 u0
  | 44, _, _ => en_44 cy av q0 u0
  | 45, _, _ => en_45 cy av q0 u0
  | 46, _, _ => en_46 cy av q0 u0
  | 47, _, _ => en_47 cy av q0 u0
  | 48, _, _ => en_48 cy av q0 u0
  | 49, _, _ => en_49 cy av q0 u0
  | 50, _, _ => en_50 cy av q0 u0
  | 51, _, _ => en_51 cy av q0 u0
  | 52, _, _ => en_52 cy av q0 u0
  | 53, _, _ => en_53 cy av q0 u0
  | 54, _, _ => en_54 cy av q0 u0
  | 55, _, _ => en_55 cy av q0 u0
  | 56, _, _ => en_56 cy av q0 u0
  | 57, _, _ => en_57 cy av q0 u0
  | 58, _, _ => en_58 cy av q0 u0
  | 59, _, _ => en_59 cy av q0 u0
  | 60, _, _ => en_60 cy av q0 u0
  | 61, _, _ => en_61 cy av q0 u0
  | 62, _, _ => en_62 cy av q0 u0
  | 63, _, _ => en_63 cy av q0 u0
  | 64, _, _ => en_64 cy av q0 u0
  | 65, _, _ => en_65 cy av q0 u0
  | 66, _, _ => en_66 cy av q0 u0
  | 67, _, _ => en_67 cy av q0 u0
  | 68, _, _ => en_68 cy av q0 u0
  | 69, _, _ => en_69 cy av q0 u0
  | 70, _, _ => en_70 cy av q0 u0
  | 71, _, _ => en_71 cy av q0 u0
  | 72, _, _ => en_72 cy av q0 u0
  | 73, _, _ => en_73 cy av q0 u0
  | 74, _, _ => en_74 cy av q0 u0
  | 75, _, _ => en_75 cy av q0 u0
  | 76, _, _ => en_76 cy av q0 u0
  | 77, _, _ => en_77 cy av q0 u0
  | 78, _, _ => en_78 cy av q0 u0
  | 79, _, _ => en_79 cy av q0 u0
  | 80, _, _ => en_80 cy av q0 u0
  | 81, _, _ => en_81 cy av q0 u0
  | 82, _, _ => en_82 cy av q0 u0
  | 83, _, _ => en_83 cy av q0 u0
  | 84, _, _ => en_84 cy av q0 u0
  | 85, _, _ => en_85 cy av q0 u0
  | 86, _, _ => en_86 cy av q0 u0
  | 87, _, _ => en_87 cy av q0 u0
  | 88, _, _ => en_88 cy av q0 u0
  | 89, _, _ => en_89 cy av q0 u0
  | 90, _, _ => en_90 cy av q0 u0
  | 91, _, _ => en_91 cy av q0 u0
  | 92, _, _ => en_92 cy av q0 u0
  | 93, _, _ => en_93 cy av q0 u0
  | 94, _, _ => en_94 cy av q0 u0
  | 95, _, _ => en_95 cy av q0 u0
  | 96, _, _ => en_96 cy av q0 u0
  | 97, _, _ => en_97 cy av q0 u0
  | 98, _, _ => en_98 cy av q0 u0
  | 99, _, _ => en_99 cy av q0 u0
  | 100, _, _ => en_100 cy av q0 u0
  | 101, _, _ => en_101 cy av q0 u0
  | 102, _, _ => en_102 cy av q0 u0
  | 103, _, _ => en_103 cy av q0 u0
  | 104, _, _ => en_104 cy av q0 u0
  | 105, _, _ => en_105 cy av q0 u0
  | 106, _, _ => en_106 cy av q0 u0
  | 107, _, _ => en_107 cy av q0 u0
  | 108, _, _ => en_108 cy av q0 u0
  | 109, _, _ => en_109 cy av q0 u0
  | 110, _, _ => en_110 cy av q0 u0
  | 111, _, _ => en_111 cy av q0 u0
  | 112, _, _ => en_112 cy av q0 u0
  | 113, _, _ => en_113 cy av q0 u0
  | 114, _, _ => en_114 cy av q0 u0
  | 115, _, _ => en_115 cy av q0 u0
  | 116, _, _ => en_116 cy av q0 u0
  | 117, _, _ => en_117 cy av q0 u0
  | 118, _, _ => en_118 cy av q0 u0
  | 119, _, _ => en_119 cy av q0 u0
  | 120, _, _ => en_120 cy av q0 u0
  | 121, _, _ => en_121 cy av q0 u0
  | 122, _, _ => en_122 cy av q0 u0
  | 123, _, _ => en_123 cy av q0 u0
  | 124, _, _ => en_124 cy av q0 u0
  | 125, _, _ => en_125 cy av q0 u0
  | 126, _, _ => en_126 cy av q0 u0
  | 127, _, _ => en_127 cy av q0 u0
  | 128, _, _ => en_128 cy av q0 u0
  | 129, _, _ => en_129 cy av q0 u0
  | 130, _, _ => en_130 cy av q0 u0
  | 131, _, _ => en_131 cy av q0 u0
  | 132, _, _ => en_132 cy av q0 u0
  | 133, _, _ => en_133 cy av q0 u0
  | 134, _, _ => en_134 cy av q0 u0
  | 135, _, _ => en_135 cy av q0 u0
  | 136, _, _ => en_136 cy av q0 u0
  | 137, _, _ => en_137 cy av q0 u0
  | 138, _, _ => en_138 cy av q0 u0
  | 139, _, _ => en_139 cy av q0 u0
  | 140, _, _ => en_140 cy av q0 u0
  | 35, _, h => absurd rfl h
  | n + 141, h, _ => absurd h (by omega)
theorem lwM_ws : (lwX cy q0 u0).set 35 (adx (lwA cy q0 u0) (lwA cy q0 u0 140) 35, toE (adx (lwA cy q0 u0) (lwA cy q0 u0 140)) cy av w0 35) = wsOf (adx (lwA cy q0 u0) (lwA cy q0 u0 140)) cy av w0 := by
  apply List.ext_getElem?
  intro n
  by_cases hn : n < 141
  · rw [ws_at hn]
    by_cases h35 : n = 35
    · subst h35
      have e := en_35 cy q0 u0
      exact List.getElem?_set_self (List.getElem?_eq_some_iff.mp e).1
    · rw [List.getElem?_set_ne (fun z => h35 z.symm)]
      exact lwM_at cy av q0 u0 n hn h35
  · rw [List.getElem?_eq_none (by rw [List.length_set]; show 141 ≤ n; omega), List.getElem?_eq_none (by unfold wsOf; rw [List.length_map, List.length_range]; omega)]
theorem lw_wsP {D : va_G} {cl : List vw_C} {H : Heap} (hP : va_P D cl (lwL cy q0 u0) H) : va_P D cl (wsOf (adx (lwA cy q0 u0) (lwA cy q0 u0 140)) cy av w0) H := by
  rw [lwL_X] at hP
  rw [← lwM_ws cy av q0 u0, st_35, xa_35]
  exact ct_ext 35 hP (en_35 cy q0 u0) (fun i hi => match i, hi with
    | 0, _ => by show some (u0.2.2.2.1 0) = some (adx (lwA cy q0 u0) (lwA cy q0 u0 140) 36); rw [xa_36 cy q0 u0]
    | 1, _ => by show some (u0.2.2.2.1 1) = some (adx (lwA cy q0 u0) (lwA cy q0 u0 140) 47); rw [xa_47 cy q0 u0]
    | 2, _ => by show some (u0.2.2.2.1 2) = some (adx (lwA cy q0 u0) (lwA cy q0 u0 140) 58); rw [xa_58 cy q0 u0]
    | 3, _ => by show some (u0.2.2.2.1 3) = some (adx (lwA cy q0 u0) (lwA cy q0 u0 140) 69); rw [xa_69 cy q0 u0]
    | 4, _ => by show some (u0.2.2.2.1 4) = some (adx (lwA cy q0 u0) (lwA cy q0 u0 140) 80); rw [xa_80 cy q0 u0]
    | 5, _ => by show some (u0.2.2.2.1 5) = some (adx (lwA cy q0 u0) (lwA cy q0 u0 140) 91); rw [xa_91 cy q0 u0]
    | 6, _ => by show some (u0.2.2.2.1 6) = some (adx (lwA cy q0 u0) (lwA cy q0 u0 140) 102); rw [xa_102 cy q0 u0]
    | 7, _ => by show some (u0.2.2.2.1 7) = some (adx (lwA cy q0 u0) (lwA cy q0 u0 140) 113); rw [xa_113 cy q0 u0]
    | n + 8, h => absurd h (by omega))
theorem lw_wsD {Z : Nat → Prop} (hD : va_D Z (lwL cy q0 u0)) : va_D Z (wsOf (adx (lwA cy q0 u0) (lwA cy q0 u0 140)) cy av w0) := by
  rw [lwL_X] at hD
  rw [← lwM_ws cy av q0 u0]
  have key : ∀ (i : Nat) (p : Nat × va_E), ((lwX cy q0 u0).set 35 (adx (lwA cy q0 u0) (lwA cy q0 u0 140) 35, toE (adx (lwA cy q0 u0) (lwA cy q0 u0 140)) cy av w0 35))[i]? = some p → ∃ p2, (lwX cy q0 u0)[i]? = some p2 ∧ p2.1 = p.1 := by
    intro i p h
    by_cases h35 : i = 35
    · subst h35
      have e := en_35 cy q0 u0
      rw [List.getElem?_set_self (List.getElem?_eq_some_iff.mp e).1] at h
      cases h
      exact ⟨_, e, (xa_35 cy q0 u0).symm⟩
    · rw [List.getElem?_set_ne (fun z => h35 z.symm)] at h
      exact ⟨p, h, rfl⟩
  refine ⟨fun i j p q hp hq e => ?_, fun k q hq => ?_⟩
  · obtain ⟨p2, a1, a2⟩ := key i p hp
    obtain ⟨q2, b1, b2⟩ := key j q hq
    exact hD.1 i j p2 q2 a1 b1 (by rw [a2, b2]; exact e)
  · obtain ⟨q2, b1, b2⟩ := key k q hq
    rw [← b2]
    exact hD.2 k q2 b1
end
