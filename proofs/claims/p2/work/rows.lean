section
/-! THE WORLD: one value for all cells of the system, the law and the reference; what the written functions are made of -/
abbrev Wd : Type := (Nat → Nat → Int32) × (Nat → Nat → Int64) × (Nat → Option Nat) × (Nat → UInt64) × Nat
def gI (w : Wd) (k i : Nat) : Int32 := w.1 k i
def gL (w : Wd) (k i : Nat) : Int64 := w.2.1 k i
def gV (w : Wd) (i : Nat) : Option Nat := w.2.2.1 i
def gD (w : Wd) (i : Nat) : UInt64 := w.2.2.2.1 i
def gC (w : Wd) : Nat := w.2.2.2.2
def uI (w : Wd) (k i : Nat) (v : Int32) : Wd := (fun a b => if a = k ∧ b = i then v else w.1 a b, w.2)
def uL (w : Wd) (k i : Nat) (v : Int64) : Wd := (w.1, fun a b => if a = k ∧ b = i then v else w.2.1 a b, w.2.2)
def uV (w : Wd) (i : Nat) (v : Option Nat) : Wd := (w.1, w.2.1, fun b => if b = i then v else w.2.2.1 b, w.2.2.2)
def uD (w : Wd) (i : Nat) (v : UInt64) : Wd := (w.1, w.2.1, w.2.2.1, fun b => if b = i then v else w.2.2.2.1 b, w.2.2.2.2)
def uC (w : Wd) (n : Nat) : Wd := (w.1, w.2.1, w.2.2.1, w.2.2.2.1, n)
theorem gI_uI (w : Wd) (k i : Nat) (v : Int32) (a b : Nat) : gI (uI w k i v) a b = if a = k ∧ b = i then v else gI w a b := rfl
theorem gI_uL (w : Wd) (k i : Nat) (v : Int64) (a b : Nat) : gI (uL w k i v) a b = gI w a b := rfl
theorem gI_uV (w : Wd) (i : Nat) (v : Option Nat) (a b : Nat) : gI (uV w i v) a b = gI w a b := rfl
theorem gI_uD (w : Wd) (i : Nat) (v : UInt64) (a b : Nat) : gI (uD w i v) a b = gI w a b := rfl
theorem gI_uC (w : Wd) (n : Nat) (a b : Nat) : gI (uC w n) a b = gI w a b := rfl
theorem gL_uI (w : Wd) (k i : Nat) (v : Int32) (a b : Nat) : gL (uI w k i v) a b = gL w a b := rfl
theorem gL_uL (w : Wd) (k i : Nat) (v : Int64) (a b : Nat) : gL (uL w k i v) a b = if a = k ∧ b = i then v else gL w a b := rfl
theorem gL_uV (w : Wd) (i : Nat) (v : Option Nat) (a b : Nat) : gL (uV w i v) a b = gL w a b := rfl
theorem gL_uD (w : Wd) (i : Nat) (v : UInt64) (a b : Nat) : gL (uD w i v) a b = gL w a b := rfl
theorem gL_uC (w : Wd) (n : Nat) (a b : Nat) : gL (uC w n) a b = gL w a b := rfl
theorem gV_uI (w : Wd) (k i : Nat) (v : Int32) (b : Nat) : gV (uI w k i v) b = gV w b := rfl
theorem gV_uL (w : Wd) (k i : Nat) (v : Int64) (b : Nat) : gV (uL w k i v) b = gV w b := rfl
theorem gV_uV (w : Wd) (i : Nat) (v : Option Nat) (b : Nat) : gV (uV w i v) b = if b = i then v else gV w b := rfl
theorem gV_uD (w : Wd) (i : Nat) (v : UInt64) (b : Nat) : gV (uD w i v) b = gV w b := rfl
theorem gV_uC (w : Wd) (n : Nat) (b : Nat) : gV (uC w n) b = gV w b := rfl
theorem gD_uI (w : Wd) (k i : Nat) (v : Int32) (b : Nat) : gD (uI w k i v) b = gD w b := rfl
theorem gD_uL (w : Wd) (k i : Nat) (v : Int64) (b : Nat) : gD (uL w k i v) b = gD w b := rfl
theorem gD_uV (w : Wd) (i : Nat) (v : Option Nat) (b : Nat) : gD (uV w i v) b = gD w b := rfl
theorem gD_uD (w : Wd) (i : Nat) (v : UInt64) (b : Nat) : gD (uD w i v) b = if b = i then v else gD w b := rfl
theorem gD_uC (w : Wd) (n : Nat) (b : Nat) : gD (uC w n) b = gD w b := rfl
theorem gC_uI (w : Wd) (k i : Nat) (v : Int32) : gC (uI w k i v) = gC w := rfl
theorem gC_uL (w : Wd) (k i : Nat) (v : Int64) : gC (uL w k i v) = gC w := rfl
theorem gC_uV (w : Wd) (i : Nat) (v : Option Nat) : gC (uV w i v) = gC w := rfl
theorem gC_uD (w : Wd) (i : Nat) (v : UInt64) : gC (uD w i v) = gC w := rfl
theorem gC_uC (w : Wd) (n : Nat) : gC (uC w n) = n := rfl
def cTeeth : List Int32 := [6, 8, 10, 12, 15, 20, 24, 30, 40, 60]
def cShapes : List Int32 := [0, 2, 2, 2, 3, 3, 1, 3, 1, 1, 1, 0, 1]
def cLens : List Nat := [5, 5, 5, 4, 7, 5, 8, 4, 8, 5, 4, 4, 7]
def cWords : List (List Int32) := [[103, 101, 97, 114, 32], [109, 101, 115, 104, 32], [97, 120, 108, 101, 32], [99, 117, 116, 32], [115, 112, 114, 105, 110, 103, 32], [119, 105, 110, 100, 32], [114, 101, 118, 101, 114, 115, 101, 32], [114, 117, 110, 32], [114, 97, 116, 99, 104, 101, 116, 32], [102, 114, 101, 101, 32], [111, 105, 108, 32], [98, 117, 121, 32], [112, 108, 97, 110, 101, 116, 32]]
/-- an index in its row -/
def inR (i : Int32) (n : Nat) : Bool := !(decide (i < 0) || decide (n ≤ i.toNatClampNeg))
def okN64 (r : UInt64) : Bool := decide (r &&& 0x7fffffffffffffff ≤ 0x7ff0000000000000)
def okN32 (r : UInt32) : Bool := decide (r &&& 0x7fffffff ≤ 0x7f800000)
def zc {α β γ : Type} (z : α ⊕ β) (f : α → γ) (h : β → γ) : γ := match z with
  | .inl a => f a
  | .inr b => h b
def u2 {a b r : Type} (q : a × b) (f : a → b → r) : r := f q.1 q.2
def u3 {a b c r : Type} (q : a × b × c) (f : a → b → c → r) : r := f q.1 q.2.1 q.2.2
def u4 {a b c d r : Type} (q : a × b × c × d) (f : a → b → c → d → r) : r := f q.1 q.2.1 q.2.2.1 q.2.2.2
def u5 {a b c d e r : Type} (q : a × b × c × d × e) (f : a → b → c → d → e → r) : r := f q.1 q.2.1 q.2.2.1 q.2.2.2.1 q.2.2.2.2
def u6 {a b c d e g r : Type} (q : a × b × c × d × e × g) (f : a → b → c → d → e → g → r) : r := f q.1 q.2.1 q.2.2.1 q.2.2.2.1 q.2.2.2.2.1 q.2.2.2.2.2
def u7 {a b c d e g h r : Type} (q : a × b × c × d × e × g × h) (f : a → b → c → d → e → g → h → r) : r := f q.1 q.2.1 q.2.2.1 q.2.2.2.1 q.2.2.2.2.1 q.2.2.2.2.2.1 q.2.2.2.2.2.2
/-- a name for a world -/
def wl {α : Type} (x : Wd) (f : Wd → α) : α := f x
def mo {α β : Type} (o : Option α) (n : β) (f : α → β) : β := match o with
  | none => n
  | some a => f a
def uG (w : Wd) (n : Nat) : Wd := (fun a b => if a = 140 ∧ gC w ≤ b then 0 else w.1 a b, w.2.1, w.2.2.1, w.2.2.2.1, n)
/-- may it grow so? -/
def gK (w : Wd) (n : Int32) : Bool := decide (¬ n < 0) && (decide (n.toNatClampNeg ≤ 64) && (decide (gC w < n.toNatClampNeg) && (List.range (gC w)).all (fun i => fits .byte (.int (gI w 140 i)))))
end
section
/-! THE FUNCTIONS: what each method computes over the world, written by program out of the listing -/
def f_J0_coder_7d493 (x0 : Nat) : Option Int32 := (some (0 : Int32))
def f_J0_isLatin1_aae02 (x0 : Nat) : Option Int32 := (some (1 : Int32))
def f_J0_length_8abf5 (x0 : Nat) : Option Int32 := ((f_J0_coder_7d493 x0).bind fun r2 => (some ((nI (cLens.getD x0 0)) >>> (r2 &&& 31))))
def f_J3_checkIndex_8e157 (x0 : Int32) (x1 : Int32) : Option Int32 := (if x0 < 0 then none else (if x0 < x1 then (some x0) else none))
def f_J0_checkIndex_df160 (x0 : Int32) (x1 : Int32) : Option Unit := ((f_J3_checkIndex_8e157 x0 x1).bind fun r2 => (some ()))
def f_J1_charAt_3b067 (x0 : Nat) (x1 : Int32) : Option Int32 := ((f_J0_checkIndex_df160 x1 (nI (cLens.getD x0 0))).bind fun _ => (if inR x1 (cLens.getD x0 0) then (some (vp_nar .char (((((cWords.getD x0 []).getD (x1).toNatClampNeg 0) &&& (255 : Int32))).toUInt32 % 65536).toInt32)) else none))
def f_J0_charAt_5068e (w : Wd) (x0 : Nat) (x1 : Int32) : Option Int32 := ((f_J0_isLatin1_aae02 x0).bind fun r2 => (if r2 = 0 then none else ((f_J1_charAt_3b067 x0 x1).bind fun r5 => (some (vp_nar .char r5)))))
def f_J1_canEncode_fc78d (x0 : Int32) : Option Int32 := (if (255 : Int32) < x0 then (some (0 : Int32)) else (some (1 : Int32)))
def p_J6_stringSize_0f7a4_16 (x0 : Int32) : Nat → Int32 → Int32 → Option ((Int32 × Int32) ⊕ Int32)
  | 0, _, _ => none
  | n + 1, y2, y3 => (if (10 : Int32) ≤ y3 then (some (.inl (y2, y3))) else (if x0 ≤ y2 then (p_J6_stringSize_0f7a4_16 x0 n ((10 : Int32) * y2) (y3 + (1 : Int32))) else (some (.inr (y3 + (1 : Int32))))))
def p_J6_stringSize_0f7a4_16b (c11 : Int32) : Nat → Int32 → Int32 → Option ((Int32 × Int32) ⊕ Int32)
  | 0, _, _ => none
  | n + 1, y9, y10 => (if (10 : Int32) ≤ y10 then (some (.inl (y9, y10))) else (if c11 ≤ y9 then (p_J6_stringSize_0f7a4_16b c11 n ((10 : Int32) * y9) (y10 + (1 : Int32))) else (some (.inr (y10 + (0 : Int32))))))
def f_J6_stringSize_0f7a4 (x0 : Int32) : Option Int32 := (if x0 < 0 then ((p_J6_stringSize_0f7a4_16 x0 2000 (-10 : Int32) (1 : Int32)).bind fun z => zc z (fun q => u2 q fun y2 y3 => (some ((10 : Int32) + (1 : Int32)))) (fun r => (some r))) else ((p_J6_stringSize_0f7a4_16b (-x0) 2000 (-10 : Int32) (1 : Int32)).bind fun z => zc z (fun q => u2 q fun y9 y10 => (some ((10 : Int32) + (0 : Int32)))) (fun r => (some r))))
def p_J6_getChars_ba4f3_22 : Nat → Int32 → Int32 → Wd → Option ((Int32 × Int32 × Wd) ⊕ Unit)
  | 0, _, _, _ => none
  | n + 1, y2, y3, w4 => (if (-100 : Int32) < y2 then (some (.inl (y2, y3, w4))) else (if ¬ (100 : Int32) = 0 then (if inR (((y2 / (100 : Int32)) * (100 : Int32)) - y2) 100 then (if inR (y3 + (-1 : Int32)) (gC w4) then (wl (uI w4 140 ((y3 + (-1 : Int32))).toNatClampNeg (vp_nar .byte (nI (48 + ((((y2 / (100 : Int32)) * (100 : Int32)) - y2)).toNatClampNeg % 10)))) fun w10 => (if inR (((y2 / (100 : Int32)) * (100 : Int32)) - y2) 100 then (if inR ((y3 + (-1 : Int32)) + (-1 : Int32)) (gC w10) then (wl (uI w10 140 (((y3 + (-1 : Int32)) + (-1 : Int32))).toNatClampNeg (vp_nar .byte (nI (48 + ((((y2 / (100 : Int32)) * (100 : Int32)) - y2)).toNatClampNeg / 10)))) fun w13 => (p_J6_getChars_ba4f3_22 n (y2 / (100 : Int32)) ((y3 + (-1 : Int32)) + (-1 : Int32)) w13)) else none) else none)) else none) else none) else none))
def f_J6_getChars_ba4f3 (w : Wd) (x0 : Int32) (x1 : Int32) : Option (Int32 × Wd) := (if 0 ≤ x0 then ((p_J6_getChars_ba4f3_22 2000 (-x0) x1 w).bind fun z => zc z (fun q => u3 q fun y2 y3 w4 => (if inR (-y2) 100 then (if inR (y3 + (-1 : Int32)) (gC w4) then (wl (uI w4 140 ((y3 + (-1 : Int32))).toNatClampNeg (vp_nar .byte (nI (48 + ((-y2)).toNatClampNeg % 10)))) fun w18 => (if (-9 : Int32) ≤ y2 then (some ((y3 + (-1 : Int32)), w18)) else (if inR (-y2) 100 then (if inR ((y3 + (-1 : Int32)) + (-1 : Int32)) (gC w18) then (wl (uI w18 140 (((y3 + (-1 : Int32)) + (-1 : Int32))).toNatClampNeg (vp_nar .byte (nI (48 + ((-y2)).toNatClampNeg / 10)))) fun w22 => (some (((y3 + (-1 : Int32)) + (-1 : Int32)), w22))) else none) else none))) else none) else none)) (fun _ => none)) else ((p_J6_getChars_ba4f3_22 2000 x0 x1 w).bind fun z => zc z (fun q => u3 q fun y23 y24 w25 => (if inR (-y23) 100 then (if inR (y24 + (-1 : Int32)) (gC w25) then (wl (uI w25 140 ((y24 + (-1 : Int32))).toNatClampNeg (vp_nar .byte (nI (48 + ((-y23)).toNatClampNeg % 10)))) fun w39 => (if (-9 : Int32) ≤ y23 then (if inR ((y24 + (-1 : Int32)) + (-1 : Int32)) (gC w39) then (wl (uI w39 140 (((y24 + (-1 : Int32)) + (-1 : Int32))).toNatClampNeg (vp_nar .byte (45 : Int32))) fun w42 => (some (((y24 + (-1 : Int32)) + (-1 : Int32)), w42))) else none) else (if inR (-y23) 100 then (if inR ((y24 + (-1 : Int32)) + (-1 : Int32)) (gC w39) then (wl (uI w39 140 (((y24 + (-1 : Int32)) + (-1 : Int32))).toNatClampNeg (vp_nar .byte (nI (48 + ((-y23)).toNatClampNeg / 10)))) fun w45 => (if inR (((y24 + (-1 : Int32)) + (-1 : Int32)) + (-1 : Int32)) (gC w45) then (wl (uI w45 140 ((((y24 + (-1 : Int32)) + (-1 : Int32)) + (-1 : Int32))).toNatClampNeg (vp_nar .byte (45 : Int32))) fun w47 => (some ((((y24 + (-1 : Int32)) + (-1 : Int32)) + (-1 : Int32)), w47))) else none)) else none) else none))) else none) else none)) (fun _ => none)))
def f_J5_isLatin1_aae02 (w : Wd) : Option Int32 := (if (gI w 139 1) = 0 then (some (1 : Int32)) else (some (0 : Int32)))
def f_J5_length_8abf5 (w : Wd) : Option Int32 := (some (gI w 139 3))
def f_J4_length_8abf5 (w : Wd) : Option Int32 := ((f_J5_length_8abf5 w).bind fun r2 => (some r2))
def f_J5_charAt_5068e (w : Wd) (x1 : Int32) : Option Int32 := ((f_J0_checkIndex_df160 x1 (if ((nI (gC w)) >>> ((gI w 139 1) &&& 31)) < (gI w 139 3) then ((nI (gC w)) >>> ((gI w 139 1) &&& 31)) else (gI w 139 3))).bind fun _ => (if (gI w 139 1) = 0 then (if inR x1 (gC w) then (some (vp_nar .char ((((gI w 140 (x1).toNatClampNeg) &&& (255 : Int32))).toUInt32 % 65536).toInt32)) else none) else none))
def f_J4_charAt_5068e (w : Wd) (x1 : Int32) : Option Int32 := ((f_J5_charAt_5068e w x1).bind fun r2 => (some (vp_nar .char r2)))
def f_J8_newLength_cabcc (x0 : Int32) (x1 : Int32) (x2 : Int32) : Option Int32 := (if (x0 + (if x1 < x2 then x2 else x1)) ≤ (0 : Int32) then none else (if (2147483639 : Int32) < (x0 + (if x1 < x2 then x2 else x1)) then none else (some (x0 + (if x1 < x2 then x2 else x1)))))
def f_J5_newCapacity_0f7a4 (w : Wd) (x1 : Int32) : Option Int32 := ((f_J8_newLength_cabcc (nI (gC w)) ((x1 <<< ((gI w 139 1) &&& 31)) - (nI (gC w))) ((nI (gC w)) + ((2 : Int32) <<< ((gI w 139 1) &&& 31)))).bind fun r2 => (if r2 = (2147483647 : Int32) then none else (some (r2 >>> ((gI w 139 1) &&& 31)))))
def f_J5_ensureCapacityInternal_d00df (w : Wd) (x1 : Int32) : Option Wd := (if (x1 - ((nI (gC w)) >>> ((gI w 139 1) &&& 31))) ≤ 0 then (some w) else ((f_J5_newCapacity_0f7a4 w x1).bind fun r3 => (if gK w (r3 <<< ((gI w 139 1) &&& 31)) then (some (uG w (r3 <<< ((gI w 139 1) &&& 31)).toNatClampNeg)) else none)))
def f_J5_append_3fe6f (w : Wd) (x1 : Int32) : Option Wd := ((f_J5_ensureCapacityInternal_d00df w ((gI w 139 3) + (1 : Int32))).bind fun w3 => ((f_J5_isLatin1_aae02 w3).bind fun r5 => (if r5 = 0 then ((f_J5_isLatin1_aae02 w3).bind fun r8 => (if r8 = 0 then (wl (uI w3 139 3 ((gI w3 139 3) + (1 : Int32))) fun w10 => none) else none)) else ((f_J1_canEncode_fc78d x1).bind fun r12 => (if r12 = 0 then ((f_J5_isLatin1_aae02 w3).bind fun r15 => (if r15 = 0 then (wl (uI w3 139 3 ((gI w3 139 3) + (1 : Int32))) fun w17 => none) else none)) else (wl (uI w3 139 3 ((gI w3 139 3) + (1 : Int32))) fun w18 => (if inR (gI w3 139 3) (gC w18) then (wl (uI w18 140 ((gI w3 139 3)).toNatClampNeg (vp_nar .byte (x1).toInt8.toInt32)) fun w20 => (some w20)) else none)))))))
def f_J5_append_c97b9 (w : Wd) (x1 : Int32) : Option Wd := ((f_J6_stringSize_0f7a4 x1).bind fun r2 => ((f_J5_ensureCapacityInternal_d00df w ((gI w 139 3) + r2)).bind fun w5 => ((f_J5_isLatin1_aae02 w5).bind fun r7 => (if r7 = 0 then none else ((f_J6_getChars_ba4f3 w5 x1 ((gI w 139 3) + r2)).bind fun z => u2 z fun r10 w11 => (wl (uI w11 139 3 ((gI w 139 3) + r2)) fun w13 => (some w13)))))))
def f_J4_append_cf468 (w : Wd) (x1 : Int32) : Option Wd := ((f_J5_append_3fe6f w x1).bind fun w3 => (some w3))
def f_J4_append_bf812 (w : Wd) (x1 : Int32) : Option Wd := ((f_J5_append_c97b9 w x1).bind fun w3 => (some w3))
def f_J5_setLength_d00df (w : Wd) (x1 : Int32) : Option Wd := (if 0 ≤ x1 then ((f_J5_ensureCapacityInternal_d00df w x1).bind fun w4 => (if x1 ≤ (gI w4 139 3) then (if (gI w4 139 3) ≤ x1 then (wl (uI w4 139 3 x1) fun w7 => (some w7)) else (wl (uI w4 139 2 (1 : Int32)) fun w8 => (wl (uI w8 139 3 x1) fun w9 => (some w9)))) else ((f_J5_isLatin1_aae02 w4).bind fun r11 => (if r11 = 0 then none else none)))) else none)
def f_J4_setLength_d00df (w : Wd) (x1 : Int32) : Option Wd := ((f_J5_setLength_d00df w x1).bind fun w3 => (some w3))
def f_J9_floorDiv_f86c9 (x0 : Int64) (x2 : Int64) : Option Int64 := (if ¬ x2 = 0 then (if (0 : Int64) ≤ (x0 ^^^ x2) then (some (x0 / x2)) else (if ((x0 / x2) * x2) = x0 then (some (x0 / x2)) else (some ((x0 / x2) - (1 : Int64))))) else none)
def f_J9_floorMod_f86c9 (x0 : Int64) (x2 : Int64) : Option Int64 := (if ¬ x2 = 0 then (if (0 : Int64) ≤ (x0 ^^^ x2) then (some (x0 - x0 / x2 * x2)) else (if (x0 - x0 / x2 * x2) = (0 : Int64) then (some (x0 - x0 / x2 * x2)) else (some ((x0 - x0 / x2 * x2) + x2)))) else none)
def f_X4_quotient (x0 : Int64) (x2 : Int64) : Option Int64 := (if x2 = (0 : Int64) then (some (0 : Int64)) else ((f_J9_floorDiv_f86c9 x0 x2).bind fun r3 => (some r3)))
def f_X4_remainder (x0 : Int64) (x2 : Int64) : Option Int64 := (if x2 = (0 : Int64) then (some (0 : Int64)) else ((f_J9_floorMod_f86c9 x0 x2).bind fun r3 => (some r3)))
def p_X4_commonDivisor_15 : Nat → Int64 → Int64 → Int32 → Option ((Int64 × Int64 × Int32) ⊕ Unit)
  | 0, _, _, _ => none
  | n + 1, y1, y2, y3 => (if (200 : Int32) ≤ y3 then (some (.inl (y1, y2, y3))) else (if y2 = (0 : Int64) then (some (.inl (y1, y2, y3))) else ((f_X4_remainder y1 y2).bind fun r8 => (p_X4_commonDivisor_15 n y2 r8 (y3 + (1 : Int32))))))
def f_X4_commonDivisor (x0 : Int64) (x2 : Int64) : Option Int64 := ((p_X4_commonDivisor_15 2000 (if 0 < x0 then x0 else -x0) (if 0 < x2 then x2 else -x2) (0 : Int32)).bind fun z => zc z (fun q => u3 q fun y1 y2 y3 => (some y1)) (fun _ => none))
def p_X4_inverse_19 : Nat → Int64 → Int64 → Int64 → Int64 → Int32 → Option ((Int64 × Int64 × Int64 × Int64 × Int32) ⊕ Unit)
  | 0, _, _, _, _, _ => none
  | n + 1, y3, y4, y5, y6, y7 => (if (200 : Int32) ≤ y7 then (some (.inl (y3, y4, y5, y6, y7))) else (if y4 = (0 : Int64) then (some (.inl (y3, y4, y5, y6, y7))) else ((f_X4_quotient y3 y4).bind fun r12 => (p_X4_inverse_19 n y4 (y3 - (r12 * y4)) y6 (y5 - (r12 * y6)) (y7 + (1 : Int32))))))
def f_X4_inverse (x0 : Int64) (x2 : Int64) : Option Int64 := ((f_X4_remainder x0 x2).bind fun r2 => ((p_X4_inverse_19 2000 x2 r2 (0 : Int64) (1 : Int64) (0 : Int32)).bind fun z => zc z (fun q => u5 q fun y3 y4 y5 y6 y7 => ((f_X4_remainder y5 x2).bind fun r16 => (some r16))) (fun _ => none)))
def f_X4_product (x0 : Int64) (x2 : Int64) (x4 : Int64) : Option Int64 := ((f_X4_remainder (x0 * (x2 >>> (((20 : Int32)).toInt64 &&& 63))) x4).bind fun r2 => ((f_X4_remainder ((r2 <<< (((20 : Int32)).toInt64 &&& 63)) + (x0 * (x2 - ((x2 >>> (((20 : Int32)).toInt64 &&& 63)) <<< (((20 : Int32)).toInt64 &&& 63))))) x4).bind fun r4 => (some r4)))
def p_X7_copyFrom_2 (b0 : Nat) (b1 : Nat) : Nat → Int32 → Wd → Option ((Int32 × Wd) ⊕ Unit)
  | 0, _, _ => none
  | n + 1, y1, w2 => (if (10 : Int32) ≤ y1 then (some (.inl (y1, w2))) else (if inR y1 10 then (if inR y1 10 then (wl (uI w2 (b0 + 1) (y1).toNatClampNeg (gI w2 (b1 + 1) (y1).toNatClampNeg)) fun w7 => (if inR y1 10 then (if inR y1 10 then (wl (uL w7 (b0 + 2) (y1).toNatClampNeg (gL w7 (b1 + 2) (y1).toNatClampNeg)) fun w10 => (if inR y1 10 then (if inR y1 10 then (wl (uI w10 (b0 + 3) (y1).toNatClampNeg (vp_nar .boolean (gI w10 (b1 + 3) (y1).toNatClampNeg))) fun w13 => (if inR y1 10 then (if inR y1 10 then (wl (uL w13 (b0 + 4) (y1).toNatClampNeg (gL w13 (b1 + 4) (y1).toNatClampNeg)) fun w16 => (if inR y1 10 then (if inR y1 10 then (wl (uI w16 (b0 + 5) (y1).toNatClampNeg (vp_nar .boolean (gI w16 (b1 + 5) (y1).toNatClampNeg))) fun w19 => (if inR y1 10 then (if inR y1 10 then (wl (uI w19 (b0 + 6) (y1).toNatClampNeg (gI w19 (b1 + 6) (y1).toNatClampNeg)) fun w22 => (if inR y1 10 then (if inR y1 10 then (wl (uI w22 (b0 + 7) (y1).toNatClampNeg (gI w22 (b1 + 7) (y1).toNatClampNeg)) fun w25 => (if inR y1 10 then (if inR y1 10 then (wl (uI w25 (b0 + 8) (y1).toNatClampNeg (vp_nar .boolean (gI w25 (b1 + 8) (y1).toNatClampNeg))) fun w28 => (p_X7_copyFrom_2 b0 b1 n (y1 + (1 : Int32)) w28)) else none) else none)) else none) else none)) else none) else none)) else none) else none)) else none) else none)) else none) else none)) else none) else none)) else none) else none))
def p_X7_copyFrom_112 (b0 : Nat) (b1 : Nat) : Nat → Int32 → Wd → Option ((Int32 × Wd) ⊕ Unit)
  | 0, _, _ => none
  | n + 1, y31, w32 => (if (100 : Int32) ≤ y31 then (some (.inl (y31, w32))) else (if inR y31 100 then (if inR y31 100 then (wl (uI w32 (b0 + 9) (y31).toNatClampNeg (vp_nar .char (gI w32 (b1 + 9) (y31).toNatClampNeg))) fun w37 => (p_X7_copyFrom_112 b0 b1 n (y31 + (1 : Int32)) w37)) else none) else none))
def p_X7_copyFrom_138 (b0 : Nat) (b1 : Nat) : Nat → Int32 → Wd → Option ((Int32 × Wd) ⊕ Unit)
  | 0, _, _ => none
  | n + 1, y40, w41 => (if (6 : Int32) ≤ y40 then (some (.inl (y40, w41))) else (if inR y40 6 then (if inR y40 6 then (wl (uI w41 (b0 + 10) (y40).toNatClampNeg (gI w41 (b1 + 10) (y40).toNatClampNeg)) fun w46 => (p_X7_copyFrom_138 b0 b1 n (y40 + (1 : Int32)) w46)) else none) else none))
def f_X7_copyFrom (w : Wd) (b0 : Nat) (b1 : Nat) : Option Wd := ((p_X7_copyFrom_2 b0 b1 2000 (0 : Int32) w).bind fun z => zc z (fun q => u2 q fun y1 w2 => ((p_X7_copyFrom_112 b0 b1 2000 (0 : Int32) w2).bind fun z => zc z (fun q => u2 q fun y31 w32 => ((p_X7_copyFrom_138 b0 b1 2000 (0 : Int32) w32).bind fun z => zc z (fun q => u2 q fun y40 w41 => (wl (uI w41 b0 10 (gI w41 b1 10)) fun w49 => (wl (uI w49 b0 11 (gI w49 b1 11)) fun w50 => (wl (uI w50 b0 12 (gI w50 b1 12)) fun w51 => (wl (uI w51 b0 13 (gI w51 b1 13)) fun w52 => (wl (uI w52 b0 14 (gI w52 b1 14)) fun w53 => (wl (uI w53 b0 15 (gI w53 b1 15)) fun w54 => (wl (uI w54 b0 16 (gI w54 b1 16)) fun w55 => (some w55))))))))) (fun _ => none))) (fun _ => none))) (fun _ => none))
def f_X7_isGear (w : Wd) (x1 : Int32) : Option Int32 := (if x1 < 0 then (some (0 : Int32)) else (if (gI w 1 10) ≤ x1 then (some (0 : Int32)) else (some (1 : Int32))))
def f_X7_isPlanet (w : Wd) (x1 : Int32) : Option Int32 := (if x1 < 0 then (some (0 : Int32)) else (if (gI w 1 12) ≤ x1 then (some (0 : Int32)) else (some (1 : Int32))))
def f_X7_hasSpring (w : Wd) (x1 : Int32) : Option Int32 := (if inR x1 10 then (if (gI w 7 (x1).toNatClampNeg) ≤ 0 then (some (0 : Int32)) else (some (1 : Int32))) else none)
def f_X7_jointOf (w : Wd) (x1 : Int32) (x2 : Int32) : Option Int32 := (if inR ((x1 * (10 : Int32)) + x2) 100 then (some (vp_nar .char (gI w 10 (((x1 * (10 : Int32)) + x2)).toNatClampNeg))) else none)
def f_X7_putJoint (w : Wd) (x1 : Int32) (x2 : Int32) (x3 : Int32) : Option Wd := (if inR ((x1 * (10 : Int32)) + x2) 100 then (wl (uI w 10 (((x1 * (10 : Int32)) + x2)).toNatClampNeg (vp_nar .char x3)) fun w2 => (if inR ((x2 * (10 : Int32)) + x1) 100 then (wl (uI w2 10 (((x2 * (10 : Int32)) + x1)).toNatClampNeg (vp_nar .char x3)) fun w4 => (some w4)) else none)) else none)
def p_X7_carriesPlanet_2 (w : Wd) (x1 : Int32) : Nat → Int32 → Option ((Int32) ⊕ Int32)
  | 0, _ => none
  | n + 1, y1 => (if (gI w 1 12) ≤ y1 then (some (.inl y1)) else (if inR y1 6 then (if (gI w 11 (y1).toNatClampNeg) = x1 then (some (.inr (1 : Int32))) else (p_X7_carriesPlanet_2 w x1 n (y1 + (1 : Int32)))) else none))
def f_X7_carriesPlanet (w : Wd) (x1 : Int32) : Option Int32 := ((p_X7_carriesPlanet_2 w x1 2000 (0 : Int32)).bind fun z => zc z (fun y1 => (some (0 : Int32))) (fun r => (some r)))
def p_X7_rankByAngle_18 (w : Wd) (c5 : Int64) (x1 : Int32) : Nat → Int32 → Int32 → Option ((Int32 × Int32) ⊕ Unit)
  | 0, _, _ => none
  | n + 1, y3, y4 => (if (gI w 1 12) ≤ y4 then (some (.inl (y3, y4))) else (if inR y4 6 then (if inR (gI w 11 (y4).toNatClampNeg) 10 then (if (gL w 3 ((gI w 11 (y4).toNatClampNeg)).toNatClampNeg) < c5 then (p_X7_rankByAngle_18 w c5 x1 n (y3 + (1 : Int32)) (y4 + (1 : Int32))) else (if (gL w 3 ((gI w 11 (y4).toNatClampNeg)).toNatClampNeg) = c5 then (if x1 ≤ y4 then (p_X7_rankByAngle_18 w c5 x1 n y3 (y4 + (1 : Int32))) else (p_X7_rankByAngle_18 w c5 x1 n (y3 + (1 : Int32)) (y4 + (1 : Int32)))) else (p_X7_rankByAngle_18 w c5 x1 n y3 (y4 + (1 : Int32))))) else none) else none))
def f_X7_rankByAngle (w : Wd) (x1 : Int32) : Option Int32 := (if inR x1 6 then (if inR (gI w 11 (x1).toNatClampNeg) 10 then ((p_X7_rankByAngle_18 w (gL w 3 ((gI w 11 (x1).toNatClampNeg)).toNatClampNeg) x1 2000 (0 : Int32) (0 : Int32)).bind fun z => zc z (fun q => u2 q fun y3 y4 => (some y3)) (fun _ => none)) else none) else none)
def p_X7_springs_4 (w : Wd) : Nat → Int32 → Int32 → Option ((Int32 × Int32) ⊕ Unit)
  | 0, _, _ => none
  | n + 1, y1, y2 => (if (gI w 1 10) ≤ y2 then (some (.inl (y1, y2))) else ((f_X7_hasSpring w y2).bind fun r6 => (if r6 = 0 then (p_X7_springs_4 w n y1 (y2 + (1 : Int32))) else (p_X7_springs_4 w n (y1 + (1 : Int32)) (y2 + (1 : Int32))))))
def f_X7_springs (w : Wd) : Option Int32 := ((p_X7_springs_4 w 2000 (0 : Int32) (0 : Int32)).bind fun z => zc z (fun q => u2 q fun y1 y2 => (some y1)) (fun _ => none))
def p_X7_sumOfTensions_4 (w : Wd) : Nat → Int32 → Int32 → Option ((Int32 × Int32) ⊕ Unit)
  | 0, _, _ => none
  | n + 1, y1, y2 => (if (gI w 1 10) ≤ y2 then (some (.inl (y1, y2))) else (if inR y2 10 then (p_X7_sumOfTensions_4 w n (y1 + (gI w 8 (y2).toNatClampNeg)) (y2 + (1 : Int32))) else none))
def f_X7_sumOfTensions (w : Wd) : Option Int32 := ((p_X7_sumOfTensions_4 w 2000 (0 : Int32) (0 : Int32)).bind fun z => zc z (fun q => u2 q fun y1 y2 => (some y1)) (fun _ => none))
def p_X7_sumOfTeeth_4 (w : Wd) : Nat → Int32 → Int32 → Option ((Int32 × Int32) ⊕ Unit)
  | 0, _, _ => none
  | n + 1, y1, y2 => (if (gI w 1 10) ≤ y2 then (some (.inl (y1, y2))) else (if inR y2 10 then (p_X7_sumOfTeeth_4 w n (y1 + (gI w 2 (y2).toNatClampNeg)) (y2 + (1 : Int32))) else none))
def f_X7_sumOfTeeth (w : Wd) : Option Int32 := ((p_X7_sumOfTeeth_4 w 2000 (0 : Int32) (0 : Int32)).bind fun z => zc z (fun q => u2 q fun y1 y2 => (some y1)) (fun _ => none))
def p_X7_dryGears_4 (w : Wd) : Nat → Int32 → Int32 → Option ((Int32 × Int32) ⊕ Unit)
  | 0, _, _ => none
  | n + 1, y1, y2 => (if (gI w 1 10) ≤ y2 then (some (.inl (y1, y2))) else (if inR y2 10 then (if (gI w 4 (y2).toNatClampNeg) = 0 then (p_X7_dryGears_4 w n (y1 + (1 : Int32)) (y2 + (1 : Int32))) else (p_X7_dryGears_4 w n y1 (y2 + (1 : Int32)))) else none))
def f_X7_dryGears (w : Wd) : Option Int32 := ((p_X7_dryGears_4 w 2000 (0 : Int32) (0 : Int32)).bind fun z => zc z (fun q => u2 q fun y1 y2 => (some y1)) (fun _ => none))
def f_X7_unitsBehind (w : Wd) (x1 : Int64) (x3 : Int32) (x4 : Int32) (x5 : Int32) : Option Int64 := (if x5 = (97 : Int32) then (some x1) else (if inR x3 10 then (if inR x4 10 then ((f_X4_quotient (x1 * ((gI w 2 (x3).toNatClampNeg)).toInt64) (((gI w 2 (x4).toNatClampNeg)).toInt64)).bind fun r5 => (some (-r5))) else none) else none))
def f_X8_reach (w : Wd) (x1 : Int32) (x2 : Int64) : Option Wd := (if x1 < 0 then (some w) else (if (10 : Int32) ≤ x1 then (some w) else (if (10 : Int32) ≤ (gI w 124 2) then (some w) else (if inR x1 10 then (wl (uL w 125 (x1).toNatClampNeg x2) fun w5 => (if inR (gI w5 124 2) 10 then (wl (uI w5 126 ((gI w5 124 2)).toNatClampNeg x1) fun w7 => (wl (uI w7 124 2 ((gI w7 124 2) + (1 : Int32))) fun w8 => (some w8))) else none)) else none))))
def f_X8_holds (w : Wd) (x1 : Int32) : Option Int32 := (if inR x1 10 then (if (gL w 125 (x1).toNatClampNeg) = (0 : Int64) then (some (0 : Int32)) else (some (1 : Int32))) else none)
def p_X8_lowestGear_2 (w : Wd) : Nat → Int32 → Option ((Int32) ⊕ Int32)
  | 0, _ => none
  | n + 1, y1 => (if (10 : Int32) ≤ y1 then (some (.inl y1)) else (if inR y1 10 then (if (gL w 125 (y1).toNatClampNeg) = (0 : Int64) then (p_X8_lowestGear_2 w n (y1 + (1 : Int32))) else (some (.inr y1))) else none))
def f_X8_lowestGear (w : Wd) : Option Int32 := ((p_X8_lowestGear_2 w 2000 (0 : Int32)).bind fun z => zc z (fun y1 => (some (-1 : Int32))) (fun r => (some r)))
def p_X8_springGear_2 (w : Wd) : Nat → Int32 → Option ((Int32) ⊕ Int32)
  | 0, _ => none
  | n + 1, y1 => (if (gI w 1 10) ≤ y1 then (some (.inl y1)) else ((f_X8_holds w y1).bind fun r5 => (if r5 = 0 then (p_X8_springGear_2 w n (y1 + (1 : Int32))) else ((f_X7_hasSpring w y1).bind fun r8 => (if r8 = 0 then (p_X8_springGear_2 w n (y1 + (1 : Int32))) else (some (.inr y1)))))))
def f_X8_springGear (w : Wd) : Option Int32 := ((p_X8_springGear_2 w 2000 (0 : Int32)).bind fun z => zc z (fun y1 => (some (-1 : Int32))) (fun r => (some r)))
def p_X8_drag_7 (w : Wd) : Nat → Int32 → Int32 → Option ((Int32 × Int32) ⊕ Unit)
  | 0, _, _ => none
  | n + 1, y1, y2 => (if (gI w 1 10) ≤ y2 then (some (.inl (y1, y2))) else ((f_X8_holds w y2).bind fun r6 => (if r6 = 0 then (p_X8_drag_7 w n y1 (y2 + (1 : Int32))) else (if inR y2 10 then (if (gI w 4 (y2).toNatClampNeg) = 0 then (p_X8_drag_7 w n (y1 + (1 : Int32)) (y2 + (1 : Int32))) else (p_X8_drag_7 w n y1 (y2 + (1 : Int32)))) else none))))
def f_X8_drag (w : Wd) : Option Int32 := ((p_X8_drag_7 w 2000 (gI w 124 2) (0 : Int32)).bind fun z => zc z (fun q => u2 q fun y1 y2 => (some y1)) (fun _ => none))
def p_X8_isBlocked_2 (w : Wd) (x2 : Int32) : Nat → Int32 → Option ((Int32) ⊕ Int32)
  | 0, _ => none
  | n + 1, y1 => (if (gI w 1 10) ≤ y1 then (some (.inl y1)) else (if inR x2 10 then (if (gI w 9 (x2).toNatClampNeg) = 0 then (if inR y1 10 then (if (0 : Int64) ≤ (gL w 125 (y1).toNatClampNeg) then (p_X8_isBlocked_2 w x2 n (y1 + (1 : Int32))) else (if inR y1 10 then (if (gI w 6 (y1).toNatClampNeg) = 0 then (p_X8_isBlocked_2 w x2 n (y1 + (1 : Int32))) else (some (.inr (1 : Int32)))) else none)) else none) else (if inR y1 10 then (if (gL w 125 (y1).toNatClampNeg) ≤ (0 : Int64) then (p_X8_isBlocked_2 w x2 n (y1 + (1 : Int32))) else (if inR y1 10 then (if (gI w 6 (y1).toNatClampNeg) = 0 then (p_X8_isBlocked_2 w x2 n (y1 + (1 : Int32))) else (some (.inr (1 : Int32)))) else none)) else none)) else none))
def f_X8_isBlocked (w : Wd) (x2 : Int32) : Option Int32 := ((p_X8_isBlocked_2 w x2 2000 (0 : Int32)).bind fun z => zc z (fun y1 => (some (0 : Int32))) (fun r => (some r)))
def p_X8_trace_2 : Nat → Int32 → Wd → Option ((Int32 × Wd) ⊕ Unit)
  | 0, _, _ => none
  | n + 1, y1, w2 => (if (10 : Int32) ≤ y1 then (some (.inl (y1, w2))) else (if inR y1 10 then (wl (uL w2 125 (y1).toNatClampNeg (0 : Int64)) fun w6 => (p_X8_trace_2 n (y1 + (1 : Int32)) w6)) else none))
def p_X8_trace_61 (c20 : Int32) : Nat → Int32 → Wd → Option ((Int32 × Wd) ⊕ Unit)
  | 0, _, _ => none
  | n + 1, y19, w21 => (if (gI w21 1 10) ≤ y19 then (some (.inl (y19, w21))) else ((f_X7_jointOf w21 c20 y19).bind fun r25 => (if r25 = 0 then (p_X8_trace_61 c20 n (y19 + (1 : Int32)) w21) else (if inR y19 10 then (if (gL w21 125 (y19).toNatClampNeg) = (0 : Int64) then (if inR c20 10 then ((f_X7_unitsBehind w21 (gL w21 125 (c20).toNatClampNeg) c20 y19 r25).bind fun r31 => ((f_X8_reach w21 y19 r31).bind fun w34 => (p_X8_trace_61 c20 n (y19 + (1 : Int32)) w34))) else none) else (p_X8_trace_61 c20 n (y19 + (1 : Int32)) w21)) else none))))
def p_X8_trace_36 : Nat → Int32 → Wd → Option ((Int32 × Wd) ⊕ Unit)
  | 0, _, _ => none
  | n + 1, y13, w14 => (if (gI w14 124 2) ≤ y13 then (some (.inl (y13, w14))) else (if (10 : Int32) ≤ y13 then (some (.inl (y13, w14))) else (if inR y13 10 then ((p_X8_trace_61 (gI w14 126 (y13).toNatClampNeg) 2000 (0 : Int32) w14).bind fun z => zc z (fun q => u2 q fun y19 w21 => (p_X8_trace_36 n (y13 + (1 : Int32)) w21)) (fun _ => none)) else none)))
def f_X8_trace (w : Wd) (x2 : Int32) : Option Wd := ((p_X8_trace_2 2000 (0 : Int32) w).bind fun z => zc z (fun q => u2 q fun y1 w2 => (wl (uI w2 124 2 (0 : Int32)) fun w9 => ((f_X8_reach w9 x2 (24883200000 : Int64)).bind fun w12 => ((p_X8_trace_36 2000 (0 : Int32) w12).bind fun z => zc z (fun q => u2 q fun y13 w14 => (some w14)) (fun _ => none))))) (fun _ => none))
def p_X1_isToothNumber_9 (c2 : Int32) (x0 : Int32) : Nat → Int32 → Option ((Int32) ⊕ Int32)
  | 0, _ => none
  | n + 1, y1 => (if c2 ≤ y1 then (some (.inl y1)) else (if inR y1 10 then (if (cTeeth.getD (y1).toNatClampNeg 0) = x0 then (some (.inr (1 : Int32))) else (p_X1_isToothNumber_9 c2 x0 n (y1 + (1 : Int32)))) else none))
def f_X1_isToothNumber (w : Wd) (x0 : Int32) : Option Int32 := ((p_X1_isToothNumber_9 (10 : Int32) x0 2000 (0 : Int32)).bind fun z => zc z (fun y1 => (some (0 : Int32))) (fun r => (some r)))
def p_X1_dryWornGears_2 : Nat → Int32 → Wd → Option ((Int32 × Wd) ⊕ Unit)
  | 0, _, _ => none
  | n + 1, y1, w2 => (if (gI w2 1 10) ≤ y1 then (some (.inl (y1, w2))) else (if inR y1 10 then (if (gI w2 4 (y1).toNatClampNeg) = 0 then (p_X1_dryWornGears_2 n (y1 + (1 : Int32)) w2) else (if inR y1 10 then (if (gL w2 5 (y1).toNatClampNeg) < (746496000000 : Int64) then (p_X1_dryWornGears_2 n (y1 + (1 : Int32)) w2) else (if inR y1 10 then (wl (uI w2 4 (y1).toNatClampNeg (vp_nar .boolean (0 : Int32))) fun w10 => (p_X1_dryWornGears_2 n (y1 + (1 : Int32)) w10)) else none)) else none)) else none))
def f_X1_dryWornGears (w : Wd) : Option Wd := ((p_X1_dryWornGears_2 2000 (0 : Int32) w).bind fun z => zc z (fun q => u2 q fun y1 w2 => (some w2)) (fun _ => none))
def f_X1_addDrops (w : Wd) (x1 : Int32) : Option (Int32 × Wd) := (if x1 < (1 : Int32) then (some ((-2 : Int32), w)) else (if x1 ≤ (50 : Int32) then (if ((gI w 1 13) + x1) ≤ (99 : Int32) then (wl (uI w 1 13 ((gI w 1 13) + x1)) fun w4 => (some ((gI w4 1 13), w4))) else (some ((-3 : Int32), w))) else (some ((-2 : Int32), w))))
def f_X1_putGear (w : Wd) (x1 : Int32) : Option (Int32 × Wd) := ((f_X1_isToothNumber w x1).bind fun r2 => (if r2 = 0 then (some ((-2 : Int32), w)) else (if (gI w 1 10) < (10 : Int32) then (if inR (gI w 1 10) 10 then (wl (uI w 2 ((gI w 1 10)).toNatClampNeg x1) fun w6 => (wl (uI w6 1 10 ((gI w 1 10) + (1 : Int32))) fun w7 => (some ((gI w 1 10), w7)))) else none) else (some ((-3 : Int32), w)))))
def f_X1_cut (w : Wd) (x1 : Int32) (x2 : Int32) : Option (Int32 × Wd) := ((f_X7_isGear w x1).bind fun r2 => (if r2 = 0 then (some ((-1 : Int32), w)) else ((f_X7_isGear w x2).bind fun r5 => (if r5 = 0 then (some ((-1 : Int32), w)) else ((f_X7_jointOf w x1 x2).bind fun r8 => (if r8 = 0 then (some ((-5 : Int32), w)) else ((f_X7_putJoint w x1 x2 (0 : Int32)).bind fun w12 => (wl (uI w12 1 11 ((gI w12 1 11) - (1 : Int32))) fun w13 => (some ((gI w13 1 11), w13))))))))))
def f_X1_tighten (w : Wd) (x1 : Int32) (x2 : Int32) : Option (Int32 × Wd) := ((f_X7_isGear w x1).bind fun r2 => (if r2 = 0 then (some ((-1 : Int32), w)) else (if x2 < (1 : Int32) then (some ((-2 : Int32), w)) else (if x2 ≤ (200 : Int32) then ((f_X7_hasSpring w x1).bind fun r7 => (if r7 = 0 then (some ((-5 : Int32), w)) else (if inR x1 10 then (if inR x1 10 then (if ((gI w 8 (x1).toNatClampNeg) + x2) ≤ (gI w 7 (x1).toNatClampNeg) then (if inR x1 10 then (wl (uI w 8 (x1).toNatClampNeg ((gI w 8 (x1).toNatClampNeg) + x2)) fun w13 => (wl (uI w13 1 14 ((gI w13 1 14) + x2)) fun w14 => (some (((gI w 8 (x1).toNatClampNeg) + x2), w14)))) else none) else (some ((-3 : Int32), w))) else none) else none))) else (some ((-2 : Int32), w))))))
def f_X1_turnRound (w : Wd) (x1 : Int32) : Option (Int32 × Wd) := ((f_X7_isGear w x1).bind fun r2 => (if r2 = 0 then (some ((-1 : Int32), w)) else ((f_X7_hasSpring w x1).bind fun r5 => (if r5 = 0 then (some ((-5 : Int32), w)) else (if inR x1 10 then (if (gI w 9 (x1).toNatClampNeg) = 0 then (if inR x1 10 then (wl (uI w 9 (x1).toNatClampNeg (vp_nar .boolean (1 : Int32))) fun w14 => (if inR x1 10 then (if (gI w14 9 (x1).toNatClampNeg) = 0 then (some ((0 : Int32), w14)) else (some ((1 : Int32), w14))) else none)) else none) else (if inR x1 10 then (wl (uI w 9 (x1).toNatClampNeg (vp_nar .boolean (0 : Int32))) fun w10 => (if inR x1 10 then (if (gI w10 9 (x1).toNatClampNeg) = 0 then (some ((0 : Int32), w10)) else (some ((1 : Int32), w10))) else none)) else none)) else none)))))
def f_X1_putRatchet (w : Wd) (x1 : Int32) (x2 : Int32) : Option (Int32 × Wd) := ((f_X7_isGear w x1).bind fun r2 => (if r2 = 0 then (some ((-1 : Int32), w)) else (if inR x1 10 then (if inR x1 10 then (wl (uI w 6 (x1).toNatClampNeg (vp_nar .boolean x2)) fun w6 => (if (gI w 6 (x1).toNatClampNeg) = 0 then (some ((0 : Int32), w6)) else (some ((1 : Int32), w6)))) else none) else none)))
def f_X1_putOil (w : Wd) (x1 : Int32) : Option (Int32 × Wd) := ((f_X7_isGear w x1).bind fun r2 => (if r2 = 0 then (some ((-1 : Int32), w)) else (if inR x1 10 then (if (gI w 4 (x1).toNatClampNeg) = 0 then (if (gI w 1 13) = 0 then (some ((-4 : Int32), w)) else (if inR x1 10 then (wl (uI w 4 (x1).toNatClampNeg (vp_nar .boolean (1 : Int32))) fun w8 => (if inR x1 10 then (wl (uL w8 5 (x1).toNatClampNeg (0 : Int64)) fun w10 => (wl (uI w10 1 13 ((gI w10 1 13) - (1 : Int32))) fun w11 => (some ((gI w11 1 13), w11)))) else none)) else none)) else (some ((-3 : Int32), w))) else none)))
def f_X1_putPlanet (w : Wd) (x1 : Int32) : Option (Int32 × Wd) := ((f_X7_isGear w x1).bind fun r2 => (if r2 = 0 then (some ((-1 : Int32), w)) else (if (6 : Int32) ≤ (gI w 1 12) then (some ((-3 : Int32), w)) else ((f_X7_carriesPlanet w x1).bind fun r6 => (if r6 = 0 then (if inR (gI w 1 12) 6 then (wl (uI w 11 ((gI w 1 12)).toNatClampNeg x1) fun w9 => (wl (uI w9 1 12 ((gI w 1 12) + (1 : Int32))) fun w10 => (some ((gI w 1 12), w10)))) else none) else (some ((-3 : Int32), w)))))))
def f_X1_join (w : Wd) (x1 : Int32) (x2 : Int32) (x3 : Int32) : Option (Int32 × Wd) := ((f_X7_isGear w x1).bind fun r2 => (if r2 = 0 then (some ((-1 : Int32), w)) else ((f_X7_isGear w x2).bind fun r5 => (if r5 = 0 then (some ((-1 : Int32), w)) else (if x1 = x2 then (some ((-2 : Int32), w)) else ((f_X8_trace w x2).bind fun w10 => ((f_X8_springGear w10).bind fun r12 => ((f_X8_trace w10 x1).bind fun w15 => ((f_X8_holds w15 x2).bind fun r17 => (if r17 = 0 then (if r12 = (-1 : Int32) then ((f_X7_jointOf w15 x1 x2).bind fun r44 => (if r44 = 0 then (if (15 : Int32) ≤ (gI w15 1 11) then (some ((-3 : Int32), w15)) else (if r17 = 0 then ((f_X7_putJoint w15 x1 x2 x3).bind fun w50 => (wl (uI w50 1 11 ((gI w50 1 11) + (1 : Int32))) fun w51 => ((f_X8_trace w51 x1).bind fun w54 => (some ((gI w54 124 2), w54))))) else (if inR x2 10 then ((f_X7_unitsBehind w15 (24883200000 : Int64) x1 x2 x3).bind fun r57 => (if (gL w15 125 (x2).toNatClampNeg) = r57 then ((f_X7_putJoint w15 x1 x2 x3).bind fun w61 => (wl (uI w61 1 11 ((gI w61 1 11) + (1 : Int32))) fun w62 => ((f_X8_trace w62 x1).bind fun w65 => (some ((gI w65 124 2), w65))))) else (some ((-4 : Int32), w15)))) else none))) else (some ((-3 : Int32), w15)))) else ((f_X8_springGear w15).bind fun r67 => (if r67 = (-1 : Int32) then ((f_X7_jointOf w15 x1 x2).bind fun r70 => (if r70 = 0 then (if (15 : Int32) ≤ (gI w15 1 11) then (some ((-3 : Int32), w15)) else (if r17 = 0 then ((f_X7_putJoint w15 x1 x2 x3).bind fun w76 => (wl (uI w76 1 11 ((gI w76 1 11) + (1 : Int32))) fun w77 => ((f_X8_trace w77 x1).bind fun w80 => (some ((gI w80 124 2), w80))))) else (if inR x2 10 then ((f_X7_unitsBehind w15 (24883200000 : Int64) x1 x2 x3).bind fun r83 => (if (gL w15 125 (x2).toNatClampNeg) = r83 then ((f_X7_putJoint w15 x1 x2 x3).bind fun w87 => (wl (uI w87 1 11 ((gI w87 1 11) + (1 : Int32))) fun w88 => ((f_X8_trace w88 x1).bind fun w91 => (some ((gI w91 124 2), w91))))) else (some ((-4 : Int32), w15)))) else none))) else (some ((-3 : Int32), w15)))) else ((f_X7_jointOf w15 x1 x2).bind fun r93 => (if r93 = 0 then (if (15 : Int32) ≤ (gI w15 1 11) then (some ((-3 : Int32), w15)) else (some ((-3 : Int32), w15))) else (some ((-3 : Int32), w15))))))) else ((f_X7_jointOf w15 x1 x2).bind fun r20 => (if r20 = 0 then (if (15 : Int32) ≤ (gI w15 1 11) then (some ((-3 : Int32), w15)) else (if r17 = 0 then ((f_X7_putJoint w15 x1 x2 x3).bind fun w26 => (wl (uI w26 1 11 ((gI w26 1 11) + (1 : Int32))) fun w27 => ((f_X8_trace w27 x1).bind fun w30 => (some ((gI w30 124 2), w30))))) else (if inR x2 10 then ((f_X7_unitsBehind w15 (24883200000 : Int64) x1 x2 x3).bind fun r33 => (if (gL w15 125 (x2).toNatClampNeg) = r33 then ((f_X7_putJoint w15 x1 x2 x3).bind fun w37 => (wl (uI w37 1 11 ((gI w37 1 11) + (1 : Int32))) fun w38 => ((f_X8_trace w38 x1).bind fun w41 => (some ((gI w41 124 2), w41))))) else (some ((-4 : Int32), w15)))) else none))) else (some ((-3 : Int32), w15))))))))))))))
def f_X1_putSpring (w : Wd) (x1 : Int32) (x2 : Int32) : Option (Int32 × Wd) := ((f_X7_isGear w x1).bind fun r2 => (if r2 = 0 then (some ((-1 : Int32), w)) else (if x2 < (10 : Int32) then (some ((-2 : Int32), w)) else (if x2 ≤ (200 : Int32) then ((f_X8_trace w x1).bind fun w8 => ((f_X8_springGear w8).bind fun r10 => (if r10 = (-1 : Int32) then (if inR x1 10 then (wl (uI w8 7 (x1).toNatClampNeg x2) fun w13 => ((f_X7_springs w13).bind fun r15 => (some (r15, w13)))) else none) else (some ((-3 : Int32), w8))))) else (some ((-2 : Int32), w))))))
def p_X1_turnTrain_2 (x1 : Int32) : Nat → Int32 → Wd → Option ((Int32 × Wd) ⊕ Unit)
  | 0, _, _ => none
  | n + 1, y1, w2 => (if (gI w2 1 10) ≤ y1 then (some (.inl (y1, w2))) else (if inR y1 10 then (if inR y1 10 then ((f_X4_remainder ((gL w2 3 (y1).toNatClampNeg) + ((gL w2 125 (y1).toNatClampNeg) * (x1).toInt64)) (24883200000 : Int64)).bind fun r8 => (if inR y1 10 then (wl (uL w2 3 (y1).toNatClampNeg r8) fun w10 => (if inR y1 10 then (if (gI w10 4 (y1).toNatClampNeg) = 0 then (p_X1_turnTrain_2 x1 n (y1 + (1 : Int32)) w10) else (if inR y1 10 then (if inR y1 10 then (wl (uL w10 5 (y1).toNatClampNeg ((gL w10 5 (y1).toNatClampNeg) + (if 0 < ((gL w2 125 (y1).toNatClampNeg) * (x1).toInt64) then ((gL w2 125 (y1).toNatClampNeg) * (x1).toInt64) else -((gL w2 125 (y1).toNatClampNeg) * (x1).toInt64)))) fun w15 => (p_X1_turnTrain_2 x1 n (y1 + (1 : Int32)) w15)) else none) else none)) else none)) else none)) else none) else none))
def f_X1_turnTrain (w : Wd) (x1 : Int32) : Option Wd := ((p_X1_turnTrain_2 x1 2000 (0 : Int32) w).bind fun z => zc z (fun q => u2 q fun y1 w2 => (some w2)) (fun _ => none))
def f_X1_letGo (w : Wd) (x1 : Int32) (x2 : Int32) : Option (Int32 × Wd) := ((f_X7_isGear w x1).bind fun r2 => (if r2 = 0 then (some ((-1 : Int32), w)) else (if x2 < (1 : Int32) then (some ((-2 : Int32), w)) else (if x2 ≤ (50 : Int32) then ((f_X7_hasSpring w x1).bind fun r7 => (if r7 = 0 then (some ((-5 : Int32), w)) else ((f_X8_trace w x1).bind fun w11 => ((f_X8_isBlocked w11 x1).bind fun r13 => (if r13 = 0 then ((f_X8_drag w11).bind fun r16 => (if inR x1 10 then ((f_X4_quotient (((gI w11 8 (x1).toNatClampNeg)).toInt64) ((r16).toInt64)).bind fun r19 => (if (if (r19).toInt32 < x2 then (r19).toInt32 else x2) ≤ 0 then (some ((if (r19).toInt32 < x2 then (r19).toInt32 else x2), w11)) else (if inR x1 10 then (if inR x1 10 then (wl (uI w11 8 (x1).toNatClampNeg ((gI w11 8 (x1).toNatClampNeg) - (r16 * (if (r19).toInt32 < x2 then (r19).toInt32 else x2)))) fun w23 => (wl (uI w23 1 15 ((gI w23 1 15) + (r16 * (if (r19).toInt32 < x2 then (r19).toInt32 else x2)))) fun w24 => (wl (uI w24 1 16 ((gI w24 1 16) + (1 : Int32))) fun w25 => (if inR x1 10 then (if (gI w25 9 (x1).toNatClampNeg) = 0 then ((f_X1_turnTrain w25 (if (r19).toInt32 < x2 then (r19).toInt32 else x2)).bind fun w30 => ((f_X1_dryWornGears w30).bind fun w33 => (some ((if (r19).toInt32 < x2 then (r19).toInt32 else x2), w33)))) else ((f_X1_turnTrain w25 (-(if (r19).toInt32 < x2 then (r19).toInt32 else x2))).bind fun w36 => ((f_X1_dryWornGears w36).bind fun w39 => (some ((if (r19).toInt32 < x2 then (r19).toInt32 else x2), w39))))) else none)))) else none) else none))) else none)) else (some ((-4 : Int32), w11))))))) else (some ((-2 : Int32), w))))))
def f_X2_judge (w : Wd) (x1 : Int32) (x2 : Int32) (x3 : Int32) : Option (Int32 × Wd) := ((f_X7_isPlanet w x1).bind fun r2 => (if r2 = 0 then (some ((-1 : Int32), w)) else ((f_X7_isPlanet w x2).bind fun r5 => (if r5 = 0 then (some ((-1 : Int32), w)) else ((f_X7_isGear w x3).bind fun r8 => (if r8 = 0 then (some ((-1 : Int32), w)) else (if x1 = x2 then (some ((-2 : Int32), w)) else ((f_X8_trace w x3).bind fun w13 => (if inR x1 6 then ((f_X8_holds w13 (gI w13 11 (x1).toNatClampNeg)).bind fun r16 => (if r16 = 0 then (some ((-3 : Int32), w13)) else (if inR x2 6 then ((f_X8_holds w13 (gI w13 11 (x2).toNatClampNeg)).bind fun r20 => (if r20 = 0 then (some ((-3 : Int32), w13)) else (some ((0 : Int32), w13)))) else none))) else none)))))))))
def f_X2_bySolving (w : Wd) (x1 : Int32) (x2 : Int32) (x3 : Int32) : Option (Int32 × Wd) := ((f_X8_trace w x3).bind fun w3 => (if inR x1 6 then (if inR x2 6 then (if inR (gI w3 11 (x1).toNatClampNeg) 10 then (if inR (gI w3 11 (x2).toNatClampNeg) 10 then ((f_X4_remainder ((gL w3 125 ((gI w3 11 (x1).toNatClampNeg)).toNatClampNeg) - (gL w3 125 ((gI w3 11 (x2).toNatClampNeg)).toNatClampNeg)) (24883200000 : Int64)).bind fun r9 => (if inR (gI w3 11 (x2).toNatClampNeg) 10 then (if inR (gI w3 11 (x1).toNatClampNeg) 10 then ((f_X4_remainder ((gL w3 3 ((gI w3 11 (x2).toNatClampNeg)).toNatClampNeg) - (gL w3 3 ((gI w3 11 (x1).toNatClampNeg)).toNatClampNeg)) (24883200000 : Int64)).bind fun r13 => ((f_X4_commonDivisor r9 (24883200000 : Int64)).bind fun r15 => ((f_X4_remainder r13 r15).bind fun r17 => (if r17 = (0 : Int64) then ((f_X4_quotient (24883200000 : Int64) r15).bind fun r20 => ((f_X4_quotient r13 r15).bind fun r22 => ((f_X4_quotient r9 r15).bind fun r24 => ((f_X4_inverse r24 r20).bind fun r26 => ((f_X4_product r22 r26 r20).bind fun r28 => (if r28 = (0 : Int64) then (if r20 ≤ (999 : Int64) then (some ((r20).toInt32, w3)) else (some ((0 : Int32), w3))) else (if r28 ≤ (999 : Int64) then (some ((r28).toInt32, w3)) else (some ((0 : Int32), w3))))))))) else (some ((0 : Int32), w3)))))) else none) else none)) else none) else none) else none) else none))
def p_X2_byTurning_61 (c12 : Int32) (w3 : Wd) (c11 : Int32) : Nat → Int64 → Int64 → Int32 → Option ((Int64 × Int64 × Int32) ⊕ (Int32 × Wd))
  | 0, _, _, _ => none
  | n + 1, y8, y9, y10 => (if (999 : Int32) < y10 then (some (.inl (y8, y9, y10))) else (if inR c12 10 then ((f_X4_remainder (y8 + (gL w3 125 (c12).toNatClampNeg)) (24883200000 : Int64)).bind fun r17 => (if inR c11 10 then ((f_X4_remainder (y9 + (gL w3 125 (c11).toNatClampNeg)) (24883200000 : Int64)).bind fun r20 => (if r17 = r20 then (some (.inr (y10, w3))) else (p_X2_byTurning_61 c12 w3 c11 n r17 r20 (y10 + (1 : Int32))))) else none)) else none))
def f_X2_byTurning (w : Wd) (x1 : Int32) (x2 : Int32) (x3 : Int32) : Option (Int32 × Wd) := ((f_X8_trace w x3).bind fun w3 => (if inR x1 6 then (if inR x2 6 then (if inR (gI w3 11 (x1).toNatClampNeg) 10 then (if inR (gI w3 11 (x2).toNatClampNeg) 10 then ((p_X2_byTurning_61 (gI w3 11 (x1).toNatClampNeg) w3 (gI w3 11 (x2).toNatClampNeg) 2000 (gL w3 3 ((gI w3 11 (x1).toNatClampNeg)).toNatClampNeg) (gL w3 3 ((gI w3 11 (x2).toNatClampNeg)).toNatClampNeg) (1 : Int32)).bind fun z => zc z (fun q => u3 q fun y8 y9 y10 => (some ((0 : Int32), w3))) (fun r => (some r))) else none) else none) else none) else none))
def p_X2_bothWaysAgree_25 (y1 : Int32) (c7 : Int32) : Nat → Int32 → Wd → Option ((Int32 × Wd) ⊕ (Int32 × Wd))
  | 0, _, _ => none
  | n + 1, y6, w8 => (if (gI w8 1 12) ≤ y6 then (some (.inl (y6, w8))) else ((f_X2_judge w8 y1 y6 c7).bind fun z => u2 z fun r12 w13 => (if r12 = 0 then ((f_X2_bySolving w13 y1 y6 c7).bind fun z => u2 z fun r17 w18 => ((f_X2_byTurning w18 y1 y6 c7).bind fun z => u2 z fun r21 w22 => (if r17 = r21 then (p_X2_bothWaysAgree_25 y1 c7 n (y6 + (1 : Int32)) w22) else (some (.inr ((0 : Int32), w22)))))) else (p_X2_bothWaysAgree_25 y1 c7 n (y6 + (1 : Int32)) w13))))
def p_X2_bothWaysAgree_2 : Nat → Int32 → Wd → Option ((Int32 × Wd) ⊕ (Int32 × Wd))
  | 0, _, _ => none
  | n + 1, y1, w2 => (if (gI w2 1 12) ≤ y1 then (some (.inl (y1, w2))) else (if inR y1 6 then ((p_X2_bothWaysAgree_25 y1 (gI w2 11 (y1).toNatClampNeg) 2000 (0 : Int32) w2).bind fun z => zc z (fun q => u2 q fun y6 w8 => (p_X2_bothWaysAgree_2 n (y1 + (1 : Int32)) w8)) (fun r => (some (.inr r)))) else none))
def f_X2_bothWaysAgree (w : Wd) : Option (Int32 × Wd) := ((p_X2_bothWaysAgree_2 2000 (0 : Int32) w).bind fun z => zc z (fun q => u2 q fun y1 w2 => (some ((1 : Int32), w2))) (fun r => (some r)))
def f_X3_empty (w : Wd) : Option Wd := (wl (uI w 34 2 (0 : Int32)) fun w1 => (some w1))
def f_X3_push (w : Wd) : Option Wd := (if (gI w 34 2) = (8 : Int32) then (if ¬ (8 : Int32) = 0 then (wl (uI w 34 1 (((gI w 34 1) + (1 : Int32)) - ((gI w 34 1) + (1 : Int32)) / (8 : Int32) * (8 : Int32))) fun w9 => (wl (uI w9 34 2 ((gI w9 34 2) - (1 : Int32))) fun w10 => (if ¬ (8 : Int32) = 0 then (if inR (((gI w10 34 1) + (gI w10 34 2)) - ((gI w10 34 1) + (gI w10 34 2)) / (8 : Int32) * (8 : Int32)) 8 then ((f_X7_copyFrom w10 (36 + 11 * ((((gI w10 34 1) + (gI w10 34 2)) - ((gI w10 34 1) + (gI w10 34 2)) / (8 : Int32) * (8 : Int32))).toNatClampNeg) 12).bind fun w15 => (wl (uI w15 34 2 ((gI w15 34 2) + (1 : Int32))) fun w16 => (some w16))) else none) else none))) else none) else (if ¬ (8 : Int32) = 0 then (if inR (((gI w 34 1) + (gI w 34 2)) - ((gI w 34 1) + (gI w 34 2)) / (8 : Int32) * (8 : Int32)) 8 then ((f_X7_copyFrom w (36 + 11 * ((((gI w 34 1) + (gI w 34 2)) - ((gI w 34 1) + (gI w 34 2)) / (8 : Int32) * (8 : Int32))).toNatClampNeg) 12).bind fun w6 => (wl (uI w6 34 2 ((gI w6 34 2) + (1 : Int32))) fun w7 => (some w7))) else none) else none))
def f_X3_popInto (w : Wd) : Option Wd := (if (gI w 34 2) ≤ 0 then (some w) else (wl (uI w 34 2 ((gI w 34 2) - (1 : Int32))) fun w2 => (if ¬ (8 : Int32) = 0 then (if inR (((gI w2 34 1) + (gI w2 34 2)) - ((gI w2 34 1) + (gI w2 34 2)) / (8 : Int32) * (8 : Int32)) 8 then ((f_X7_copyFrom w2 1 (36 + 11 * ((((gI w2 34 1) + (gI w2 34 2)) - ((gI w2 34 1) + (gI w2 34 2)) / (8 : Int32) * (8 : Int32))).toNatClampNeg)).bind fun w7 => (some w7)) else none) else none)))
def p_X5_hasSecondPair_45 (w : Wd) (y3 : Int32) (x1 : Int32) (x2 : Int32) (c5 : Int32) (c4 : Int32) : Nat → Int32 → Option ((Int32) ⊕ Int32)
  | 0, _ => none
  | n + 1, y8 => (if (gI w 1 10) ≤ y8 then (some (.inl y8)) else (if y3 = y8 then (p_X5_hasSecondPair_45 w y3 x1 x2 c5 c4 n (y8 + (1 : Int32))) else (if y3 = x1 then (p_X5_hasSecondPair_45 w y3 x1 x2 c5 c4 n (y8 + (1 : Int32))) else (if y3 = x2 then (p_X5_hasSecondPair_45 w y3 x1 x2 c5 c4 n (y8 + (1 : Int32))) else (if y8 = x1 then (p_X5_hasSecondPair_45 w y3 x1 x2 c5 c4 n (y8 + (1 : Int32))) else (if y8 = x2 then (p_X5_hasSecondPair_45 w y3 x1 x2 c5 c4 n (y8 + (1 : Int32))) else (if inR y3 10 then (if inR y8 10 then (if (c5 * (gI w 2 (y3).toNatClampNeg)) = (c4 * (gI w 2 (y8).toNatClampNeg)) then (some (.inr (1 : Int32))) else (p_X5_hasSecondPair_45 w y3 x1 x2 c5 c4 n (y8 + (1 : Int32)))) else none) else none)))))))
def p_X5_hasSecondPair_30 (w : Wd) (x1 : Int32) (x2 : Int32) (c5 : Int32) (c4 : Int32) : Nat → Int32 → Option ((Int32) ⊕ Int32)
  | 0, _ => none
  | n + 1, y3 => (if (gI w 1 10) ≤ y3 then (some (.inl y3)) else ((p_X5_hasSecondPair_45 w y3 x1 x2 c5 c4 2000 (0 : Int32)).bind fun z => zc z (fun y8 => (p_X5_hasSecondPair_30 w x1 x2 c5 c4 n (y3 + (1 : Int32)))) (fun r => (some (.inr r)))))
def f_X5_hasSecondPair (w : Wd) (x1 : Int32) (x2 : Int32) (x3 : Int32) (x4 : Int32) : Option Int32 := (if inR x1 10 then (if inR x2 10 then ((p_X5_hasSecondPair_30 w x1 x2 ((gI w 2 (x1).toNatClampNeg) * x4) ((gI w 2 (x2).toNatClampNeg) * x3) 2000 (0 : Int32)).bind fun z => zc z (fun y3 => (some (0 : Int32))) (fun r => (some r))) else none) else none)
def p_X5_byTrying_16 (w : Wd) (y1 : Int32) (x2 : Int32) (x1 : Int32) : Nat → Int32 → Option ((Int32) ⊕ Int32)
  | 0, _ => none
  | n + 1, y4 => (if (gI w 1 10) ≤ y4 then (some (.inl y4)) else (if y1 = y4 then (p_X5_byTrying_16 w y1 x2 x1 n (y4 + (1 : Int32))) else (if inR y1 10 then (if inR y4 10 then (if ((gI w 2 (y1).toNatClampNeg) * x2) = ((gI w 2 (y4).toNatClampNeg) * x1) then (some (.inr (1 : Int32))) else (p_X5_byTrying_16 w y1 x2 x1 n (y4 + (1 : Int32)))) else none) else none)))
def p_X5_byTrying_2 (w : Wd) (x2 : Int32) (x1 : Int32) : Nat → Int32 → Option ((Int32) ⊕ Int32)
  | 0, _ => none
  | n + 1, y1 => (if (gI w 1 10) ≤ y1 then (some (.inl y1)) else ((p_X5_byTrying_16 w y1 x2 x1 2000 (0 : Int32)).bind fun z => zc z (fun y4 => (p_X5_byTrying_2 w x2 x1 n (y1 + (1 : Int32)))) (fun r => (some (.inr r)))))
def p_X5_byTrying_90 (w : Wd) (y15 : Int32) (x1 : Int32) (x2 : Int32) : Nat → Int32 → Option ((Int32) ⊕ Int32)
  | 0, _ => none
  | n + 1, y18 => (if (gI w 1 10) ≤ y18 then (some (.inl y18)) else (if y15 = y18 then (p_X5_byTrying_90 w y15 x1 x2 n (y18 + (1 : Int32))) else ((f_X5_hasSecondPair w y15 y18 x1 x2).bind fun r23 => (if r23 = 0 then (p_X5_byTrying_90 w y15 x1 x2 n (y18 + (1 : Int32))) else (some (.inr (2 : Int32)))))))
def p_X5_byTrying_76 (w : Wd) (x1 : Int32) (x2 : Int32) : Nat → Int32 → Option ((Int32) ⊕ Int32)
  | 0, _ => none
  | n + 1, y15 => (if (gI w 1 10) ≤ y15 then (some (.inl y15)) else ((p_X5_byTrying_90 w y15 x1 x2 2000 (0 : Int32)).bind fun z => zc z (fun y18 => (p_X5_byTrying_76 w x1 x2 n (y15 + (1 : Int32)))) (fun r => (some (.inr r)))))
def f_X5_byTrying (w : Wd) (x1 : Int32) (x2 : Int32) : Option Int32 := ((p_X5_byTrying_2 w x2 x1 2000 (0 : Int32)).bind fun z => zc z (fun y1 => ((p_X5_byTrying_76 w x1 x2 2000 (0 : Int32)).bind fun z => zc z (fun y15 => (some (0 : Int32))) (fun r => (some r)))) (fun r => (some r)))
def f_X5_addPair (w : Wd) (x1 : Int32) (x2 : Int32) : Option Wd := (if (90 : Int32) ≤ (gI w 129 5) then (some w) else (if inR x1 10 then (if inR x2 10 then ((f_X4_commonDivisor (((gI w 2 (x1).toNatClampNeg)).toInt64) (((gI w 2 (x2).toNatClampNeg)).toInt64)).bind fun r5 => (if inR x1 10 then ((f_X4_quotient (((gI w 2 (x1).toNatClampNeg)).toInt64) r5).bind fun r8 => (if inR (gI w 129 5) 90 then (wl (uI w 130 ((gI w 129 5)).toNatClampNeg (r8).toInt32) fun w10 => (if inR x2 10 then ((f_X4_quotient (((gI w10 2 (x2).toNatClampNeg)).toInt64) r5).bind fun r13 => (if inR (gI w10 129 5) 90 then (wl (uI w10 131 ((gI w10 129 5)).toNatClampNeg (r13).toInt32) fun w15 => (if inR (gI w15 129 5) 90 then (wl (uI w15 132 ((gI w15 129 5)).toNatClampNeg x1) fun w17 => (if inR (gI w17 129 5) 90 then (wl (uI w17 133 ((gI w17 129 5)).toNatClampNeg x2) fun w19 => (wl (uI w19 129 5 ((gI w19 129 5) + (1 : Int32))) fun w20 => (some w20))) else none)) else none)) else none)) else none)) else none)) else none)) else none) else none))
def p_X5_tableHas_30 (w : Wd) (x3 : Int32) (x4 : Int32) (r4 : Int64) (r6 : Int64) : Nat → Int32 → Option ((Int32) ⊕ Int32)
  | 0, _ => none
  | n + 1, y7 => (if (gI w 129 5) ≤ y7 then (some (.inl y7)) else (if inR y7 90 then (if (gI w 132 (y7).toNatClampNeg) = x3 then (p_X5_tableHas_30 w x3 x4 r4 r6 n (y7 + (1 : Int32))) else (if inR y7 90 then (if (gI w 132 (y7).toNatClampNeg) = x4 then (p_X5_tableHas_30 w x3 x4 r4 r6 n (y7 + (1 : Int32))) else (if inR y7 90 then (if (gI w 133 (y7).toNatClampNeg) = x3 then (p_X5_tableHas_30 w x3 x4 r4 r6 n (y7 + (1 : Int32))) else (if inR y7 90 then (if (gI w 133 (y7).toNatClampNeg) = x4 then (p_X5_tableHas_30 w x3 x4 r4 r6 n (y7 + (1 : Int32))) else (if inR y7 90 then (if ((gI w 130 (y7).toNatClampNeg)).toInt64 = r4 then (if inR y7 90 then (if ((gI w 131 (y7).toNatClampNeg)).toInt64 = r6 then (some (.inr (1 : Int32))) else (p_X5_tableHas_30 w x3 x4 r4 r6 n (y7 + (1 : Int32)))) else none) else (p_X5_tableHas_30 w x3 x4 r4 r6 n (y7 + (1 : Int32)))) else none)) else none)) else none)) else none)) else none))
def f_X5_tableHas (w : Wd) (x1 : Int32) (x2 : Int32) (x3 : Int32) (x4 : Int32) : Option Int32 := ((f_X4_commonDivisor ((x1).toInt64) ((x2).toInt64)).bind fun r2 => ((f_X4_quotient ((x1).toInt64) r2).bind fun r4 => ((f_X4_quotient ((x2).toInt64) r2).bind fun r6 => ((p_X5_tableHas_30 w x3 x4 r4 r6 2000 (0 : Int32)).bind fun z => zc z (fun y7 => (some (0 : Int32))) (fun r => (some r))))))
def p_X5_makeTable_20 (y2 : Int32) : Nat → Int32 → Wd → Option ((Int32 × Wd) ⊕ Unit)
  | 0, _, _ => none
  | n + 1, y6, w7 => (if (gI w7 1 10) ≤ y6 then (some (.inl (y6, w7))) else (if y2 = y6 then (p_X5_makeTable_20 y2 n (y6 + (1 : Int32)) w7) else ((f_X5_addPair w7 y2 y6).bind fun w13 => (p_X5_makeTable_20 y2 n (y6 + (1 : Int32)) w13))))
def p_X5_makeTable_7 : Nat → Int32 → Wd → Option ((Int32 × Wd) ⊕ Unit)
  | 0, _, _ => none
  | n + 1, y2, w3 => (if (gI w3 1 10) ≤ y2 then (some (.inl (y2, w3))) else ((p_X5_makeTable_20 y2 2000 (0 : Int32) w3).bind fun z => zc z (fun q => u2 q fun y6 w7 => (p_X5_makeTable_7 n (y2 + (1 : Int32)) w7)) (fun _ => none)))
def f_X5_makeTable (w : Wd) : Option Wd := (wl (uI w 129 5 (0 : Int32)) fun w1 => ((p_X5_makeTable_7 2000 (0 : Int32) w1).bind fun z => zc z (fun q => u2 q fun y2 w3 => (some w3)) (fun _ => none)))
def p_X5_byTable_19 (w3 : Wd) (x1 : Int32) (x2 : Int32) : Nat → Int32 → Option ((Int32) ⊕ (Int32 × Wd))
  | 0, _ => none
  | n + 1, y7 => (if (gI w3 129 5) ≤ y7 then (some (.inl y7)) else (if inR y7 90 then (if inR y7 90 then (if inR y7 90 then (if inR y7 90 then ((f_X5_tableHas w3 (x1 * (gI w3 131 (y7).toNatClampNeg)) (x2 * (gI w3 130 (y7).toNatClampNeg)) (gI w3 132 (y7).toNatClampNeg) (gI w3 133 (y7).toNatClampNeg)).bind fun r15 => (if r15 = 0 then (p_X5_byTable_19 w3 x1 x2 n (y7 + (1 : Int32))) else (some (.inr ((2 : Int32), w3))))) else none) else none) else none) else none))
def f_X5_byTable (w : Wd) (x1 : Int32) (x2 : Int32) : Option (Int32 × Wd) := ((f_X5_makeTable w).bind fun w3 => ((f_X5_tableHas w3 x1 x2 (-1 : Int32) (-1 : Int32)).bind fun r5 => (if r5 = 0 then ((p_X5_byTable_19 w3 x1 x2 2000 (0 : Int32)).bind fun z => zc z (fun y7 => (some ((0 : Int32), w3))) (fun r => (some r))) else (some ((1 : Int32), w3)))))
def p_X5_bothWaysAgree_2 : Nat → Int32 → Wd → Option ((Int32 × Wd) ⊕ (Int32 × Wd))
  | 0, _, _ => none
  | n + 1, y1, w2 => (if (10 : Int32) < y1 then (some (.inl (y1, w2))) else ((f_X5_byTrying w2 y1 (1 : Int32)).bind fun r6 => ((f_X5_byTable w2 y1 (1 : Int32)).bind fun z => u2 z fun r8 w9 => (if r6 = r8 then (p_X5_bothWaysAgree_2 n (y1 + (1 : Int32)) w9) else (some (.inr ((0 : Int32), w9)))))))
def f_X5_bothWaysAgree (w : Wd) : Option (Int32 × Wd) := ((p_X5_bothWaysAgree_2 2000 (1 : Int32) w).bind fun z => zc z (fun q => u2 q fun y1 w2 => (some ((1 : Int32), w2))) (fun r => (some r)))
def f_X6_add (w : Wd) (x1 : Int32) : Option Wd := (if (60 : Int32) ≤ (gI w 134 1) then (some w) else (if inR (gI w 134 1) 60 then (wl (uI w 135 ((gI w 134 1)).toNatClampNeg (vp_nar .char x1)) fun w3 => (wl (uI w3 134 1 ((gI w3 134 1) + (1 : Int32))) fun w4 => (some w4))) else none))
def f_X6_empty (w : Wd) : Option Wd := (wl (uI w 134 1 (0 : Int32)) fun w1 => (some w1))
def p_X6_commonSigns_2 (x1 : Nat) (w : Wd) : Nat → Int32 → Option (Int32 ⊕ Unit)
  | 0, _ => none
  | n + 1, y1 => ((f_J0_length_8abf5 x1).bind fun r4 => (if r4 ≤ y1 then (some (.inl y1)) else (if (gI w 134 1) ≤ ((gI w 134 2) + y1) then (some (.inl y1)) else (if inR ((gI w 134 2) + y1) 60 then ((f_J0_charAt_5068e w x1 y1).bind fun r9 => (if (gI w 135 (((gI w 134 2) + y1)).toNatClampNeg) = r9 then (p_X6_commonSigns_2 x1 w n (y1 + (1 : Int32))) else (some (.inl y1)))) else none))))
def f_X6_commonSigns (w : Wd) (x1 : Nat) : Option Int32 := ((p_X6_commonSigns_2 x1 w 2000 (0 : Int32)).bind fun z => zc z (fun y1 => (some y1)) (fun _ => none))
def f_X6_readSign (w : Wd) (x1 : Int32) : Option (Int32 × Wd) := (if (gI w 134 1) ≤ (gI w 134 2) then (some ((0 : Int32), w)) else (if inR (gI w 134 2) 60 then (if (gI w 135 ((gI w 134 2)).toNatClampNeg) = x1 then (wl (uI w 134 2 ((gI w 134 2) + (1 : Int32))) fun w4 => (some ((1 : Int32), w4))) else (some ((0 : Int32), w))) else none))
def f_X6_addDigit (w : Wd) : Option (Int32 × Wd) := (if (gI w 134 1) ≤ (gI w 134 2) then (some ((0 : Int32), w)) else (if inR (gI w 134 2) 60 then (if (gI w 135 ((gI w 134 2)).toNatClampNeg) < (48 : Int32) then (some ((0 : Int32), w)) else (if inR (gI w 134 2) 60 then (if (gI w 135 ((gI w 134 2)).toNatClampNeg) ≤ (57 : Int32) then (if inR (gI w 134 2) 60 then (wl (uI w 134 7 (((gI w 134 7) * (10 : Int32)) + ((gI w 135 ((gI w 134 2)).toNatClampNeg) - (48 : Int32)))) fun w7 => (wl (uI w7 134 2 ((gI w7 134 2) + (1 : Int32))) fun w8 => (some ((1 : Int32), w8)))) else none) else (some ((0 : Int32), w))) else none)) else none))
def p_X6_readVerb_15 (c4 : Int32) (w : Wd) : Nat → Option Nat → Int32 → Int32 → Option ((Option Nat × Int32 × Int32) ⊕ Unit)
  | 0, _, _, _ => none
  | n + 1, y1, y2, y3 => (if c4 ≤ y3 then (some (.inl (y1, y2, y3))) else (if inR y3 13 then ((f_X6_commonSigns w ((y3).toNatClampNeg)).bind fun r9 => ((f_J0_length_8abf5 ((y3).toNatClampNeg)).bind fun r11 => (if r9 = r11 then (p_X6_readVerb_15 c4 w n (some ((y3).toNatClampNeg)) (if y2 < r9 then r9 else y2) (y3 + (1 : Int32))) else (p_X6_readVerb_15 c4 w n y1 (if y2 < r9 then r9 else y2) (y3 + (1 : Int32)))))) else none))
def f_X6_readVerb (w : Wd) : Option (Option Nat × Wd) := ((p_X6_readVerb_15 (13 : Int32) w 2000 none (0 : Int32) (0 : Int32)).bind fun z => zc z (fun q => u3 q fun y1 y2 y3 => (wl (uI w 134 2 ((gI w 134 2) + y2)) fun w15 => (some (y1, w15)))) (fun _ => none))
def p_X6_readDigits_7 (x1 : Int32) : Nat → Int32 → Wd → Option ((Int32 × Wd) ⊕ Unit)
  | 0, _, _ => none
  | n + 1, y2, w3 => (if x1 ≤ y2 then (some (.inl (y2, w3))) else ((f_X6_addDigit w3).bind fun z => u2 z fun r7 w8 => (if r7 = 0 then (some (.inl (y2, w8))) else (p_X6_readDigits_7 x1 n (y2 + (1 : Int32)) w8))))
def f_X6_readDigits (w : Wd) (x1 : Int32) : Option (Int32 × Wd) := (wl (uI w 134 7 (0 : Int32)) fun w1 => ((p_X6_readDigits_7 x1 2000 (0 : Int32) w1).bind fun z => zc z (fun q => u2 q fun y2 w3 => (if y2 ≤ 0 then (some ((0 : Int32), w3)) else (some ((1 : Int32), w3)))) (fun _ => none)))
def f_X6_readCommand (w : Wd) (x1 : Int32) : Option (Int32 × Wd) := ((f_X6_readVerb w).bind fun z => u2 z fun r2 w3 => (mo r2 (some ((0 : Int32), w3)) fun k5 => (if k5 < 13 then (if inR x1 60 then (wl (uV w3 (x1).toNatClampNeg (some k5)) fun w9 => (if inR x1 60 then (wl (uI w9 138 (x1).toNatClampNeg (0 : Int32)) fun w11 => (if (cShapes.getD k5 0) = 0 then ((f_X6_readDigits w11 (3 : Int32)).bind fun z => u2 z fun r46 w47 => (if inR x1 60 then (wl (uI w47 137 (x1).toNatClampNeg (gI w47 134 7)) fun w50 => (if r46 = 0 then (some ((vp_nar .boolean r46), w50)) else (if (cShapes.getD k5 0) = 0 then (some ((vp_nar .boolean r46), w50)) else (if (cShapes.getD k5 0) = (1 : Int32) then (some ((vp_nar .boolean r46), w50)) else (if (cShapes.getD k5 0) = (2 : Int32) then ((f_X6_readDigits w50 (1 : Int32)).bind fun z => u2 z fun r72 w73 => (if inR x1 60 then (wl (uI w73 138 (x1).toNatClampNeg (gI w73 134 7)) fun w76 => (some ((vp_nar .boolean r72), w76))) else none)) else ((f_X6_readSign w50 (32 : Int32)).bind fun z => u2 z fun r56 w57 => (if r56 = 0 then (if inR x1 60 then (wl (uI w57 138 (x1).toNatClampNeg (gI w57 134 7)) fun w61 => (some ((0 : Int32), w61))) else none) else ((f_X6_readDigits w57 (3 : Int32)).bind fun z => u2 z fun r63 w64 => (if r63 = 0 then (if inR x1 60 then (wl (uI w64 138 (x1).toNatClampNeg (gI w64 134 7)) fun w68 => (some ((0 : Int32), w68))) else none) else (if inR x1 60 then (wl (uI w64 138 (x1).toNatClampNeg (gI w64 134 7)) fun w70 => (some ((1 : Int32), w70))) else none)))))))))) else none)) else ((f_X6_readDigits w11 (1 : Int32)).bind fun z => u2 z fun r14 w15 => (if inR x1 60 then (wl (uI w15 137 (x1).toNatClampNeg (gI w15 134 7)) fun w18 => (if r14 = 0 then (some ((vp_nar .boolean r14), w18)) else (if (cShapes.getD k5 0) = 0 then (some ((vp_nar .boolean r14), w18)) else (if (cShapes.getD k5 0) = (1 : Int32) then (some ((vp_nar .boolean r14), w18)) else (if (cShapes.getD k5 0) = (2 : Int32) then ((f_X6_readDigits w18 (1 : Int32)).bind fun z => u2 z fun r40 w41 => (if inR x1 60 then (wl (uI w41 138 (x1).toNatClampNeg (gI w41 134 7)) fun w44 => (some ((vp_nar .boolean r40), w44))) else none)) else ((f_X6_readSign w18 (32 : Int32)).bind fun z => u2 z fun r24 w25 => (if r24 = 0 then (if inR x1 60 then (wl (uI w25 138 (x1).toNatClampNeg (gI w25 134 7)) fun w29 => (some ((0 : Int32), w29))) else none) else ((f_X6_readDigits w25 (3 : Int32)).bind fun z => u2 z fun r31 w32 => (if r31 = 0 then (if inR x1 60 then (wl (uI w32 138 (x1).toNatClampNeg (gI w32 134 7)) fun w36 => (some ((0 : Int32), w36))) else none) else (if inR x1 60 then (wl (uI w32 138 (x1).toNatClampNeg (gI w32 134 7)) fun w38 => (some ((1 : Int32), w38))) else none)))))))))) else none)))) else none)) else none) else none)))
def p_X6_parse_12 : Nat → Int32 → Wd → Option ((Int32 × Wd) ⊕ (Int32 × Wd))
  | 0, _, _ => none
  | n + 1, y3, w4 => (if (60 : Int32) ≤ y3 then (some (.inl (y3, w4))) else ((f_X6_readCommand w4 y3).bind fun z => u2 z fun r8 w9 => (if r8 = 0 then (some (.inr ((gI w9 134 2), w9))) else (wl (uI w9 134 6 ((gI w9 134 6) + (1 : Int32))) fun w12 => (if (gI w12 134 2) = (gI w12 134 1) then (some (.inr ((-1 : Int32), w12))) else ((f_X6_readSign w12 (59 : Int32)).bind fun z => u2 z fun r15 w16 => (if r15 = 0 then (some (.inr ((gI w16 134 2), w16))) else (p_X6_parse_12 n (y3 + (1 : Int32)) w16))))))))
def f_X6_parse (w : Wd) : Option (Int32 × Wd) := (wl (uI w 134 2 (0 : Int32)) fun w1 => (wl (uI w1 134 6 (0 : Int32)) fun w2 => ((p_X6_parse_12 2000 (0 : Int32) w2).bind fun z => zc z (fun q => u2 q fun y3 w4 => (some ((gI w4 134 2), w4))) (fun r => (some r)))))
def f_X10_gearCount (w : Wd) : Option Int32 := (some (gI w 1 10))
def f_X10_jointCount (w : Wd) : Option Int32 := (some (gI w 1 11))
def f_X10_drops (w : Wd) : Option Int32 := (some (gI w 1 13))
def f_X10_planetCount (w : Wd) : Option Int32 := (some (gI w 1 12))
def p_X10_planetByAngle_2 (w : Wd) (x1 : Int32) : Nat → Int32 → Option ((Int32) ⊕ (Nat ⊕ Int32))
  | 0, _ => none
  | n + 1, y1 => (if (gI w 1 12) ≤ y1 then (some (.inl y1)) else ((f_X7_rankByAngle w y1).bind fun r5 => (if r5 = x1 then (some (.inr (.inr y1))) else (p_X10_planetByAngle_2 w x1 n (y1 + (1 : Int32))))))
def f_X10_planetByAngle (w : Wd) (x1 : Int32) : Option (Nat ⊕ Int32) := ((p_X10_planetByAngle_2 w x1 2000 (0 : Int32)).bind fun z => zc z (fun y1 => (some (.inl 4))) (fun r => (some r)))
def f_X10_woundTotal (w : Wd) : Option Int32 := (some (gI w 1 14))
def f_X10_tensionTotal (w : Wd) : Option Int32 := ((f_X7_sumOfTensions w).bind fun r2 => (some r2))
def f_X10_tensionByAccounts (w : Wd) : Option Int32 := (some ((gI w 1 14) - (gI w 1 15)))
def f_X10_releaseTotal (w : Wd) : Option Int32 := (some (gI w 1 16))
def f_X10_meanTeeth (w : Wd) : Option (Nat ⊕ UInt64) := (if (gI w 1 10) = 0 then (some (.inl 5)) else ((f_X7_sumOfTeeth w).bind fun r3 => (if okN64 (FP.ddiv (FP.i2d r3) (FP.i2d (gI w 1 10))) then (some (.inr (FP.ddiv (FP.i2d r3) (FP.i2d (gI w 1 10))))) else none)))
def f_X10_dryShare (w : Wd) : Option (Nat ⊕ UInt32) := (if (gI w 1 10) = 0 then (some (.inl 5)) else ((f_X7_dryGears w).bind fun r3 => (if okN32 (FP.fdiv (FP.i2f r3) (FP.i2f (gI w 1 10))) then (some (.inr (FP.fdiv (FP.i2f r3) (FP.i2f (gI w 1 10))))) else none)))
def f_X10_outputAt (w : Wd) (x1 : Int32) : Option (Nat ⊕ Int32) := (if x1 < 0 then (some (.inl 0)) else ((f_J4_length_8abf5 w).bind fun r3 => (if x1 < r3 then ((f_J4_charAt_5068e w x1).bind fun r6 => (some (.inr (vp_nar .char r6)))) else (some (.inl 0)))))
def f_X10_type (w : Wd) (x1 : Int32) : Option ((Nat ⊕ Int32) × Wd) := (if x1 < (32 : Int32) then (some ((.inl 1), w)) else (if x1 ≤ (126 : Int32) then (if (gI w 134 1) < (60 : Int32) then ((f_X6_add w x1).bind fun w6 => (some ((.inr (gI w6 134 1)), w6))) else (some ((.inl 2), w))) else (some ((.inl 1), w))))
def f_X10_errorPosition (w : Wd) : Option (Nat ⊕ Int32) := (if (gI w 0 11) = (-1 : Int32) then (some (.inl 4)) else (some (.inr (gI w 0 11))))
def f_X10_failedCommand (w : Wd) : Option (Nat ⊕ Int32) := (if (gI w 0 12) = (-1 : Int32) then (some (.inl 4)) else (some (.inr (gI w 0 12))))
def f_X10_save (w : Wd) : Option (Int32 × Wd) := ((f_X7_copyFrom w 23 1).bind fun w3 => (wl (uI w3 0 3 (1 : Int32)) fun w4 => (some ((gI w4 1 10), w4))))
def f_X10_restore (w : Wd) : Option ((Nat ⊕ Int32) × Wd) := (if (gI w 0 3) = 0 then (some ((.inl 2), w)) else ((f_X7_copyFrom w 1 23).bind fun w4 => ((f_X3_empty w4).bind fun w7 => (some ((.inr (gI w7 1 10)), w7)))))
def f_X10_refuse (w : Wd) (x0 : Int32) : Option (Nat ⊕ Unit) := (if x0 = (-5 : Int32) then (some (.inl 4)) else (if x0 = (-4 : Int32) then (some (.inl 3)) else (if x0 = (-3 : Int32) then (some (.inl 2)) else (if x0 = (-2 : Int32) then (some (.inl 1)) else (if x0 = (-1 : Int32) then (some (.inl 0)) else (some (.inr ())))))))
def f_X10_found (w : Wd) (x0 : Int32) : Option (Nat ⊕ Int32) := (if x0 = 0 then (some (.inl 4)) else (some (.inr x0)))
def f_X10_checkGear (w : Wd) (x1 : Int32) : Option (Nat ⊕ Unit) := ((f_X7_isGear w x1).bind fun r2 => (if r2 = 0 then (some (.inl 0)) else (some (.inr ()))))
def f_X10_checkPlanet (w : Wd) (x1 : Int32) : Option (Nat ⊕ Unit) := ((f_X7_isPlanet w x1).bind fun r2 => (if r2 = 0 then (some (.inl 0)) else (some (.inr ()))))
def f_X10_checkSpring (w : Wd) (x1 : Int32) : Option (Nat ⊕ Unit) := ((f_X10_checkGear w x1).bind fun z => zc z (fun k => (some (.inl k))) (fun _ => ((f_X7_hasSpring w x1).bind fun r5 => (if r5 = 0 then (some (.inl 4)) else (some (.inr ()))))))
def f_X10_checkRatio (w : Wd) (x0 : Int32) (x1 : Int32) : Option (Nat ⊕ Unit) := (if x0 < (1 : Int32) then (some (.inl 1)) else (if (60 : Int32) < x0 then (some (.inl 1)) else (if x1 < (1 : Int32) then (some (.inl 1)) else (if x1 ≤ (60 : Int32) then (some (.inr ())) else (some (.inl 1))))))
def f_X10_teeth (w : Wd) (x1 : Int32) : Option (Nat ⊕ Int32) := ((f_X10_checkGear w x1).bind fun z => zc z (fun k => (some (.inl k))) (fun _ => (if inR x1 10 then (some (.inr (gI w 2 (x1).toNatClampNeg))) else none)))
def f_X10_joint (w : Wd) (x1 : Int32) (x2 : Int32) : Option (Nat ⊕ Int32) := ((f_X10_checkGear w x1).bind fun z => zc z (fun k => (some (.inl k))) (fun _ => ((f_X10_checkGear w x2).bind fun z => zc z (fun k => (some (.inl k))) (fun _ => ((f_X7_jointOf w x1 x2).bind fun r8 => (if r8 = 0 then (some (.inl 4)) else (some (.inr (vp_nar .char r8)))))))))
def f_X10_trainSize (w : Wd) (x1 : Int32) : Option ((Nat ⊕ Int32) × Wd) := ((f_X10_checkGear w x1).bind fun z => zc z (fun k => (some ((.inl k), w))) (fun _ => ((f_X8_trace w x1).bind fun w6 => (some ((.inr (gI w6 124 2)), w6)))))
def f_X10_areInTrain (w : Wd) (x1 : Int32) (x2 : Int32) : Option ((Nat ⊕ Int32) × Wd) := ((f_X10_checkGear w x1).bind fun z => zc z (fun k => (some ((.inl k), w))) (fun _ => ((f_X10_checkGear w x2).bind fun z => zc z (fun k => (some ((.inl k), w))) (fun _ => ((f_X8_trace w x1).bind fun w9 => ((f_X8_holds w9 x2).bind fun r11 => (some ((.inr (vp_nar .boolean r11)), w9))))))))
def f_X10_angle (w : Wd) (x1 : Int32) : Option (Nat ⊕ Int64) := ((f_X10_checkGear w x1).bind fun z => zc z (fun k => (some (.inl k))) (fun _ => (if inR x1 10 then (some (.inr (gL w 3 (x1).toNatClampNeg))) else none)))
def f_X10_anglePart (w : Wd) (x1 : Int32) : Option (Nat ⊕ UInt64) := ((f_X10_checkGear w x1).bind fun z => zc z (fun k => (some (.inl k))) (fun _ => (if inR x1 10 then (if okN64 (FP.ddiv (FP.l2d (gL w 3 (x1).toNatClampNeg)) (4762324188084043776 : UInt64)) then (some (.inr (FP.ddiv (FP.l2d (gL w 3 (x1).toNatClampNeg)) (4762324188084043776 : UInt64)))) else none) else none)))
def f_X10_tension (w : Wd) (x1 : Int32) : Option (Nat ⊕ Int32) := ((f_X10_checkSpring w x1).bind fun z => zc z (fun k => (some (.inl k))) (fun _ => (if inR x1 10 then (some (.inr (gI w 8 (x1).toNatClampNeg))) else none)))
def f_X10_springSize (w : Wd) (x1 : Int32) : Option (Nat ⊕ Int32) := ((f_X10_checkSpring w x1).bind fun z => zc z (fun k => (some (.inl k))) (fun _ => (if inR x1 10 then (some (.inr (gI w 7 (x1).toNatClampNeg))) else none)))
def f_X10_springOf (w : Wd) (x1 : Int32) : Option ((Nat ⊕ Int32) × Wd) := ((f_X10_checkGear w x1).bind fun z => zc z (fun k => (some ((.inl k), w))) (fun _ => ((f_X8_trace w x1).bind fun w6 => ((f_X8_springGear w6).bind fun r8 => (if r8 = (-1 : Int32) then (some ((.inl 4), w6)) else (some ((.inr r8), w6)))))))
def f_X10_friction (w : Wd) (x1 : Int32) : Option ((Nat ⊕ Int32) × Wd) := ((f_X10_checkGear w x1).bind fun z => zc z (fun k => (some ((.inl k), w))) (fun _ => ((f_X8_trace w x1).bind fun w6 => ((f_X8_drag w6).bind fun r8 => (some ((.inr r8), w6))))))
def f_X10_turnsLeft (w : Wd) (x1 : Int32) : Option ((Nat ⊕ Int32) × Wd) := ((f_X10_checkSpring w x1).bind fun z => zc z (fun k => (some ((.inl k), w))) (fun _ => ((f_X8_trace w x1).bind fun w6 => (if inR x1 10 then ((f_X8_drag w6).bind fun r9 => ((f_X4_quotient (((gI w6 8 (x1).toNatClampNeg)).toInt64) ((r9).toInt64)).bind fun r11 => (some ((.inr (r11).toInt32), w6)))) else none))))
def f_X10_canRelease (w : Wd) (x1 : Int32) : Option ((Nat ⊕ Int32) × Wd) := ((f_X10_checkGear w x1).bind fun z => zc z (fun k => (some ((.inl k), w))) (fun _ => ((f_X8_trace w x1).bind fun w6 => ((f_X7_hasSpring w6 x1).bind fun r8 => (if r8 = 0 then (some ((.inr (0 : Int32)), w6)) else ((f_X8_isBlocked w6 x1).bind fun r11 => (if r11 = 0 then (some ((.inr (1 : Int32)), w6)) else (some ((.inr (0 : Int32)), w6)))))))))
def f_X10_hasRatchet (w : Wd) (x1 : Int32) : Option (Nat ⊕ Int32) := ((f_X10_checkGear w x1).bind fun z => zc z (fun k => (some (.inl k))) (fun _ => (if inR x1 10 then (some (.inr (vp_nar .boolean (gI w 6 (x1).toNatClampNeg)))) else none)))
def f_X10_isDry (w : Wd) (x1 : Int32) : Option (Nat ⊕ Int32) := ((f_X10_checkGear w x1).bind fun z => zc z (fun k => (some (.inl k))) (fun _ => (if inR x1 10 then (if (gI w 4 (x1).toNatClampNeg) = 0 then (some (.inr (1 : Int32))) else (some (.inr (0 : Int32)))) else none)))
def f_X10_wear (w : Wd) (x1 : Int32) : Option (Nat ⊕ Int32) := ((f_X10_checkGear w x1).bind fun z => zc z (fun k => (some (.inl k))) (fun _ => (if inR x1 10 then (if (gI w 4 (x1).toNatClampNeg) = 0 then (some (.inl 4)) else (if inR x1 10 then ((f_X4_quotient (gL w 5 (x1).toNatClampNeg) (24883200000 : Int64)).bind fun r8 => (some (.inr (r8).toInt32))) else none)) else none)))
def f_X10_gearOf (w : Wd) (x1 : Int32) : Option (Nat ⊕ Int32) := ((f_X10_checkPlanet w x1).bind fun z => zc z (fun k => (some (.inl k))) (fun _ => (if inR x1 6 then (some (.inr (gI w 11 (x1).toNatClampNeg))) else none)))
def f_X10_areInLine (w : Wd) (x1 : Int32) (x2 : Int32) : Option (Nat ⊕ Int32) := ((f_X10_checkPlanet w x1).bind fun z => zc z (fun k => (some (.inl k))) (fun _ => ((f_X10_checkPlanet w x2).bind fun z => zc z (fun k => (some (.inl k))) (fun _ => (if x1 = x2 then (some (.inl 1)) else (if inR x1 6 then (if inR (gI w 11 (x1).toNatClampNeg) 10 then (if inR x2 6 then (if inR (gI w 11 (x2).toNatClampNeg) 10 then (if (gL w 3 ((gI w 11 (x1).toNatClampNeg)).toNatClampNeg) = (gL w 3 ((gI w 11 (x2).toNatClampNeg)).toNatClampNeg) then (some (.inr (1 : Int32))) else (some (.inr (0 : Int32)))) else none) else none) else none) else none))))))
def f_X10_fewestPairs (w : Wd) (x1 : Int32) (x2 : Int32) : Option (Nat ⊕ Int32) := ((f_X10_checkRatio w x1 x2).bind fun z => zc z (fun k => (some (.inl k))) (fun _ => ((f_X5_byTrying w x1 x2).bind fun r5 => ((f_X10_found w r5).bind fun z => zc z (fun k => (some (.inl k))) (fun r7 => (some (.inr r7)))))))
def f_X10_renderGear (w : Wd) (x1 : Int32) : Option ((Nat ⊕ Int32) × Wd) := ((f_X10_checkGear w x1).bind fun z => zc z (fun k => (some ((.inl k), w))) (fun _ => ((f_J4_setLength_d00df w (0 : Int32)).bind fun w6 => ((f_J4_append_bf812 w6 x1).bind fun w9 => ((f_J4_append_cf468 w9 (58 : Int32)).bind fun w12 => (if inR x1 10 then ((f_J4_append_bf812 w12 (gI w12 2 (x1).toNatClampNeg)).bind fun w16 => (if inR x1 10 then (if (gI w16 4 (x1).toNatClampNeg) = 0 then ((f_J4_append_cf468 w16 (100 : Int32)).bind fun w82 => (if inR x1 10 then (if (gI w82 6 (x1).toNatClampNeg) = 0 then ((f_X7_hasSpring w82 x1).bind fun r86 => (if r86 = 0 then ((f_J4_length_8abf5 w82).bind fun r89 => (some ((.inr r89), w82))) else ((f_J4_append_cf468 w82 (115 : Int32)).bind fun w92 => (if inR x1 10 then ((f_J4_append_bf812 w92 (gI w92 8 (x1).toNatClampNeg)).bind fun w96 => ((f_J4_append_cf468 w96 (47 : Int32)).bind fun w99 => (if inR x1 10 then ((f_J4_append_bf812 w99 (gI w99 7 (x1).toNatClampNeg)).bind fun w103 => (if inR x1 10 then (if (gI w103 9 (x1).toNatClampNeg) = 0 then ((f_J4_length_8abf5 w103).bind fun r107 => (some ((.inr r107), w103))) else ((f_J4_append_cf468 w103 (45 : Int32)).bind fun w110 => ((f_J4_length_8abf5 w110).bind fun r112 => (some ((.inr r112), w110))))) else none)) else none))) else none)))) else ((f_J4_append_cf468 w82 (114 : Int32)).bind fun w115 => ((f_X7_hasSpring w115 x1).bind fun r117 => (if r117 = 0 then ((f_J4_length_8abf5 w115).bind fun r120 => (some ((.inr r120), w115))) else ((f_J4_append_cf468 w115 (115 : Int32)).bind fun w123 => (if inR x1 10 then ((f_J4_append_bf812 w123 (gI w123 8 (x1).toNatClampNeg)).bind fun w127 => ((f_J4_append_cf468 w127 (47 : Int32)).bind fun w130 => (if inR x1 10 then ((f_J4_append_bf812 w130 (gI w130 7 (x1).toNatClampNeg)).bind fun w134 => (if inR x1 10 then (if (gI w134 9 (x1).toNatClampNeg) = 0 then ((f_J4_length_8abf5 w134).bind fun r138 => (some ((.inr r138), w134))) else ((f_J4_append_cf468 w134 (45 : Int32)).bind fun w141 => ((f_J4_length_8abf5 w141).bind fun r143 => (some ((.inr r143), w141))))) else none)) else none))) else none)))))) else none)) else (if inR x1 10 then (if (gI w16 6 (x1).toNatClampNeg) = 0 then ((f_X7_hasSpring w16 x1).bind fun r22 => (if r22 = 0 then ((f_J4_length_8abf5 w16).bind fun r25 => (some ((.inr r25), w16))) else ((f_J4_append_cf468 w16 (115 : Int32)).bind fun w28 => (if inR x1 10 then ((f_J4_append_bf812 w28 (gI w28 8 (x1).toNatClampNeg)).bind fun w32 => ((f_J4_append_cf468 w32 (47 : Int32)).bind fun w35 => (if inR x1 10 then ((f_J4_append_bf812 w35 (gI w35 7 (x1).toNatClampNeg)).bind fun w39 => (if inR x1 10 then (if (gI w39 9 (x1).toNatClampNeg) = 0 then ((f_J4_length_8abf5 w39).bind fun r43 => (some ((.inr r43), w39))) else ((f_J4_append_cf468 w39 (45 : Int32)).bind fun w46 => ((f_J4_length_8abf5 w46).bind fun r48 => (some ((.inr r48), w46))))) else none)) else none))) else none)))) else ((f_J4_append_cf468 w16 (114 : Int32)).bind fun w51 => ((f_X7_hasSpring w51 x1).bind fun r53 => (if r53 = 0 then ((f_J4_length_8abf5 w51).bind fun r56 => (some ((.inr r56), w51))) else ((f_J4_append_cf468 w51 (115 : Int32)).bind fun w59 => (if inR x1 10 then ((f_J4_append_bf812 w59 (gI w59 8 (x1).toNatClampNeg)).bind fun w63 => ((f_J4_append_cf468 w63 (47 : Int32)).bind fun w66 => (if inR x1 10 then ((f_J4_append_bf812 w66 (gI w66 7 (x1).toNatClampNeg)).bind fun w70 => (if inR x1 10 then (if (gI w70 9 (x1).toNatClampNeg) = 0 then ((f_J4_length_8abf5 w70).bind fun r74 => (some ((.inr r74), w70))) else ((f_J4_append_cf468 w70 (45 : Int32)).bind fun w77 => ((f_J4_length_8abf5 w77).bind fun r79 => (some ((.inr r79), w77))))) else none)) else none))) else none)))))) else none)) else none)) else none))))))
def p_X10_renderTrain_27 : Nat → Int32 → Wd → Option ((Int32 × Wd) ⊕ Unit)
  | 0, _, _ => none
  | n + 1, y10, w11 => (if (gI w11 1 10) ≤ y10 then (some (.inl (y10, w11))) else ((f_X8_holds w11 y10).bind fun r15 => (if r15 = 0 then (p_X10_renderTrain_27 n (y10 + (1 : Int32)) w11) else ((f_J4_length_8abf5 w11).bind fun r18 => (if r18 ≤ 0 then ((f_J4_append_bf812 w11 y10).bind fun w22 => ((f_X7_carriesPlanet w22 y10).bind fun r24 => (if r24 = 0 then (p_X10_renderTrain_27 n (y10 + (1 : Int32)) w22) else ((f_J4_append_cf468 w22 (42 : Int32)).bind fun w28 => (p_X10_renderTrain_27 n (y10 + (1 : Int32)) w28))))) else ((f_J4_append_cf468 w11 (44 : Int32)).bind fun w31 => ((f_J4_append_bf812 w31 y10).bind fun w34 => ((f_X7_carriesPlanet w34 y10).bind fun r36 => (if r36 = 0 then (p_X10_renderTrain_27 n (y10 + (1 : Int32)) w34) else ((f_J4_append_cf468 w34 (42 : Int32)).bind fun w40 => (p_X10_renderTrain_27 n (y10 + (1 : Int32)) w40)))))))))))
def f_X10_renderTrain (w : Wd) (x1 : Int32) : Option ((Nat ⊕ Int32) × Wd) := ((f_X10_checkGear w x1).bind fun z => zc z (fun k => (some ((.inl k), w))) (fun _ => ((f_X8_trace w x1).bind fun w6 => ((f_J4_setLength_d00df w6 (0 : Int32)).bind fun w9 => ((p_X10_renderTrain_27 11 (0 : Int32) w9).bind fun z => zc z (fun q => u2 q fun y10 w11 => ((f_J4_length_8abf5 w11).bind fun r44 => (some ((.inr r44), w11)))) (fun _ => none))))))
def f_X10_undo (w : Wd) : Option ((Nat ⊕ Int32) × Wd) := (if (gI w 34 2) = 0 then (some ((.inl 4), w)) else ((f_X3_popInto w).bind fun w4 => (some ((.inr (gI w4 34 2)), w4))))
def f_X10_settle (w : Wd) (x1 : Int32) : Option ((Nat ⊕ Int32) × Wd) := ((f_X10_refuse w x1).bind fun z => zc z (fun k => (some ((.inl k), w))) (fun _ => ((f_X3_push w).bind fun w6 => (some ((.inr x1), w6)))))
def f_X10_checkSameTrain (w : Wd) (x1 : Int32) (x2 : Int32) : Option ((Nat ⊕ Unit) × Wd) := ((f_X10_checkGear w x1).bind fun z => zc z (fun k => (some ((.inl k), w))) (fun _ => ((f_X10_checkGear w x2).bind fun z => zc z (fun k => (some ((.inl k), w))) (fun _ => ((f_X8_trace w x1).bind fun w9 => ((f_X8_holds w9 x2).bind fun r11 => (if r11 = 0 then (some ((.inl 4), w9)) else (some ((.inr ()), w9)))))))))
def f_X10_unitsByChain (w : Wd) (x1 : Int32) (x2 : Int32) : Option (Int64 × Wd) := ((f_X8_trace w x1).bind fun w3 => (if inR x2 10 then (some ((gL w3 125 (x2).toNatClampNeg), w3)) else none))
def f_X10_unitsByLowest (w : Wd) (x1 : Int32) (x2 : Int32) : Option (Int64 × Wd) := ((f_X8_trace w x1).bind fun w3 => ((f_X8_lowestGear w3).bind fun r5 => ((f_X8_trace w3 r5).bind fun w8 => (if inR x1 10 then (if inR x2 10 then ((f_X4_commonDivisor (gL w8 125 (x1).toNatClampNeg) (gL w8 125 (x2).toNatClampNeg)).bind fun r12 => ((f_X4_quotient (gL w8 125 (x2).toNatClampNeg) r12).bind fun r14 => ((f_X4_quotient (gL w8 125 (x1).toNatClampNeg) r12).bind fun r16 => ((f_X4_quotient (24883200000 : Int64) r16).bind fun r18 => (some ((r18 * r14), w8)))))) else none) else none))))
def p_X10_unitsAgree_15 (y1 : Int32) : Nat → Int32 → Wd → Option ((Int32 × Wd) ⊕ (Int32 × Wd))
  | 0, _, _ => none
  | n + 1, y5, w6 => (if (gI w6 1 10) ≤ y5 then (some (.inl (y5, w6))) else ((f_X10_unitsByChain w6 y1 y5).bind fun z => u2 z fun r10 w11 => (if r10 = (0 : Int64) then (p_X10_unitsAgree_15 y1 n (y5 + (1 : Int32)) w11) else ((f_X10_unitsByLowest w11 y1 y5).bind fun z => u2 z fun r15 w16 => (if r10 = r15 then (p_X10_unitsAgree_15 y1 n (y5 + (1 : Int32)) w16) else (some (.inr ((0 : Int32), w16))))))))
def p_X10_unitsAgree_2 : Nat → Int32 → Wd → Option ((Int32 × Wd) ⊕ (Int32 × Wd))
  | 0, _, _ => none
  | n + 1, y1, w2 => (if (gI w2 1 10) ≤ y1 then (some (.inl (y1, w2))) else ((p_X10_unitsAgree_15 y1 2000 (0 : Int32) w2).bind fun z => zc z (fun q => u2 q fun y5 w6 => (p_X10_unitsAgree_2 n (y1 + (1 : Int32)) w6)) (fun r => (some (.inr r)))))
def f_X10_unitsAgree (w : Wd) : Option (Int32 × Wd) := ((p_X10_unitsAgree_2 2000 (0 : Int32) w).bind fun z => zc z (fun q => u2 q fun y1 w2 => (some ((1 : Int32), w2))) (fun r => (some r)))
def f_X10_addGear (w : Wd) (x1 : Int32) : Option ((Nat ⊕ Int32) × Wd) := ((f_X7_copyFrom w 12 1).bind fun w3 => ((f_X1_putGear w3 x1).bind fun z => u2 z fun r5 w6 => ((f_X10_settle w6 r5).bind fun z => u2 z fun z w10 => zc z (fun k => (some ((.inl k), w10))) (fun r9 => (some ((.inr r9), w10))))))
def f_X10_mesh (w : Wd) (x1 : Int32) (x2 : Int32) : Option ((Nat ⊕ Int32) × Wd) := ((f_X7_copyFrom w 12 1).bind fun w3 => ((f_X1_join w3 x1 x2 (109 : Int32)).bind fun z => u2 z fun r5 w6 => ((f_X10_settle w6 r5).bind fun z => u2 z fun z w10 => zc z (fun k => (some ((.inl k), w10))) (fun r9 => (some ((.inr r9), w10))))))
def f_X10_shareAxle (w : Wd) (x1 : Int32) (x2 : Int32) : Option ((Nat ⊕ Int32) × Wd) := ((f_X7_copyFrom w 12 1).bind fun w3 => ((f_X1_join w3 x1 x2 (97 : Int32)).bind fun z => u2 z fun r5 w6 => ((f_X10_settle w6 r5).bind fun z => u2 z fun z w10 => zc z (fun k => (some ((.inl k), w10))) (fun r9 => (some ((.inr r9), w10))))))
def f_X10_separate (w : Wd) (x1 : Int32) (x2 : Int32) : Option ((Nat ⊕ Int32) × Wd) := ((f_X7_copyFrom w 12 1).bind fun w3 => ((f_X1_cut w3 x1 x2).bind fun z => u2 z fun r5 w6 => ((f_X10_settle w6 r5).bind fun z => u2 z fun z w10 => zc z (fun k => (some ((.inl k), w10))) (fun r9 => (some ((.inr r9), w10))))))
def f_X10_setSpring (w : Wd) (x1 : Int32) (x2 : Int32) : Option ((Nat ⊕ Int32) × Wd) := ((f_X7_copyFrom w 12 1).bind fun w3 => ((f_X1_putSpring w3 x1 x2).bind fun z => u2 z fun r5 w6 => ((f_X10_settle w6 r5).bind fun z => u2 z fun z w10 => zc z (fun k => (some ((.inl k), w10))) (fun r9 => (some ((.inr r9), w10))))))
def f_X10_wind (w : Wd) (x1 : Int32) (x2 : Int32) : Option ((Nat ⊕ Int32) × Wd) := ((f_X7_copyFrom w 12 1).bind fun w3 => ((f_X1_tighten w3 x1 x2).bind fun z => u2 z fun r5 w6 => ((f_X10_settle w6 r5).bind fun z => u2 z fun z w10 => zc z (fun k => (some ((.inl k), w10))) (fun r9 => (some ((.inr r9), w10))))))
def f_X10_reverse (w : Wd) (x1 : Int32) : Option ((Nat ⊕ Int32) × Wd) := ((f_X7_copyFrom w 12 1).bind fun w3 => ((f_X1_turnRound w3 x1).bind fun z => u2 z fun r5 w6 => ((f_X10_settle w6 r5).bind fun z => u2 z fun z w10 => zc z (fun k => (some ((.inl k), w10))) (fun r9 => (if r9 = (1 : Int32) then (some ((.inr (1 : Int32)), w10)) else (some ((.inr (0 : Int32)), w10)))))))
def f_X10_setRatchet (w : Wd) (x1 : Int32) (x2 : Int32) : Option ((Nat ⊕ Int32) × Wd) := ((f_X7_copyFrom w 12 1).bind fun w3 => ((f_X1_putRatchet w3 x1 x2).bind fun z => u2 z fun r5 w6 => ((f_X10_settle w6 r5).bind fun z => u2 z fun z w10 => zc z (fun k => (some ((.inl k), w10))) (fun r9 => (if r9 = (1 : Int32) then (some ((.inr (1 : Int32)), w10)) else (some ((.inr (0 : Int32)), w10)))))))
def f_X10_oil (w : Wd) (x1 : Int32) : Option ((Nat ⊕ Int32) × Wd) := ((f_X7_copyFrom w 12 1).bind fun w3 => ((f_X1_putOil w3 x1).bind fun z => u2 z fun r5 w6 => ((f_X10_settle w6 r5).bind fun z => u2 z fun z w10 => zc z (fun k => (some ((.inl k), w10))) (fun r9 => (some ((.inr r9), w10))))))
def f_X10_buyOil (w : Wd) (x1 : Int32) : Option ((Nat ⊕ Int32) × Wd) := ((f_X7_copyFrom w 12 1).bind fun w3 => ((f_X1_addDrops w3 x1).bind fun z => u2 z fun r5 w6 => ((f_X10_settle w6 r5).bind fun z => u2 z fun z w10 => zc z (fun k => (some ((.inl k), w10))) (fun r9 => (some ((.inr r9), w10))))))
def f_X10_addPlanet (w : Wd) (x1 : Int32) : Option ((Nat ⊕ Int32) × Wd) := ((f_X7_copyFrom w 12 1).bind fun w3 => ((f_X1_putPlanet w3 x1).bind fun z => u2 z fun r5 w6 => ((f_X10_settle w6 r5).bind fun z => u2 z fun z w10 => zc z (fun k => (some ((.inl k), w10))) (fun r9 => (some ((.inr r9), w10))))))
def f_X10_unitsPerTurn (w : Wd) (x1 : Int32) (x2 : Int32) : Option ((Nat ⊕ Int64) × Wd) := ((f_X10_checkSameTrain w x1 x2).bind fun z => u2 z fun z w3 => zc z (fun k => (some ((.inl k), w3))) (fun _ => ((f_X10_unitsByChain w3 x1 x2).bind fun z => u2 z fun r6 w7 => (some ((.inr r6), w7)))))
def f_X10_unitsPerTurnByLowest (w : Wd) (x1 : Int32) (x2 : Int32) : Option ((Nat ⊕ Int64) × Wd) := ((f_X10_checkSameTrain w x1 x2).bind fun z => u2 z fun z w3 => zc z (fun k => (some ((.inl k), w3))) (fun _ => ((f_X10_unitsByLowest w3 x1 x2).bind fun z => u2 z fun r6 w7 => (some ((.inr r6), w7)))))
def f_X10_nextEclipse (w : Wd) (x1 : Int32) (x2 : Int32) (x3 : Int32) : Option ((Nat ⊕ Int32) × Wd) := ((f_X2_judge w x1 x2 x3).bind fun z => u2 z fun r2 w3 => ((f_X10_refuse w3 r2).bind fun z => zc z (fun k => (some ((.inl k), w3))) (fun _ => ((f_X2_bySolving w3 x1 x2 x3).bind fun z => u2 z fun r9 w10 => ((f_X10_found w10 r9).bind fun z => zc z (fun k => (some ((.inl k), w10))) (fun r13 => (some ((.inr r13), w10))))))))
def f_X10_nextEclipseByTurns (w : Wd) (x1 : Int32) (x2 : Int32) (x3 : Int32) : Option ((Nat ⊕ Int32) × Wd) := ((f_X2_judge w x1 x2 x3).bind fun z => u2 z fun r2 w3 => ((f_X10_refuse w3 r2).bind fun z => zc z (fun k => (some ((.inl k), w3))) (fun _ => ((f_X2_byTurning w3 x1 x2 x3).bind fun z => u2 z fun r9 w10 => ((f_X10_found w10 r9).bind fun z => zc z (fun k => (some ((.inl k), w10))) (fun r13 => (some ((.inr r13), w10))))))))
def f_X10_release (w : Wd) (x1 : Int32) (x2 : Int32) : Option ((Nat ⊕ Int32) × Wd) := ((f_X7_copyFrom w 12 1).bind fun w3 => ((f_X1_letGo w3 x1 x2).bind fun z => u2 z fun r5 w6 => ((f_X10_settle w6 r5).bind fun z => u2 z fun z w10 => zc z (fun k => (some ((.inl k), w10))) (fun r9 => (some ((.inr r9), w10))))))
def f_X10_fewestPairsByTable (w : Wd) (x1 : Int32) (x2 : Int32) : Option ((Nat ⊕ Int32) × Wd) := ((f_X10_checkRatio w x1 x2).bind fun z => zc z (fun k => (some ((.inl k), w))) (fun _ => ((f_X5_byTable w x1 x2).bind fun z => u2 z fun r5 w6 => ((f_X10_found w6 r5).bind fun z => zc z (fun k => (some ((.inl k), w6))) (fun r9 => (some ((.inr r9), w6)))))))
def f_X10_isConsistent (w : Wd) : Option (Int32 × Wd) := ((f_X10_unitsAgree w).bind fun z => u2 z fun r2 w3 => (if r2 = 0 then (some ((0 : Int32), w3)) else ((f_X2_bothWaysAgree w3).bind fun z => u2 z fun r7 w8 => (if r7 = 0 then (some ((0 : Int32), w8)) else ((f_X5_bothWaysAgree w8).bind fun z => u2 z fun r12 w13 => (if r12 = 0 then (some ((0 : Int32), w13)) else ((f_X7_sumOfTensions w13).bind fun r17 => (if r17 = ((gI w13 1 14) - (gI w13 1 15)) then (some ((1 : Int32), w13)) else (some ((0 : Int32), w13))))))))))
def f_X10_carryOut (w : Wd) (x1 : Int32) : Option (Int32 × Wd) := (if inR x1 60 then (if inR x1 60 then (if inR x1 60 then (mo (gV w (x1).toNatClampNeg) (some ((-3 : Int32), w)) fun k4 => (if k4 < 13 then (if inR (nI k4) 13 then (if (nI (((nI k4)).toNatClampNeg + 1)) = (1 : Int32) then ((f_X1_putGear w (gI w 137 (x1).toNatClampNeg)).bind fun z => u2 z fun r10 w11 => (some (r10, w11))) else (if (nI (((nI k4)).toNatClampNeg + 1)) = (2 : Int32) then ((f_X1_join w (gI w 137 (x1).toNatClampNeg) (gI w 138 (x1).toNatClampNeg) (109 : Int32)).bind fun z => u2 z fun r15 w16 => (some (r15, w16))) else (if (nI (((nI k4)).toNatClampNeg + 1)) = (3 : Int32) then ((f_X1_join w (gI w 137 (x1).toNatClampNeg) (gI w 138 (x1).toNatClampNeg) (97 : Int32)).bind fun z => u2 z fun r20 w21 => (some (r20, w21))) else (if (nI (((nI k4)).toNatClampNeg + 1)) = (4 : Int32) then ((f_X1_cut w (gI w 137 (x1).toNatClampNeg) (gI w 138 (x1).toNatClampNeg)).bind fun z => u2 z fun r25 w26 => (some (r25, w26))) else (if (nI (((nI k4)).toNatClampNeg + 1)) = (5 : Int32) then ((f_X1_putSpring w (gI w 137 (x1).toNatClampNeg) (gI w 138 (x1).toNatClampNeg)).bind fun z => u2 z fun r30 w31 => (some (r30, w31))) else (if (nI (((nI k4)).toNatClampNeg + 1)) = (6 : Int32) then ((f_X1_tighten w (gI w 137 (x1).toNatClampNeg) (gI w 138 (x1).toNatClampNeg)).bind fun z => u2 z fun r35 w36 => (some (r35, w36))) else (if (nI (((nI k4)).toNatClampNeg + 1)) = (7 : Int32) then ((f_X1_turnRound w (gI w 137 (x1).toNatClampNeg)).bind fun z => u2 z fun r40 w41 => (some (r40, w41))) else (if (nI (((nI k4)).toNatClampNeg + 1)) = (8 : Int32) then ((f_X1_letGo w (gI w 137 (x1).toNatClampNeg) (gI w 138 (x1).toNatClampNeg)).bind fun z => u2 z fun r45 w46 => (some (r45, w46))) else (if (nI (((nI k4)).toNatClampNeg + 1)) = (9 : Int32) then ((f_X1_putRatchet w (gI w 137 (x1).toNatClampNeg) (1 : Int32)).bind fun z => u2 z fun r50 w51 => (some (r50, w51))) else (if (nI (((nI k4)).toNatClampNeg + 1)) = (10 : Int32) then ((f_X1_putRatchet w (gI w 137 (x1).toNatClampNeg) (0 : Int32)).bind fun z => u2 z fun r55 w56 => (some (r55, w56))) else (if (nI (((nI k4)).toNatClampNeg + 1)) = (11 : Int32) then ((f_X1_putOil w (gI w 137 (x1).toNatClampNeg)).bind fun z => u2 z fun r60 w61 => (some (r60, w61))) else (if (nI (((nI k4)).toNatClampNeg + 1)) = (12 : Int32) then ((f_X1_addDrops w (gI w 137 (x1).toNatClampNeg)).bind fun z => u2 z fun r65 w66 => (some (r65, w66))) else (if (nI (((nI k4)).toNatClampNeg + 1)) = (13 : Int32) then ((f_X1_putPlanet w (gI w 137 (x1).toNatClampNeg)).bind fun z => u2 z fun r70 w71 => (some (r70, w71))) else (some ((-3 : Int32), w))))))))))))))) else none) else none)) else none) else none) else none)
def p_X10_runScript_46 : Nat → Int32 → Wd → Option ((Int32 × Wd) ⊕ ((Nat ⊕ Int32) × Wd))
  | 0, _, _ => none
  | n + 1, y12, w13 => (if (gI w13 134 6) ≤ y12 then (some (.inl (y12, w13))) else ((f_X10_carryOut w13 y12).bind fun z => u2 z fun r17 w18 => (if 0 ≤ r17 then (p_X10_runScript_46 n (y12 + (1 : Int32)) w18) else ((f_X7_copyFrom w18 1 12).bind fun w23 => (wl (uI w23 0 12 y12) fun w24 => (some (.inr ((.inl 2), w24))))))))
def f_X10_runScript (w : Wd) : Option ((Nat ⊕ Int32) × Wd) := ((f_X6_parse w).bind fun z => u2 z fun r2 w3 => ((f_X6_empty w3).bind fun w7 => (if r2 = (-1 : Int32) then ((f_X7_copyFrom w7 12 1).bind fun w11 => ((p_X10_runScript_46 2000 (0 : Int32) w11).bind fun z => zc z (fun q => u2 q fun y12 w13 => ((f_X3_push w13).bind fun w29 => (some ((.inr (gI w29 134 6)), w29)))) (fun r => (some r)))) else (wl (uI w7 0 11 r2) fun w30 => (some ((.inl 1), w30))))))
def f_X11_thrown (w : Wd) : Option Int32 := (some (gI w 141 12))
def f_X11_in (w : Wd) (x0 : Int32) (x1 : Int32) (x2 : Int32) : Option Int32 := (if x0 < x1 then (some (0 : Int32)) else (if x2 < x0 then (some (0 : Int32)) else (some (1 : Int32))))
def f_X11_size (w : Wd) (x0 : Int64) : Option Int64 := (if (0 : Int64) ≤ x0 then (some x0) else (some (-x0)))
def f_X11_rest (w : Wd) (x0 : Int64) : Option Int64 := (if ¬ (24883200000 : Int64) = 0 then (if ¬ (24883200000 : Int64) = 0 then (some (((x0 - x0 / (24883200000 : Int64) * (24883200000 : Int64)) + (24883200000 : Int64)) - ((x0 - x0 / (24883200000 : Int64) * (24883200000 : Int64)) + (24883200000 : Int64)) / (24883200000 : Int64) * (24883200000 : Int64))) else none) else none)
def f_X11_done (w : Wd) (x1 : Int32) : Option (Int32 × Wd) := (wl (uI w 141 12 (0 : Int32)) fun w1 => (some (x1, w1)))
def f_X11_fails (w : Wd) (x1 : Int32) : Option (Int32 × Wd) := (wl (uI w 141 12 x1) fun w1 => (some ((0 : Int32), w1)))
def p_X11_copy_3 (x1 : Int32) (n0 : Nat) (x3 : Int32) (n2 : Nat) (k2 : Nat) (k0 : Nat) : Nat → Int32 → Wd → Option ((Int32 × Wd) ⊕ Unit)
  | 0, _, _ => none
  | n + 1, y1, w2 => (if (192 : Int32) ≤ y1 then (some (.inl (y1, w2))) else (if inR (x1 + y1) n0 then (if inR (x3 + y1) n2 then (wl (uL w2 k2 ((x3 + y1)).toNatClampNeg (gL w2 k0 ((x1 + y1)).toNatClampNeg)) fun w7 => (p_X11_copy_3 x1 n0 x3 n2 k2 k0 n (y1 + (1 : Int32)) w7)) else none) else none))
def f_X11_copy (w : Wd) (k0 : Nat) (n0 : Nat) (k2 : Nat) (n2 : Nat) (x1 : Int32) (x3 : Int32) : Option Wd := ((p_X11_copy_3 x1 n0 x3 n2 k2 k0 2000 (0 : Int32) w).bind fun z => zc z (fun q => u2 q fun y1 w2 => (some w2)) (fun _ => none))
def f_X11_begin (w : Wd) : Option Wd := ((f_X11_copy w 142 192 143 192 (0 : Int32) (0 : Int32)).bind fun w3 => (some w3))
def p_X11_kept_33 : Nat → Int32 → Wd → Option ((Int32 × Wd) ⊕ Unit)
  | 0, _, _ => none
  | n + 1, y7, w8 => (if (1344 : Int32) ≤ y7 then (some (.inl (y7, w8))) else (if inR (y7 + (192 : Int32)) 1536 then (if inR y7 1536 then (wl (uL w8 144 (y7).toNatClampNeg (gL w8 144 ((y7 + (192 : Int32))).toNatClampNeg)) fun w13 => (p_X11_kept_33 n (y7 + (1 : Int32)) w13)) else none) else none))
def f_X11_kept (w : Wd) (x1 : Int32) : Option (Int32 × Wd) := (if (gI w 141 12) = 0 then (if (gI w 141 3) = (8 : Int32) then ((p_X11_kept_33 2000 (0 : Int32) w).bind fun z => zc z (fun q => u2 q fun y7 w8 => (wl (uI w8 141 3 ((gI w8 141 3) - (1 : Int32))) fun w16 => ((f_X11_copy w16 143 192 144 1536 (0 : Int32) ((gI w16 141 3) * (192 : Int32))).bind fun w19 => (wl (uI w19 141 3 ((gI w19 141 3) + (1 : Int32))) fun w20 => (some (x1, w20)))))) (fun _ => none)) else ((f_X11_copy w 143 192 144 1536 (0 : Int32) ((gI w 141 3) * (192 : Int32))).bind fun w5 => (wl (uI w5 141 3 ((gI w5 141 3) + (1 : Int32))) fun w6 => (some (x1, w6))))) else ((f_X11_copy w 143 192 142 192 (0 : Int32) (0 : Int32)).bind fun w23 => (some ((0 : Int32), w23))))
def f_X11_at (w : Wd) (x1 : Int32) : Option Int32 := (if inR x1 192 then (some ((gL w 142 (x1).toNatClampNeg)).toInt32) else none)
def f_X11_isGear (w : Wd) (x1 : Int32) : Option Int32 := ((f_X11_at w (0 : Int32)).bind fun r2 => ((f_X11_in w x1 (0 : Int32) (r2 - (1 : Int32))).bind fun r4 => (some (vp_nar .boolean r4))))
def f_X11_areGears (w : Wd) (x1 : Int32) (x2 : Int32) : Option Int32 := ((f_X11_isGear w x1).bind fun r2 => (if r2 = 0 then (some (0 : Int32)) else ((f_X11_isGear w x2).bind fun r5 => (if r5 = 0 then (some (0 : Int32)) else (some (1 : Int32))))))
def f_X11_isPlanet (w : Wd) (x1 : Int32) : Option Int32 := ((f_X11_at w (1 : Int32)).bind fun r2 => ((f_X11_in w x1 (0 : Int32) (r2 - (1 : Int32))).bind fun r4 => (some (vp_nar .boolean r4))))
def f_X11_hasSpring (w : Wd) (x1 : Int32) : Option Int32 := ((f_X11_at w ((26 : Int32) + x1)).bind fun r2 => (if r2 ≤ 0 then (some (0 : Int32)) else (some (1 : Int32))))
def f_X11_jointOf (w : Wd) (x1 : Int32) (x2 : Int32) : Option Int32 := ((f_X11_at w (((92 : Int32) + ((10 : Int32) * x1)) + x2)).bind fun r2 => (some r2))
def f_X11_passes (w : Wd) (x1 : Int32) (x2 : Int32) : Option (Int32 × Wd) := (if inR x1 10 then (if (gI w 149 (x1).toNatClampNeg) = 0 then (some ((0 : Int32), w)) else (if inR x2 10 then (if (gI w 149 (x2).toNatClampNeg) = 0 then ((f_X11_jointOf w x1 x2).bind fun r6 => (if r6 = 0 then (some ((0 : Int32), w)) else ((f_X11_jointOf w x1 x2).bind fun r9 => (if r9 = (2 : Int32) then (if inR x1 10 then (if inR x2 10 then (wl (uL w 148 (x2).toNatClampNeg (gL w 148 (x1).toNatClampNeg)) fun w21 => (if inR x2 10 then (wl (uI w21 149 (x2).toNatClampNeg (vp_nar .boolean (1 : Int32))) fun w23 => (some ((1 : Int32), w23))) else none)) else none) else none) else (if inR x1 10 then (if inR ((6 : Int32) + x1) 192 then (if inR ((6 : Int32) + x2) 192 then (if ¬ (gL w 142 (((6 : Int32) + x2)).toNatClampNeg) = 0 then (if inR x2 10 then (wl (uL w 148 (x2).toNatClampNeg (((-(gL w 148 (x1).toNatClampNeg)) * (gL w 142 (((6 : Int32) + x1)).toNatClampNeg)) / (gL w 142 (((6 : Int32) + x2)).toNatClampNeg))) fun w16 => (if inR x2 10 then (wl (uI w16 149 (x2).toNatClampNeg (vp_nar .boolean (1 : Int32))) fun w18 => (some ((1 : Int32), w18))) else none)) else none) else none) else none) else none) else none))))) else (some ((0 : Int32), w))) else none)) else none)
def p_X11_turns_2 (x1 : Int32) : Nat → Int32 → Wd → Option ((Int32 × Wd) ⊕ Unit)
  | 0, _, _ => none
  | n + 1, y1, w2 => (if (10 : Int32) ≤ y1 then (some (.inl (y1, w2))) else (if y1 = x1 then (if inR y1 10 then (wl (uI w2 149 (y1).toNatClampNeg (vp_nar .boolean (1 : Int32))) fun w14 => (if y1 = x1 then (if inR y1 10 then (wl (uL w14 148 (y1).toNatClampNeg (24883200000 : Int64)) fun w19 => (p_X11_turns_2 x1 n (y1 + (1 : Int32)) w19)) else none) else (if inR y1 10 then (wl (uL w14 148 (y1).toNatClampNeg (0 : Int64)) fun w17 => (p_X11_turns_2 x1 n (y1 + (1 : Int32)) w17)) else none))) else none) else (if inR y1 10 then (wl (uI w2 149 (y1).toNatClampNeg (vp_nar .boolean (0 : Int32))) fun w7 => (if y1 = x1 then (if inR y1 10 then (wl (uL w7 148 (y1).toNatClampNeg (24883200000 : Int64)) fun w12 => (p_X11_turns_2 x1 n (y1 + (1 : Int32)) w12)) else none) else (if inR y1 10 then (wl (uL w7 148 (y1).toNatClampNeg (0 : Int64)) fun w10 => (p_X11_turns_2 x1 n (y1 + (1 : Int32)) w10)) else none))) else none)))
def p_X11_turns_58 : Nat → Int32 → Int32 → Wd → Option ((Int32 × Int32 × Wd) ⊕ Unit)
  | 0, _, _, _ => none
  | n + 1, y26, y27, w28 => (if (100 : Int32) ≤ y27 then (some (.inl (y26, y27, w28))) else (if ¬ (10 : Int32) = 0 then (if ¬ (10 : Int32) = 0 then ((f_X11_passes w28 (y27 / (10 : Int32)) (y27 - y27 / (10 : Int32) * (10 : Int32))).bind fun z => u2 z fun r34 w35 => (if r34 = 0 then (if y26 = 0 then (p_X11_turns_58 n (0 : Int32) (y27 + (1 : Int32)) w35) else (p_X11_turns_58 n (1 : Int32) (y27 + (1 : Int32)) w35)) else (p_X11_turns_58 n (1 : Int32) (y27 + (1 : Int32)) w35))) else none) else none))
def p_X11_turns_50 : Nat → Int32 → Wd → Option ((Int32 × Wd) ⊕ Unit)
  | 0, _, _ => none
  | n + 1, y22, w23 => (if y22 = 0 then (some (.inl (y22, w23))) else ((p_X11_turns_58 2000 (0 : Int32) (0 : Int32) w23).bind fun z => zc z (fun q => u3 q fun y26 y27 w28 => (p_X11_turns_50 n y26 w28)) (fun _ => none)))
def f_X11_turns (w : Wd) (x1 : Int32) : Option Wd := ((p_X11_turns_2 x1 2000 (0 : Int32) w).bind fun z => zc z (fun q => u2 q fun y1 w2 => ((p_X11_turns_50 2000 (1 : Int32) w2).bind fun z => zc z (fun q => u2 q fun y22 w23 => (some w23)) (fun _ => none))) (fun _ => none))
def p_X11_members_4 (w : Wd) : Nat → Int32 → Int32 → Option ((Int32 × Int32) ⊕ Unit)
  | 0, _, _ => none
  | n + 1, y1, y2 => (if (10 : Int32) ≤ y2 then (some (.inl (y1, y2))) else (if inR y2 10 then (if (gI w 149 (y2).toNatClampNeg) = 0 then (p_X11_members_4 w n (y1 + (0 : Int32)) (y2 + (1 : Int32))) else (p_X11_members_4 w n (y1 + (1 : Int32)) (y2 + (1 : Int32)))) else none))
def f_X11_members (w : Wd) : Option Int32 := ((p_X11_members_4 w 2000 (0 : Int32) (0 : Int32)).bind fun z => zc z (fun q => u2 q fun y1 y2 => (some y1)) (fun _ => none))
def p_X11_joints_4 (w : Wd) : Nat → Int32 → Int32 → Option ((Int32 × Int32) ⊕ Unit)
  | 0, _, _ => none
  | n + 1, y1, y2 => (if (100 : Int32) ≤ y2 then (some (.inl (y1, y2))) else (if inR ((92 : Int32) + y2) 192 then (if (gL w 142 (((92 : Int32) + y2)).toNatClampNeg) = (0 : Int64) then (p_X11_joints_4 w n (y1 + (0 : Int32)) (y2 + (1 : Int32))) else (p_X11_joints_4 w n (y1 + (1 : Int32)) (y2 + (1 : Int32)))) else none))
def f_X11_joints (w : Wd) : Option Int32 := ((p_X11_joints_4 w 2000 (0 : Int32) (0 : Int32)).bind fun z => zc z (fun q => u2 q fun y1 y2 => (if ¬ (2 : Int32) = 0 then (some (y1 / (2 : Int32))) else none)) (fun _ => none))
def p_X11_springIn_2 (w : Wd) : Nat → Int32 → Option ((Int32) ⊕ Int32)
  | 0, _ => none
  | n + 1, y1 => (if (10 : Int32) ≤ y1 then (some (.inl y1)) else (if inR y1 10 then (if (gI w 149 (y1).toNatClampNeg) = 0 then (p_X11_springIn_2 w n (y1 + (1 : Int32))) else ((f_X11_hasSpring w y1).bind fun r7 => (if r7 = 0 then (p_X11_springIn_2 w n (y1 + (1 : Int32))) else (some (.inr y1))))) else none))
def f_X11_springIn (w : Wd) : Option Int32 := ((p_X11_springIn_2 w 2000 (0 : Int32)).bind fun z => zc z (fun y1 => (some (-1 : Int32))) (fun r => (some r)))
def p_X11_rubs_12 (w3 : Wd) : Nat → Int32 → Int32 → Option ((Int32 × Int32) ⊕ Unit)
  | 0, _, _ => none
  | n + 1, y6, y7 => (if (10 : Int32) ≤ y7 then (some (.inl (y6, y7))) else (if inR y7 10 then (if (gI w3 149 (y7).toNatClampNeg) = 0 then (p_X11_rubs_12 w3 n (y6 + (0 : Int32)) (y7 + (1 : Int32))) else (if inR ((66 : Int32) + y7) 192 then (if (gL w3 142 (((66 : Int32) + y7)).toNatClampNeg) = (0 : Int64) then (p_X11_rubs_12 w3 n (y6 + (1 : Int32)) (y7 + (1 : Int32))) else (p_X11_rubs_12 w3 n (y6 + (0 : Int32)) (y7 + (1 : Int32)))) else none)) else none))
def f_X11_rubs (w : Wd) (x1 : Int32) : Option (Int32 × Wd) := ((f_X11_turns w x1).bind fun w3 => ((f_X11_members w3).bind fun r5 => ((p_X11_rubs_12 w3 2000 r5 (0 : Int32)).bind fun z => zc z (fun q => u2 q fun y6 y7 => (some (y6, w3))) (fun _ => none))))
def f_X11_mayHave (w : Wd) (x0 : Int32) : Option Int32 := (if x0 = (6 : Int32) then (some (1 : Int32)) else (if x0 = (8 : Int32) then (some (1 : Int32)) else (if x0 = (10 : Int32) then (some (1 : Int32)) else (if x0 = (12 : Int32) then (some (1 : Int32)) else (if x0 = (15 : Int32) then (some (1 : Int32)) else (if x0 = (20 : Int32) then (some (1 : Int32)) else (if x0 = (24 : Int32) then (some (1 : Int32)) else (if x0 = (30 : Int32) then (some (1 : Int32)) else (if x0 = (40 : Int32) then (some (1 : Int32)) else (if x0 = (60 : Int32) then (some (1 : Int32)) else (some (0 : Int32))))))))))))
def f_X11_addsGear (w : Wd) (x1 : Int32) : Option (Int32 × Wd) := ((f_X11_mayHave w x1).bind fun r2 => (if r2 = 0 then ((f_X11_fails w (1 : Int32)).bind fun z => u2 z fun r21 w22 => (some (r21, w22))) else ((f_X11_at w (0 : Int32)).bind fun r5 => (if r5 = (10 : Int32) then ((f_X11_fails w (2 : Int32)).bind fun z => u2 z fun r17 w18 => (some (r17, w18))) else (if inR ((6 : Int32) + r5) 192 then (wl (uL w 142 (((6 : Int32) + r5)).toNatClampNeg (x1).toInt64) fun w8 => (if inR (0 : Int32) 192 then (if inR (0 : Int32) 192 then (wl (uL w8 142 ((0 : Int32)).toNatClampNeg ((gL w8 142 ((0 : Int32)).toNatClampNeg) + (1 : Int64))) fun w11 => ((f_X11_done w11 r5).bind fun z => u2 z fun r13 w14 => (some (r13, w14)))) else none) else none)) else none)))))
def f_X11_addGear (w : Wd) (x1 : Int32) : Option (Int32 × Wd) := ((f_X11_begin w).bind fun w3 => ((f_X11_addsGear w3 x1).bind fun z => u2 z fun r5 w6 => ((f_X11_kept w6 r5).bind fun z => u2 z fun r9 w10 => (some (r9, w10)))))
def f_X11_haveSprings (w : Wd) (x1 : Int32) (x2 : Int32) : Option (Int32 × Wd) := ((f_X11_turns w x2).bind fun w3 => ((f_X11_springIn w3).bind fun r5 => (if r5 = (-1 : Int32) then ((f_X11_turns w3 x1).bind fun w9 => (if inR x2 10 then (if (gI w9 149 (x2).toNatClampNeg) = 0 then (some ((0 : Int32), w9)) else (some ((0 : Int32), w9))) else none)) else ((f_X11_turns w3 x1).bind fun w14 => (if inR x2 10 then (if (gI w14 149 (x2).toNatClampNeg) = 0 then ((f_X11_springIn w14).bind fun r18 => (if r18 = (-1 : Int32) then (some ((0 : Int32), w14)) else (some ((1 : Int32), w14)))) else (some ((0 : Int32), w14))) else none)))))
def f_X11_joins (w : Wd) (x1 : Int32) (x2 : Int32) (x3 : Int32) : Option (Int32 × Wd) := ((f_X11_areGears w x1 x2).bind fun r2 => (if r2 = 0 then ((f_X11_fails w (1 : Int32)).bind fun z => u2 z fun r111 w112 => (some (r111, w112))) else (if x1 = x2 then ((f_X11_fails w (2 : Int32)).bind fun z => u2 z fun r107 w108 => (some (r107, w108))) else ((f_X11_jointOf w x1 x2).bind fun r6 => (if r6 = 0 then ((f_X11_joints w).bind fun r13 => (if r13 = (15 : Int32) then ((f_X11_fails w (3 : Int32)).bind fun z => u2 z fun r16 w17 => (some (r16, w17))) else ((f_X11_haveSprings w x1 x2).bind fun z => u2 z fun r20 w21 => (if r20 = 0 then (if x3 = (2 : Int32) then ((f_X11_turns w21 x1).bind fun w67 => (if inR x2 10 then (if (gI w67 149 (x2).toNatClampNeg) = 0 then (if inR (((92 : Int32) + ((10 : Int32) * x1)) + x2) 192 then (wl (uL w67 142 ((((92 : Int32) + ((10 : Int32) * x1)) + x2)).toNatClampNeg (x3).toInt64) fun w71 => (if inR (((92 : Int32) + ((10 : Int32) * x2)) + x1) 192 then (wl (uL w71 142 ((((92 : Int32) + ((10 : Int32) * x2)) + x1)).toNatClampNeg (x3).toInt64) fun w73 => ((f_X11_turns w73 x1).bind fun w76 => ((f_X11_members w76).bind fun r78 => ((f_X11_done w76 r78).bind fun z => u2 z fun r80 w81 => (some (r80, w81)))))) else none)) else none) else (if inR x2 10 then (if (gL w67 148 (x2).toNatClampNeg) = (24883200000 : Int64) then (if inR (((92 : Int32) + ((10 : Int32) * x1)) + x2) 192 then (wl (uL w67 142 ((((92 : Int32) + ((10 : Int32) * x1)) + x2)).toNatClampNeg (x3).toInt64) fun w86 => (if inR (((92 : Int32) + ((10 : Int32) * x2)) + x1) 192 then (wl (uL w86 142 ((((92 : Int32) + ((10 : Int32) * x2)) + x1)).toNatClampNeg (x3).toInt64) fun w88 => ((f_X11_turns w88 x1).bind fun w91 => ((f_X11_members w91).bind fun r93 => ((f_X11_done w91 r93).bind fun z => u2 z fun r95 w96 => (some (r95, w96)))))) else none)) else none) else ((f_X11_fails w67 (4 : Int32)).bind fun z => u2 z fun r99 w100 => (some (r99, w100)))) else none)) else none)) else (if inR ((6 : Int32) + x1) 192 then (if inR ((6 : Int32) + x2) 192 then (if ¬ (gL w21 142 (((6 : Int32) + x2)).toNatClampNeg) = 0 then ((f_X11_turns w21 x1).bind fun w30 => (if inR x2 10 then (if (gI w30 149 (x2).toNatClampNeg) = 0 then (if inR (((92 : Int32) + ((10 : Int32) * x1)) + x2) 192 then (wl (uL w30 142 ((((92 : Int32) + ((10 : Int32) * x1)) + x2)).toNatClampNeg (x3).toInt64) fun w34 => (if inR (((92 : Int32) + ((10 : Int32) * x2)) + x1) 192 then (wl (uL w34 142 ((((92 : Int32) + ((10 : Int32) * x2)) + x1)).toNatClampNeg (x3).toInt64) fun w36 => ((f_X11_turns w36 x1).bind fun w39 => ((f_X11_members w39).bind fun r41 => ((f_X11_done w39 r41).bind fun z => u2 z fun r43 w44 => (some (r43, w44)))))) else none)) else none) else (if inR x2 10 then (if (gL w30 148 (x2).toNatClampNeg) = (((-24883200000 : Int64) * (gL w21 142 (((6 : Int32) + x1)).toNatClampNeg)) / (gL w21 142 (((6 : Int32) + x2)).toNatClampNeg)) then (if inR (((92 : Int32) + ((10 : Int32) * x1)) + x2) 192 then (wl (uL w30 142 ((((92 : Int32) + ((10 : Int32) * x1)) + x2)).toNatClampNeg (x3).toInt64) fun w49 => (if inR (((92 : Int32) + ((10 : Int32) * x2)) + x1) 192 then (wl (uL w49 142 ((((92 : Int32) + ((10 : Int32) * x2)) + x1)).toNatClampNeg (x3).toInt64) fun w51 => ((f_X11_turns w51 x1).bind fun w54 => ((f_X11_members w54).bind fun r56 => ((f_X11_done w54 r56).bind fun z => u2 z fun r58 w59 => (some (r58, w59)))))) else none)) else none) else ((f_X11_fails w30 (4 : Int32)).bind fun z => u2 z fun r62 w63 => (some (r62, w63)))) else none)) else none)) else none) else none) else none)) else ((f_X11_fails w21 (3 : Int32)).bind fun z => u2 z fun r103 w104 => (some (r103, w104))))))) else ((f_X11_fails w (3 : Int32)).bind fun z => u2 z fun r9 w10 => (some (r9, w10))))))))
def f_X11_mesh (w : Wd) (x1 : Int32) (x2 : Int32) : Option (Int32 × Wd) := ((f_X11_begin w).bind fun w3 => ((f_X11_joins w3 x1 x2 (1 : Int32)).bind fun z => u2 z fun r5 w6 => ((f_X11_kept w6 r5).bind fun z => u2 z fun r9 w10 => (some (r9, w10)))))
def f_X11_shareAxle (w : Wd) (x1 : Int32) (x2 : Int32) : Option (Int32 × Wd) := ((f_X11_begin w).bind fun w3 => ((f_X11_joins w3 x1 x2 (2 : Int32)).bind fun z => u2 z fun r5 w6 => ((f_X11_kept w6 r5).bind fun z => u2 z fun r9 w10 => (some (r9, w10)))))
def f_X11_parts (w : Wd) (x1 : Int32) (x2 : Int32) : Option (Int32 × Wd) := ((f_X11_areGears w x1 x2).bind fun r2 => (if r2 = 0 then ((f_X11_fails w (1 : Int32)).bind fun z => u2 z fun r22 w23 => (some (r22, w23))) else ((f_X11_jointOf w x1 x2).bind fun r5 => (if r5 = 0 then ((f_X11_fails w (2 : Int32)).bind fun z => u2 z fun r18 w19 => (some (r18, w19))) else (if inR (((92 : Int32) + ((10 : Int32) * x1)) + x2) 192 then (wl (uL w 142 ((((92 : Int32) + ((10 : Int32) * x1)) + x2)).toNatClampNeg (0 : Int64)) fun w8 => (if inR (((92 : Int32) + ((10 : Int32) * x2)) + x1) 192 then (wl (uL w8 142 ((((92 : Int32) + ((10 : Int32) * x2)) + x1)).toNatClampNeg (0 : Int64)) fun w10 => ((f_X11_joints w10).bind fun r12 => ((f_X11_done w10 r12).bind fun z => u2 z fun r14 w15 => (some (r14, w15))))) else none)) else none)))))
def f_X11_separate (w : Wd) (x1 : Int32) (x2 : Int32) : Option (Int32 × Wd) := ((f_X11_begin w).bind fun w3 => ((f_X11_parts w3 x1 x2).bind fun z => u2 z fun r5 w6 => ((f_X11_kept w6 r5).bind fun z => u2 z fun r9 w10 => (some (r9, w10)))))
def p_X11_sets_67 (w14 : Wd) : Nat → Int32 → Int32 → Option ((Int32 × Int32) ⊕ Unit)
  | 0, _, _ => none
  | n + 1, y15, y16 => (if (10 : Int32) ≤ y16 then (some (.inl (y15, y16))) else ((f_X11_hasSpring w14 y16).bind fun r20 => (if r20 = 0 then (p_X11_sets_67 w14 n (y15 + (0 : Int32)) (y16 + (1 : Int32))) else (p_X11_sets_67 w14 n (y15 + (1 : Int32)) (y16 + (1 : Int32))))))
def f_X11_sets (w : Wd) (x1 : Int32) (x2 : Int32) : Option (Int32 × Wd) := ((f_X11_isGear w x1).bind fun r2 => (if r2 = 0 then ((f_X11_fails w (1 : Int32)).bind fun z => u2 z fun r37 w38 => (some (r37, w38))) else ((f_X11_in w x2 (10 : Int32) (200 : Int32)).bind fun r5 => (if r5 = 0 then ((f_X11_fails w (2 : Int32)).bind fun z => u2 z fun r33 w34 => (some (r33, w34))) else ((f_X11_turns w x1).bind fun w9 => ((f_X11_springIn w9).bind fun r11 => (if r11 = (-1 : Int32) then (if inR ((26 : Int32) + x1) 192 then (wl (uL w9 142 (((26 : Int32) + x1)).toNatClampNeg (x2).toInt64) fun w14 => ((p_X11_sets_67 w14 2000 (0 : Int32) (0 : Int32)).bind fun z => zc z (fun q => u2 q fun y15 y16 => ((f_X11_done w14 y15).bind fun z => u2 z fun r25 w26 => (some (r25, w26)))) (fun _ => none))) else none) else ((f_X11_fails w9 (3 : Int32)).bind fun z => u2 z fun r29 w30 => (some (r29, w30))))))))))
def f_X11_setSpring (w : Wd) (x1 : Int32) (x2 : Int32) : Option (Int32 × Wd) := ((f_X11_begin w).bind fun w3 => ((f_X11_sets w3 x1 x2).bind fun z => u2 z fun r5 w6 => ((f_X11_kept w6 r5).bind fun z => u2 z fun r9 w10 => (some (r9, w10)))))
def f_X11_winds (w : Wd) (x1 : Int32) (x2 : Int32) : Option (Int32 × Wd) := ((f_X11_isGear w x1).bind fun r2 => (if r2 = 0 then ((f_X11_fails w (1 : Int32)).bind fun z => u2 z fun r38 w39 => (some (r38, w39))) else ((f_X11_in w x2 (1 : Int32) (200 : Int32)).bind fun r5 => (if r5 = 0 then ((f_X11_fails w (2 : Int32)).bind fun z => u2 z fun r34 w35 => (some (r34, w35))) else ((f_X11_hasSpring w x1).bind fun r8 => (if r8 = 0 then ((f_X11_fails w (3 : Int32)).bind fun z => u2 z fun r30 w31 => (some (r30, w31))) else (if inR ((36 : Int32) + x1) 192 then (if inR ((26 : Int32) + x1) 192 then (if ((gL w 142 (((36 : Int32) + x1)).toNatClampNeg) + (x2).toInt64) ≤ (gL w 142 (((26 : Int32) + x1)).toNatClampNeg) then (if inR ((36 : Int32) + x1) 192 then (if inR ((36 : Int32) + x1) 192 then (wl (uL w 142 (((36 : Int32) + x1)).toNatClampNeg ((gL w 142 (((36 : Int32) + x1)).toNatClampNeg) + (x2).toInt64)) fun w15 => (if inR (3 : Int32) 192 then (if inR (3 : Int32) 192 then (wl (uL w15 142 ((3 : Int32)).toNatClampNeg ((gL w15 142 ((3 : Int32)).toNatClampNeg) + (x2).toInt64)) fun w18 => ((f_X11_at w18 ((36 : Int32) + x1)).bind fun r20 => ((f_X11_done w18 r20).bind fun z => u2 z fun r22 w23 => (some (r22, w23))))) else none) else none)) else none) else none) else ((f_X11_fails w (4 : Int32)).bind fun z => u2 z fun r26 w27 => (some (r26, w27)))) else none) else none)))))))
def f_X11_wind (w : Wd) (x1 : Int32) (x2 : Int32) : Option (Int32 × Wd) := ((f_X11_begin w).bind fun w3 => ((f_X11_winds w3 x1 x2).bind fun z => u2 z fun r5 w6 => ((f_X11_kept w6 r5).bind fun z => u2 z fun r9 w10 => (some (r9, w10)))))
def f_X11_reverses (w : Wd) (x1 : Int32) : Option (Int32 × Wd) := ((f_X11_isGear w x1).bind fun r2 => (if r2 = 0 then ((f_X11_fails w (1 : Int32)).bind fun z => u2 z fun r21 w22 => (some (r21, w22))) else ((f_X11_hasSpring w x1).bind fun r5 => (if r5 = 0 then ((f_X11_fails w (2 : Int32)).bind fun z => u2 z fun r17 w18 => (some (r17, w18))) else (if inR ((46 : Int32) + x1) 192 then (if inR ((46 : Int32) + x1) 192 then (wl (uL w 142 (((46 : Int32) + x1)).toNatClampNeg ((1 : Int64) - (gL w 142 (((46 : Int32) + x1)).toNatClampNeg))) fun w9 => ((f_X11_at w9 ((46 : Int32) + x1)).bind fun r11 => ((f_X11_done w9 r11).bind fun z => u2 z fun r13 w14 => (some (r13, w14))))) else none) else none)))))
def f_X11_reverse (w : Wd) (x1 : Int32) : Option (Int32 × Wd) := ((f_X11_begin w).bind fun w3 => ((f_X11_reverses w3 x1).bind fun z => u2 z fun r5 w6 => ((f_X11_kept w6 r5).bind fun z => u2 z fun r9 w10 => (if r9 = (1 : Int32) then (some ((1 : Int32), w10)) else (some ((0 : Int32), w10))))))
def p_X11_isHindered_4 (w : Wd) (x1 : Int32) : Nat → Int32 → Int32 → Option ((Int32 × Int32) ⊕ Unit)
  | 0, _, _ => none
  | n + 1, y1, y2 => (if (10 : Int32) ≤ y2 then (some (.inl (y1, y2))) else (if inR y2 10 then (if (0 : Int64) ≤ (gL w 148 (y2).toNatClampNeg) then (if inR ((46 : Int32) + x1) 192 then (if (gL w 142 (((46 : Int32) + x1)).toNatClampNeg) = (1 : Int64) then (if y1 = 0 then (if inR y2 10 then (if (gI w 149 (y2).toNatClampNeg) = 0 then (p_X11_isHindered_4 w x1 n (0 : Int32) (y2 + (1 : Int32))) else (if inR ((56 : Int32) + y2) 192 then (if (gL w 142 (((56 : Int32) + y2)).toNatClampNeg) = (1 : Int64) then (p_X11_isHindered_4 w x1 n (1 : Int32) (y2 + (1 : Int32))) else (p_X11_isHindered_4 w x1 n (0 : Int32) (y2 + (1 : Int32)))) else none)) else none) else (p_X11_isHindered_4 w x1 n (1 : Int32) (y2 + (1 : Int32)))) else (if y1 = 0 then (if inR y2 10 then (if (gI w 149 (y2).toNatClampNeg) = 0 then (p_X11_isHindered_4 w x1 n (0 : Int32) (y2 + (1 : Int32))) else (p_X11_isHindered_4 w x1 n (0 : Int32) (y2 + (1 : Int32)))) else none) else (p_X11_isHindered_4 w x1 n (1 : Int32) (y2 + (1 : Int32))))) else none) else (if inR ((46 : Int32) + x1) 192 then (if (gL w 142 (((46 : Int32) + x1)).toNatClampNeg) = (1 : Int64) then (if y1 = 0 then (if inR y2 10 then (if (gI w 149 (y2).toNatClampNeg) = 0 then (p_X11_isHindered_4 w x1 n (0 : Int32) (y2 + (1 : Int32))) else (p_X11_isHindered_4 w x1 n (0 : Int32) (y2 + (1 : Int32)))) else none) else (p_X11_isHindered_4 w x1 n (1 : Int32) (y2 + (1 : Int32)))) else (if y1 = 0 then (if inR y2 10 then (if (gI w 149 (y2).toNatClampNeg) = 0 then (p_X11_isHindered_4 w x1 n (0 : Int32) (y2 + (1 : Int32))) else (if inR ((56 : Int32) + y2) 192 then (if (gL w 142 (((56 : Int32) + y2)).toNatClampNeg) = (1 : Int64) then (p_X11_isHindered_4 w x1 n (1 : Int32) (y2 + (1 : Int32))) else (p_X11_isHindered_4 w x1 n (0 : Int32) (y2 + (1 : Int32)))) else none)) else none) else (p_X11_isHindered_4 w x1 n (1 : Int32) (y2 + (1 : Int32))))) else none)) else none))
def f_X11_isHindered (w : Wd) (x1 : Int32) : Option Int32 := ((p_X11_isHindered_4 w x1 2000 (0 : Int32) (0 : Int32)).bind fun z => zc z (fun q => u2 q fun y1 y2 => (some (vp_nar .boolean y1))) (fun _ => none))
def p_X11_turnsBy_25 (x2 : Int64) : Nat → Int32 → Wd → Option ((Int32 × Wd) ⊕ Unit)
  | 0, _, _ => none
  | n + 1, y3, w4 => (if (10 : Int32) ≤ y3 then (some (.inl (y3, w4))) else (if inR y3 10 then (if (gI w4 149 (y3).toNatClampNeg) = 0 then (p_X11_turnsBy_25 x2 n (y3 + (1 : Int32)) w4) else (if inR ((16 : Int32) + y3) 192 then (if inR y3 10 then ((f_X11_rest w4 ((gL w4 142 (((16 : Int32) + y3)).toNatClampNeg) + (x2 * (gL w4 148 (y3).toNatClampNeg)))).bind fun r12 => (if inR ((16 : Int32) + y3) 192 then (wl (uL w4 142 (((16 : Int32) + y3)).toNatClampNeg r12) fun w14 => (if inR ((76 : Int32) + y3) 192 then (if inR ((66 : Int32) + y3) 192 then (if (gL w14 142 (((66 : Int32) + y3)).toNatClampNeg) = (1 : Int64) then (if inR y3 10 then ((f_X11_size w14 (gL w14 148 (y3).toNatClampNeg)).bind fun r22 => (if inR ((76 : Int32) + y3) 192 then (wl (uL w14 142 (((76 : Int32) + y3)).toNatClampNeg ((gL w14 142 (((76 : Int32) + y3)).toNatClampNeg) + (r22 * x2))) fun w24 => (p_X11_turnsBy_25 x2 n (y3 + (1 : Int32)) w24)) else none)) else none) else (if inR ((76 : Int32) + y3) 192 then (wl (uL w14 142 (((76 : Int32) + y3)).toNatClampNeg ((gL w14 142 (((76 : Int32) + y3)).toNatClampNeg) + (0 : Int64))) fun w19 => (p_X11_turnsBy_25 x2 n (y3 + (1 : Int32)) w19)) else none)) else none) else none)) else none)) else none) else none)) else none))
def p_X11_turnsBy_25b (c28 : Int64) (x2 : Int64) : Nat → Int32 → Wd → Option ((Int32 × Wd) ⊕ Unit)
  | 0, _, _ => none
  | n + 1, y27, w29 => (if (10 : Int32) ≤ y27 then (some (.inl (y27, w29))) else (if inR y27 10 then (if (gI w29 149 (y27).toNatClampNeg) = 0 then (p_X11_turnsBy_25b c28 x2 n (y27 + (1 : Int32)) w29) else (if inR ((16 : Int32) + y27) 192 then (if inR y27 10 then ((f_X11_rest w29 ((gL w29 142 (((16 : Int32) + y27)).toNatClampNeg) + (c28 * (gL w29 148 (y27).toNatClampNeg)))).bind fun r37 => (if inR ((16 : Int32) + y27) 192 then (wl (uL w29 142 (((16 : Int32) + y27)).toNatClampNeg r37) fun w39 => (if inR ((76 : Int32) + y27) 192 then (if inR ((66 : Int32) + y27) 192 then (if (gL w39 142 (((66 : Int32) + y27)).toNatClampNeg) = (1 : Int64) then (if inR y27 10 then ((f_X11_size w39 (gL w39 148 (y27).toNatClampNeg)).bind fun r47 => (if inR ((76 : Int32) + y27) 192 then (wl (uL w39 142 (((76 : Int32) + y27)).toNatClampNeg ((gL w39 142 (((76 : Int32) + y27)).toNatClampNeg) + (r47 * x2))) fun w49 => (p_X11_turnsBy_25b c28 x2 n (y27 + (1 : Int32)) w49)) else none)) else none) else (if inR ((76 : Int32) + y27) 192 then (wl (uL w39 142 (((76 : Int32) + y27)).toNatClampNeg ((gL w39 142 (((76 : Int32) + y27)).toNatClampNeg) + (0 : Int64))) fun w44 => (p_X11_turnsBy_25b c28 x2 n (y27 + (1 : Int32)) w44)) else none)) else none) else none)) else none)) else none) else none)) else none))
def f_X11_turnsBy (w : Wd) (x1 : Int32) (x2 : Int64) : Option Wd := (if inR ((46 : Int32) + x1) 192 then (if (gL w 142 (((46 : Int32) + x1)).toNatClampNeg) = (1 : Int64) then ((p_X11_turnsBy_25b (-x2) x2 2000 (0 : Int32) w).bind fun z => zc z (fun q => u2 q fun y27 w29 => (some w29)) (fun _ => none)) else ((p_X11_turnsBy_25 x2 2000 (0 : Int32) w).bind fun z => zc z (fun q => u2 q fun y3 w4 => (some w4)) (fun _ => none))) else none)
def p_X11_dries_2 : Nat → Int32 → Wd → Option ((Int32 × Wd) ⊕ Unit)
  | 0, _, _ => none
  | n + 1, y1, w2 => (if (10 : Int32) ≤ y1 then (some (.inl (y1, w2))) else (if inR ((66 : Int32) + y1) 192 then (if (gL w2 142 (((66 : Int32) + y1)).toNatClampNeg) = (1 : Int64) then (if inR ((76 : Int32) + y1) 192 then (if (gL w2 142 (((76 : Int32) + y1)).toNatClampNeg) < (746496000000 : Int64) then (p_X11_dries_2 n (y1 + (1 : Int32)) w2) else (if inR ((66 : Int32) + y1) 192 then (wl (uL w2 142 (((66 : Int32) + y1)).toNatClampNeg (0 : Int64)) fun w10 => (if inR ((76 : Int32) + y1) 192 then (wl (uL w10 142 (((76 : Int32) + y1)).toNatClampNeg (0 : Int64)) fun w12 => (p_X11_dries_2 n (y1 + (1 : Int32)) w12)) else none)) else none)) else none) else (p_X11_dries_2 n (y1 + (1 : Int32)) w2)) else none))
def f_X11_dries (w : Wd) : Option Wd := ((p_X11_dries_2 2000 (0 : Int32) w).bind fun z => zc z (fun q => u2 q fun y1 w2 => (some w2)) (fun _ => none))
def f_X11_releases (w : Wd) (x1 : Int32) (x2 : Int32) : Option (Int32 × Wd) := ((f_X11_isGear w x1).bind fun r2 => (if r2 = 0 then ((f_X11_fails w (1 : Int32)).bind fun z => u2 z fun r92 w93 => (some (r92, w93))) else ((f_X11_in w x2 (1 : Int32) (50 : Int32)).bind fun r5 => (if r5 = 0 then ((f_X11_fails w (2 : Int32)).bind fun z => u2 z fun r88 w89 => (some (r88, w89))) else ((f_X11_hasSpring w x1).bind fun r8 => (if r8 = 0 then ((f_X11_fails w (3 : Int32)).bind fun z => u2 z fun r84 w85 => (some (r84, w85))) else ((f_X11_rubs w x1).bind fun z => u2 z fun r11 w12 => ((f_X11_isHindered w12 x1).bind fun r15 => (if r15 = 0 then ((f_X11_at w12 ((36 : Int32) + x1)).bind fun r18 => (if ¬ r11 = 0 then (if (r18 / r11) ≤ x2 then ((f_X11_turnsBy w12 x1 (((r18 / r11)).toInt64)).bind fun w23 => (if inR ((36 : Int32) + x1) 192 then (if inR ((36 : Int32) + x1) 192 then (wl (uL w23 142 (((36 : Int32) + x1)).toNatClampNeg ((gL w23 142 (((36 : Int32) + x1)).toNatClampNeg) - ((r11 * (r18 / r11))).toInt64)) fun w26 => (if inR (4 : Int32) 192 then (if inR (4 : Int32) 192 then (wl (uL w26 142 ((4 : Int32)).toNatClampNeg ((gL w26 142 ((4 : Int32)).toNatClampNeg) + ((r11 * (r18 / r11))).toInt64)) fun w29 => (if inR (5 : Int32) 192 then (if (r18 / r11) ≤ 0 then (if inR (5 : Int32) 192 then (wl (uL w29 142 ((5 : Int32)).toNatClampNeg ((gL w29 142 ((5 : Int32)).toNatClampNeg) + (0 : Int64))) fun w33 => ((f_X11_dries w33).bind fun w36 => ((f_X11_done w36 (r18 / r11)).bind fun z => u2 z fun r38 w39 => (some (r38, w39))))) else none) else (if inR (5 : Int32) 192 then (wl (uL w29 142 ((5 : Int32)).toNatClampNeg ((gL w29 142 ((5 : Int32)).toNatClampNeg) + (1 : Int64))) fun w42 => ((f_X11_dries w42).bind fun w45 => ((f_X11_done w45 (r18 / r11)).bind fun z => u2 z fun r47 w48 => (some (r47, w48))))) else none)) else none)) else none) else none)) else none) else none)) else ((f_X11_turnsBy w12 x1 ((x2).toInt64)).bind fun w52 => (if inR ((36 : Int32) + x1) 192 then (if inR ((36 : Int32) + x1) 192 then (wl (uL w52 142 (((36 : Int32) + x1)).toNatClampNeg ((gL w52 142 (((36 : Int32) + x1)).toNatClampNeg) - ((r11 * x2)).toInt64)) fun w55 => (if inR (4 : Int32) 192 then (if inR (4 : Int32) 192 then (wl (uL w55 142 ((4 : Int32)).toNatClampNeg ((gL w55 142 ((4 : Int32)).toNatClampNeg) + ((r11 * x2)).toInt64)) fun w58 => (if inR (5 : Int32) 192 then (if x2 ≤ 0 then (if inR (5 : Int32) 192 then (wl (uL w58 142 ((5 : Int32)).toNatClampNeg ((gL w58 142 ((5 : Int32)).toNatClampNeg) + (0 : Int64))) fun w62 => ((f_X11_dries w62).bind fun w65 => ((f_X11_done w65 x2).bind fun z => u2 z fun r67 w68 => (some (r67, w68))))) else none) else (if inR (5 : Int32) 192 then (wl (uL w58 142 ((5 : Int32)).toNatClampNeg ((gL w58 142 ((5 : Int32)).toNatClampNeg) + (1 : Int64))) fun w71 => ((f_X11_dries w71).bind fun w74 => ((f_X11_done w74 x2).bind fun z => u2 z fun r76 w77 => (some (r76, w77))))) else none)) else none)) else none) else none)) else none) else none))) else none)) else ((f_X11_fails w12 (4 : Int32)).bind fun z => u2 z fun r80 w81 => (some (r80, w81))))))))))))
def f_X11_release (w : Wd) (x1 : Int32) (x2 : Int32) : Option (Int32 × Wd) := ((f_X11_begin w).bind fun w3 => ((f_X11_releases w3 x1 x2).bind fun z => u2 z fun r5 w6 => ((f_X11_kept w6 r5).bind fun z => u2 z fun r9 w10 => (some (r9, w10)))))
def f_X11_ratchets (w : Wd) (x1 : Int32) (x2 : Int32) : Option (Int32 × Wd) := ((f_X11_isGear w x1).bind fun r2 => (if r2 = 0 then ((f_X11_fails w (1 : Int32)).bind fun z => u2 z fun r20 w21 => (some (r20, w21))) else ((f_X11_at w ((56 : Int32) + x1)).bind fun r5 => (if x2 = 0 then (if inR ((56 : Int32) + x1) 192 then (wl (uL w 142 (((56 : Int32) + x1)).toNatClampNeg (0 : Int64)) fun w8 => ((f_X11_done w8 r5).bind fun z => u2 z fun r10 w11 => (some (r10, w11)))) else none) else (if inR ((56 : Int32) + x1) 192 then (wl (uL w 142 (((56 : Int32) + x1)).toNatClampNeg (1 : Int64)) fun w14 => ((f_X11_done w14 r5).bind fun z => u2 z fun r16 w17 => (some (r16, w17)))) else none)))))
def f_X11_setRatchet (w : Wd) (x1 : Int32) (x2 : Int32) : Option (Int32 × Wd) := ((f_X11_begin w).bind fun w3 => ((f_X11_ratchets w3 x1 x2).bind fun z => u2 z fun r5 w6 => ((f_X11_kept w6 r5).bind fun z => u2 z fun r9 w10 => (if r9 = (1 : Int32) then (some ((1 : Int32), w10)) else (some ((0 : Int32), w10))))))
def f_X11_oils (w : Wd) (x1 : Int32) : Option (Int32 × Wd) := ((f_X11_isGear w x1).bind fun r2 => (if r2 = 0 then ((f_X11_fails w (1 : Int32)).bind fun z => u2 z fun r30 w31 => (some (r30, w31))) else (if inR ((66 : Int32) + x1) 192 then (if (gL w 142 (((66 : Int32) + x1)).toNatClampNeg) = (1 : Int64) then ((f_X11_fails w (2 : Int32)).bind fun z => u2 z fun r26 w27 => (some (r26, w27))) else (if inR (2 : Int32) 192 then (if (gL w 142 ((2 : Int32)).toNatClampNeg) = (0 : Int64) then ((f_X11_fails w (3 : Int32)).bind fun z => u2 z fun r22 w23 => (some (r22, w23))) else (if inR ((66 : Int32) + x1) 192 then (wl (uL w 142 (((66 : Int32) + x1)).toNatClampNeg (1 : Int64)) fun w9 => (if inR ((76 : Int32) + x1) 192 then (wl (uL w9 142 (((76 : Int32) + x1)).toNatClampNeg (0 : Int64)) fun w11 => (if inR (2 : Int32) 192 then (if inR (2 : Int32) 192 then (wl (uL w11 142 ((2 : Int32)).toNatClampNeg ((gL w11 142 ((2 : Int32)).toNatClampNeg) - (1 : Int64))) fun w14 => ((f_X11_at w14 (2 : Int32)).bind fun r16 => ((f_X11_done w14 r16).bind fun z => u2 z fun r18 w19 => (some (r18, w19))))) else none) else none)) else none)) else none)) else none)) else none)))
def f_X11_oil (w : Wd) (x1 : Int32) : Option (Int32 × Wd) := ((f_X11_begin w).bind fun w3 => ((f_X11_oils w3 x1).bind fun z => u2 z fun r5 w6 => ((f_X11_kept w6 r5).bind fun z => u2 z fun r9 w10 => (some (r9, w10)))))
def f_X11_buys (w : Wd) (x1 : Int32) : Option (Int32 × Wd) := ((f_X11_in w x1 (1 : Int32) (50 : Int32)).bind fun r2 => (if r2 = 0 then ((f_X11_fails w (1 : Int32)).bind fun z => u2 z fun r20 w21 => (some (r20, w21))) else (if inR (2 : Int32) 192 then (if ((gL w 142 ((2 : Int32)).toNatClampNeg) + (x1).toInt64) ≤ (99 : Int64) then (if inR (2 : Int32) 192 then (if inR (2 : Int32) 192 then (wl (uL w 142 ((2 : Int32)).toNatClampNeg ((gL w 142 ((2 : Int32)).toNatClampNeg) + (x1).toInt64)) fun w8 => ((f_X11_at w8 (2 : Int32)).bind fun r10 => ((f_X11_done w8 r10).bind fun z => u2 z fun r12 w13 => (some (r12, w13))))) else none) else none) else ((f_X11_fails w (2 : Int32)).bind fun z => u2 z fun r16 w17 => (some (r16, w17)))) else none)))
def f_X11_buyOil (w : Wd) (x1 : Int32) : Option (Int32 × Wd) := ((f_X11_begin w).bind fun w3 => ((f_X11_buys w3 x1).bind fun z => u2 z fun r5 w6 => ((f_X11_kept w6 r5).bind fun z => u2 z fun r9 w10 => (some (r9, w10)))))
def p_X11_planetOn_2 (w : Wd) (x1 : Int32) : Nat → Int32 → Option ((Int32) ⊕ Int32)
  | 0, _ => none
  | n + 1, y1 => ((f_X11_at w (1 : Int32)).bind fun r4 => (if r4 ≤ y1 then (some (.inl y1)) else ((f_X11_at w ((86 : Int32) + y1)).bind fun r7 => (if r7 = x1 then (some (.inr y1)) else (p_X11_planetOn_2 w x1 n (y1 + (1 : Int32)))))))
def f_X11_planetOn (w : Wd) (x1 : Int32) : Option Int32 := ((p_X11_planetOn_2 w x1 2000 (0 : Int32)).bind fun z => zc z (fun y1 => (some (-1 : Int32))) (fun r => (some r)))
def f_X11_addsPlanet (w : Wd) (x1 : Int32) : Option (Int32 × Wd) := ((f_X11_isGear w x1).bind fun r2 => (if r2 = 0 then ((f_X11_fails w (1 : Int32)).bind fun z => u2 z fun r28 w29 => (some (r28, w29))) else ((f_X11_at w (1 : Int32)).bind fun r5 => (if r5 = (6 : Int32) then ((f_X11_fails w (2 : Int32)).bind fun z => u2 z fun r8 w9 => (some (r8, w9))) else ((f_X11_planetOn w x1).bind fun r12 => (if r12 = (-1 : Int32) then (if inR ((86 : Int32) + r5) 192 then (wl (uL w 142 (((86 : Int32) + r5)).toNatClampNeg (x1).toInt64) fun w15 => (if inR (1 : Int32) 192 then (if inR (1 : Int32) 192 then (wl (uL w15 142 ((1 : Int32)).toNatClampNeg ((gL w15 142 ((1 : Int32)).toNatClampNeg) + (1 : Int64))) fun w18 => ((f_X11_done w18 r5).bind fun z => u2 z fun r20 w21 => (some (r20, w21)))) else none) else none)) else none) else ((f_X11_fails w (2 : Int32)).bind fun z => u2 z fun r24 w25 => (some (r24, w25)))))))))
def f_X11_addPlanet (w : Wd) (x1 : Int32) : Option (Int32 × Wd) := ((f_X11_begin w).bind fun w3 => ((f_X11_addsPlanet w3 x1).bind fun z => u2 z fun r5 w6 => ((f_X11_kept w6 r5).bind fun z => u2 z fun r9 w10 => (some (r9, w10)))))
def f_X11_gearCount (w : Wd) : Option (Int32 × Wd) := ((f_X11_at w (0 : Int32)).bind fun r2 => ((f_X11_done w r2).bind fun z => u2 z fun r4 w5 => (some (r4, w5))))
def f_X11_teeth (w : Wd) (x1 : Int32) : Option (Int32 × Wd) := ((f_X11_isGear w x1).bind fun r2 => (if r2 = 0 then ((f_X11_fails w (1 : Int32)).bind fun z => u2 z fun r5 w6 => (some (r5, w6))) else ((f_X11_at w ((6 : Int32) + x1)).bind fun r9 => ((f_X11_done w r9).bind fun z => u2 z fun r11 w12 => (some (r11, w12))))))
def f_X11_joint (w : Wd) (x1 : Int32) (x2 : Int32) : Option (Int32 × Wd) := ((f_X11_areGears w x1 x2).bind fun r2 => (if r2 = 0 then (wl (uI w 141 12 (1 : Int32)) fun w17 => (if (gI w17 141 12) ≤ 0 then ((f_X11_jointOf w17 x1 x2).bind fun r20 => (if r20 = (1 : Int32) then (some ((109 : Int32), w17)) else (some ((97 : Int32), w17)))) else (some ((0 : Int32), w17)))) else ((f_X11_jointOf w x1 x2).bind fun r5 => (if r5 = 0 then (wl (uI w 141 12 (2 : Int32)) fun w12 => (if (gI w12 141 12) ≤ 0 then ((f_X11_jointOf w12 x1 x2).bind fun r15 => (if r15 = (1 : Int32) then (some ((109 : Int32), w12)) else (some ((97 : Int32), w12)))) else (some ((0 : Int32), w12)))) else (wl (uI w 141 12 (0 : Int32)) fun w7 => (if (gI w7 141 12) ≤ 0 then ((f_X11_jointOf w7 x1 x2).bind fun r10 => (if r10 = (1 : Int32) then (some ((109 : Int32), w7)) else (some ((97 : Int32), w7)))) else (some ((0 : Int32), w7))))))))
def f_X11_jointCount (w : Wd) : Option (Int32 × Wd) := ((f_X11_joints w).bind fun r2 => ((f_X11_done w r2).bind fun z => u2 z fun r4 w5 => (some (r4, w5))))
def f_X11_trainSize (w : Wd) (x1 : Int32) : Option (Int32 × Wd) := ((f_X11_isGear w x1).bind fun r2 => (if r2 = 0 then ((f_X11_fails w (1 : Int32)).bind fun z => u2 z fun r14 w15 => (some (r14, w15))) else ((f_X11_turns w x1).bind fun w6 => ((f_X11_members w6).bind fun r8 => ((f_X11_done w6 r8).bind fun z => u2 z fun r10 w11 => (some (r10, w11)))))))
def f_X11_areInTrain (w : Wd) (x1 : Int32) (x2 : Int32) : Option (Int32 × Wd) := ((f_X11_areGears w x1 x2).bind fun r2 => (if r2 = 0 then (wl (uI w 141 12 (1 : Int32)) fun w4 => (if (gI w4 141 12) ≤ 0 then ((f_X11_turns w4 x1).bind fun w8 => (if inR x2 10 then (some ((vp_nar .boolean (gI w8 149 (x2).toNatClampNeg)), w8)) else none)) else (some ((0 : Int32), w4)))) else (wl (uI w 141 12 (0 : Int32)) fun w10 => (if (gI w10 141 12) ≤ 0 then ((f_X11_turns w10 x1).bind fun w14 => (if inR x2 10 then (some ((vp_nar .boolean (gI w14 149 (x2).toNatClampNeg)), w14)) else none)) else (some ((0 : Int32), w10))))))
def f_X11_unitsPerTurn (w : Wd) (x1 : Int32) (x2 : Int32) : Option (Int64 × Wd) := ((f_X11_areGears w x1 x2).bind fun r2 => (if r2 = 0 then (wl (uI w 141 12 (1 : Int32)) fun w4 => (if (gI w4 141 12) ≤ 0 then ((f_X11_turns w4 x1).bind fun w8 => (if inR x2 10 then (if (gI w8 149 (x2).toNatClampNeg) = 0 then (wl (uI w8 141 12 (2 : Int32)) fun w11 => (if inR x2 10 then (some ((gL w11 148 (x2).toNatClampNeg), w11)) else none)) else (wl (uI w8 141 12 (0 : Int32)) fun w13 => (if inR x2 10 then (some ((gL w13 148 (x2).toNatClampNeg), w13)) else none))) else none)) else (some ((0 : Int64), w4)))) else (wl (uI w 141 12 (0 : Int32)) fun w15 => (if (gI w15 141 12) ≤ 0 then ((f_X11_turns w15 x1).bind fun w19 => (if inR x2 10 then (if (gI w19 149 (x2).toNatClampNeg) = 0 then (wl (uI w19 141 12 (2 : Int32)) fun w22 => (if inR x2 10 then (some ((gL w22 148 (x2).toNatClampNeg), w22)) else none)) else (wl (uI w19 141 12 (0 : Int32)) fun w24 => (if inR x2 10 then (some ((gL w24 148 (x2).toNatClampNeg), w24)) else none))) else none)) else (some ((0 : Int64), w15))))))
def f_X11_unitsPerTurnByLowest (w : Wd) (x1 : Int32) (x2 : Int32) : Option (Int64 × Wd) := ((f_X11_unitsPerTurn w x1 x2).bind fun z => u2 z fun r2 w3 => (some (r2, w3)))
def f_X11_angle (w : Wd) (x1 : Int32) : Option (Int64 × Wd) := ((f_X11_isGear w x1).bind fun r2 => (if r2 = 0 then (wl (uI w 141 12 (1 : Int32)) fun w4 => (if (gI w4 141 12) ≤ 0 then (if inR ((16 : Int32) + x1) 192 then (some ((gL w4 142 (((16 : Int32) + x1)).toNatClampNeg), w4)) else none) else (some ((0 : Int64), w4)))) else (wl (uI w 141 12 (0 : Int32)) fun w7 => (if (gI w7 141 12) ≤ 0 then (if inR ((16 : Int32) + x1) 192 then (some ((gL w7 142 (((16 : Int32) + x1)).toNatClampNeg), w7)) else none) else (some ((0 : Int64), w7))))))
def f_X11_anglePart (w : Wd) (x1 : Int32) : Option (UInt64 × Wd) := ((f_X11_isGear w x1).bind fun r2 => (if r2 = 0 then (wl (uI w 141 12 (1 : Int32)) fun w4 => (if (gI w4 141 12) ≤ 0 then (if inR ((16 : Int32) + x1) 192 then (if okN64 (FP.ddiv (FP.l2d (gL w4 142 (((16 : Int32) + x1)).toNatClampNeg)) (4762324188084043776 : UInt64)) then (some ((FP.ddiv (FP.l2d (gL w4 142 (((16 : Int32) + x1)).toNatClampNeg)) (4762324188084043776 : UInt64)), w4)) else none) else none) else (some ((0 : UInt64), w4)))) else (wl (uI w 141 12 (0 : Int32)) fun w8 => (if (gI w8 141 12) ≤ 0 then (if inR ((16 : Int32) + x1) 192 then (if okN64 (FP.ddiv (FP.l2d (gL w8 142 (((16 : Int32) + x1)).toNatClampNeg)) (4762324188084043776 : UInt64)) then (some ((FP.ddiv (FP.l2d (gL w8 142 (((16 : Int32) + x1)).toNatClampNeg)) (4762324188084043776 : UInt64)), w8)) else none) else none) else (some ((0 : UInt64), w8))))))
def f_X11_whyNoSpring (w : Wd) (x1 : Int32) : Option Int32 := ((f_X11_isGear w x1).bind fun r2 => (if r2 = 0 then (some (1 : Int32)) else ((f_X11_hasSpring w x1).bind fun r5 => (if r5 = 0 then (some (2 : Int32)) else (some (0 : Int32))))))
def f_X11_tension (w : Wd) (x1 : Int32) : Option (Int32 × Wd) := ((f_X11_whyNoSpring w x1).bind fun r2 => (if r2 ≤ 0 then ((f_X11_at w ((36 : Int32) + x1)).bind fun r5 => ((f_X11_done w r5).bind fun z => u2 z fun r7 w8 => (some (r7, w8)))) else ((f_X11_fails w r2).bind fun z => u2 z fun r11 w12 => (some (r11, w12)))))
def f_X11_springSize (w : Wd) (x1 : Int32) : Option (Int32 × Wd) := ((f_X11_whyNoSpring w x1).bind fun r2 => (if r2 ≤ 0 then ((f_X11_at w ((26 : Int32) + x1)).bind fun r5 => ((f_X11_done w r5).bind fun z => u2 z fun r7 w8 => (some (r7, w8)))) else ((f_X11_fails w r2).bind fun z => u2 z fun r11 w12 => (some (r11, w12)))))
def f_X11_springOf (w : Wd) (x1 : Int32) : Option (Int32 × Wd) := ((f_X11_isGear w x1).bind fun r2 => (if r2 = 0 then ((f_X11_fails w (1 : Int32)).bind fun z => u2 z fun r19 w20 => (some (r19, w20))) else ((f_X11_turns w x1).bind fun w6 => ((f_X11_springIn w6).bind fun r8 => (if r8 = (-1 : Int32) then ((f_X11_fails w6 (2 : Int32)).bind fun z => u2 z fun r15 w16 => (some (r15, w16))) else ((f_X11_done w6 r8).bind fun z => u2 z fun r11 w12 => (some (r11, w12))))))))
def f_X11_friction (w : Wd) (x1 : Int32) : Option (Int32 × Wd) := ((f_X11_isGear w x1).bind fun r2 => (if r2 = 0 then ((f_X11_fails w (1 : Int32)).bind fun z => u2 z fun r5 w6 => (some (r5, w6))) else ((f_X11_rubs w x1).bind fun z => u2 z fun r9 w10 => ((f_X11_done w10 r9).bind fun z => u2 z fun r13 w14 => (some (r13, w14))))))
def f_X11_turnsLeft (w : Wd) (x1 : Int32) : Option (Int32 × Wd) := ((f_X11_whyNoSpring w x1).bind fun r2 => (if r2 ≤ 0 then ((f_X11_at w ((36 : Int32) + x1)).bind fun r5 => ((f_X11_rubs w x1).bind fun z => u2 z fun r7 w8 => (if ¬ r7 = 0 then ((f_X11_done w8 (r5 / r7)).bind fun z => u2 z fun r12 w13 => (some (r12, w13))) else none))) else ((f_X11_fails w r2).bind fun z => u2 z fun r16 w17 => (some (r16, w17)))))
def f_X11_canRelease (w : Wd) (x1 : Int32) : Option (Int32 × Wd) := ((f_X11_isGear w x1).bind fun r2 => (if r2 = 0 then (wl (uI w 141 12 (1 : Int32)) fun w4 => (if 0 < (gI w4 141 12) then (some ((0 : Int32), w4)) else ((f_X11_hasSpring w4 x1).bind fun r7 => (if r7 = 0 then (some ((0 : Int32), w4)) else ((f_X11_turns w4 x1).bind fun w11 => ((f_X11_isHindered w11 x1).bind fun r13 => (if r13 = 0 then (some ((1 : Int32), w11)) else (some ((0 : Int32), w11))))))))) else (wl (uI w 141 12 (0 : Int32)) fun w15 => (if 0 < (gI w15 141 12) then (some ((0 : Int32), w15)) else ((f_X11_hasSpring w15 x1).bind fun r18 => (if r18 = 0 then (some ((0 : Int32), w15)) else ((f_X11_turns w15 x1).bind fun w22 => ((f_X11_isHindered w22 x1).bind fun r24 => (if r24 = 0 then (some ((1 : Int32), w22)) else (some ((0 : Int32), w22)))))))))))
def f_X11_hasRatchet (w : Wd) (x1 : Int32) : Option (Int32 × Wd) := ((f_X11_isGear w x1).bind fun r2 => (if r2 = 0 then (wl (uI w 141 12 (1 : Int32)) fun w4 => (if (gI w4 141 12) = 0 then (if inR ((56 : Int32) + x1) 192 then (if (gL w4 142 (((56 : Int32) + x1)).toNatClampNeg) = (1 : Int64) then (some ((1 : Int32), w4)) else (some ((0 : Int32), w4))) else none) else (some ((0 : Int32), w4)))) else (wl (uI w 141 12 (0 : Int32)) fun w8 => (if (gI w8 141 12) = 0 then (if inR ((56 : Int32) + x1) 192 then (if (gL w8 142 (((56 : Int32) + x1)).toNatClampNeg) = (1 : Int64) then (some ((1 : Int32), w8)) else (some ((0 : Int32), w8))) else none) else (some ((0 : Int32), w8))))))
def f_X11_isDry (w : Wd) (x1 : Int32) : Option (Int32 × Wd) := ((f_X11_isGear w x1).bind fun r2 => (if r2 = 0 then (wl (uI w 141 12 (1 : Int32)) fun w4 => (if (gI w4 141 12) = 0 then (if inR ((66 : Int32) + x1) 192 then (if (gL w4 142 (((66 : Int32) + x1)).toNatClampNeg) = (0 : Int64) then (some ((1 : Int32), w4)) else (some ((0 : Int32), w4))) else none) else (some ((0 : Int32), w4)))) else (wl (uI w 141 12 (0 : Int32)) fun w8 => (if (gI w8 141 12) = 0 then (if inR ((66 : Int32) + x1) 192 then (if (gL w8 142 (((66 : Int32) + x1)).toNatClampNeg) = (0 : Int64) then (some ((1 : Int32), w8)) else (some ((0 : Int32), w8))) else none) else (some ((0 : Int32), w8))))))
def f_X11_wear (w : Wd) (x1 : Int32) : Option (Int32 × Wd) := ((f_X11_isGear w x1).bind fun r2 => (if r2 = 0 then ((f_X11_fails w (1 : Int32)).bind fun z => u2 z fun r17 w18 => (some (r17, w18))) else (if inR ((66 : Int32) + x1) 192 then (if (gL w 142 (((66 : Int32) + x1)).toNatClampNeg) = (0 : Int64) then ((f_X11_fails w (2 : Int32)).bind fun z => u2 z fun r13 w14 => (some (r13, w14))) else (if inR ((76 : Int32) + x1) 192 then (if ¬ (24883200000 : Int64) = 0 then ((f_X11_done w ((((gL w 142 (((76 : Int32) + x1)).toNatClampNeg) / (24883200000 : Int64))).toInt32)).bind fun z => u2 z fun r9 w10 => (some (r9, w10))) else none) else none)) else none)))
def f_X11_drops (w : Wd) : Option (Int32 × Wd) := ((f_X11_at w (2 : Int32)).bind fun r2 => ((f_X11_done w r2).bind fun z => u2 z fun r4 w5 => (some (r4, w5))))
def f_X11_planetCount (w : Wd) : Option (Int32 × Wd) := ((f_X11_at w (1 : Int32)).bind fun r2 => ((f_X11_done w r2).bind fun z => u2 z fun r4 w5 => (some (r4, w5))))
def f_X11_gearOf (w : Wd) (x1 : Int32) : Option (Int32 × Wd) := ((f_X11_isPlanet w x1).bind fun r2 => (if r2 = 0 then ((f_X11_fails w (1 : Int32)).bind fun z => u2 z fun r5 w6 => (some (r5, w6))) else ((f_X11_at w ((86 : Int32) + x1)).bind fun r9 => ((f_X11_done w r9).bind fun z => u2 z fun r11 w12 => (some (r11, w12))))))
def f_X11_angleOf (w : Wd) (x1 : Int32) : Option Int64 := ((f_X11_at w ((86 : Int32) + x1)).bind fun r2 => (if inR ((16 : Int32) + r2) 192 then (some (gL w 142 (((16 : Int32) + r2)).toNatClampNeg)) else none))
def f_X11_areInLine (w : Wd) (x1 : Int32) (x2 : Int32) : Option (Int32 × Wd) := ((f_X11_isPlanet w x1).bind fun r2 => (if r2 = 0 then (wl (uI w 141 12 (1 : Int32)) fun w4 => (if (gI w4 141 12) = 0 then ((f_X11_angleOf w4 x1).bind fun r7 => ((f_X11_angleOf w4 x2).bind fun r9 => (if r7 = r9 then (some ((1 : Int32), w4)) else (some ((0 : Int32), w4))))) else (some ((0 : Int32), w4)))) else ((f_X11_isPlanet w x2).bind fun r12 => (if r12 = 0 then (wl (uI w 141 12 (1 : Int32)) fun w29 => (if (gI w29 141 12) = 0 then ((f_X11_angleOf w29 x1).bind fun r32 => ((f_X11_angleOf w29 x2).bind fun r34 => (if r32 = r34 then (some ((1 : Int32), w29)) else (some ((0 : Int32), w29))))) else (some ((0 : Int32), w29)))) else (if x1 = x2 then (wl (uI w 141 12 (2 : Int32)) fun w22 => (if (gI w22 141 12) = 0 then ((f_X11_angleOf w22 x1).bind fun r25 => ((f_X11_angleOf w22 x2).bind fun r27 => (if r25 = r27 then (some ((1 : Int32), w22)) else (some ((0 : Int32), w22))))) else (some ((0 : Int32), w22)))) else (wl (uI w 141 12 (0 : Int32)) fun w15 => (if (gI w15 141 12) = 0 then ((f_X11_angleOf w15 x1).bind fun r18 => ((f_X11_angleOf w15 x2).bind fun r20 => (if r18 = r20 then (some ((1 : Int32), w15)) else (some ((0 : Int32), w15))))) else (some ((0 : Int32), w15)))))))))
def p_X11_nextEclipse_141 (w21 : Wd) (r37 : Int64) : Nat → Int64 → Int32 → Option ((Int64 × Int32) ⊕ (Int32 × Wd))
  | 0, _, _ => none
  | n + 1, y42, y43 => (if (999 : Int32) < y43 then (some (.inl (y42, y43))) else ((f_X11_rest w21 (y42 + r37)).bind fun r47 => (if r47 = (0 : Int64) then ((f_X11_done w21 y43).bind fun z => u2 z fun r50 w51 => (some (.inr (r50, w51)))) else (p_X11_nextEclipse_141 w21 r37 n r47 (y43 + (1 : Int32))))))
def f_X11_nextEclipse (w : Wd) (x1 : Int32) (x2 : Int32) (x3 : Int32) : Option (Int32 × Wd) := ((f_X11_isPlanet w x1).bind fun r2 => (if r2 = 0 then ((f_X11_fails w (1 : Int32)).bind fun z => u2 z fun r5 w6 => (some (r5, w6))) else ((f_X11_isPlanet w x2).bind fun r9 => (if r9 = 0 then ((f_X11_fails w (1 : Int32)).bind fun z => u2 z fun r12 w13 => (some (r12, w13))) else ((f_X11_isGear w x3).bind fun r16 => (if r16 = 0 then ((f_X11_fails w (1 : Int32)).bind fun z => u2 z fun r68 w69 => (some (r68, w69))) else (if x1 = x2 then ((f_X11_fails w (2 : Int32)).bind fun z => u2 z fun r64 w65 => (some (r64, w65))) else ((f_X11_turns w x3).bind fun w21 => ((f_X11_at w21 ((86 : Int32) + x1)).bind fun r23 => ((f_X11_at w21 ((86 : Int32) + x2)).bind fun r25 => (if inR r23 10 then (if (gI w21 149 (r23).toNatClampNeg) = 0 then ((f_X11_fails w21 (3 : Int32)).bind fun z => u2 z fun r29 w30 => (some (r29, w30))) else (if inR r25 10 then (if (gI w21 149 (r25).toNatClampNeg) = 0 then ((f_X11_fails w21 (3 : Int32)).bind fun z => u2 z fun r60 w61 => (some (r60, w61))) else (if inR r23 10 then (if inR r25 10 then ((f_X11_rest w21 ((gL w21 148 (r23).toNatClampNeg) - (gL w21 148 (r25).toNatClampNeg))).bind fun r37 => (if inR ((16 : Int32) + r23) 192 then (if inR ((16 : Int32) + r25) 192 then ((f_X11_rest w21 ((gL w21 142 (((16 : Int32) + r23)).toNatClampNeg) - (gL w21 142 (((16 : Int32) + r25)).toNatClampNeg))).bind fun r41 => ((p_X11_nextEclipse_141 w21 r37 2000 r41 (1 : Int32)).bind fun z => zc z (fun q => u2 q fun y42 y43 => ((f_X11_fails w21 (4 : Int32)).bind fun z => u2 z fun r56 w57 => (some (r56, w57)))) (fun r => (some r)))) else none) else none)) else none) else none)) else none)) else none)))))))))))
def f_X11_nextEclipseByTurns (w : Wd) (x1 : Int32) (x2 : Int32) (x3 : Int32) : Option (Int32 × Wd) := ((f_X11_nextEclipse w x1 x2 x3).bind fun z => u2 z fun r2 w3 => (some (r2, w3)))
def f_X11_isBehind (w : Wd) (x1 : Int32) (x2 : Int32) : Option Int32 := ((f_X11_angleOf w x2).bind fun r2 => ((f_X11_angleOf w x1).bind fun r4 => (if (0 : Int64) < (r2 - r4) then (some (1 : Int32)) else (if (r2 - r4) = (0 : Int64) then (if x2 ≤ x1 then (some (0 : Int32)) else (some (1 : Int32))) else (some (0 : Int32))))))
def p_X11_planetByAngle_16 (w : Wd) (y1 : Int32) : Nat → Int32 → Int32 → Option ((Int32 × Int32) ⊕ Unit)
  | 0, _, _ => none
  | n + 1, y6, y7 => ((f_X11_at w (1 : Int32)).bind fun r10 => (if r10 ≤ y7 then (some (.inl (y6, y7))) else ((f_X11_isBehind w y7 y1).bind fun r13 => (if r13 = 0 then (p_X11_planetByAngle_16 w y1 n (y6 + (0 : Int32)) (y7 + (1 : Int32))) else (p_X11_planetByAngle_16 w y1 n (y6 + (1 : Int32)) (y7 + (1 : Int32)))))))
def p_X11_planetByAngle_2 (w : Wd) (x1 : Int32) : Nat → Int32 → Option ((Int32) ⊕ (Int32 × Wd))
  | 0, _ => none
  | n + 1, y1 => ((f_X11_at w (1 : Int32)).bind fun r4 => (if r4 ≤ y1 then (some (.inl y1)) else ((p_X11_planetByAngle_16 w y1 2000 (0 : Int32) (0 : Int32)).bind fun z => zc z (fun q => u2 q fun y6 y7 => (if y6 = x1 then ((f_X11_done w y1).bind fun z => u2 z fun r19 w20 => (some (.inr (r19, w20)))) else (p_X11_planetByAngle_2 w x1 n (y1 + (1 : Int32))))) (fun _ => none))))
def f_X11_planetByAngle (w : Wd) (x1 : Int32) : Option (Int32 × Wd) := ((p_X11_planetByAngle_2 w x1 2000 (0 : Int32)).bind fun z => zc z (fun y1 => ((f_X11_fails w (1 : Int32)).bind fun z => u2 z fun r25 w26 => (some (r25, w26)))) (fun r => (some r)))
def f_X11_isPair (w : Wd) (x1 : Int32) (x2 : Int32) (x3 : Int32) (x4 : Int32) : Option Int32 := (if x1 = x2 then (some (0 : Int32)) else (if inR ((6 : Int32) + x1) 192 then (if inR ((6 : Int32) + x2) 192 then (if ((gL w 142 (((6 : Int32) + x1)).toNatClampNeg) * (x4).toInt64) = ((gL w 142 (((6 : Int32) + x2)).toNatClampNeg) * (x3).toInt64) then (some (1 : Int32)) else (some (0 : Int32))) else none) else none))
def f_X11_areTwoPairs (w : Wd) (x1 : Int32) (x2 : Int32) (x3 : Int32) (x4 : Int32) : Option Int32 := (if ¬ (10 : Int32) = 0 then (if ¬ (10 : Int32) = 0 then (if ¬ (10 : Int32) = 0 then (if ¬ (10 : Int32) = 0 then (if (x1 / (10 : Int32)) = (x1 - x1 / (10 : Int32) * (10 : Int32)) then (some (0 : Int32)) else (if (x1 / (10 : Int32)) = (x2 / (10 : Int32)) then (some (0 : Int32)) else (if (x1 / (10 : Int32)) = (x2 - x2 / (10 : Int32) * (10 : Int32)) then (some (0 : Int32)) else (if (x1 - x1 / (10 : Int32) * (10 : Int32)) = (x2 / (10 : Int32)) then (some (0 : Int32)) else (if (x1 - x1 / (10 : Int32) * (10 : Int32)) = (x2 - x2 / (10 : Int32) * (10 : Int32)) then (some (0 : Int32)) else (if (x2 / (10 : Int32)) = (x2 - x2 / (10 : Int32) * (10 : Int32)) then (some (0 : Int32)) else ((f_X11_areGears w (x1 / (10 : Int32)) (x1 - x1 / (10 : Int32) * (10 : Int32))).bind fun r12 => (if r12 = 0 then (some (0 : Int32)) else ((f_X11_areGears w (x2 / (10 : Int32)) (x2 - x2 / (10 : Int32) * (10 : Int32))).bind fun r15 => (if r15 = 0 then (some (0 : Int32)) else (if inR ((6 : Int32) + (x1 / (10 : Int32))) 192 then (if inR ((6 : Int32) + (x2 / (10 : Int32))) 192 then (if inR ((6 : Int32) + (x1 - x1 / (10 : Int32) * (10 : Int32))) 192 then (if inR ((6 : Int32) + (x2 - x2 / (10 : Int32) * (10 : Int32))) 192 then (if (((gL w 142 (((6 : Int32) + (x1 / (10 : Int32)))).toNatClampNeg) * (gL w 142 (((6 : Int32) + (x2 / (10 : Int32)))).toNatClampNeg)) * (x4).toInt64) = (((gL w 142 (((6 : Int32) + (x1 - x1 / (10 : Int32) * (10 : Int32)))).toNatClampNeg) * (gL w 142 (((6 : Int32) + (x2 - x2 / (10 : Int32) * (10 : Int32)))).toNatClampNeg)) * (x3).toInt64) then (some (1 : Int32)) else (some (0 : Int32))) else none) else none) else none) else none))))))))))) else none) else none) else none) else none)
def p_X11_fewestPairs_87 (r18 : Int32) (w : Wd) (y12 : Int32) (x1 : Int32) (x2 : Int32) : Nat → Int32 → Int32 → Option ((Int32 × Int32) ⊕ Unit)
  | 0, _, _ => none
  | n + 1, y20, y21 => (if (100 : Int32) ≤ y21 then (some (.inl (y20, y21))) else (if r18 = 0 then (some (.inl (y20, y21))) else ((f_X11_areTwoPairs w y12 y21 x1 x2).bind fun r26 => (if r26 = 0 then (p_X11_fewestPairs_87 r18 w y12 x1 x2 n y20 (y21 + (1 : Int32))) else (p_X11_fewestPairs_87 r18 w y12 x1 x2 n (2 : Int32) (y21 + (1 : Int32)))))))
def p_X11_fewestPairs_31 (w : Wd) (x1 : Int32) (x2 : Int32) : Nat → Int32 → Int32 → Option ((Int32 × Int32) ⊕ (Int32 × Wd))
  | 0, _, _ => none
  | n + 1, y11, y12 => (if (100 : Int32) ≤ y12 then (some (.inl (y11, y12))) else (if ¬ (10 : Int32) = 0 then (if ¬ (10 : Int32) = 0 then ((f_X11_areGears w (y12 / (10 : Int32)) (y12 - y12 / (10 : Int32) * (10 : Int32))).bind fun r18 => (if r18 = 0 then ((p_X11_fewestPairs_87 r18 w y12 x1 x2 2000 y11 (0 : Int32)).bind fun z => zc z (fun q => u2 q fun y20 y21 => (p_X11_fewestPairs_31 w x1 x2 n y20 (y12 + (1 : Int32)))) (fun _ => none)) else (if ¬ (10 : Int32) = 0 then (if ¬ (10 : Int32) = 0 then ((f_X11_isPair w (y12 / (10 : Int32)) (y12 - y12 / (10 : Int32) * (10 : Int32)) x1 x2).bind fun r33 => (if r33 = 0 then ((p_X11_fewestPairs_87 r18 w y12 x1 x2 2000 y11 (0 : Int32)).bind fun z => zc z (fun q => u2 q fun y35 y36 => (p_X11_fewestPairs_31 w x1 x2 n y35 (y12 + (1 : Int32)))) (fun _ => none)) else ((f_X11_done w (1 : Int32)).bind fun z => u2 z fun r46 w47 => (some (.inr (r46, w47)))))) else none) else none))) else none) else none))
def f_X11_fewestPairs (w : Wd) (x1 : Int32) (x2 : Int32) : Option (Int32 × Wd) := ((f_X11_in w x1 (1 : Int32) (60 : Int32)).bind fun r2 => (if r2 = 0 then ((f_X11_fails w (1 : Int32)).bind fun z => u2 z fun r5 w6 => (some (r5, w6))) else ((f_X11_in w x2 (1 : Int32) (60 : Int32)).bind fun r9 => (if r9 = 0 then ((f_X11_fails w (1 : Int32)).bind fun z => u2 z fun r61 w62 => (some (r61, w62))) else ((p_X11_fewestPairs_31 w x1 x2 2000 (3 : Int32) (0 : Int32)).bind fun z => zc z (fun q => u2 q fun y11 y12 => (if y11 = (3 : Int32) then ((f_X11_fails w (2 : Int32)).bind fun z => u2 z fun r57 w58 => (some (r57, w58))) else ((f_X11_done w y11).bind fun z => u2 z fun r53 w54 => (some (r53, w54))))) (fun r => (some r)))))))
def f_X11_fewestPairsByTable (w : Wd) (x1 : Int32) (x2 : Int32) : Option (Int32 × Wd) := ((f_X11_fewestPairs w x1 x2).bind fun z => u2 z fun r2 w3 => (some (r2, w3)))
def f_X11_woundTotal (w : Wd) : Option (Int32 × Wd) := ((f_X11_at w (3 : Int32)).bind fun r2 => ((f_X11_done w r2).bind fun z => u2 z fun r4 w5 => (some (r4, w5))))
def p_X11_tensionTotal_4 (w : Wd) : Nat → Int32 → Int32 → Option ((Int32 × Int32) ⊕ Unit)
  | 0, _, _ => none
  | n + 1, y1, y2 => (if (10 : Int32) ≤ y2 then (some (.inl (y1, y2))) else ((f_X11_at w ((36 : Int32) + y2)).bind fun r6 => (p_X11_tensionTotal_4 w n (y1 + r6) (y2 + (1 : Int32)))))
def f_X11_tensionTotal (w : Wd) : Option (Int32 × Wd) := ((p_X11_tensionTotal_4 w 2000 (0 : Int32) (0 : Int32)).bind fun z => zc z (fun q => u2 q fun y1 y2 => ((f_X11_done w y1).bind fun z => u2 z fun r10 w11 => (some (r10, w11)))) (fun _ => none))
def f_X11_tensionByAccounts (w : Wd) : Option (Int32 × Wd) := ((f_X11_at w (3 : Int32)).bind fun r2 => ((f_X11_at w (4 : Int32)).bind fun r4 => ((f_X11_done w (r2 - r4)).bind fun z => u2 z fun r6 w7 => (some (r6, w7)))))
def f_X11_releaseTotal (w : Wd) : Option (Int32 × Wd) := ((f_X11_at w (5 : Int32)).bind fun r2 => ((f_X11_done w r2).bind fun z => u2 z fun r4 w5 => (some (r4, w5))))
def p_X11_meanTeeth_4 (w : Wd) : Nat → Int64 → Int32 → Option ((Int64 × Int32) ⊕ Unit)
  | 0, _, _ => none
  | n + 1, y1, y2 => (if (10 : Int32) ≤ y2 then (some (.inl (y1, y2))) else (if inR ((6 : Int32) + y2) 192 then (p_X11_meanTeeth_4 w n (y1 + (gL w 142 (((6 : Int32) + y2)).toNatClampNeg)) (y2 + (1 : Int32))) else none))
def f_X11_meanTeeth (w : Wd) : Option (UInt64 × Wd) := ((p_X11_meanTeeth_4 w 2000 (0 : Int64) (0 : Int32)).bind fun z => zc z (fun q => u2 q fun y1 y2 => (if inR (0 : Int32) 192 then (if (gL w 142 ((0 : Int32)).toNatClampNeg) = (0 : Int64) then (wl (uI w 141 12 (1 : Int32)) fun w14 => (if (gI w14 141 12) ≤ 0 then (if inR (0 : Int32) 192 then (if okN64 (FP.ddiv (FP.l2d y1) (FP.l2d (gL w14 142 ((0 : Int32)).toNatClampNeg))) then (some ((FP.ddiv (FP.l2d y1) (FP.l2d (gL w14 142 ((0 : Int32)).toNatClampNeg))), w14)) else none) else none) else (some ((0 : UInt64), w14)))) else (wl (uI w 141 12 (0 : Int32)) fun w10 => (if (gI w10 141 12) ≤ 0 then (if inR (0 : Int32) 192 then (if okN64 (FP.ddiv (FP.l2d y1) (FP.l2d (gL w10 142 ((0 : Int32)).toNatClampNeg))) then (some ((FP.ddiv (FP.l2d y1) (FP.l2d (gL w10 142 ((0 : Int32)).toNatClampNeg))), w10)) else none) else none) else (some ((0 : UInt64), w10))))) else none)) (fun _ => none))
def p_X11_dryShare_4 (w : Wd) : Nat → Int32 → Int32 → Option ((Int32 × Int32) ⊕ Unit)
  | 0, _, _ => none
  | n + 1, y1, y2 => ((f_X11_at w (0 : Int32)).bind fun r5 => (if r5 ≤ y2 then (some (.inl (y1, y2))) else (if inR ((66 : Int32) + y2) 192 then (if (gL w 142 (((66 : Int32) + y2)).toNatClampNeg) = (0 : Int64) then (p_X11_dryShare_4 w n (y1 + (1 : Int32)) (y2 + (1 : Int32))) else (p_X11_dryShare_4 w n (y1 + (0 : Int32)) (y2 + (1 : Int32)))) else none)))
def f_X11_dryShare (w : Wd) : Option (UInt32 × Wd) := ((p_X11_dryShare_4 w 2000 (0 : Int32) (0 : Int32)).bind fun z => zc z (fun q => u2 q fun y1 y2 => (if inR (0 : Int32) 192 then (if (gL w 142 ((0 : Int32)).toNatClampNeg) = (0 : Int64) then (wl (uI w 141 12 (1 : Int32)) fun w18 => (if (gI w18 141 12) ≤ 0 then ((f_X11_at w18 (0 : Int32)).bind fun r21 => (if okN32 (FP.fdiv (FP.i2f y1) (FP.i2f r21)) then (some ((FP.fdiv (FP.i2f y1) (FP.i2f r21)), w18)) else none)) else (some ((0 : UInt32), w18)))) else (wl (uI w 141 12 (0 : Int32)) fun w13 => (if (gI w13 141 12) ≤ 0 then ((f_X11_at w13 (0 : Int32)).bind fun r16 => (if okN32 (FP.fdiv (FP.i2f y1) (FP.i2f r16)) then (some ((FP.fdiv (FP.i2f y1) (FP.i2f r16)), w13)) else none)) else (some ((0 : UInt32), w13))))) else none)) (fun _ => none))
def f_X11_isConsistent (w : Wd) : Option (Int32 × Wd) := (wl (uI w 141 12 (0 : Int32)) fun w1 => (some ((1 : Int32), w1)))
def f_X11_writes (w : Wd) (x1 : Int32) : Option Wd := (if inR (gI w 141 11) 100 then (wl (uI w 147 ((gI w 141 11)).toNatClampNeg (vp_nar .char ((x1).toUInt32 % 65536).toInt32)) fun w2 => (wl (uI w2 141 11 ((gI w2 141 11) + (1 : Int32))) fun w3 => (some w3))) else none)
def p_X11_writesNumber_4 (x1 : Int32) : Nat → Int32 → Option (Int32 ⊕ Unit)
  | 0, _ => none
  | n + 1, y1 => (if y1 ≤ (1 : Int32) then (some (.inl y1)) else (if y1 ≤ x1 then (some (.inl y1)) else (if ¬ (10 : Int32) = 0 then (p_X11_writesNumber_4 x1 n (y1 / (10 : Int32))) else none)))
def p_X11_writesNumber_22 (x1 : Int32) : Nat → Int32 → Wd → Option ((Int32 × Wd) ⊕ Unit)
  | 0, _, _ => none
  | n + 1, y8, w9 => (if y8 ≤ 0 then (some (.inl (y8, w9))) else (if ¬ y8 = 0 then (if ¬ (10 : Int32) = 0 then ((f_X11_writes w9 ((48 : Int32) + ((x1 / y8) - (x1 / y8) / (10 : Int32) * (10 : Int32)))).bind fun w16 => (if ¬ (10 : Int32) = 0 then (p_X11_writesNumber_22 x1 n (y8 / (10 : Int32)) w16) else none)) else none) else none))
def f_X11_writesNumber (w : Wd) (x1 : Int32) : Option Wd := ((p_X11_writesNumber_4 x1 2000 (1000 : Int32)).bind fun z => zc z (fun y1 => ((p_X11_writesNumber_22 x1 2000 y1 w).bind fun z => zc z (fun q => u2 q fun y8 w9 => (some w9)) (fun _ => none))) (fun _ => none))
def f_X11_writesIf (w : Wd) (x1 : Int32) (x2 : Int32) : Option Wd := (if x1 = 0 then (some w) else ((f_X11_writes w x2).bind fun w4 => (some w4)))
def f_X11_renderGear (w : Wd) (x1 : Int32) : Option (Int32 × Wd) := ((f_X11_isGear w x1).bind fun r2 => (if r2 = 0 then ((f_X11_fails w (1 : Int32)).bind fun z => u2 z fun r197 w198 => (some (r197, w198))) else (wl (uI w 141 11 (0 : Int32)) fun w4 => ((f_X11_writesNumber w4 x1).bind fun w7 => ((f_X11_writes w7 (58 : Int32)).bind fun w10 => ((f_X11_at w10 ((6 : Int32) + x1)).bind fun r12 => ((f_X11_writesNumber w10 r12).bind fun w15 => (if inR ((66 : Int32) + x1) 192 then (if (gL w15 142 (((66 : Int32) + x1)).toNatClampNeg) = (0 : Int64) then ((f_X11_writesIf w15 (1 : Int32) (100 : Int32)).bind fun w109 => (if inR ((56 : Int32) + x1) 192 then (if (gL w109 142 (((56 : Int32) + x1)).toNatClampNeg) = (1 : Int64) then ((f_X11_writesIf w109 (1 : Int32) (114 : Int32)).bind fun w156 => ((f_X11_hasSpring w156 x1).bind fun r158 => (if r158 = 0 then ((f_X11_done w156 (gI w156 141 11)).bind fun z => u2 z fun r161 w162 => (some (r161, w162))) else ((f_X11_writes w156 (115 : Int32)).bind fun w166 => ((f_X11_at w166 ((36 : Int32) + x1)).bind fun r168 => ((f_X11_writesNumber w166 r168).bind fun w171 => ((f_X11_writes w171 (47 : Int32)).bind fun w174 => ((f_X11_at w174 ((26 : Int32) + x1)).bind fun r176 => ((f_X11_writesNumber w174 r176).bind fun w179 => (if inR ((46 : Int32) + x1) 192 then (if (gL w179 142 (((46 : Int32) + x1)).toNatClampNeg) = (1 : Int64) then ((f_X11_writesIf w179 (1 : Int32) (45 : Int32)).bind fun w191 => ((f_X11_done w191 (gI w191 141 11)).bind fun z => u2 z fun r193 w194 => (some (r193, w194)))) else ((f_X11_writesIf w179 (0 : Int32) (45 : Int32)).bind fun w184 => ((f_X11_done w184 (gI w184 141 11)).bind fun z => u2 z fun r186 w187 => (some (r186, w187))))) else none)))))))))) else ((f_X11_writesIf w109 (0 : Int32) (114 : Int32)).bind fun w114 => ((f_X11_hasSpring w114 x1).bind fun r116 => (if r116 = 0 then ((f_X11_done w114 (gI w114 141 11)).bind fun z => u2 z fun r119 w120 => (some (r119, w120))) else ((f_X11_writes w114 (115 : Int32)).bind fun w124 => ((f_X11_at w124 ((36 : Int32) + x1)).bind fun r126 => ((f_X11_writesNumber w124 r126).bind fun w129 => ((f_X11_writes w129 (47 : Int32)).bind fun w132 => ((f_X11_at w132 ((26 : Int32) + x1)).bind fun r134 => ((f_X11_writesNumber w132 r134).bind fun w137 => (if inR ((46 : Int32) + x1) 192 then (if (gL w137 142 (((46 : Int32) + x1)).toNatClampNeg) = (1 : Int64) then ((f_X11_writesIf w137 (1 : Int32) (45 : Int32)).bind fun w149 => ((f_X11_done w149 (gI w149 141 11)).bind fun z => u2 z fun r151 w152 => (some (r151, w152)))) else ((f_X11_writesIf w137 (0 : Int32) (45 : Int32)).bind fun w142 => ((f_X11_done w142 (gI w142 141 11)).bind fun z => u2 z fun r144 w145 => (some (r144, w145))))) else none))))))))))) else none)) else ((f_X11_writesIf w15 (0 : Int32) (100 : Int32)).bind fun w20 => (if inR ((56 : Int32) + x1) 192 then (if (gL w20 142 (((56 : Int32) + x1)).toNatClampNeg) = (1 : Int64) then ((f_X11_writesIf w20 (1 : Int32) (114 : Int32)).bind fun w67 => ((f_X11_hasSpring w67 x1).bind fun r69 => (if r69 = 0 then ((f_X11_done w67 (gI w67 141 11)).bind fun z => u2 z fun r72 w73 => (some (r72, w73))) else ((f_X11_writes w67 (115 : Int32)).bind fun w77 => ((f_X11_at w77 ((36 : Int32) + x1)).bind fun r79 => ((f_X11_writesNumber w77 r79).bind fun w82 => ((f_X11_writes w82 (47 : Int32)).bind fun w85 => ((f_X11_at w85 ((26 : Int32) + x1)).bind fun r87 => ((f_X11_writesNumber w85 r87).bind fun w90 => (if inR ((46 : Int32) + x1) 192 then (if (gL w90 142 (((46 : Int32) + x1)).toNatClampNeg) = (1 : Int64) then ((f_X11_writesIf w90 (1 : Int32) (45 : Int32)).bind fun w102 => ((f_X11_done w102 (gI w102 141 11)).bind fun z => u2 z fun r104 w105 => (some (r104, w105)))) else ((f_X11_writesIf w90 (0 : Int32) (45 : Int32)).bind fun w95 => ((f_X11_done w95 (gI w95 141 11)).bind fun z => u2 z fun r97 w98 => (some (r97, w98))))) else none)))))))))) else ((f_X11_writesIf w20 (0 : Int32) (114 : Int32)).bind fun w25 => ((f_X11_hasSpring w25 x1).bind fun r27 => (if r27 = 0 then ((f_X11_done w25 (gI w25 141 11)).bind fun z => u2 z fun r30 w31 => (some (r30, w31))) else ((f_X11_writes w25 (115 : Int32)).bind fun w35 => ((f_X11_at w35 ((36 : Int32) + x1)).bind fun r37 => ((f_X11_writesNumber w35 r37).bind fun w40 => ((f_X11_writes w40 (47 : Int32)).bind fun w43 => ((f_X11_at w43 ((26 : Int32) + x1)).bind fun r45 => ((f_X11_writesNumber w43 r45).bind fun w48 => (if inR ((46 : Int32) + x1) 192 then (if (gL w48 142 (((46 : Int32) + x1)).toNatClampNeg) = (1 : Int64) then ((f_X11_writesIf w48 (1 : Int32) (45 : Int32)).bind fun w60 => ((f_X11_done w60 (gI w60 141 11)).bind fun z => u2 z fun r62 w63 => (some (r62, w63)))) else ((f_X11_writesIf w48 (0 : Int32) (45 : Int32)).bind fun w53 => ((f_X11_done w53 (gI w53 141 11)).bind fun z => u2 z fun r55 w56 => (some (r55, w56))))) else none))))))))))) else none))) else none))))))))
def p_X11_renderTrain_26 : Nat → Int32 → Wd → Option ((Int32 × Wd) ⊕ Unit)
  | 0, _, _ => none
  | n + 1, y8, w9 => (if (10 : Int32) ≤ y8 then (some (.inl (y8, w9))) else (if inR y8 10 then (if (gI w9 149 (y8).toNatClampNeg) = 0 then (p_X11_renderTrain_26 n (y8 + (1 : Int32)) w9) else (if (gI w9 141 11) ≤ 0 then ((f_X11_writesIf w9 (0 : Int32) (44 : Int32)).bind fun w17 => ((f_X11_writesNumber w17 y8).bind fun w20 => ((f_X11_planetOn w20 y8).bind fun r22 => (if r22 = (-1 : Int32) then ((f_X11_writesIf w20 (0 : Int32) (42 : Int32)).bind fun w26 => (p_X11_renderTrain_26 n (y8 + (1 : Int32)) w26)) else ((f_X11_writesIf w20 (1 : Int32) (42 : Int32)).bind fun w29 => (p_X11_renderTrain_26 n (y8 + (1 : Int32)) w29)))))) else ((f_X11_writesIf w9 (1 : Int32) (44 : Int32)).bind fun w32 => ((f_X11_writesNumber w32 y8).bind fun w35 => ((f_X11_planetOn w35 y8).bind fun r37 => (if r37 = (-1 : Int32) then ((f_X11_writesIf w35 (0 : Int32) (42 : Int32)).bind fun w41 => (p_X11_renderTrain_26 n (y8 + (1 : Int32)) w41)) else ((f_X11_writesIf w35 (1 : Int32) (42 : Int32)).bind fun w44 => (p_X11_renderTrain_26 n (y8 + (1 : Int32)) w44)))))))) else none))
def f_X11_renderTrain (w : Wd) (x1 : Int32) : Option (Int32 × Wd) := ((f_X11_isGear w x1).bind fun r2 => (if r2 = 0 then ((f_X11_fails w (1 : Int32)).bind fun z => u2 z fun r52 w53 => (some (r52, w53))) else ((f_X11_turns w x1).bind fun w6 => (wl (uI w6 141 11 (0 : Int32)) fun w7 => ((p_X11_renderTrain_26 2000 (0 : Int32) w7).bind fun z => zc z (fun q => u2 q fun y8 w9 => ((f_X11_done w9 (gI w9 141 11)).bind fun z => u2 z fun r48 w49 => (some (r48, w49)))) (fun _ => none))))))
def f_X11_outputAt (w : Wd) (x1 : Int32) : Option (Int32 × Wd) := ((f_X11_in w x1 (0 : Int32) ((gI w 141 11) - (1 : Int32))).bind fun r2 => (if r2 = 0 then (wl (uI w 141 12 (1 : Int32)) fun w4 => (if (gI w4 141 12) = 0 then (if inR x1 100 then (some ((vp_nar .char (gI w4 147 (x1).toNatClampNeg)), w4)) else none) else (some ((0 : Int32), w4)))) else (wl (uI w 141 12 (0 : Int32)) fun w7 => (if (gI w7 141 12) = 0 then (if inR x1 100 then (some ((vp_nar .char (gI w7 147 (x1).toNatClampNeg)), w7)) else none) else (some ((0 : Int32), w7))))))
def f_X11_type (w : Wd) (x1 : Int32) : Option (Int32 × Wd) := ((f_X11_in w x1 (32 : Int32) (126 : Int32)).bind fun r2 => (if r2 = 0 then ((f_X11_fails w (1 : Int32)).bind fun z => u2 z fun r17 w18 => (some (r17, w18))) else (if (gI w 141 7) = (60 : Int32) then ((f_X11_fails w (2 : Int32)).bind fun z => u2 z fun r13 w14 => (some (r13, w14))) else (if inR (gI w 141 7) 60 then (wl (uI w 146 ((gI w 141 7)).toNatClampNeg (vp_nar .char x1)) fun w6 => (wl (uI w6 141 7 ((gI w6 141 7) + (1 : Int32))) fun w7 => ((f_X11_done w7 (gI w7 141 7)).bind fun z => u2 z fun r9 w10 => (some (r9, w10))))) else none))))
def f_X11_here (w : Wd) : Option Int32 := (if (gI w 141 7) ≤ (gI w 141 15) then (some (-1 : Int32)) else (if inR (gI w 141 15) 60 then (some (gI w 146 ((gI w 141 15)).toNatClampNeg)) else none))
def f_X11_needs (w : Wd) (x1 : Int32) : Option Wd := (if (gI w 141 16) = 0 then ((f_X11_here w).bind fun r7 => (if r7 = x1 then (wl (uI w 141 16 (0 : Int32)) fun w9 => (if (gI w9 141 16) = 0 then (wl (uI w9 141 15 ((gI w9 141 15) + (1 : Int32))) fun w11 => (some w11)) else (wl (uI w9 141 15 ((gI w9 141 15) + (0 : Int32))) fun w12 => (some w12)))) else (wl (uI w 141 16 (1 : Int32)) fun w13 => (if (gI w13 141 16) = 0 then (wl (uI w13 141 15 ((gI w13 141 15) + (1 : Int32))) fun w15 => (some w15)) else (wl (uI w13 141 15 ((gI w13 141 15) + (0 : Int32))) fun w16 => (some w16)))))) else (wl (uI w 141 16 (1 : Int32)) fun w2 => (if (gI w2 141 16) = 0 then (wl (uI w2 141 15 ((gI w2 141 15) + (1 : Int32))) fun w4 => (some w4)) else (wl (uI w2 141 15 ((gI w2 141 15) + (0 : Int32))) fun w5 => (some w5)))))
def f_X11_needsThree (w : Wd) (x1 : Int32) (x2 : Int32) (x3 : Int32) : Option Wd := ((f_X11_needs w x1).bind fun w3 => ((f_X11_needs w3 x2).bind fun w6 => ((f_X11_needs w6 x3).bind fun w9 => (some w9))))
def p_X11_digits_34 (x1 : Int32) : Nat → Int32 → Int32 → Wd → Option ((Int32 × Int32 × Wd) ⊕ Unit)
  | 0, _, _, _ => none
  | n + 1, y3, y4, w5 => (if (gI w5 141 16) = 0 then (if x1 ≤ y4 then (some (.inl (y3, y4, w5))) else ((f_X11_here w5).bind fun r10 => ((f_X11_in w5 r10 (48 : Int32) (57 : Int32)).bind fun r12 => (if r12 = 0 then (some (.inl (y3, y4, w5))) else ((f_X11_here w5).bind fun r15 => (wl (uI w5 141 15 ((gI w5 141 15) + (1 : Int32))) fun w16 => (p_X11_digits_34 x1 n ((((10 : Int32) * y3) + r15) - (48 : Int32)) (y4 + (1 : Int32)) w16))))))) else (some (.inl (y3, y4, w5))))
def f_X11_digits (w : Wd) (x1 : Int32) : Option (Int32 × Wd) := (if (gI w 141 16) = 0 then ((f_X11_here w).bind fun r20 => ((f_X11_in w r20 (48 : Int32) (57 : Int32)).bind fun r22 => (if r22 = 0 then (wl (uI w 141 16 (1 : Int32)) fun w41 => ((p_X11_digits_34 x1 2000 (0 : Int32) (0 : Int32) w41).bind fun z => zc z (fun q => u3 q fun y42 y43 w44 => (some (y42, w44))) (fun _ => none))) else (wl (uI w 141 16 (0 : Int32)) fun w24 => ((p_X11_digits_34 x1 2000 (0 : Int32) (0 : Int32) w24).bind fun z => zc z (fun q => u3 q fun y25 y26 w27 => (some (y25, w27))) (fun _ => none)))))) else (wl (uI w 141 16 (1 : Int32)) fun w2 => ((p_X11_digits_34 x1 2000 (0 : Int32) (0 : Int32) w2).bind fun z => zc z (fun q => u3 q fun y3 y4 w5 => (some (y3, w5))) (fun _ => none))))
def f_X11_digitsAfter (w : Wd) (x1 : Int32) : Option (Int32 × Wd) := ((f_X11_needs w (32 : Int32)).bind fun w3 => ((f_X11_digits w3 x1).bind fun z => u2 z fun r5 w6 => (some (r5, w6))))
def f_X11_parsesTwo (w : Wd) (x1 : Int32) : Option Wd := ((f_X11_digitsAfter w (1 : Int32)).bind fun z => u2 z fun r2 w3 => (if inR (x1 + (1 : Int32)) 180 then (wl (uI w3 150 ((x1 + (1 : Int32))).toNatClampNeg r2) fun w6 => ((f_X11_digits w6 (1 : Int32)).bind fun z => u2 z fun r8 w9 => (if inR (x1 + (2 : Int32)) 180 then (wl (uI w9 150 ((x1 + (2 : Int32))).toNatClampNeg r8) fun w12 => (some w12)) else none))) else none))
def f_X11_parsesValue (w : Wd) (x1 : Int32) : Option Wd := ((f_X11_digitsAfter w (1 : Int32)).bind fun z => u2 z fun r2 w3 => (if inR (x1 + (1 : Int32)) 180 then (wl (uI w3 150 ((x1 + (1 : Int32))).toNatClampNeg r2) fun w6 => ((f_X11_digitsAfter w6 (3 : Int32)).bind fun z => u2 z fun r8 w9 => (if inR (x1 + (2 : Int32)) 180 then (wl (uI w9 150 ((x1 + (2 : Int32))).toNatClampNeg r8) fun w12 => (some w12)) else none))) else none))
def f_X11_parsesR (w : Wd) (x1 : Int32) : Option Wd := ((f_X11_here w).bind fun r2 => (if r2 = (117 : Int32) then (if inR x1 180 then (wl (uI w 150 (x1).toNatClampNeg (117 : Int32)) fun w34 => ((f_X11_needs w34 (117 : Int32)).bind fun w37 => ((f_X11_needs w37 (110 : Int32)).bind fun w40 => ((f_X11_parsesValue w40 x1).bind fun w43 => (some w43))))) else none) else ((f_X11_here w).bind fun r5 => (if r5 = (97 : Int32) then (if inR x1 180 then (wl (uI w 150 (x1).toNatClampNeg (116 : Int32)) fun w20 => ((f_X11_needsThree w20 (97 : Int32) (116 : Int32) (99 : Int32)).bind fun w23 => ((f_X11_needsThree w23 (104 : Int32) (101 : Int32) (116 : Int32)).bind fun w26 => ((f_X11_digitsAfter w26 (1 : Int32)).bind fun z => u2 z fun r28 w29 => (if inR (x1 + (1 : Int32)) 180 then (wl (uI w29 150 ((x1 + (1 : Int32))).toNatClampNeg r28) fun w32 => (some w32)) else none))))) else none) else ((f_X11_needsThree w (101 : Int32) (118 : Int32) (101 : Int32)).bind fun w9 => ((f_X11_needsThree w9 (114 : Int32) (115 : Int32) (101 : Int32)).bind fun w12 => ((f_X11_digitsAfter w12 (1 : Int32)).bind fun z => u2 z fun r14 w15 => (if inR (x1 + (1 : Int32)) 180 then (wl (uI w15 150 ((x1 + (1 : Int32))).toNatClampNeg r14) fun w18 => (some w18)) else none))))))))
def f_X11_parsesCommand (w : Wd) (x1 : Int32) : Option Wd := ((f_X11_here w).bind fun r2 => (wl (uI w 141 15 ((gI w 141 15) + (1 : Int32))) fun w3 => (if inR x1 180 then (wl (uI w3 150 (x1).toNatClampNeg r2) fun w5 => (if r2 = (97 : Int32) then ((f_X11_needsThree w5 (120 : Int32) (108 : Int32) (101 : Int32)).bind fun w9 => ((f_X11_parsesTwo w9 x1).bind fun w12 => (some w12))) else (if r2 = (98 : Int32) then ((f_X11_needs w5 (117 : Int32)).bind fun w16 => ((f_X11_needs w16 (121 : Int32)).bind fun w19 => ((f_X11_digitsAfter w19 (3 : Int32)).bind fun z => u2 z fun r21 w22 => (if inR (x1 + (1 : Int32)) 180 then (wl (uI w22 150 ((x1 + (1 : Int32))).toNatClampNeg r21) fun w25 => (some w25)) else none)))) else (if r2 = (99 : Int32) then ((f_X11_needs w5 (117 : Int32)).bind fun w29 => ((f_X11_needs w29 (116 : Int32)).bind fun w32 => ((f_X11_parsesTwo w32 x1).bind fun w35 => (some w35)))) else (if r2 = (102 : Int32) then ((f_X11_needsThree w5 (114 : Int32) (101 : Int32) (101 : Int32)).bind fun w39 => ((f_X11_digitsAfter w39 (1 : Int32)).bind fun z => u2 z fun r41 w42 => (if inR (x1 + (1 : Int32)) 180 then (wl (uI w42 150 ((x1 + (1 : Int32))).toNatClampNeg r41) fun w45 => (some w45)) else none))) else (if r2 = (103 : Int32) then ((f_X11_needsThree w5 (101 : Int32) (97 : Int32) (114 : Int32)).bind fun w49 => ((f_X11_digitsAfter w49 (3 : Int32)).bind fun z => u2 z fun r51 w52 => (if inR (x1 + (1 : Int32)) 180 then (wl (uI w52 150 ((x1 + (1 : Int32))).toNatClampNeg r51) fun w55 => (some w55)) else none))) else (if r2 = (109 : Int32) then ((f_X11_needsThree w5 (101 : Int32) (115 : Int32) (104 : Int32)).bind fun w59 => ((f_X11_parsesTwo w59 x1).bind fun w62 => (some w62))) else (if r2 = (111 : Int32) then ((f_X11_needs w5 (105 : Int32)).bind fun w66 => ((f_X11_needs w66 (108 : Int32)).bind fun w69 => ((f_X11_digitsAfter w69 (1 : Int32)).bind fun z => u2 z fun r71 w72 => (if inR (x1 + (1 : Int32)) 180 then (wl (uI w72 150 ((x1 + (1 : Int32))).toNatClampNeg r71) fun w75 => (some w75)) else none)))) else (if r2 = (112 : Int32) then ((f_X11_needsThree w5 (108 : Int32) (97 : Int32) (110 : Int32)).bind fun w79 => ((f_X11_needs w79 (101 : Int32)).bind fun w82 => ((f_X11_needs w82 (116 : Int32)).bind fun w85 => ((f_X11_digitsAfter w85 (1 : Int32)).bind fun z => u2 z fun r87 w88 => (if inR (x1 + (1 : Int32)) 180 then (wl (uI w88 150 ((x1 + (1 : Int32))).toNatClampNeg r87) fun w91 => (some w91)) else none))))) else (if r2 = (114 : Int32) then ((f_X11_parsesR w5 x1).bind fun w95 => (some w95)) else (if r2 = (115 : Int32) then ((f_X11_needsThree w5 (112 : Int32) (114 : Int32) (105 : Int32)).bind fun w99 => ((f_X11_needs w99 (110 : Int32)).bind fun w102 => ((f_X11_needs w102 (103 : Int32)).bind fun w105 => ((f_X11_parsesValue w105 x1).bind fun w108 => (some w108))))) else (if r2 = (119 : Int32) then ((f_X11_needsThree w5 (105 : Int32) (110 : Int32) (100 : Int32)).bind fun w112 => ((f_X11_parsesValue w112 x1).bind fun w115 => (some w115))) else (wl (uI w5 141 16 (1 : Int32)) fun w116 => (wl (uI w116 141 15 ((gI w116 141 15) - (1 : Int32))) fun w117 => (some w117))))))))))))))) else none)))
def f_X11_carriesOut (w : Wd) (x1 : Int32) : Option (Int32 × Wd) := (if inR (x1 + (1 : Int32)) 180 then (if inR (x1 + (2 : Int32)) 180 then (if inR x1 180 then (if (gI w 150 (x1).toNatClampNeg) = (97 : Int32) then ((f_X11_joins w (gI w 150 ((x1 + (1 : Int32))).toNatClampNeg) (gI w 150 ((x1 + (2 : Int32))).toNatClampNeg) (2 : Int32)).bind fun z => u2 z fun r6 w7 => (some (r6, w7))) else (if (gI w 150 (x1).toNatClampNeg) = (98 : Int32) then ((f_X11_buys w (gI w 150 ((x1 + (1 : Int32))).toNatClampNeg)).bind fun z => u2 z fun r11 w12 => (some (r11, w12))) else (if (gI w 150 (x1).toNatClampNeg) = (99 : Int32) then ((f_X11_parts w (gI w 150 ((x1 + (1 : Int32))).toNatClampNeg) (gI w 150 ((x1 + (2 : Int32))).toNatClampNeg)).bind fun z => u2 z fun r16 w17 => (some (r16, w17))) else (if (gI w 150 (x1).toNatClampNeg) = (102 : Int32) then ((f_X11_ratchets w (gI w 150 ((x1 + (1 : Int32))).toNatClampNeg) (0 : Int32)).bind fun z => u2 z fun r21 w22 => (some (r21, w22))) else (if (gI w 150 (x1).toNatClampNeg) = (103 : Int32) then ((f_X11_addsGear w (gI w 150 ((x1 + (1 : Int32))).toNatClampNeg)).bind fun z => u2 z fun r26 w27 => (some (r26, w27))) else (if (gI w 150 (x1).toNatClampNeg) = (109 : Int32) then ((f_X11_joins w (gI w 150 ((x1 + (1 : Int32))).toNatClampNeg) (gI w 150 ((x1 + (2 : Int32))).toNatClampNeg) (1 : Int32)).bind fun z => u2 z fun r31 w32 => (some (r31, w32))) else (if (gI w 150 (x1).toNatClampNeg) = (111 : Int32) then ((f_X11_oils w (gI w 150 ((x1 + (1 : Int32))).toNatClampNeg)).bind fun z => u2 z fun r36 w37 => (some (r36, w37))) else (if (gI w 150 (x1).toNatClampNeg) = (114 : Int32) then ((f_X11_reverses w (gI w 150 ((x1 + (1 : Int32))).toNatClampNeg)).bind fun z => u2 z fun r41 w42 => (some (r41, w42))) else (if (gI w 150 (x1).toNatClampNeg) = (115 : Int32) then ((f_X11_sets w (gI w 150 ((x1 + (1 : Int32))).toNatClampNeg) (gI w 150 ((x1 + (2 : Int32))).toNatClampNeg)).bind fun z => u2 z fun r46 w47 => (some (r46, w47))) else (if (gI w 150 (x1).toNatClampNeg) = (116 : Int32) then ((f_X11_ratchets w (gI w 150 ((x1 + (1 : Int32))).toNatClampNeg) (1 : Int32)).bind fun z => u2 z fun r51 w52 => (some (r51, w52))) else (if (gI w 150 (x1).toNatClampNeg) = (117 : Int32) then ((f_X11_releases w (gI w 150 ((x1 + (1 : Int32))).toNatClampNeg) (gI w 150 ((x1 + (2 : Int32))).toNatClampNeg)).bind fun z => u2 z fun r56 w57 => (some (r56, w57))) else (if (gI w 150 (x1).toNatClampNeg) = (119 : Int32) then ((f_X11_winds w (gI w 150 ((x1 + (1 : Int32))).toNatClampNeg) (gI w 150 ((x1 + (2 : Int32))).toNatClampNeg)).bind fun z => u2 z fun r61 w62 => (some (r61, w62))) else ((f_X11_addsPlanet w (gI w 150 ((x1 + (1 : Int32))).toNatClampNeg)).bind fun z => u2 z fun r65 w66 => (some (r65, w66))))))))))))))) else none) else none) else none)
def p_X11_runScript_14 : Nat → Int32 → Int32 → Wd → Option ((Int32 × Int32 × Wd) ⊕ Unit)
  | 0, _, _, _ => none
  | n + 1, y3, y4, w5 => (if y4 = 0 then (some (.inl (y3, y4, w5))) else ((f_X11_parsesCommand w5 ((3 : Int32) * y3)).bind fun w10 => (if (gI w10 141 16) = 0 then ((f_X11_here w10).bind fun r14 => (if r14 = (59 : Int32) then (wl (uI w10 141 15 ((gI w10 141 15) + (1 : Int32))) fun w17 => (p_X11_runScript_14 n (y3 + (1 : Int32)) (1 : Int32) w17)) else (wl (uI w10 141 15 ((gI w10 141 15) + (0 : Int32))) fun w16 => (p_X11_runScript_14 n (y3 + (1 : Int32)) (0 : Int32) w16)))) else (wl (uI w10 141 15 ((gI w10 141 15) + (0 : Int32))) fun w12 => (p_X11_runScript_14 n (y3 + (1 : Int32)) (0 : Int32) w12)))))
def p_X11_runScript_130 (y3 : Int32) : Nat → Int32 → Wd → Option ((Int32 × Wd) ⊕ (Int32 × Wd))
  | 0, _, _ => none
  | n + 1, y27, w28 => (if y3 ≤ y27 then (some (.inl (y27, w28))) else ((f_X11_carriesOut w28 ((3 : Int32) * y27)).bind fun z => u2 z fun r32 w33 => (if (gI w33 141 12) = 0 then (p_X11_runScript_130 y3 n (y27 + (1 : Int32)) w33) else (wl (uI w33 141 9 y27) fun w36 => (wl (uI w36 141 12 (2 : Int32)) fun w37 => ((f_X11_kept w37 r32).bind fun z => u2 z fun r39 w40 => (some (.inr (r39, w40)))))))))
def f_X11_runScript (w : Wd) : Option (Int32 × Wd) := (wl (uI w 141 15 (0 : Int32)) fun w1 => (wl (uI w1 141 16 (0 : Int32)) fun w2 => ((p_X11_runScript_14 2000 (0 : Int32) (1 : Int32) w2).bind fun z => zc z (fun q => u3 q fun y3 y4 w5 => (if (gI w5 141 16) = 0 then (if (gI w5 141 7) ≤ (gI w5 141 15) then (wl (uI w5 141 16 (0 : Int32)) fun w58 => (wl (uI w58 141 7 (0 : Int32)) fun w59 => (if (gI w59 141 16) = 0 then ((f_X11_begin w59).bind fun w63 => ((p_X11_runScript_130 y3 2000 (0 : Int32) w63).bind fun z => zc z (fun q => u2 q fun y64 w65 => ((f_X11_done w65 y3).bind fun z => u2 z fun r82 w83 => ((f_X11_kept w83 r82).bind fun z => u2 z fun r86 w87 => (some (r86, w87))))) (fun r => (some r)))) else (wl (uI w59 141 8 (gI w59 141 15)) fun w89 => ((f_X11_fails w89 (1 : Int32)).bind fun z => u2 z fun r91 w92 => (some (r91, w92))))))) else (wl (uI w5 141 16 (1 : Int32)) fun w94 => (wl (uI w94 141 7 (0 : Int32)) fun w95 => (if (gI w95 141 16) = 0 then ((f_X11_begin w95).bind fun w99 => ((p_X11_runScript_130 y3 2000 (0 : Int32) w99).bind fun z => zc z (fun q => u2 q fun y100 w101 => ((f_X11_done w101 y3).bind fun z => u2 z fun r118 w119 => ((f_X11_kept w119 r118).bind fun z => u2 z fun r122 w123 => (some (r122, w123))))) (fun r => (some r)))) else (wl (uI w95 141 8 (gI w95 141 15)) fun w125 => ((f_X11_fails w125 (1 : Int32)).bind fun z => u2 z fun r127 w128 => (some (r127, w128)))))))) else (wl (uI w5 141 16 (1 : Int32)) fun w21 => (wl (uI w21 141 7 (0 : Int32)) fun w22 => (if (gI w22 141 16) = 0 then ((f_X11_begin w22).bind fun w26 => ((p_X11_runScript_130 y3 2000 (0 : Int32) w26).bind fun z => zc z (fun q => u2 q fun y27 w28 => ((f_X11_done w28 y3).bind fun z => u2 z fun r45 w46 => ((f_X11_kept w46 r45).bind fun z => u2 z fun r49 w50 => (some (r49, w50))))) (fun r => (some r)))) else (wl (uI w22 141 8 (gI w22 141 15)) fun w52 => ((f_X11_fails w52 (1 : Int32)).bind fun z => u2 z fun r54 w55 => (some (r54, w55))))))))) (fun _ => none))))
def f_X11_errorPosition (w : Wd) : Option (Int32 × Wd) := (if (gI w 141 8) = (-1 : Int32) then ((f_X11_fails w (1 : Int32)).bind fun z => u2 z fun r7 w8 => (some (r7, w8))) else ((f_X11_done w (gI w 141 8)).bind fun z => u2 z fun r3 w4 => (some (r3, w4))))
def f_X11_failedCommand (w : Wd) : Option (Int32 × Wd) := (if (gI w 141 9) = (-1 : Int32) then ((f_X11_fails w (1 : Int32)).bind fun z => u2 z fun r7 w8 => (some (r7, w8))) else ((f_X11_done w (gI w 141 9)).bind fun z => u2 z fun r3 w4 => (some (r3, w4))))
def f_X11_undo (w : Wd) : Option (Int32 × Wd) := (if (gI w 141 3) = 0 then ((f_X11_fails w (1 : Int32)).bind fun z => u2 z fun r11 w12 => (some (r11, w12))) else (wl (uI w 141 3 ((gI w 141 3) - (1 : Int32))) fun w2 => ((f_X11_copy w2 144 1536 142 192 ((gI w2 141 3) * (192 : Int32)) (0 : Int32)).bind fun w5 => ((f_X11_done w5 (gI w5 141 3)).bind fun z => u2 z fun r7 w8 => (some (r7, w8))))))
def f_X11_save (w : Wd) : Option (Int32 × Wd) := ((f_X11_copy w 142 192 145 192 (0 : Int32) (0 : Int32)).bind fun w3 => (wl (uI w3 141 5 (1 : Int32)) fun w4 => ((f_X11_at w4 (0 : Int32)).bind fun r6 => ((f_X11_done w4 r6).bind fun z => u2 z fun r8 w9 => (some (r8, w9))))))
def f_X11_restore (w : Wd) : Option (Int32 × Wd) := (if (gI w 141 5) = 0 then ((f_X11_fails w (1 : Int32)).bind fun z => u2 z fun r13 w14 => (some (r13, w14))) else ((f_X11_copy w 145 192 142 192 (0 : Int32) (0 : Int32)).bind fun w4 => (wl (uI w4 141 3 (0 : Int32)) fun w5 => ((f_X11_at w5 (0 : Int32)).bind fun r7 => ((f_X11_done w5 r7).bind fun z => u2 z fun r9 w10 => (some (r9, w10)))))))
def f_L_planetByAngle (w : Wd) (x1 : Int32) : Option (Int32 × Wd) := ((f_X10_planetByAngle w x1).bind fun z => zc z (fun k => (if k = 4 then (some ((1 : Int32), w)) else none)) (fun r2 => (if inR (0 : Int32) 1 then (wl (uL w 151 ((0 : Int32)).toNatClampNeg (r2).toInt64) fun w6 => (some ((0 : Int32), w6))) else none)))
def f_L_meanTeeth (w : Wd) : Option (Int32 × Wd) := ((f_X10_meanTeeth w).bind fun z => zc z (fun k => (if k = 5 then (some ((1 : Int32), w)) else none)) (fun r2 => (if inR (0 : Int32) 1 then (wl (uD w ((0 : Int32)).toNatClampNeg r2) fun w6 => (some ((0 : Int32), w6))) else none)))
def f_L_dryShare (w : Wd) : Option (Int32 × Wd) := ((f_X10_dryShare w).bind fun z => zc z (fun k => (if k = 5 then (some ((1 : Int32), w)) else none)) (fun r2 => (if okN64 (FP.f2d r2) then (if inR (0 : Int32) 1 then (wl (uD w ((0 : Int32)).toNatClampNeg (FP.f2d r2)) fun w7 => (some ((0 : Int32), w7))) else none) else none)))
def f_L_outputAt (w : Wd) (x1 : Int32) : Option (Int32 × Wd) := ((f_X10_outputAt w x1).bind fun z => zc z (fun k => (if k = 0 then (some ((1 : Int32), w)) else none)) (fun r2 => (if inR (0 : Int32) 1 then (wl (uL w 151 ((0 : Int32)).toNatClampNeg (r2).toInt64) fun w6 => (some ((0 : Int32), w6))) else none)))
def f_L_type (w : Wd) (x1 : Int32) : Option (Int32 × Wd) := ((f_X10_type w x1).bind fun z => u2 z fun z w3 => zc z (fun k => (if k = 1 then (some ((1 : Int32), w3)) else (if k = 2 then (some ((2 : Int32), w3)) else none))) (fun r2 => (if inR (0 : Int32) 1 then (wl (uL w3 151 ((0 : Int32)).toNatClampNeg (r2).toInt64) fun w8 => (some ((0 : Int32), w8))) else none)))
def f_L_errorPosition (w : Wd) : Option (Int32 × Wd) := ((f_X10_errorPosition w).bind fun z => zc z (fun k => (if k = 4 then (some ((1 : Int32), w)) else none)) (fun r2 => (if inR (0 : Int32) 1 then (wl (uL w 151 ((0 : Int32)).toNatClampNeg (r2).toInt64) fun w6 => (some ((0 : Int32), w6))) else none)))
def f_L_failedCommand (w : Wd) : Option (Int32 × Wd) := ((f_X10_failedCommand w).bind fun z => zc z (fun k => (if k = 4 then (some ((1 : Int32), w)) else none)) (fun r2 => (if inR (0 : Int32) 1 then (wl (uL w 151 ((0 : Int32)).toNatClampNeg (r2).toInt64) fun w6 => (some ((0 : Int32), w6))) else none)))
def f_L_restore (w : Wd) : Option (Int32 × Wd) := ((f_X10_restore w).bind fun z => u2 z fun z w3 => zc z (fun k => (if k = 2 then (some ((1 : Int32), w3)) else none)) (fun r2 => (if inR (0 : Int32) 1 then (wl (uL w3 151 ((0 : Int32)).toNatClampNeg (r2).toInt64) fun w7 => (some ((0 : Int32), w7))) else none)))
def f_L_teeth (w : Wd) (x1 : Int32) : Option (Int32 × Wd) := ((f_X10_teeth w x1).bind fun z => zc z (fun k => (if k = 0 then (some ((1 : Int32), w)) else none)) (fun r2 => (if inR (0 : Int32) 1 then (wl (uL w 151 ((0 : Int32)).toNatClampNeg (r2).toInt64) fun w6 => (some ((0 : Int32), w6))) else none)))
def f_L_joint (w : Wd) (x1 : Int32) (x2 : Int32) : Option (Int32 × Wd) := ((f_X10_joint w x1 x2).bind fun z => zc z (fun k => (if k = 0 then (some ((1 : Int32), w)) else (if k = 4 then (some ((2 : Int32), w)) else none))) (fun r2 => (if inR (0 : Int32) 1 then (wl (uL w 151 ((0 : Int32)).toNatClampNeg (r2).toInt64) fun w7 => (some ((0 : Int32), w7))) else none)))
def f_L_trainSize (w : Wd) (x1 : Int32) : Option (Int32 × Wd) := ((f_X10_trainSize w x1).bind fun z => u2 z fun z w3 => zc z (fun k => (if k = 0 then (some ((1 : Int32), w3)) else none)) (fun r2 => (if inR (0 : Int32) 1 then (wl (uL w3 151 ((0 : Int32)).toNatClampNeg (r2).toInt64) fun w7 => (some ((0 : Int32), w7))) else none)))
def f_L_areInTrain (w : Wd) (x1 : Int32) (x2 : Int32) : Option (Int32 × Wd) := ((f_X10_areInTrain w x1 x2).bind fun z => u2 z fun z w3 => zc z (fun k => (if k = 0 then (some ((1 : Int32), w3)) else none)) (fun r2 => (if r2 = 0 then (if inR (0 : Int32) 1 then (wl (uL w3 151 ((0 : Int32)).toNatClampNeg (0 : Int64)) fun w8 => (some ((0 : Int32), w8))) else none) else (if inR (0 : Int32) 1 then (wl (uL w3 151 ((0 : Int32)).toNatClampNeg (1 : Int64)) fun w10 => (some ((0 : Int32), w10))) else none))))
def f_L_angle (w : Wd) (x1 : Int32) : Option (Int32 × Wd) := ((f_X10_angle w x1).bind fun z => zc z (fun k => (if k = 0 then (some ((1 : Int32), w)) else none)) (fun r2 => (if inR (0 : Int32) 1 then (wl (uL w 151 ((0 : Int32)).toNatClampNeg r2) fun w6 => (some ((0 : Int32), w6))) else none)))
def f_L_anglePart (w : Wd) (x1 : Int32) : Option (Int32 × Wd) := ((f_X10_anglePart w x1).bind fun z => zc z (fun k => (if k = 0 then (some ((1 : Int32), w)) else none)) (fun r2 => (if inR (0 : Int32) 1 then (wl (uD w ((0 : Int32)).toNatClampNeg r2) fun w6 => (some ((0 : Int32), w6))) else none)))
def f_L_tension (w : Wd) (x1 : Int32) : Option (Int32 × Wd) := ((f_X10_tension w x1).bind fun z => zc z (fun k => (if k = 0 then (some ((1 : Int32), w)) else (if k = 4 then (some ((2 : Int32), w)) else none))) (fun r2 => (if inR (0 : Int32) 1 then (wl (uL w 151 ((0 : Int32)).toNatClampNeg (r2).toInt64) fun w7 => (some ((0 : Int32), w7))) else none)))
def f_L_springSize (w : Wd) (x1 : Int32) : Option (Int32 × Wd) := ((f_X10_springSize w x1).bind fun z => zc z (fun k => (if k = 0 then (some ((1 : Int32), w)) else (if k = 4 then (some ((2 : Int32), w)) else none))) (fun r2 => (if inR (0 : Int32) 1 then (wl (uL w 151 ((0 : Int32)).toNatClampNeg (r2).toInt64) fun w7 => (some ((0 : Int32), w7))) else none)))
def f_L_springOf (w : Wd) (x1 : Int32) : Option (Int32 × Wd) := ((f_X10_springOf w x1).bind fun z => u2 z fun z w3 => zc z (fun k => (if k = 0 then (some ((1 : Int32), w3)) else (if k = 4 then (some ((2 : Int32), w3)) else none))) (fun r2 => (if inR (0 : Int32) 1 then (wl (uL w3 151 ((0 : Int32)).toNatClampNeg (r2).toInt64) fun w8 => (some ((0 : Int32), w8))) else none)))
def f_L_friction (w : Wd) (x1 : Int32) : Option (Int32 × Wd) := ((f_X10_friction w x1).bind fun z => u2 z fun z w3 => zc z (fun k => (if k = 0 then (some ((1 : Int32), w3)) else none)) (fun r2 => (if inR (0 : Int32) 1 then (wl (uL w3 151 ((0 : Int32)).toNatClampNeg (r2).toInt64) fun w7 => (some ((0 : Int32), w7))) else none)))
def f_L_turnsLeft (w : Wd) (x1 : Int32) : Option (Int32 × Wd) := ((f_X10_turnsLeft w x1).bind fun z => u2 z fun z w3 => zc z (fun k => (if k = 0 then (some ((1 : Int32), w3)) else (if k = 4 then (some ((2 : Int32), w3)) else none))) (fun r2 => (if inR (0 : Int32) 1 then (wl (uL w3 151 ((0 : Int32)).toNatClampNeg (r2).toInt64) fun w8 => (some ((0 : Int32), w8))) else none)))
def f_L_canRelease (w : Wd) (x1 : Int32) : Option (Int32 × Wd) := ((f_X10_canRelease w x1).bind fun z => u2 z fun z w3 => zc z (fun k => (if k = 0 then (some ((1 : Int32), w3)) else none)) (fun r2 => (if r2 = 0 then (if inR (0 : Int32) 1 then (wl (uL w3 151 ((0 : Int32)).toNatClampNeg (0 : Int64)) fun w8 => (some ((0 : Int32), w8))) else none) else (if inR (0 : Int32) 1 then (wl (uL w3 151 ((0 : Int32)).toNatClampNeg (1 : Int64)) fun w10 => (some ((0 : Int32), w10))) else none))))
def f_L_hasRatchet (w : Wd) (x1 : Int32) : Option (Int32 × Wd) := ((f_X10_hasRatchet w x1).bind fun z => zc z (fun k => (if k = 0 then (some ((1 : Int32), w)) else none)) (fun r2 => (if r2 = 0 then (if inR (0 : Int32) 1 then (wl (uL w 151 ((0 : Int32)).toNatClampNeg (0 : Int64)) fun w7 => (some ((0 : Int32), w7))) else none) else (if inR (0 : Int32) 1 then (wl (uL w 151 ((0 : Int32)).toNatClampNeg (1 : Int64)) fun w9 => (some ((0 : Int32), w9))) else none))))
def f_L_isDry (w : Wd) (x1 : Int32) : Option (Int32 × Wd) := ((f_X10_isDry w x1).bind fun z => zc z (fun k => (if k = 0 then (some ((1 : Int32), w)) else none)) (fun r2 => (if r2 = 0 then (if inR (0 : Int32) 1 then (wl (uL w 151 ((0 : Int32)).toNatClampNeg (0 : Int64)) fun w7 => (some ((0 : Int32), w7))) else none) else (if inR (0 : Int32) 1 then (wl (uL w 151 ((0 : Int32)).toNatClampNeg (1 : Int64)) fun w9 => (some ((0 : Int32), w9))) else none))))
def f_L_wear (w : Wd) (x1 : Int32) : Option (Int32 × Wd) := ((f_X10_wear w x1).bind fun z => zc z (fun k => (if k = 0 then (some ((1 : Int32), w)) else (if k = 4 then (some ((2 : Int32), w)) else none))) (fun r2 => (if inR (0 : Int32) 1 then (wl (uL w 151 ((0 : Int32)).toNatClampNeg (r2).toInt64) fun w7 => (some ((0 : Int32), w7))) else none)))
def f_L_gearOf (w : Wd) (x1 : Int32) : Option (Int32 × Wd) := ((f_X10_gearOf w x1).bind fun z => zc z (fun k => (if k = 0 then (some ((1 : Int32), w)) else none)) (fun r2 => (if inR (0 : Int32) 1 then (wl (uL w 151 ((0 : Int32)).toNatClampNeg (r2).toInt64) fun w6 => (some ((0 : Int32), w6))) else none)))
def f_L_areInLine (w : Wd) (x1 : Int32) (x2 : Int32) : Option (Int32 × Wd) := ((f_X10_areInLine w x1 x2).bind fun z => zc z (fun k => (if k = 0 then (some ((1 : Int32), w)) else (if k = 1 then (some ((2 : Int32), w)) else none))) (fun r2 => (if r2 = 0 then (if inR (0 : Int32) 1 then (wl (uL w 151 ((0 : Int32)).toNatClampNeg (0 : Int64)) fun w8 => (some ((0 : Int32), w8))) else none) else (if inR (0 : Int32) 1 then (wl (uL w 151 ((0 : Int32)).toNatClampNeg (1 : Int64)) fun w10 => (some ((0 : Int32), w10))) else none))))
def f_L_fewestPairs (w : Wd) (x1 : Int32) (x2 : Int32) : Option (Int32 × Wd) := ((f_X10_fewestPairs w x1 x2).bind fun z => zc z (fun k => (if k = 1 then (some ((1 : Int32), w)) else (if k = 4 then (some ((2 : Int32), w)) else none))) (fun r2 => (if inR (0 : Int32) 1 then (wl (uL w 151 ((0 : Int32)).toNatClampNeg (r2).toInt64) fun w7 => (some ((0 : Int32), w7))) else none)))
def f_L_renderGear (w : Wd) (x1 : Int32) : Option (Int32 × Wd) := ((f_X10_renderGear w x1).bind fun z => u2 z fun z w3 => zc z (fun k => (if k = 0 then (some ((1 : Int32), w3)) else none)) (fun r2 => (if inR (0 : Int32) 1 then (wl (uL w3 151 ((0 : Int32)).toNatClampNeg (r2).toInt64) fun w7 => (some ((0 : Int32), w7))) else none)))
def f_L_renderTrain (w : Wd) (x1 : Int32) : Option (Int32 × Wd) := ((f_X10_renderTrain w x1).bind fun z => u2 z fun z w3 => zc z (fun k => (if k = 0 then (some ((1 : Int32), w3)) else none)) (fun r2 => (if inR (0 : Int32) 1 then (wl (uL w3 151 ((0 : Int32)).toNatClampNeg (r2).toInt64) fun w7 => (some ((0 : Int32), w7))) else none)))
def f_L_undo (w : Wd) : Option (Int32 × Wd) := ((f_X10_undo w).bind fun z => u2 z fun z w3 => zc z (fun k => (if k = 4 then (some ((1 : Int32), w3)) else none)) (fun r2 => (if inR (0 : Int32) 1 then (wl (uL w3 151 ((0 : Int32)).toNatClampNeg (r2).toInt64) fun w7 => (some ((0 : Int32), w7))) else none)))
def f_L_addGear (w : Wd) (x1 : Int32) : Option (Int32 × Wd) := ((f_X10_addGear w x1).bind fun z => u2 z fun z w3 => zc z (fun k => (if k = 1 then (some ((1 : Int32), w3)) else (if k = 2 then (some ((2 : Int32), w3)) else none))) (fun r2 => (if inR (0 : Int32) 1 then (wl (uL w3 151 ((0 : Int32)).toNatClampNeg (r2).toInt64) fun w8 => (some ((0 : Int32), w8))) else none)))
def f_L_mesh (w : Wd) (x1 : Int32) (x2 : Int32) : Option (Int32 × Wd) := ((f_X10_mesh w x1 x2).bind fun z => u2 z fun z w3 => zc z (fun k => (if k = 0 then (some ((1 : Int32), w3)) else (if k = 1 then (some ((2 : Int32), w3)) else (if k = 2 then (some ((3 : Int32), w3)) else (if k = 3 then (some ((4 : Int32), w3)) else none))))) (fun r2 => (if inR (0 : Int32) 1 then (wl (uL w3 151 ((0 : Int32)).toNatClampNeg (r2).toInt64) fun w10 => (some ((0 : Int32), w10))) else none)))
def f_L_shareAxle (w : Wd) (x1 : Int32) (x2 : Int32) : Option (Int32 × Wd) := ((f_X10_shareAxle w x1 x2).bind fun z => u2 z fun z w3 => zc z (fun k => (if k = 0 then (some ((1 : Int32), w3)) else (if k = 1 then (some ((2 : Int32), w3)) else (if k = 2 then (some ((3 : Int32), w3)) else (if k = 3 then (some ((4 : Int32), w3)) else none))))) (fun r2 => (if inR (0 : Int32) 1 then (wl (uL w3 151 ((0 : Int32)).toNatClampNeg (r2).toInt64) fun w10 => (some ((0 : Int32), w10))) else none)))
def f_L_separate (w : Wd) (x1 : Int32) (x2 : Int32) : Option (Int32 × Wd) := ((f_X10_separate w x1 x2).bind fun z => u2 z fun z w3 => zc z (fun k => (if k = 0 then (some ((1 : Int32), w3)) else (if k = 4 then (some ((2 : Int32), w3)) else none))) (fun r2 => (if inR (0 : Int32) 1 then (wl (uL w3 151 ((0 : Int32)).toNatClampNeg (r2).toInt64) fun w8 => (some ((0 : Int32), w8))) else none)))
def f_L_setSpring (w : Wd) (x1 : Int32) (x2 : Int32) : Option (Int32 × Wd) := ((f_X10_setSpring w x1 x2).bind fun z => u2 z fun z w3 => zc z (fun k => (if k = 0 then (some ((1 : Int32), w3)) else (if k = 1 then (some ((2 : Int32), w3)) else (if k = 2 then (some ((3 : Int32), w3)) else none)))) (fun r2 => (if inR (0 : Int32) 1 then (wl (uL w3 151 ((0 : Int32)).toNatClampNeg (r2).toInt64) fun w9 => (some ((0 : Int32), w9))) else none)))
def f_L_wind (w : Wd) (x1 : Int32) (x2 : Int32) : Option (Int32 × Wd) := ((f_X10_wind w x1 x2).bind fun z => u2 z fun z w3 => zc z (fun k => (if k = 0 then (some ((1 : Int32), w3)) else (if k = 1 then (some ((2 : Int32), w3)) else (if k = 4 then (some ((3 : Int32), w3)) else (if k = 2 then (some ((4 : Int32), w3)) else none))))) (fun r2 => (if inR (0 : Int32) 1 then (wl (uL w3 151 ((0 : Int32)).toNatClampNeg (r2).toInt64) fun w10 => (some ((0 : Int32), w10))) else none)))
def f_L_reverse (w : Wd) (x1 : Int32) : Option (Int32 × Wd) := ((f_X10_reverse w x1).bind fun z => u2 z fun z w3 => zc z (fun k => (if k = 0 then (some ((1 : Int32), w3)) else (if k = 4 then (some ((2 : Int32), w3)) else none))) (fun r2 => (if r2 = 0 then (if inR (0 : Int32) 1 then (wl (uL w3 151 ((0 : Int32)).toNatClampNeg (0 : Int64)) fun w9 => (some ((0 : Int32), w9))) else none) else (if inR (0 : Int32) 1 then (wl (uL w3 151 ((0 : Int32)).toNatClampNeg (1 : Int64)) fun w11 => (some ((0 : Int32), w11))) else none))))
def f_L_setRatchet (w : Wd) (x1 : Int32) (x2 : Int32) : Option (Int32 × Wd) := ((f_X10_setRatchet w x1 x2).bind fun z => u2 z fun z w3 => zc z (fun k => (if k = 0 then (some ((1 : Int32), w3)) else none)) (fun r2 => (if r2 = 0 then (if inR (0 : Int32) 1 then (wl (uL w3 151 ((0 : Int32)).toNatClampNeg (0 : Int64)) fun w8 => (some ((0 : Int32), w8))) else none) else (if inR (0 : Int32) 1 then (wl (uL w3 151 ((0 : Int32)).toNatClampNeg (1 : Int64)) fun w10 => (some ((0 : Int32), w10))) else none))))
def f_L_oil (w : Wd) (x1 : Int32) : Option (Int32 × Wd) := ((f_X10_oil w x1).bind fun z => u2 z fun z w3 => zc z (fun k => (if k = 0 then (some ((1 : Int32), w3)) else (if k = 2 then (some ((2 : Int32), w3)) else (if k = 3 then (some ((3 : Int32), w3)) else none)))) (fun r2 => (if inR (0 : Int32) 1 then (wl (uL w3 151 ((0 : Int32)).toNatClampNeg (r2).toInt64) fun w9 => (some ((0 : Int32), w9))) else none)))
def f_L_buyOil (w : Wd) (x1 : Int32) : Option (Int32 × Wd) := ((f_X10_buyOil w x1).bind fun z => u2 z fun z w3 => zc z (fun k => (if k = 1 then (some ((1 : Int32), w3)) else (if k = 2 then (some ((2 : Int32), w3)) else none))) (fun r2 => (if inR (0 : Int32) 1 then (wl (uL w3 151 ((0 : Int32)).toNatClampNeg (r2).toInt64) fun w8 => (some ((0 : Int32), w8))) else none)))
def f_L_addPlanet (w : Wd) (x1 : Int32) : Option (Int32 × Wd) := ((f_X10_addPlanet w x1).bind fun z => u2 z fun z w3 => zc z (fun k => (if k = 0 then (some ((1 : Int32), w3)) else (if k = 2 then (some ((2 : Int32), w3)) else none))) (fun r2 => (if inR (0 : Int32) 1 then (wl (uL w3 151 ((0 : Int32)).toNatClampNeg (r2).toInt64) fun w8 => (some ((0 : Int32), w8))) else none)))
def f_L_unitsPerTurn (w : Wd) (x1 : Int32) (x2 : Int32) : Option (Int32 × Wd) := ((f_X10_unitsPerTurn w x1 x2).bind fun z => u2 z fun z w3 => zc z (fun k => (if k = 0 then (some ((1 : Int32), w3)) else (if k = 4 then (some ((2 : Int32), w3)) else none))) (fun r2 => (if inR (0 : Int32) 1 then (wl (uL w3 151 ((0 : Int32)).toNatClampNeg r2) fun w8 => (some ((0 : Int32), w8))) else none)))
def f_L_unitsPerTurnByLowest (w : Wd) (x1 : Int32) (x2 : Int32) : Option (Int32 × Wd) := ((f_X10_unitsPerTurnByLowest w x1 x2).bind fun z => u2 z fun z w3 => zc z (fun k => (if k = 0 then (some ((1 : Int32), w3)) else (if k = 4 then (some ((2 : Int32), w3)) else none))) (fun r2 => (if inR (0 : Int32) 1 then (wl (uL w3 151 ((0 : Int32)).toNatClampNeg r2) fun w8 => (some ((0 : Int32), w8))) else none)))
def f_L_nextEclipse (w : Wd) (x1 : Int32) (x2 : Int32) (x3 : Int32) : Option (Int32 × Wd) := ((f_X10_nextEclipse w x1 x2 x3).bind fun z => u2 z fun z w3 => zc z (fun k => (if k = 0 then (some ((1 : Int32), w3)) else (if k = 1 then (some ((2 : Int32), w3)) else (if k = 2 then (some ((3 : Int32), w3)) else (if k = 4 then (some ((4 : Int32), w3)) else none))))) (fun r2 => (if inR (0 : Int32) 1 then (wl (uL w3 151 ((0 : Int32)).toNatClampNeg (r2).toInt64) fun w10 => (some ((0 : Int32), w10))) else none)))
def f_L_nextEclipseByTurns (w : Wd) (x1 : Int32) (x2 : Int32) (x3 : Int32) : Option (Int32 × Wd) := ((f_X10_nextEclipseByTurns w x1 x2 x3).bind fun z => u2 z fun z w3 => zc z (fun k => (if k = 0 then (some ((1 : Int32), w3)) else (if k = 1 then (some ((2 : Int32), w3)) else (if k = 2 then (some ((3 : Int32), w3)) else (if k = 4 then (some ((4 : Int32), w3)) else none))))) (fun r2 => (if inR (0 : Int32) 1 then (wl (uL w3 151 ((0 : Int32)).toNatClampNeg (r2).toInt64) fun w10 => (some ((0 : Int32), w10))) else none)))
def f_L_release (w : Wd) (x1 : Int32) (x2 : Int32) : Option (Int32 × Wd) := ((f_X10_release w x1 x2).bind fun z => u2 z fun z w3 => zc z (fun k => (if k = 0 then (some ((1 : Int32), w3)) else (if k = 1 then (some ((2 : Int32), w3)) else (if k = 4 then (some ((3 : Int32), w3)) else (if k = 3 then (some ((4 : Int32), w3)) else none))))) (fun r2 => (if inR (0 : Int32) 1 then (wl (uL w3 151 ((0 : Int32)).toNatClampNeg (r2).toInt64) fun w10 => (some ((0 : Int32), w10))) else none)))
def f_L_fewestPairsByTable (w : Wd) (x1 : Int32) (x2 : Int32) : Option (Int32 × Wd) := ((f_X10_fewestPairsByTable w x1 x2).bind fun z => u2 z fun z w3 => zc z (fun k => (if k = 1 then (some ((1 : Int32), w3)) else (if k = 4 then (some ((2 : Int32), w3)) else none))) (fun r2 => (if inR (0 : Int32) 1 then (wl (uL w3 151 ((0 : Int32)).toNatClampNeg (r2).toInt64) fun w8 => (some ((0 : Int32), w8))) else none)))
def f_L_runScript (w : Wd) : Option (Int32 × Wd) := ((f_X10_runScript w).bind fun z => u2 z fun z w3 => zc z (fun k => (if k = 1 then (some ((1 : Int32), w3)) else (if k = 2 then (some ((2 : Int32), w3)) else none))) (fun r2 => (if inR (0 : Int32) 1 then (wl (uL w3 151 ((0 : Int32)).toNatClampNeg (r2).toInt64) fun w8 => (some ((0 : Int32), w8))) else none)))
def f_law_288 (w : Wd) (x1 x2 x3 : Int32) : Option Wd := ((f_L_addGear w x1).bind fun z => u2 z fun r2 w3 => ((f_X11_addGear w3 x1).bind fun z => u2 z fun r5 w6 => ((f_X11_thrown w6).bind fun r8 => (if r8 = r2 then (if r2 = 0 then (if inR (0 : Int32) 1 then (if (gL w6 151 ((0 : Int32)).toNatClampNeg) = (r5).toInt64 then (some w6) else none) else none) else (some w6)) else none))))
def f_law_344 (w : Wd) (x1 x2 x3 : Int32) : Option Wd := ((f_L_mesh w x1 x2).bind fun z => u2 z fun r2 w3 => ((f_X11_mesh w3 x1 x2).bind fun z => u2 z fun r5 w6 => ((f_X11_thrown w6).bind fun r8 => (if r8 = r2 then (if r2 = 0 then (if inR (0 : Int32) 1 then (if (gL w6 151 ((0 : Int32)).toNatClampNeg) = (r5).toInt64 then (some w6) else none) else none) else (some w6)) else none))))
def f_law_412 (w : Wd) (x1 x2 x3 : Int32) : Option Wd := ((f_L_shareAxle w x1 x2).bind fun z => u2 z fun r2 w3 => ((f_X11_shareAxle w3 x1 x2).bind fun z => u2 z fun r5 w6 => ((f_X11_thrown w6).bind fun r8 => (if r8 = r2 then (if r2 = 0 then (if inR (0 : Int32) 1 then (if (gL w6 151 ((0 : Int32)).toNatClampNeg) = (r5).toInt64 then (some w6) else none) else none) else (some w6)) else none))))
def f_law_480 (w : Wd) (x1 x2 x3 : Int32) : Option Wd := ((f_L_separate w x1 x2).bind fun z => u2 z fun r2 w3 => ((f_X11_separate w3 x1 x2).bind fun z => u2 z fun r5 w6 => ((f_X11_thrown w6).bind fun r8 => (if r8 = r2 then (if r2 = 0 then (if inR (0 : Int32) 1 then (if (gL w6 151 ((0 : Int32)).toNatClampNeg) = (r5).toInt64 then (some w6) else none) else none) else (some w6)) else none))))
def f_law_548 (w : Wd) (x1 x2 x3 : Int32) : Option Wd := ((f_L_setSpring w x1 x2).bind fun z => u2 z fun r2 w3 => ((f_X11_setSpring w3 x1 x2).bind fun z => u2 z fun r5 w6 => ((f_X11_thrown w6).bind fun r8 => (if r8 = r2 then (if r2 = 0 then (if inR (0 : Int32) 1 then (if (gL w6 151 ((0 : Int32)).toNatClampNeg) = (r5).toInt64 then (some w6) else none) else none) else (some w6)) else none))))
def f_law_616 (w : Wd) (x1 x2 x3 : Int32) : Option Wd := ((f_L_wind w x1 x2).bind fun z => u2 z fun r2 w3 => ((f_X11_wind w3 x1 x2).bind fun z => u2 z fun r5 w6 => ((f_X11_thrown w6).bind fun r8 => (if r8 = r2 then (if r2 = 0 then (if inR (0 : Int32) 1 then (if (gL w6 151 ((0 : Int32)).toNatClampNeg) = (r5).toInt64 then (some w6) else none) else none) else (some w6)) else none))))
def f_law_684 (w : Wd) (x1 x2 x3 : Int32) : Option Wd := ((f_L_reverse w x1).bind fun z => u2 z fun r2 w3 => ((f_X11_reverse w3 x1).bind fun z => u2 z fun r5 w6 => ((f_X11_thrown w6).bind fun r8 => (if r8 = r2 then (if r2 = 0 then (if inR (0 : Int32) 1 then (if r5 = 0 then (if (gL w6 151 ((0 : Int32)).toNatClampNeg) = (0 : Int64) then (some w6) else none) else (if (gL w6 151 ((0 : Int32)).toNatClampNeg) = (1 : Int64) then (some w6) else none)) else none) else (some w6)) else none))))
def f_law_747 (w : Wd) (x1 x2 x3 : Int32) : Option Wd := ((f_L_release w x1 x2).bind fun z => u2 z fun r2 w3 => ((f_X11_release w3 x1 x2).bind fun z => u2 z fun r5 w6 => ((f_X11_thrown w6).bind fun r8 => (if r8 = r2 then (if r2 = 0 then (if inR (0 : Int32) 1 then (if (gL w6 151 ((0 : Int32)).toNatClampNeg) = (r5).toInt64 then (some w6) else none) else none) else (some w6)) else none))))
def f_law_815 (w : Wd) (x1 x2 x3 : Int32) : Option Wd := (if x2 = 0 then ((f_L_setRatchet w x1 (0 : Int32)).bind fun z => u2 z fun r3 w4 => (if x2 = 0 then ((f_X11_setRatchet w4 x1 (0 : Int32)).bind fun z => u2 z fun r7 w8 => ((f_X11_thrown w8).bind fun r10 => (if r10 = r3 then (if r3 = 0 then (if inR (0 : Int32) 1 then (if r7 = 0 then (if (gL w8 151 ((0 : Int32)).toNatClampNeg) = (0 : Int64) then (some w8) else none) else (if (gL w8 151 ((0 : Int32)).toNatClampNeg) = (1 : Int64) then (some w8) else none)) else none) else (some w8)) else none))) else ((f_X11_setRatchet w4 x1 (1 : Int32)).bind fun z => u2 z fun r18 w19 => ((f_X11_thrown w19).bind fun r21 => (if r21 = r3 then (if r3 = 0 then (if inR (0 : Int32) 1 then (if r18 = 0 then (if (gL w19 151 ((0 : Int32)).toNatClampNeg) = (0 : Int64) then (some w19) else none) else (if (gL w19 151 ((0 : Int32)).toNatClampNeg) = (1 : Int64) then (some w19) else none)) else none) else (some w19)) else none))))) else ((f_L_setRatchet w x1 (1 : Int32)).bind fun z => u2 z fun r29 w30 => (if x2 = 0 then ((f_X11_setRatchet w30 x1 (0 : Int32)).bind fun z => u2 z fun r33 w34 => ((f_X11_thrown w34).bind fun r36 => (if r36 = r29 then (if r29 = 0 then (if inR (0 : Int32) 1 then (if r33 = 0 then (if (gL w34 151 ((0 : Int32)).toNatClampNeg) = (0 : Int64) then (some w34) else none) else (if (gL w34 151 ((0 : Int32)).toNatClampNeg) = (1 : Int64) then (some w34) else none)) else none) else (some w34)) else none))) else ((f_X11_setRatchet w30 x1 (1 : Int32)).bind fun z => u2 z fun r44 w45 => ((f_X11_thrown w45).bind fun r47 => (if r47 = r29 then (if r29 = 0 then (if inR (0 : Int32) 1 then (if r44 = 0 then (if (gL w45 151 ((0 : Int32)).toNatClampNeg) = (0 : Int64) then (some w45) else none) else (if (gL w45 151 ((0 : Int32)).toNatClampNeg) = (1 : Int64) then (some w45) else none)) else none) else (some w45)) else none))))))
def f_law_906 (w : Wd) (x1 x2 x3 : Int32) : Option Wd := ((f_L_oil w x1).bind fun z => u2 z fun r2 w3 => ((f_X11_oil w3 x1).bind fun z => u2 z fun r5 w6 => ((f_X11_thrown w6).bind fun r8 => (if r8 = r2 then (if r2 = 0 then (if inR (0 : Int32) 1 then (if (gL w6 151 ((0 : Int32)).toNatClampNeg) = (r5).toInt64 then (some w6) else none) else none) else (some w6)) else none))))
def f_law_962 (w : Wd) (x1 x2 x3 : Int32) : Option Wd := ((f_L_buyOil w x1).bind fun z => u2 z fun r2 w3 => ((f_X11_buyOil w3 x1).bind fun z => u2 z fun r5 w6 => ((f_X11_thrown w6).bind fun r8 => (if r8 = r2 then (if r2 = 0 then (if inR (0 : Int32) 1 then (if (gL w6 151 ((0 : Int32)).toNatClampNeg) = (r5).toInt64 then (some w6) else none) else none) else (some w6)) else none))))
def f_law_1018 (w : Wd) (x1 x2 x3 : Int32) : Option Wd := ((f_L_addPlanet w x1).bind fun z => u2 z fun r2 w3 => ((f_X11_addPlanet w3 x1).bind fun z => u2 z fun r5 w6 => ((f_X11_thrown w6).bind fun r8 => (if r8 = r2 then (if r2 = 0 then (if inR (0 : Int32) 1 then (if (gL w6 151 ((0 : Int32)).toNatClampNeg) = (r5).toInt64 then (some w6) else none) else none) else (some w6)) else none))))
def f_law_1074 (w : Wd) (x1 x2 x3 : Int32) : Option Wd := ((f_X10_gearCount w).bind fun r2 => ((f_X11_gearCount w).bind fun z => u2 z fun r4 w5 => (if r2 = r4 then (some w5) else none)))
def f_law_1087 (w : Wd) (x1 x2 x3 : Int32) : Option Wd := ((f_L_teeth w x1).bind fun z => u2 z fun r2 w3 => ((f_X11_teeth w3 x1).bind fun z => u2 z fun r5 w6 => ((f_X11_thrown w6).bind fun r8 => (if r8 = r2 then (if r2 = 0 then (if inR (0 : Int32) 1 then (if (gL w6 151 ((0 : Int32)).toNatClampNeg) = (r5).toInt64 then (some w6) else none) else none) else (some w6)) else none))))
def f_law_1143 (w : Wd) (x1 x2 x3 : Int32) : Option Wd := ((f_L_joint w x1 x2).bind fun z => u2 z fun r2 w3 => ((f_X11_joint w3 x1 x2).bind fun z => u2 z fun r5 w6 => ((f_X11_thrown w6).bind fun r8 => (if r8 = r2 then (if r2 = 0 then (if inR (0 : Int32) 1 then (if (gL w6 151 ((0 : Int32)).toNatClampNeg) = (r5).toInt64 then (some w6) else none) else none) else (some w6)) else none))))
def f_law_1211 (w : Wd) (x1 x2 x3 : Int32) : Option Wd := ((f_X10_jointCount w).bind fun r2 => ((f_X11_jointCount w).bind fun z => u2 z fun r4 w5 => (if r2 = r4 then (some w5) else none)))
def f_law_1224 (w : Wd) (x1 x2 x3 : Int32) : Option Wd := ((f_L_trainSize w x1).bind fun z => u2 z fun r2 w3 => ((f_X11_trainSize w3 x1).bind fun z => u2 z fun r5 w6 => ((f_X11_thrown w6).bind fun r8 => (if r8 = r2 then (if r2 = 0 then (if inR (0 : Int32) 1 then (if (gL w6 151 ((0 : Int32)).toNatClampNeg) = (r5).toInt64 then (some w6) else none) else none) else (some w6)) else none))))
def f_law_1280 (w : Wd) (x1 x2 x3 : Int32) : Option Wd := ((f_L_areInTrain w x1 x2).bind fun z => u2 z fun r2 w3 => ((f_X11_areInTrain w3 x1 x2).bind fun z => u2 z fun r5 w6 => ((f_X11_thrown w6).bind fun r8 => (if r8 = r2 then (if r2 = 0 then (if inR (0 : Int32) 1 then (if r5 = 0 then (if (gL w6 151 ((0 : Int32)).toNatClampNeg) = (0 : Int64) then (some w6) else none) else (if (gL w6 151 ((0 : Int32)).toNatClampNeg) = (1 : Int64) then (some w6) else none)) else none) else (some w6)) else none))))
def f_law_1355 (w : Wd) (x1 x2 x3 : Int32) : Option Wd := ((f_L_unitsPerTurn w x1 x2).bind fun z => u2 z fun r2 w3 => ((f_X11_unitsPerTurn w3 x1 x2).bind fun z => u2 z fun r5 w6 => ((f_X11_thrown w6).bind fun r8 => (if r8 = r2 then (if r2 = 0 then (if inR (0 : Int32) 1 then (if (gL w6 151 ((0 : Int32)).toNatClampNeg) = r5 then (some w6) else none) else none) else (some w6)) else none))))
def f_law_1422 (w : Wd) (x1 x2 x3 : Int32) : Option Wd := ((f_L_unitsPerTurnByLowest w x1 x2).bind fun z => u2 z fun r2 w3 => ((f_X11_unitsPerTurnByLowest w3 x1 x2).bind fun z => u2 z fun r5 w6 => ((f_X11_thrown w6).bind fun r8 => (if r8 = r2 then (if r2 = 0 then (if inR (0 : Int32) 1 then (if (gL w6 151 ((0 : Int32)).toNatClampNeg) = r5 then (some w6) else none) else none) else (some w6)) else none))))
def f_law_1489 (w : Wd) (x1 x2 x3 : Int32) : Option Wd := ((f_L_angle w x1).bind fun z => u2 z fun r2 w3 => ((f_X11_angle w3 x1).bind fun z => u2 z fun r5 w6 => ((f_X11_thrown w6).bind fun r8 => (if r8 = r2 then (if r2 = 0 then (if inR (0 : Int32) 1 then (if (gL w6 151 ((0 : Int32)).toNatClampNeg) = r5 then (some w6) else none) else none) else (some w6)) else none))))
def f_law_1544 (w : Wd) (x1 x2 x3 : Int32) : Option Wd := ((f_L_anglePart w x1).bind fun z => u2 z fun r2 w3 => ((f_X11_anglePart w3 x1).bind fun z => u2 z fun r5 w6 => ((f_X11_thrown w6).bind fun r8 => (if r8 = r2 then (if r2 = 0 then (if inR (0 : Int32) 1 then (if (Op.cmpValue (FP.dcmp (gD w6 ((0 : Int32)).toNatClampNeg) r5) .l) = 0 then (some w6) else (if inR (0 : Int32) 1 then (if inR (0 : Int32) 1 then (if (Op.cmpValue (FP.dcmp (gD w6 ((0 : Int32)).toNatClampNeg) (gD w6 ((0 : Int32)).toNatClampNeg)) .l) = 0 then none else (if (Op.cmpValue (FP.dcmp r5 r5) .l) = 0 then none else (some w6))) else none) else none)) else none) else (some w6)) else none))))
def f_law_1621 (w : Wd) (x1 x2 x3 : Int32) : Option Wd := ((f_L_tension w x1).bind fun z => u2 z fun r2 w3 => ((f_X11_tension w3 x1).bind fun z => u2 z fun r5 w6 => ((f_X11_thrown w6).bind fun r8 => (if r8 = r2 then (if r2 = 0 then (if inR (0 : Int32) 1 then (if (gL w6 151 ((0 : Int32)).toNatClampNeg) = (r5).toInt64 then (some w6) else none) else none) else (some w6)) else none))))
def f_law_1677 (w : Wd) (x1 x2 x3 : Int32) : Option Wd := ((f_L_springSize w x1).bind fun z => u2 z fun r2 w3 => ((f_X11_springSize w3 x1).bind fun z => u2 z fun r5 w6 => ((f_X11_thrown w6).bind fun r8 => (if r8 = r2 then (if r2 = 0 then (if inR (0 : Int32) 1 then (if (gL w6 151 ((0 : Int32)).toNatClampNeg) = (r5).toInt64 then (some w6) else none) else none) else (some w6)) else none))))
def f_law_1733 (w : Wd) (x1 x2 x3 : Int32) : Option Wd := ((f_L_springOf w x1).bind fun z => u2 z fun r2 w3 => ((f_X11_springOf w3 x1).bind fun z => u2 z fun r5 w6 => ((f_X11_thrown w6).bind fun r8 => (if r8 = r2 then (if r2 = 0 then (if inR (0 : Int32) 1 then (if (gL w6 151 ((0 : Int32)).toNatClampNeg) = (r5).toInt64 then (some w6) else none) else none) else (some w6)) else none))))
def f_law_1789 (w : Wd) (x1 x2 x3 : Int32) : Option Wd := ((f_L_friction w x1).bind fun z => u2 z fun r2 w3 => ((f_X11_friction w3 x1).bind fun z => u2 z fun r5 w6 => ((f_X11_thrown w6).bind fun r8 => (if r8 = r2 then (if r2 = 0 then (if inR (0 : Int32) 1 then (if (gL w6 151 ((0 : Int32)).toNatClampNeg) = (r5).toInt64 then (some w6) else none) else none) else (some w6)) else none))))
def f_law_1845 (w : Wd) (x1 x2 x3 : Int32) : Option Wd := ((f_L_turnsLeft w x1).bind fun z => u2 z fun r2 w3 => ((f_X11_turnsLeft w3 x1).bind fun z => u2 z fun r5 w6 => ((f_X11_thrown w6).bind fun r8 => (if r8 = r2 then (if r2 = 0 then (if inR (0 : Int32) 1 then (if (gL w6 151 ((0 : Int32)).toNatClampNeg) = (r5).toInt64 then (some w6) else none) else none) else (some w6)) else none))))
def f_law_1901 (w : Wd) (x1 x2 x3 : Int32) : Option Wd := ((f_L_canRelease w x1).bind fun z => u2 z fun r2 w3 => ((f_X11_canRelease w3 x1).bind fun z => u2 z fun r5 w6 => ((f_X11_thrown w6).bind fun r8 => (if r8 = r2 then (if r2 = 0 then (if inR (0 : Int32) 1 then (if r5 = 0 then (if (gL w6 151 ((0 : Int32)).toNatClampNeg) = (0 : Int64) then (some w6) else none) else (if (gL w6 151 ((0 : Int32)).toNatClampNeg) = (1 : Int64) then (some w6) else none)) else none) else (some w6)) else none))))
def f_law_1964 (w : Wd) (x1 x2 x3 : Int32) : Option Wd := ((f_L_hasRatchet w x1).bind fun z => u2 z fun r2 w3 => ((f_X11_hasRatchet w3 x1).bind fun z => u2 z fun r5 w6 => ((f_X11_thrown w6).bind fun r8 => (if r8 = r2 then (if r2 = 0 then (if inR (0 : Int32) 1 then (if r5 = 0 then (if (gL w6 151 ((0 : Int32)).toNatClampNeg) = (0 : Int64) then (some w6) else none) else (if (gL w6 151 ((0 : Int32)).toNatClampNeg) = (1 : Int64) then (some w6) else none)) else none) else (some w6)) else none))))
def f_law_2027 (w : Wd) (x1 x2 x3 : Int32) : Option Wd := ((f_L_isDry w x1).bind fun z => u2 z fun r2 w3 => ((f_X11_isDry w3 x1).bind fun z => u2 z fun r5 w6 => ((f_X11_thrown w6).bind fun r8 => (if r8 = r2 then (if r2 = 0 then (if inR (0 : Int32) 1 then (if r5 = 0 then (if (gL w6 151 ((0 : Int32)).toNatClampNeg) = (0 : Int64) then (some w6) else none) else (if (gL w6 151 ((0 : Int32)).toNatClampNeg) = (1 : Int64) then (some w6) else none)) else none) else (some w6)) else none))))
def f_law_2090 (w : Wd) (x1 x2 x3 : Int32) : Option Wd := ((f_L_wear w x1).bind fun z => u2 z fun r2 w3 => ((f_X11_wear w3 x1).bind fun z => u2 z fun r5 w6 => ((f_X11_thrown w6).bind fun r8 => (if r8 = r2 then (if r2 = 0 then (if inR (0 : Int32) 1 then (if (gL w6 151 ((0 : Int32)).toNatClampNeg) = (r5).toInt64 then (some w6) else none) else none) else (some w6)) else none))))
def f_law_2146 (w : Wd) (x1 x2 x3 : Int32) : Option Wd := ((f_X10_drops w).bind fun r2 => ((f_X11_drops w).bind fun z => u2 z fun r4 w5 => (if r2 = r4 then (some w5) else none)))
def f_law_2159 (w : Wd) (x1 x2 x3 : Int32) : Option Wd := ((f_X10_planetCount w).bind fun r2 => ((f_X11_planetCount w).bind fun z => u2 z fun r4 w5 => (if r2 = r4 then (some w5) else none)))
def f_law_2172 (w : Wd) (x1 x2 x3 : Int32) : Option Wd := ((f_L_gearOf w x1).bind fun z => u2 z fun r2 w3 => ((f_X11_gearOf w3 x1).bind fun z => u2 z fun r5 w6 => ((f_X11_thrown w6).bind fun r8 => (if r8 = r2 then (if r2 = 0 then (if inR (0 : Int32) 1 then (if (gL w6 151 ((0 : Int32)).toNatClampNeg) = (r5).toInt64 then (some w6) else none) else none) else (some w6)) else none))))
def f_law_2228 (w : Wd) (x1 x2 x3 : Int32) : Option Wd := ((f_L_areInLine w x1 x2).bind fun z => u2 z fun r2 w3 => ((f_X11_areInLine w3 x1 x2).bind fun z => u2 z fun r5 w6 => ((f_X11_thrown w6).bind fun r8 => (if r8 = r2 then (if r2 = 0 then (if inR (0 : Int32) 1 then (if r5 = 0 then (if (gL w6 151 ((0 : Int32)).toNatClampNeg) = (0 : Int64) then (some w6) else none) else (if (gL w6 151 ((0 : Int32)).toNatClampNeg) = (1 : Int64) then (some w6) else none)) else none) else (some w6)) else none))))
def f_law_2303 (w : Wd) (x1 x2 x3 : Int32) : Option Wd := ((f_L_nextEclipse w x1 x2 x3).bind fun z => u2 z fun r2 w3 => ((f_X11_nextEclipse w3 x1 x2 x3).bind fun z => u2 z fun r5 w6 => ((f_X11_thrown w6).bind fun r8 => (if r8 = r2 then (if r2 = 0 then (if inR (0 : Int32) 1 then (if (gL w6 151 ((0 : Int32)).toNatClampNeg) = (r5).toInt64 then (some w6) else none) else none) else (some w6)) else none))))
def f_law_2383 (w : Wd) (x1 x2 x3 : Int32) : Option Wd := ((f_L_nextEclipseByTurns w x1 x2 x3).bind fun z => u2 z fun r2 w3 => ((f_X11_nextEclipseByTurns w3 x1 x2 x3).bind fun z => u2 z fun r5 w6 => ((f_X11_thrown w6).bind fun r8 => (if r8 = r2 then (if r2 = 0 then (if inR (0 : Int32) 1 then (if (gL w6 151 ((0 : Int32)).toNatClampNeg) = (r5).toInt64 then (some w6) else none) else none) else (some w6)) else none))))
def f_law_2463 (w : Wd) (x1 x2 x3 : Int32) : Option Wd := ((f_L_planetByAngle w x1).bind fun z => u2 z fun r2 w3 => ((f_X11_planetByAngle w3 x1).bind fun z => u2 z fun r5 w6 => ((f_X11_thrown w6).bind fun r8 => (if r8 = r2 then (if r2 = 0 then (if inR (0 : Int32) 1 then (if (gL w6 151 ((0 : Int32)).toNatClampNeg) = (r5).toInt64 then (some w6) else none) else none) else (some w6)) else none))))
def f_law_2519 (w : Wd) (x1 x2 x3 : Int32) : Option Wd := ((f_L_fewestPairs w x1 x2).bind fun z => u2 z fun r2 w3 => ((f_X11_fewestPairs w3 x1 x2).bind fun z => u2 z fun r5 w6 => ((f_X11_thrown w6).bind fun r8 => (if r8 = r2 then (if r2 = 0 then (if inR (0 : Int32) 1 then (if (gL w6 151 ((0 : Int32)).toNatClampNeg) = (r5).toInt64 then (some w6) else none) else none) else (some w6)) else none))))
def f_law_2587 (w : Wd) (x1 x2 x3 : Int32) : Option Wd := ((f_L_fewestPairsByTable w x1 x2).bind fun z => u2 z fun r2 w3 => ((f_X11_fewestPairsByTable w3 x1 x2).bind fun z => u2 z fun r5 w6 => ((f_X11_thrown w6).bind fun r8 => (if r8 = r2 then (if r2 = 0 then (if inR (0 : Int32) 1 then (if (gL w6 151 ((0 : Int32)).toNatClampNeg) = (r5).toInt64 then (some w6) else none) else none) else (some w6)) else none))))
def f_law_2655 (w : Wd) (x1 x2 x3 : Int32) : Option Wd := ((f_X10_woundTotal w).bind fun r2 => ((f_X11_woundTotal w).bind fun z => u2 z fun r4 w5 => (if r2 = r4 then (some w5) else none)))
def f_law_2668 (w : Wd) (x1 x2 x3 : Int32) : Option Wd := ((f_X10_tensionTotal w).bind fun r2 => ((f_X11_tensionTotal w).bind fun z => u2 z fun r4 w5 => (if r2 = r4 then (some w5) else none)))
def f_law_2681 (w : Wd) (x1 x2 x3 : Int32) : Option Wd := ((f_X10_tensionByAccounts w).bind fun r2 => ((f_X11_tensionByAccounts w).bind fun z => u2 z fun r4 w5 => (if r2 = r4 then (some w5) else none)))
def f_law_2694 (w : Wd) (x1 x2 x3 : Int32) : Option Wd := ((f_X10_releaseTotal w).bind fun r2 => ((f_X11_releaseTotal w).bind fun z => u2 z fun r4 w5 => (if r2 = r4 then (some w5) else none)))
def f_law_2707 (w : Wd) (x1 x2 x3 : Int32) : Option Wd := ((f_L_meanTeeth w).bind fun z => u2 z fun r2 w3 => ((f_X11_meanTeeth w3).bind fun z => u2 z fun r5 w6 => ((f_X11_thrown w6).bind fun r8 => (if r8 = r2 then (if r2 = 0 then (if inR (0 : Int32) 1 then (if (Op.cmpValue (FP.dcmp (gD w6 ((0 : Int32)).toNatClampNeg) r5) .l) = 0 then (some w6) else (if inR (0 : Int32) 1 then (if inR (0 : Int32) 1 then (if (Op.cmpValue (FP.dcmp (gD w6 ((0 : Int32)).toNatClampNeg) (gD w6 ((0 : Int32)).toNatClampNeg)) .l) = 0 then none else (if (Op.cmpValue (FP.dcmp r5 r5) .l) = 0 then none else (some w6))) else none) else none)) else none) else (some w6)) else none))))
def f_law_2772 (w : Wd) (x1 x2 x3 : Int32) : Option Wd := ((f_L_dryShare w).bind fun z => u2 z fun r2 w3 => ((f_X11_dryShare w3).bind fun z => u2 z fun r5 w6 => ((f_X11_thrown w6).bind fun r8 => (if r8 = r2 then (if r2 = 0 then (if inR (0 : Int32) 1 then (if okN64 (FP.f2d r5) then (if (Op.cmpValue (FP.dcmp (gD w6 ((0 : Int32)).toNatClampNeg) (FP.f2d r5)) .l) = 0 then (some w6) else (if inR (0 : Int32) 1 then (if inR (0 : Int32) 1 then (if (Op.cmpValue (FP.dcmp (gD w6 ((0 : Int32)).toNatClampNeg) (gD w6 ((0 : Int32)).toNatClampNeg)) .l) = 0 then none else (if (Op.cmpValue (FP.fcmp r5 r5) .l) = 0 then none else (some w6))) else none) else none)) else none) else none) else (some w6)) else none))))
def f_law_2838 (w : Wd) (x1 x2 x3 : Int32) : Option Wd := ((f_X10_isConsistent w).bind fun z => u2 z fun r2 w3 => ((f_X11_isConsistent w3).bind fun z => u2 z fun r5 w6 => (if r2 = r5 then (some w6) else none)))
def f_law_2851 (w : Wd) (x1 x2 x3 : Int32) : Option Wd := ((f_L_renderGear w x1).bind fun z => u2 z fun r2 w3 => ((f_X11_renderGear w3 x1).bind fun z => u2 z fun r5 w6 => ((f_X11_thrown w6).bind fun r8 => (if r8 = r2 then (if r2 = 0 then (if inR (0 : Int32) 1 then (if (gL w6 151 ((0 : Int32)).toNatClampNeg) = (r5).toInt64 then (some w6) else none) else none) else (some w6)) else none))))
def f_law_2907 (w : Wd) (x1 x2 x3 : Int32) : Option Wd := ((f_L_renderTrain w x1).bind fun z => u2 z fun r2 w3 => ((f_X11_renderTrain w3 x1).bind fun z => u2 z fun r5 w6 => ((f_X11_thrown w6).bind fun r8 => (if r8 = r2 then (if r2 = 0 then (if inR (0 : Int32) 1 then (if (gL w6 151 ((0 : Int32)).toNatClampNeg) = (r5).toInt64 then (some w6) else none) else none) else (some w6)) else none))))
def f_law_2963 (w : Wd) (x1 x2 x3 : Int32) : Option Wd := ((f_L_outputAt w x1).bind fun z => u2 z fun r2 w3 => ((f_X11_outputAt w3 x1).bind fun z => u2 z fun r5 w6 => ((f_X11_thrown w6).bind fun r8 => (if r8 = r2 then (if r2 = 0 then (if inR (0 : Int32) 1 then (if (gL w6 151 ((0 : Int32)).toNatClampNeg) = (r5).toInt64 then (some w6) else none) else none) else (some w6)) else none))))
def f_law_3019 (w : Wd) (x1 x2 x3 : Int32) : Option Wd := ((f_L_type w (((x1).toUInt32 % 65536).toInt32)).bind fun z => u2 z fun r2 w3 => ((f_X11_type w3 (((x1).toUInt32 % 65536).toInt32)).bind fun z => u2 z fun r5 w6 => ((f_X11_thrown w6).bind fun r8 => (if r8 = r2 then (if r2 = 0 then (if inR (0 : Int32) 1 then (if (gL w6 151 ((0 : Int32)).toNatClampNeg) = (r5).toInt64 then (some w6) else none) else none) else (some w6)) else none))))
def f_law_3077 (w : Wd) (x1 x2 x3 : Int32) : Option Wd := ((f_L_runScript w).bind fun z => u2 z fun r2 w3 => ((f_X11_runScript w3).bind fun z => u2 z fun r5 w6 => ((f_X11_thrown w6).bind fun r8 => (if r8 = r2 then (if r2 = 0 then (if inR (0 : Int32) 1 then (if (gL w6 151 ((0 : Int32)).toNatClampNeg) = (r5).toInt64 then (some w6) else none) else none) else (some w6)) else none))))
def f_law_3121 (w : Wd) (x1 x2 x3 : Int32) : Option Wd := ((f_L_errorPosition w).bind fun z => u2 z fun r2 w3 => ((f_X11_errorPosition w3).bind fun z => u2 z fun r5 w6 => ((f_X11_thrown w6).bind fun r8 => (if r8 = r2 then (if r2 = 0 then (if inR (0 : Int32) 1 then (if (gL w6 151 ((0 : Int32)).toNatClampNeg) = (r5).toInt64 then (some w6) else none) else none) else (some w6)) else none))))
def f_law_3165 (w : Wd) (x1 x2 x3 : Int32) : Option Wd := ((f_L_failedCommand w).bind fun z => u2 z fun r2 w3 => ((f_X11_failedCommand w3).bind fun z => u2 z fun r5 w6 => ((f_X11_thrown w6).bind fun r8 => (if r8 = r2 then (if r2 = 0 then (if inR (0 : Int32) 1 then (if (gL w6 151 ((0 : Int32)).toNatClampNeg) = (r5).toInt64 then (some w6) else none) else none) else (some w6)) else none))))
def f_law_3209 (w : Wd) (x1 x2 x3 : Int32) : Option Wd := ((f_L_undo w).bind fun z => u2 z fun r2 w3 => ((f_X11_undo w3).bind fun z => u2 z fun r5 w6 => ((f_X11_thrown w6).bind fun r8 => (if r8 = r2 then (if r2 = 0 then (if inR (0 : Int32) 1 then (if (gL w6 151 ((0 : Int32)).toNatClampNeg) = (r5).toInt64 then (some w6) else none) else none) else (some w6)) else none))))
def f_law_3253 (w : Wd) (x1 x2 x3 : Int32) : Option Wd := ((f_X10_save w).bind fun z => u2 z fun r2 w3 => ((f_X11_save w3).bind fun z => u2 z fun r5 w6 => (if r2 = r5 then (some w6) else none)))
def f_law_3266 (w : Wd) (x1 x2 x3 : Int32) : Option Wd := ((f_L_restore w).bind fun z => u2 z fun r2 w3 => ((f_X11_restore w3).bind fun z => u2 z fun r5 w6 => ((f_X11_thrown w6).bind fun r8 => (if r8 = r2 then (if r2 = 0 then (if inR (0 : Int32) 1 then (if (gL w6 151 ((0 : Int32)).toNatClampNeg) = (r5).toInt64 then (some w6) else none) else none) else (some w6)) else none))))
def f_turn (w : Wd) (y x1 x2 x3 : Int32) : Option Wd := (if y = (0 : Int32) then f_law_288 w x1 x2 x3 else (if y = (1 : Int32) then f_law_344 w x1 x2 x3 else (if y = (2 : Int32) then f_law_412 w x1 x2 x3 else (if y = (3 : Int32) then f_law_480 w x1 x2 x3 else (if y = (4 : Int32) then f_law_548 w x1 x2 x3 else (if y = (5 : Int32) then f_law_616 w x1 x2 x3 else (if y = (6 : Int32) then f_law_684 w x1 x2 x3 else (if y = (7 : Int32) then f_law_747 w x1 x2 x3 else (if y = (8 : Int32) then f_law_815 w x1 x2 x3 else (if y = (9 : Int32) then f_law_906 w x1 x2 x3 else (if y = (10 : Int32) then f_law_962 w x1 x2 x3 else (if y = (11 : Int32) then f_law_1018 w x1 x2 x3 else (if y = (12 : Int32) then f_law_1074 w x1 x2 x3 else (if y = (13 : Int32) then f_law_1087 w x1 x2 x3 else (if y = (14 : Int32) then f_law_1143 w x1 x2 x3 else (if y = (15 : Int32) then f_law_1211 w x1 x2 x3 else (if y = (16 : Int32) then f_law_1224 w x1 x2 x3 else (if y = (17 : Int32) then f_law_1280 w x1 x2 x3 else (if y = (18 : Int32) then f_law_1355 w x1 x2 x3 else (if y = (19 : Int32) then f_law_1422 w x1 x2 x3 else (if y = (20 : Int32) then f_law_1489 w x1 x2 x3 else (if y = (21 : Int32) then f_law_1544 w x1 x2 x3 else (if y = (22 : Int32) then f_law_1621 w x1 x2 x3 else (if y = (23 : Int32) then f_law_1677 w x1 x2 x3 else (if y = (24 : Int32) then f_law_1733 w x1 x2 x3 else (if y = (25 : Int32) then f_law_1789 w x1 x2 x3 else (if y = (26 : Int32) then f_law_1845 w x1 x2 x3 else (if y = (27 : Int32) then f_law_1901 w x1 x2 x3 else (if y = (28 : Int32) then f_law_1964 w x1 x2 x3 else (if y = (29 : Int32) then f_law_2027 w x1 x2 x3 else (if y = (30 : Int32) then f_law_2090 w x1 x2 x3 else (if y = (31 : Int32) then f_law_2146 w x1 x2 x3 else (if y = (32 : Int32) then f_law_2159 w x1 x2 x3 else (if y = (33 : Int32) then f_law_2172 w x1 x2 x3 else (if y = (34 : Int32) then f_law_2228 w x1 x2 x3 else (if y = (35 : Int32) then f_law_2303 w x1 x2 x3 else (if y = (36 : Int32) then f_law_2383 w x1 x2 x3 else (if y = (37 : Int32) then f_law_2463 w x1 x2 x3 else (if y = (38 : Int32) then f_law_2519 w x1 x2 x3 else (if y = (39 : Int32) then f_law_2587 w x1 x2 x3 else (if y = (40 : Int32) then f_law_2655 w x1 x2 x3 else (if y = (41 : Int32) then f_law_2668 w x1 x2 x3 else (if y = (42 : Int32) then f_law_2681 w x1 x2 x3 else (if y = (43 : Int32) then f_law_2694 w x1 x2 x3 else (if y = (44 : Int32) then f_law_2707 w x1 x2 x3 else (if y = (45 : Int32) then f_law_2772 w x1 x2 x3 else (if y = (46 : Int32) then f_law_2838 w x1 x2 x3 else (if y = (47 : Int32) then f_law_2851 w x1 x2 x3 else (if y = (48 : Int32) then f_law_2907 w x1 x2 x3 else (if y = (49 : Int32) then f_law_2963 w x1 x2 x3 else (if y = (50 : Int32) then f_law_3019 w x1 x2 x3 else (if y = (51 : Int32) then f_law_3077 w x1 x2 x3 else (if y = (52 : Int32) then f_law_3121 w x1 x2 x3 else (if y = (53 : Int32) then f_law_3165 w x1 x2 x3 else (if y = (54 : Int32) then f_law_3209 w x1 x2 x3 else (if y = (55 : Int32) then f_law_3253 w x1 x2 x3 else (if y = (56 : Int32) then f_law_3266 w x1 x2 x3 else some w)))))))))))))))))))))))))))))))))))))))))))))))))))))))))
def w0 : Wd := (fun k => if k = 1 ∨ k = 12 ∨ k = 23 ∨ k = 36 ∨ k = 47 ∨ k = 58 ∨ k = 69 ∨ k = 80 ∨ k = 91 ∨ k = 102 ∨ k = 113 then (fun i => if i = 13 then 12 else 0) else if k = 0 then (fun i => if i = 11 ∨ i = 12 then -1 else 0) else if k = 141 then (fun i => if i = 8 ∨ i = 9 then -1 else 0) else fun _ => 0, fun k => if k = 142 then vp_updL (fun _ => 0) (Int32.toNatClampNeg 2) 12 else fun _ => 0, fun _ => none, fun _ => 0, 16)
end
section
/-! NUMBERS: whole numbers behind Int32 and Int64 -/
def jI (z : Int) : Int32 := Int32.ofInt z
def jL (z : Int) : Int64 := Int64.ofInt z
theorem jI_toInt {z : Int} (h1 : -2147483648 ≤ z) (h2 : z < 2147483648) : (jI z).toInt = z := Int32.toInt_ofInt_of_le (by omega) (by omega)
theorem jL_toInt {z : Int} (h1 : -9223372036854775808 ≤ z) (h2 : z < 9223372036854775808) : (jL z).toInt = z := Int64.toInt_ofInt_of_le (by omega) (by omega)
theorem jI_self (x : Int32) : jI x.toInt = x := Int32.ofInt_toInt x
theorem jL_self (x : Int64) : jL x.toInt = x := Int64.ofInt_toInt x
theorem jI_ex (x : Int32) : ∃ z : Int, x = jI z ∧ -2147483648 ≤ z ∧ z < 2147483648 := ⟨x.toInt, (jI_self x).symm, by have := x.le_toInt; omega, by have := x.toInt_lt; omega⟩
theorem jI_lt {a b : Int} (h1 : -2147483648 ≤ a) (h2 : a < 2147483648) (h3 : -2147483648 ≤ b) (h4 : b < 2147483648) : (jI a < jI b) = (a < b) := by
  rw [Int32.lt_iff_toInt_lt, jI_toInt h1 h2, jI_toInt h3 h4]
theorem jI_le {a b : Int} (h1 : -2147483648 ≤ a) (h2 : a < 2147483648) (h3 : -2147483648 ≤ b) (h4 : b < 2147483648) : (jI a ≤ jI b) = (a ≤ b) := by
  rw [Int32.le_iff_toInt_le, jI_toInt h1 h2, jI_toInt h3 h4]
theorem jI_eq {a b : Int} (h1 : -2147483648 ≤ a) (h2 : a < 2147483648) (h3 : -2147483648 ≤ b) (h4 : b < 2147483648) : (jI a = jI b) = (a = b) := by
  rw [← Int32.toInt_inj, jI_toInt h1 h2, jI_toInt h3 h4]
theorem jL_lt {a b : Int} (h1 : -9223372036854775808 ≤ a) (h2 : a < 9223372036854775808) (h3 : -9223372036854775808 ≤ b) (h4 : b < 9223372036854775808) : (jL a < jL b) = (a < b) := by
  rw [Int64.lt_iff_toInt_lt, jL_toInt h1 h2, jL_toInt h3 h4]
theorem jL_le {a b : Int} (h1 : -9223372036854775808 ≤ a) (h2 : a < 9223372036854775808) (h3 : -9223372036854775808 ≤ b) (h4 : b < 9223372036854775808) : (jL a ≤ jL b) = (a ≤ b) := by
  rw [Int64.le_iff_toInt_le, jL_toInt h1 h2, jL_toInt h3 h4]
theorem jL_eq {a b : Int} (h1 : -9223372036854775808 ≤ a) (h2 : a < 9223372036854775808) (h3 : -9223372036854775808 ≤ b) (h4 : b < 9223372036854775808) : (jL a = jL b) = (a = b) := by
  rw [← Int64.toInt_inj, jL_toInt h1 h2, jL_toInt h3 h4]
theorem jI_add (a b : Int) : jI a + jI b = jI (a + b) := (Int32.ofInt_add a b).symm
theorem jI_sub (a b : Int) : jI a - jI b = jI (a - b) := (Int32.ofInt_sub a b).symm
theorem jI_mul (a b : Int) : jI a * jI b = jI (a * b) := (Int32.ofInt_mul a b).symm
theorem jI_neg (a : Int) : -jI a = jI (-a) := (Int32.ofInt_neg a).symm
theorem jL_add (a b : Int) : jL a + jL b = jL (a + b) := (Int64.ofInt_add a b).symm
theorem jL_sub (a b : Int) : jL a - jL b = jL (a - b) := (Int64.ofInt_sub a b).symm
theorem jL_mul (a b : Int) : jL a * jL b = jL (a * b) := (Int64.ofInt_mul a b).symm
theorem jL_neg (a : Int) : -jL a = jL (-a) := (Int64.ofInt_neg a).symm
theorem jI_div {a b : Int} (h1 : -2147483648 ≤ a) (h2 : a < 2147483648) (h3 : -2147483648 ≤ b) (h4 : b < 2147483648) : jI a / jI b = jI (a.tdiv b) :=
  (Int32.ofInt_tdiv (by show (-2147483648 : Int) ≤ a; exact h1) (by show a ≤ (2147483647 : Int); omega) (by show (-2147483648 : Int) ≤ b; exact h3) (by show b ≤ (2147483647 : Int); omega)).symm
theorem jL_div {a b : Int} (h1 : -9223372036854775808 ≤ a) (h2 : a < 9223372036854775808) (h3 : -9223372036854775808 ≤ b) (h4 : b < 9223372036854775808) : jL a / jL b = jL (a.tdiv b) :=
  (Int64.ofInt_tdiv (by show (-9223372036854775808 : Int) ≤ a; exact h1) (by show a ≤ (9223372036854775807 : Int); omega) (by show (-9223372036854775808 : Int) ≤ b; exact h3) (by show b ≤ (9223372036854775807 : Int); omega)).symm
theorem jI_clamp {z : Int} (h1 : -2147483648 ≤ z) (h2 : z < 2147483648) : (jI z).toNatClampNeg = z.toNat := Int32.toNatClampNeg_ofInt_of_le (by omega) (by omega)
theorem jI_toL {z : Int} (h1 : -2147483648 ≤ z) (h2 : z < 2147483648) : (jI z).toInt64 = jL z := Int32.toInt64_ofInt (by show (-2147483648 : Int) ≤ z; exact h1) (by show z ≤ (2147483647 : Int); omega)
theorem jL_toI (z : Int) : (jL z).toInt32 = jI z := Int64.toInt32_ofInt
theorem inR_j {z : Int} {n : Nat} (h1 : -2147483648 ≤ z) (h2 : z < 2147483648) : (inR (jI z) n = true) = (0 ≤ z ∧ z < n) := by
  have h0 : (jI z < 0) = (z < 0) := by rw [Int32.lt_iff_toInt_lt, jI_toInt h1 h2]; rfl
  unfold inR
  simp only [Bool.not_eq_true', Bool.or_eq_false_iff, decide_eq_false_iff_not, jI_clamp h1 h2, h0]
  apply propext
  omega
theorem nI_j (n : Nat) : nI n = jI (n : Int) := Int32.ofInt_eq_ofNat.symm
theorem jI_wrap {a b : Int} (h : a % 4294967296 = b % 4294967296) : jI a = jI b := by
  rw [← Int32.toInt_inj]
  show (Int32.ofInt a).toInt = (Int32.ofInt b).toInt
  rw [Int32.toInt_ofInt, Int32.toInt_ofInt]
  show a.bmod 4294967296 = b.bmod 4294967296
  rw [← Int.emod_bmod, show a % ((4294967296 : Nat) : Int) = b % ((4294967296 : Nat) : Int) from h, Int.emod_bmod]
theorem z_bool {z : Int} (h1 : -2147483648 ≤ z) (h2 : z < 2147483648) (h : z = 0 ∨ z = 1) : vp_nar .boolean (jI z) = jI z := by
  rcases h with rfl | rfl <;> rfl

theorem l32_0 : (0 : Int32) = jI 0 := rfl
theorem l32_1 : (1 : Int32) = jI 1 := rfl
theorem l32_2 : (2 : Int32) = jI 2 := rfl
theorem l32_3 : (3 : Int32) = jI 3 := rfl
theorem l32_4 : (4 : Int32) = jI 4 := rfl
theorem l32_5 : (5 : Int32) = jI 5 := rfl
theorem l32_6 : (6 : Int32) = jI 6 := rfl
theorem l32_7 : (7 : Int32) = jI 7 := rfl
theorem l32_8 : (8 : Int32) = jI 8 := rfl
theorem l32_9 : (9 : Int32) = jI 9 := rfl
theorem l32_10 : (10 : Int32) = jI 10 := rfl
theorem l32_11 : (11 : Int32) = jI 11 := rfl
theorem l32_12 : (12 : Int32) = jI 12 := rfl
theorem l32_13 : (13 : Int32) = jI 13 := rfl
theorem l32_14 : (14 : Int32) = jI 14 := rfl
theorem l32_15 : (15 : Int32) = jI 15 := rfl
theorem l32_16 : (16 : Int32) = jI 16 := rfl
theorem l32_17 : (17 : Int32) = jI 17 := rfl
theorem l32_18 : (18 : Int32) = jI 18 := rfl
theorem l32_19 : (19 : Int32) = jI 19 := rfl
theorem l32_20 : (20 : Int32) = jI 20 := rfl
theorem l32_21 : (21 : Int32) = jI 21 := rfl
theorem l32_22 : (22 : Int32) = jI 22 := rfl
theorem l32_23 : (23 : Int32) = jI 23 := rfl
theorem l32_24 : (24 : Int32) = jI 24 := rfl
theorem l32_25 : (25 : Int32) = jI 25 := rfl
theorem l32_26 : (26 : Int32) = jI 26 := rfl
theorem l32_27 : (27 : Int32) = jI 27 := rfl
theorem l32_28 : (28 : Int32) = jI 28 := rfl
theorem l32_29 : (29 : Int32) = jI 29 := rfl
theorem l32_30 : (30 : Int32) = jI 30 := rfl
theorem l32_31 : (31 : Int32) = jI 31 := rfl
theorem l32_32 : (32 : Int32) = jI 32 := rfl
theorem l32_33 : (33 : Int32) = jI 33 := rfl
theorem l32_34 : (34 : Int32) = jI 34 := rfl
theorem l32_35 : (35 : Int32) = jI 35 := rfl
theorem l32_36 : (36 : Int32) = jI 36 := rfl
theorem l32_37 : (37 : Int32) = jI 37 := rfl
theorem l32_38 : (38 : Int32) = jI 38 := rfl
theorem l32_39 : (39 : Int32) = jI 39 := rfl
theorem l32_40 : (40 : Int32) = jI 40 := rfl
theorem l32_41 : (41 : Int32) = jI 41 := rfl
theorem l32_42 : (42 : Int32) = jI 42 := rfl
theorem l32_43 : (43 : Int32) = jI 43 := rfl
theorem l32_44 : (44 : Int32) = jI 44 := rfl
theorem l32_45 : (45 : Int32) = jI 45 := rfl
theorem l32_46 : (46 : Int32) = jI 46 := rfl
theorem l32_47 : (47 : Int32) = jI 47 := rfl
theorem l32_48 : (48 : Int32) = jI 48 := rfl
theorem l32_49 : (49 : Int32) = jI 49 := rfl
theorem l32_50 : (50 : Int32) = jI 50 := rfl
theorem l32_51 : (51 : Int32) = jI 51 := rfl
theorem l32_52 : (52 : Int32) = jI 52 := rfl
theorem l32_53 : (53 : Int32) = jI 53 := rfl
theorem l32_54 : (54 : Int32) = jI 54 := rfl
theorem l32_55 : (55 : Int32) = jI 55 := rfl
theorem l32_56 : (56 : Int32) = jI 56 := rfl
theorem l32_57 : (57 : Int32) = jI 57 := rfl
theorem l32_58 : (58 : Int32) = jI 58 := rfl
theorem l32_59 : (59 : Int32) = jI 59 := rfl
theorem l32_60 : (60 : Int32) = jI 60 := rfl
theorem l32_61 : (61 : Int32) = jI 61 := rfl
theorem l32_62 : (62 : Int32) = jI 62 := rfl
theorem l32_63 : (63 : Int32) = jI 63 := rfl
theorem l32_64 : (64 : Int32) = jI 64 := rfl
theorem l32_65 : (65 : Int32) = jI 65 := rfl
theorem l32_66 : (66 : Int32) = jI 66 := rfl
theorem l32_76 : (76 : Int32) = jI 76 := rfl
theorem l32_86 : (86 : Int32) = jI 86 := rfl
theorem l32_90 : (90 : Int32) = jI 90 := rfl
theorem l32_92 : (92 : Int32) = jI 92 := rfl
theorem l32_97 : (97 : Int32) = jI 97 := rfl
theorem l32_98 : (98 : Int32) = jI 98 := rfl
theorem l32_99 : (99 : Int32) = jI 99 := rfl
theorem l32_100 : (100 : Int32) = jI 100 := rfl
theorem l32_101 : (101 : Int32) = jI 101 := rfl
theorem l32_102 : (102 : Int32) = jI 102 := rfl
theorem l32_103 : (103 : Int32) = jI 103 := rfl
theorem l32_104 : (104 : Int32) = jI 104 := rfl
theorem l32_105 : (105 : Int32) = jI 105 := rfl
theorem l32_106 : (106 : Int32) = jI 106 := rfl
theorem l32_107 : (107 : Int32) = jI 107 := rfl
theorem l32_108 : (108 : Int32) = jI 108 := rfl
theorem l32_109 : (109 : Int32) = jI 109 := rfl
theorem l32_110 : (110 : Int32) = jI 110 := rfl
theorem l32_111 : (111 : Int32) = jI 111 := rfl
theorem l32_112 : (112 : Int32) = jI 112 := rfl
theorem l32_113 : (113 : Int32) = jI 113 := rfl
theorem l32_114 : (114 : Int32) = jI 114 := rfl
theorem l32_115 : (115 : Int32) = jI 115 := rfl
theorem l32_116 : (116 : Int32) = jI 116 := rfl
theorem l32_117 : (117 : Int32) = jI 117 := rfl
theorem l32_118 : (118 : Int32) = jI 118 := rfl
theorem l32_119 : (119 : Int32) = jI 119 := rfl
theorem l32_120 : (120 : Int32) = jI 120 := rfl
theorem l32_121 : (121 : Int32) = jI 121 := rfl
theorem l32_122 : (122 : Int32) = jI 122 := rfl
theorem l32_123 : (123 : Int32) = jI 123 := rfl
theorem l32_124 : (124 : Int32) = jI 124 := rfl
theorem l32_125 : (125 : Int32) = jI 125 := rfl
theorem l32_126 : (126 : Int32) = jI 126 := rfl
theorem l32_192 : (192 : Int32) = jI 192 := rfl
theorem l32_200 : (200 : Int32) = jI 200 := rfl
theorem l32_255 : (255 : Int32) = jI 255 := rfl
theorem l32_999 : (999 : Int32) = jI 999 := rfl
theorem l32_1000 : (1000 : Int32) = jI 1000 := rfl
theorem l32_1344 : (1344 : Int32) = jI 1344 := rfl
theorem l32_2147483639 : (2147483639 : Int32) = jI 2147483639 := rfl
theorem l32_2147483647 : (2147483647 : Int32) = jI 2147483647 := rfl
theorem l64_0 : (0 : Int64) = jL 0 := rfl
theorem l64_1 : (1 : Int64) = jL 1 := rfl
theorem l64_99 : (99 : Int64) = jL 99 := rfl
theorem l64_999 : (999 : Int64) = jL 999 := rfl
theorem l64_24883200000 : (24883200000 : Int64) = jL 24883200000 := rfl
theorem l64_746496000000 : (746496000000 : Int64) = jL 746496000000 := rfl
end
section
/-! ARITHMETIC of the written functions -/
theorem xor_sign {a b : Int} (h1 : -9223372036854775808 ≤ a) (h2 : a < 9223372036854775808) (h3 : -9223372036854775808 ≤ b) (h4 : b < 9223372036854775808) : (jL 0 ≤ (jL a ^^^ jL b)) = (0 ≤ a ↔ 0 ≤ b) := by
  have e : (jL a ^^^ jL b).toBitVec.msb = ((jL a).toBitVec.msb ^^ (jL b).toBitVec.msb) := by
    rw [Int64.toBitVec_xor, BitVec.msb_xor]
  simp only [BitVec.msb_eq_toInt] at e
  have ea : (jL a).toBitVec.toInt = a := jL_toInt h1 h2
  have eb : (jL b).toBitVec.toInt = b := jL_toInt h3 h4
  rw [ea, eb] at e
  rw [Int64.le_iff_toInt_le]
  apply propext
  show (0 : Int) ≤ (jL a ^^^ jL b).toBitVec.toInt ↔ _
  generalize (jL a ^^^ jL b).toBitVec.toInt = x at e ⊢
  by_cases q1 : a < 0 <;> by_cases q2 : b < 0 <;> by_cases q3 : x < 0 <;> simp [q1, q2, q3] at e ⊢ <;> omega
def bZ (c : Prop) [Decidable c] : Int := if c then 1 else 0
theorem bZ_pos {c : Prop} [Decidable c] (h : c) : bZ c = 1 := if_pos h
theorem bZ_neg {c : Prop} [Decidable c] (h : ¬ c) : bZ c = 0 := if_neg h
theorem bZ_01 {c : Prop} [Decidable c] : bZ c = 0 ∨ bZ c = 1 := by
  unfold bZ; split <;> simp
theorem bZ_lo {c : Prop} [Decidable c] : 0 ≤ bZ c := by
  unfold bZ; split <;> decide
theorem bZ_hi {c : Prop} [Decidable c] : bZ c ≤ 1 := by
  unfold bZ; split <;> decide
theorem bZ_eq0 {c : Prop} [Decidable c] : (jI (bZ c) = jI 0) = ¬ c := by
  by_cases h : c
  · rw [bZ_pos h]; apply propext; exact ⟨fun z => absurd z (by decide +kernel), fun z => absurd h z⟩
  · rw [bZ_neg h]; apply propext; exact ⟨fun _ => h, fun _ => rfl⟩
theorem bZ_nar {c : Prop} [Decidable c] : vp_nar .boolean (jI (bZ c)) = jI (bZ c) := by
  by_cases h : c
  · rw [bZ_pos h]; rfl
  · rw [bZ_neg h]; rfl
theorem bZ_congr {c d : Prop} [Decidable c] [Decidable d] (h : c ↔ d) : bZ c = bZ d := by
  by_cases q : c
  · rw [bZ_pos q, bZ_pos (h.mp q)]
  · rw [bZ_neg q, bZ_neg (fun z => q (h.mpr z))]
theorem s_floorDiv {a b : Int} (h1 : -4611686018427387904 ≤ a) (h2 : a < 4611686018427387904) (h3 : 0 < b) (h4 : b < 4611686018427387904) : f_J9_floorDiv_f86c9 (jL a) (jL b) = some (jL (a / b)) := by
  unfold f_J9_floorDiv_f86c9
  have e1 := Int.emod_add_mul_ediv a b
  have e2 := Int.emod_nonneg a (show b ≠ 0 by omega)
  have e3 := Int.emod_lt_of_pos a h3
  rw [l64_0, l64_1, if_pos (by rw [jL_eq (by omega) (by omega) (by omega) (by omega)]; omega), jL_div (by omega) (by omega) (by omega) (by omega)]
  by_cases h : 0 ≤ a
  · rw [if_pos (by rw [xor_sign (by omega) (by omega) (by omega) (by omega)]; omega), Int.tdiv_eq_ediv_of_nonneg h]
  · rw [if_neg (by rw [xor_sign (by omega) (by omega) (by omega) (by omega)]; omega), Int.tdiv_eq_ediv, Int.sign_eq_one_of_pos h3, jL_mul]
    by_cases hd : b ∣ a
    · rw [if_pos (show 0 ≤ a ∨ b ∣ a from Or.inr hd), Int.add_zero, Int.ediv_mul_cancel hd, if_pos rfl]
    · have e4 : (a / b + 1) * b = a - a % b + b := by rw [Int.add_mul, Int.one_mul, Int.mul_comm]; omega
      have e5 : a % b ≠ 0 := fun z => hd (Int.dvd_of_emod_eq_zero z)
      rw [if_neg (show ¬ (0 ≤ a ∨ b ∣ a) from fun z => z.elim h hd), e4, if_neg (by rw [jL_eq (by omega) (by omega) (by omega) (by omega)]; omega), jL_sub, Int.add_sub_cancel]
theorem s_floorMod {a b : Int} (h1 : -4611686018427387904 ≤ a) (h2 : a < 4611686018427387904) (h3 : 0 < b) (h4 : b < 4611686018427387904) : f_J9_floorMod_f86c9 (jL a) (jL b) = some (jL (a % b)) := by
  unfold f_J9_floorMod_f86c9
  have e1 := Int.emod_add_mul_ediv a b
  have e2 := Int.emod_nonneg a (show b ≠ 0 by omega)
  have e3 := Int.emod_lt_of_pos a h3
  rw [l64_0, if_pos (by rw [jL_eq (by omega) (by omega) (by omega) (by omega)]; omega), jL_div (by omega) (by omega) (by omega) (by omega), jL_mul, jL_sub]
  by_cases h : 0 ≤ a
  · rw [if_pos (by rw [xor_sign (by omega) (by omega) (by omega) (by omega)]; omega), Int.tdiv_eq_ediv_of_nonneg h, Int.mul_comm, show a - b * (a / b) = a % b by omega]
  · rw [if_neg (by rw [xor_sign (by omega) (by omega) (by omega) (by omega)]; omega), Int.tdiv_eq_ediv, Int.sign_eq_one_of_pos h3]
    by_cases hd : b ∣ a
    · have e5 : a % b = 0 := Int.emod_eq_zero_of_dvd hd
      rw [if_pos (show 0 ≤ a ∨ b ∣ a from Or.inr hd), Int.add_zero, Int.ediv_mul_cancel hd, Int.sub_self, if_pos rfl, e5]
    · have e4 : (a / b + 1) * b = a - a % b + b := by rw [Int.add_mul, Int.one_mul, Int.mul_comm]; omega
      have e5 : a % b ≠ 0 := fun z => hd (Int.dvd_of_emod_eq_zero z)
      rw [if_neg (show ¬ (0 ≤ a ∨ b ∣ a) from fun z => z.elim h hd), e4, if_neg (by rw [jL_eq (by omega) (by omega) (by omega) (by omega)]; omega), jL_add, show a - (a - a % b + b) + b = a % b by omega]
theorem s_quot {a b : Int} (h1 : -4611686018427387904 ≤ a) (h2 : a < 4611686018427387904) (h3 : 0 < b) (h4 : b < 4611686018427387904) : f_X4_quotient (jL a) (jL b) = some (jL (a / b)) := by
  unfold f_X4_quotient
  rw [l64_0, if_neg (by rw [jL_eq (by omega) (by omega) (by omega) (by omega)]; omega), s_floorDiv h1 h2 h3 h4]
  rfl
theorem s_rem {a b : Int} (h1 : -4611686018427387904 ≤ a) (h2 : a < 4611686018427387904) (h3 : 0 < b) (h4 : b < 4611686018427387904) : f_X4_remainder (jL a) (jL b) = some (jL (a % b)) := by
  unfold f_X4_remainder
  rw [l64_0, if_neg (by rw [jL_eq (by omega) (by omega) (by omega) (by omega)]; omega), s_floorMod h1 h2 h3 h4]
  rfl
/-- an exact division, by a number of either sign -/
theorem s_quot_ex {b c : Int} (h1 : -4611686018427387904 ≤ b * c) (h2 : b * c < 4611686018427387904) (h3 : b ≠ 0) (h4 : -4611686018427387904 ≤ b) (h5 : b < 4611686018427387904) : f_X4_quotient (jL (b * c)) (jL b) = some (jL c) := by
  unfold f_X4_quotient f_J9_floorDiv_f86c9
  rw [l64_0, l64_1, if_neg (by rw [jL_eq (by omega) (by omega) (by omega) (by omega)]; omega), if_pos (by rw [jL_eq (by omega) (by omega) (by omega) (by omega)]; omega), jL_div (by omega) (by omega) (by omega) (by omega), Int.mul_tdiv_cancel_left c h3, jL_mul, Int.mul_comm c b]
  split
  · rfl
  · rw [if_pos rfl]; rfl
theorem s_rest (w : Wd) {a : Int} (h1 : -4611686018427387904 ≤ a) (h2 : a < 4611686018427387904) : f_X11_rest w (jL a) = some (jL (a % 24883200000)) := by
  unfold f_X11_rest
  rw [if_pos (by decide +kernel), if_pos (by decide +kernel), l64_24883200000, jL_div (by omega) (by omega) (by omega) (by omega), jL_mul, jL_sub, jL_add]
  have e : a.tdiv 24883200000 = a / 24883200000 + (if 0 ≤ a ∨ (24883200000 : Int) ∣ a then 0 else 1) := Int.tdiv_eq_ediv
  have e2 : 0 ≤ a - a.tdiv 24883200000 * 24883200000 + 24883200000 ∧ a - a.tdiv 24883200000 * 24883200000 + 24883200000 < 49766400000 := by
    rw [e]; split <;> omega
  rw [jL_div (by omega) (by omega) (by omega) (by omega), jL_mul, jL_sub, Int.tdiv_eq_ediv_of_nonneg e2.1, e]
  congr 2
  split <;> omega
theorem s_size (w : Wd) {a : Int} (h1 : -4611686018427387904 ≤ a) (h2 : a < 4611686018427387904) : f_X11_size w (jL a) = some (jL (a.natAbs : Int)) := by
  unfold f_X11_size
  rw [l64_0, jL_neg]
  by_cases h : 0 ≤ a
  · rw [if_pos (by rw [jL_le (by omega) (by omega) (by omega) (by omega)]; exact h)]; congr 2; omega
  · rw [if_neg (by rw [jL_le (by omega) (by omega) (by omega) (by omega)]; exact h)]; congr 2; omega
theorem s_in (w : Wd) {a b c : Int} (h1 : -2147483648 ≤ a) (h2 : a < 2147483648) (h3 : -2147483648 ≤ b) (h4 : b < 2147483648) (h5 : -2147483648 ≤ c) (h6 : c < 2147483648) : f_X11_in w (jI a) (jI b) (jI c) = some (jI (bZ (b ≤ a ∧ a ≤ c))) := by
  unfold f_X11_in
  have e1 := jI_lt h1 h2 h3 h4
  have e2 := jI_lt h5 h6 h1 h2
  by_cases q : b ≤ a ∧ a ≤ c
  · rw [if_neg (by rw [e1]; omega), if_neg (by rw [e2]; omega), bZ_pos q]; rfl
  · rw [bZ_neg q]
    by_cases q2 : a < b
    · rw [if_pos (by rw [e1]; exact q2)]; rfl
    · rw [if_neg (by rw [e1]; exact q2), if_pos (by rw [e2]; omega)]; rfl
/-! LOOPS -/
theorem lp {σ τ : Type} (F : Nat → τ → Option σ) (I : Nat → τ → Prop) (N : Nat) (Post : σ → Prop)
    (hs : ∀ i n s, i < N → I i s → (∃ s', I (i + 1) s' ∧ F (n + 1) s = F n s') ∨ (∃ r, F (n + 1) s = some r ∧ Post r))
    (he : ∀ n s, I N s → ∃ r, F (n + 1) s = some r ∧ Post r) : ∀ (fuel i : Nat) (s : τ), i ≤ N → N - i < fuel → I i s → ∃ r, F fuel s = some r ∧ Post r := by
  intro fuel
  induction fuel with
  | zero => intro i s h1 h2; omega
  | succ n ih =>
    intro i s h1 h2 hI
    by_cases h : i < N
    · rcases hs i n s h hI with ⟨s', h3, h4⟩ | h3
      · rw [h4]
        exact ih (i + 1) s' h (by omega) h3
      · exact h3
    · have : i = N := by omega
      subst this
      exact he n s hI
/-- the same with a state that is known after each turn -/
theorem lpF {σ τ : Type} (F : Nat → τ → Option σ) (N : Nat) (st : Nat → τ) (r : σ)
    (hs : ∀ i n, i < N → F (n + 1) (st i) = F n (st (i + 1))) (he : ∀ n, F (n + 1) (st N) = some r) : ∀ (fuel : Nat), N < fuel → F fuel (st 0) = some r := by
  intro fuel hf
  obtain ⟨r', h1, h2⟩ := lp F (fun i s => s = st i) N (fun x => x = r) (fun i n s hi hI => Or.inl ⟨st (i + 1), rfl, by rw [hI]; exact hs i n hi⟩) (fun n s hI => ⟨r, by rw [hI]; exact he n, rfl⟩) fuel 0 (st 0) (Nat.zero_le _) (by omega) rfl
  rw [h1, h2]
/-! SUMS -/
def sm (g : Int → Int) : Nat → Int
  | 0 => 0
  | n + 1 => sm g n + g n
theorem sm_congr {g h : Int → Int} : ∀ {n : Nat}, (∀ i : Int, 0 ≤ i → i < n → g i = h i) → sm g n = sm h n
  | 0, _ => rfl
  | n + 1, e => by
    show sm g n + g n = sm h n + h n
    rw [sm_congr (fun i h0 h1 => e i h0 (by omega)), e n (by omega) (by omega)]
theorem sm_lo {g : Int → Int} {c : Int} : ∀ {n : Nat}, (∀ i : Int, 0 ≤ i → i < n → c ≤ g i) → c * n ≤ sm g n
  | 0, _ => by show c * 0 ≤ 0; omega
  | n + 1, e => by
    show c * ((n + 1 : Nat) : Int) ≤ sm g n + g n
    have h1 := sm_lo (g := g) (c := c) (n := n) (fun i h0 h1 => e i h0 (by omega))
    have h2 := e n (by omega) (by omega)
    rw [Int.natCast_add, Int.mul_add]
    omega
theorem sm_hi {g : Int → Int} {c : Int} : ∀ {n : Nat}, (∀ i : Int, 0 ≤ i → i < n → g i ≤ c) → sm g n ≤ c * n
  | 0, _ => by show 0 ≤ c * 0; omega
  | n + 1, e => by
    show sm g n + g n ≤ c * ((n + 1 : Nat) : Int)
    have h1 := sm_hi (g := g) (c := c) (n := n) (fun i h0 h1 => e i h0 (by omega))
    have h2 := e n (by omega) (by omega)
    rw [Int.natCast_add, Int.mul_add]
    omega
theorem sm_up {g h : Int → Int} {k : Int} : ∀ {n : Nat}, 0 ≤ k → k < n → (∀ i : Int, 0 ≤ i → i < n → i ≠ k → g i = h i) → sm g n = sm h n + (g k - h k)
  | 0, h0, h1, _ => by omega
  | n + 1, h0, h1, e => by
    show sm g n + g n = sm h n + h n + (g k - h k)
    by_cases q : k = n
    · rw [sm_congr (g := g) (h := h) (n := n) (fun i h2 h3 => e i h2 (by omega) (by omega)), q]
      omega
    · rw [sm_up (g := g) (h := h) (k := k) (n := n) h0 (by omega) (fun i h2 h3 h4 => e i h2 (by omega) h4), e n (by omega) (by omega) (by omega)]
      omega
theorem sm_tail {g : Int → Int} : ∀ {n m : Nat}, m ≤ n → (∀ i : Int, m ≤ i → i < n → g i = 0) → sm g n = sm g m
  | 0, m, h, _ => by rw [show m = 0 by omega]
  | n + 1, m, h, e => by
    by_cases q : m = n + 1
    · rw [q]
    · show sm g n + g n = sm g m
      rw [sm_tail (n := n) (m := m) (by omega) (fun i h2 h3 => e i h2 (by omega)), e n (by omega) (by omega)]
      omega
end
section
/-! THE STATE: one row of whole numbers, laid as the reference lays it: 0 gears, 1 planets, 2 drops, 3 wound, 4 taken, 5 releases, 6 + i teeth, 16 + i angles, 26 + i springs' sizes, 36 + i tensions, 46 + i reversed, 56 + i ratchets, 66 + i oiled, 76 + i wear, 86 + p carriers, 92 + 10 a + b joints -/
abbrev Ab : Type := Int → Int
def up (S : Ab) (z v : Int) : Ab := fun x => if x = z then v else S x
theorem up_eq (S : Ab) (z v : Int) : up S z v z = v := if_pos rfl
theorem up_ne {S : Ab} {z v x : Int} (h : x ≠ z) : up S z v x = S x := if_neg h
def jk (z : Int) : Int := if z = 0 then 0 else if z = 1 then 109 else 97
/-- how many joints -/
def jc (S : Ab) : Int := sm (fun k => if S (92 + k) = 0 then 0 else 1) 100
def CSt (w : Wd) (b : Nat) (S : Ab) : Prop :=
  (∀ i : Int, 0 ≤ i → i < 10 → gI w (b + 1) i.toNat = jI (S (6 + i)) ∧ gL w (b + 2) i.toNat = jL (S (16 + i)) ∧ gI w (b + 3) i.toNat = jI (S (66 + i)) ∧ (S (66 + i) = 1 → gL w (b + 4) i.toNat = jL (S (76 + i))) ∧ gI w (b + 5) i.toNat = jI (S (56 + i)) ∧ gI w (b + 6) i.toNat = jI (S (26 + i)) ∧ gI w (b + 7) i.toNat = jI (S (36 + i)) ∧ gI w (b + 8) i.toNat = jI (S (46 + i))) ∧
  (∀ k : Int, 0 ≤ k → k < 100 → gI w (b + 9) k.toNat = jI (jk (S (92 + k)))) ∧ (∀ i : Int, 0 ≤ i → i < 6 → gI w (b + 10) i.toNat = jI (S (86 + i))) ∧
  gI w b 10 = jI (S 0) ∧ gI w b 11 = jI (jc S / 2) ∧ gI w b 12 = jI (S 1) ∧ gI w b 13 = jI (S 2) ∧ gI w b 14 = jI (S 3) ∧ gI w b 15 = jI (S 4) ∧ gI w b 16 = jI (S 5)
def RSt (w : Wd) (k : Nat) (o : Int) (S : Ab) : Prop := ∀ z : Int, 0 ≤ z → z < 192 → gL w k (o + z).toNat = jL (S z)
/-- nothing outside these things is touched -/
def Sm (K : Nat → Prop) (w w' : Wd) : Prop := (∀ k, ¬ K k → gI w' k = gI w k ∧ gL w' k = gL w k) ∧ (¬ K 136 → gV w' = gV w) ∧ (¬ K 140 → gC w' = gC w)
theorem Sm.refl {K : Nat → Prop} (w : Wd) : Sm K w w := ⟨fun _ _ => ⟨rfl, rfl⟩, fun _ => rfl, fun _ => rfl⟩
theorem Sm.trans {K K1 K2 : Nat → Prop} {w w1 w2 : Wd} (h1 : Sm K1 w w1) (h2 : Sm K2 w1 w2) (k1 : ∀ k, K1 k → K k) (k2 : ∀ k, K2 k → K k) : Sm K w w2 :=
  ⟨fun k hk => ⟨(h2.1 k (fun z => hk (k2 k z))).1.trans (h1.1 k (fun z => hk (k1 k z))).1, (h2.1 k (fun z => hk (k2 k z))).2.trans (h1.1 k (fun z => hk (k1 k z))).2⟩, fun hk => (h2.2.1 (fun z => hk (k2 _ z))).trans (h1.2.1 (fun z => hk (k1 _ z))), fun hk => (h2.2.2 (fun z => hk (k2 _ z))).trans (h1.2.2 (fun z => hk (k1 _ z)))⟩
theorem Sm.tr {K : Nat → Prop} {w w1 w2 : Wd} (h1 : Sm K w w1) (h2 : Sm K w1 w2) : Sm K w w2 := h1.trans h2 (fun _ h => h) (fun _ h => h)
theorem Sm.mono {K K1 : Nat → Prop} {w w1 : Wd} (h1 : Sm K1 w w1) (k1 : ∀ k, K1 k → K k) : Sm K w w1 := h1.trans (Sm.refl w1) k1 (fun _ h => h)
theorem Sm.wI {K : Nat → Prop} (w : Wd) {k i : Nat} {v : Int32} (h : K k) : Sm K w (uI w k i v) :=
  ⟨fun k2 hk => ⟨by funext j; rw [gI_uI, if_neg (fun (z : k2 = k ∧ j = i) => hk (by rw [z.1]; exact h))], rfl⟩, fun _ => rfl, fun _ => rfl⟩
theorem Sm.wL {K : Nat → Prop} (w : Wd) {k i : Nat} {v : Int64} (h : K k) : Sm K w (uL w k i v) :=
  ⟨fun k2 hk => ⟨rfl, by funext j; rw [gL_uL, if_neg (fun (z : k2 = k ∧ j = i) => hk (by rw [z.1]; exact h))]⟩, fun _ => rfl, fun _ => rfl⟩
theorem Sm.iK {K : Nat → Prop} {w w' : Wd} (h : Sm K w w') {k : Nat} (hk : ¬ K k) (i : Nat) : gI w' k i = gI w k i := congrFun (h.1 k hk).1 i
theorem Sm.lK {K : Nat → Prop} {w w' : Wd} (h : Sm K w w') {k : Nat} (hk : ¬ K k) (i : Nat) : gL w' k i = gL w k i := congrFun (h.1 k hk).2 i
theorem CSt.kept {w w' : Wd} {b : Nat} {S : Ab} (h : CSt w b S) (e : ∀ r, r < 11 → gI w' (b + r) = gI w (b + r) ∧ gL w' (b + r) = gL w (b + r)) : CSt w' b S := by
  unfold CSt at h ⊢
  rw [(e 1 (by decide)).1, (e 2 (by decide)).2, (e 3 (by decide)).1, (e 4 (by decide)).2, (e 5 (by decide)).1, (e 6 (by decide)).1, (e 7 (by decide)).1, (e 8 (by decide)).1, (e 9 (by decide)).1, (e 10 (by decide)).1, show gI w' b = gI w b from (e 0 (by decide)).1]
  exact h
section
variable {w : Wd} {S : Ab}
theorem c_t (h : CSt w 1 S) (i : Int) (h0 : 0 ≤ i) (h1 : i < 10) : gI w 2 i.toNat = jI (S (6 + i)) := (h.1 i h0 h1).1
theorem c_a (h : CSt w 1 S) (i : Int) (h0 : 0 ≤ i) (h1 : i < 10) : gL w 3 i.toNat = jL (S (16 + i)) := (h.1 i h0 h1).2.1
theorem c_o (h : CSt w 1 S) (i : Int) (h0 : 0 ≤ i) (h1 : i < 10) : gI w 4 i.toNat = jI (S (66 + i)) := (h.1 i h0 h1).2.2.1
theorem c_w (h : CSt w 1 S) (i : Int) (h0 : 0 ≤ i) (h1 : i < 10) (h2 : S (66 + i) = 1) : gL w 5 i.toNat = jL (S (76 + i)) := (h.1 i h0 h1).2.2.2.1 h2
theorem c_r (h : CSt w 1 S) (i : Int) (h0 : 0 ≤ i) (h1 : i < 10) : gI w 6 i.toNat = jI (S (56 + i)) := (h.1 i h0 h1).2.2.2.2.1
theorem c_s (h : CSt w 1 S) (i : Int) (h0 : 0 ≤ i) (h1 : i < 10) : gI w 7 i.toNat = jI (S (26 + i)) := (h.1 i h0 h1).2.2.2.2.2.1
theorem c_n (h : CSt w 1 S) (i : Int) (h0 : 0 ≤ i) (h1 : i < 10) : gI w 8 i.toNat = jI (S (36 + i)) := (h.1 i h0 h1).2.2.2.2.2.2.1
theorem c_v (h : CSt w 1 S) (i : Int) (h0 : 0 ≤ i) (h1 : i < 10) : gI w 9 i.toNat = jI (S (46 + i)) := (h.1 i h0 h1).2.2.2.2.2.2.2
theorem c_j (h : CSt w 1 S) (k : Int) (h0 : 0 ≤ k) (h1 : k < 100) : gI w 10 k.toNat = jI (jk (S (92 + k))) := h.2.1 k h0 h1
theorem c_jt (h : CSt w 1 S) (a b : Int) (h0 : 0 ≤ a) (h1 : a < 10) (h2 : 0 ≤ b) (h3 : b < 10) : gI w 10 (a * 10 + b).toNat = jI (jk (S (92 + 10 * a + b))) := by
  rw [c_j h _ (by omega) (by omega), show 92 + (a * 10 + b) = 92 + 10 * a + b by omega]
theorem c_c (h : CSt w 1 S) (i : Int) (h0 : 0 ≤ i) (h1 : i < 6) : gI w 11 i.toNat = jI (S (86 + i)) := h.2.2.1 i h0 h1
theorem c_g (h : CSt w 1 S) : gI w 1 10 = jI (S 0) := h.2.2.2.1
theorem c_m (h : CSt w 1 S) : gI w 1 11 = jI (jc S / 2) := h.2.2.2.2.1
theorem c_p (h : CSt w 1 S) : gI w 1 12 = jI (S 1) := h.2.2.2.2.2.1
theorem c_d (h : CSt w 1 S) : gI w 1 13 = jI (S 2) := h.2.2.2.2.2.2.1
theorem c_wd (h : CSt w 1 S) : gI w 1 14 = jI (S 3) := h.2.2.2.2.2.2.2.1
theorem c_tk (h : CSt w 1 S) : gI w 1 15 = jI (S 4) := h.2.2.2.2.2.2.2.2.1
theorem c_rl (h : CSt w 1 S) : gI w 1 16 = jI (S 5) := h.2.2.2.2.2.2.2.2.2
theorem r_g (h : RSt w 142 0 S) (z : Int) (h0 : 0 ≤ z) (h1 : z < 192) : gL w 142 z.toNat = jL (S z) := by
  have := h z h0 h1
  rw [Int.zero_add] at this
  exact this
end
def tooth (t : Int) : Prop := t = 6 ∨ t = 8 ∨ t = 10 ∨ t = 12 ∨ t = 15 ∨ t = 20 ∨ t = 24 ∨ t = 30 ∨ t = 40 ∨ t = 60
def Gg (S : Ab) (i : Int) : Prop := (i < S 0 → tooth (S (6 + i))) ∧ (S 0 ≤ i → S (6 + i) = 0 ∧ S (26 + i) = 0) ∧ (0 ≤ S (16 + i) ∧ S (16 + i) < 24883200000) ∧ (S (66 + i) = 0 ∨ S (66 + i) = 1) ∧ (S (66 + i) = 1 → 0 ≤ S (76 + i) ∧ S (76 + i) < 746496000000) ∧ (S (56 + i) = 0 ∨ S (56 + i) = 1) ∧ (S (46 + i) = 0 ∨ S (46 + i) = 1) ∧ (0 ≤ S (26 + i) ∧ S (26 + i) ≤ 200) ∧ (0 ≤ S (36 + i) ∧ S (36 + i) ≤ S (26 + i))
def Rl (S P : Ab) (a b : Int) : Prop := (S (92 + 10 * a + b) = 2 → P b = P a) ∧ (S (92 + 10 * a + b) = 1 → P b * S (6 + b) = -(P a * S (6 + a)))
def Pot (S P : Ab) : Prop := ∀ a, 0 ≤ a → a < 10 → P a ≠ 0 ∧ ∀ b, 0 ≤ b → b < 10 → Rl S P a b
def Gj (S : Ab) (a b : Int) : Prop := S (92 + 10 * a + b) = S (92 + 10 * b + a) ∧ (S (92 + 10 * a + b) = 0 ∨ S (92 + 10 * a + b) = 1 ∨ S (92 + 10 * a + b) = 2) ∧ (S (92 + 10 * a + b) ≠ 0 → a ≠ b ∧ a < S 0 ∧ b < S 0)
def Good (S : Ab) : Prop := (0 ≤ S 0 ∧ S 0 ≤ 10 ∧ 0 ≤ S 1 ∧ S 1 ≤ 6 ∧ 0 ≤ S 2 ∧ S 2 ≤ 99) ∧ (∀ i, 0 ≤ i → i < 10 → Gg S i) ∧ (∀ p, 0 ≤ p → p < S 1 → 0 ≤ S (86 + p) ∧ S (86 + p) < S 0) ∧ (∀ a b, 0 ≤ a → a < 10 → 0 ≤ b → b < 10 → Gj S a b) ∧ (jc S ≤ 30 ∧ jc S % 2 = 0) ∧ sm (fun i => S (36 + i)) 10 = S 3 - S 4 ∧ ∃ P, Pot S P
theorem tooth_b {t : Int} (h : tooth t) : 6 ≤ t ∧ t ≤ 60 := by unfold tooth at h; omega
theorem tooth_d {t : Int} (h : tooth t) : ∃ s, t * s = 120 := by
  rcases h with rfl | rfl | rfl | rfl | rfl | rfl | rfl | rfl | rfl | rfl
  · exact ⟨20, rfl⟩
  · exact ⟨15, rfl⟩
  · exact ⟨12, rfl⟩
  · exact ⟨10, rfl⟩
  · exact ⟨8, rfl⟩
  · exact ⟨6, rfl⟩
  · exact ⟨5, rfl⟩
  · exact ⟨4, rfl⟩
  · exact ⟨3, rfl⟩
  · exact ⟨2, rfl⟩
theorem jk_b (z : Int) : 0 ≤ jk z ∧ jk z ≤ 109 := by unfold jk; split; decide; split <;> decide
theorem jk_0 {z : Int} : jk z = 0 ↔ z = 0 := by
  unfold jk
  by_cases h : z = 0
  · simp [h]
  · rw [if_neg h]; split <;> simp [h]
theorem jk_nar (z : Int) : vp_nar .char (jI (jk z)) = jI (jk z) := by
  unfold jk; split; rfl; split <;> rfl
theorem jc_lo (S : Ab) : 0 ≤ jc S := by
  have := sm_lo (g := fun k => if S (92 + k) = 0 then 0 else 1) (c := 0) (n := 100) (fun i _ _ => by split <;> decide)
  unfold jc
  omega
end
section
/-! TRAINS: what is reached from a gear, and the units there -/
def Reach (S : Ab) (d x : Int) : Prop := ∀ M : Int → Prop, M d → (∀ a b, 0 ≤ a → a < 10 → 0 ≤ b → b < 10 → M a → S (92 + 10 * a + b) ≠ 0 → M b) → M x
theorem Reach.refl (S : Ab) (d : Int) : Reach S d d := fun _ h _ => h
theorem Reach.step {S : Ab} {d a b : Int} (h : Reach S d a) (h0 : 0 ≤ a) (h1 : a < 10) (h2 : 0 ≤ b) (h3 : b < 10) (hj : S (92 + 10 * a + b) ≠ 0) : Reach S d b := fun M hd hc => hc a b h0 h1 h2 h3 (h M hd hc) hj
/-- the units of a train -/
def IsTr (S : Ab) (d : Int) (u : Ab) : Prop := ∀ x, 0 ≤ x → x < 10 → (Reach S d x → u x ≠ 0 ∧ ∀ P, Pot S P → u x * P d = 24883200000 * P x) ∧ (¬ Reach S d x → u x = 0)
theorem IsTr.iff {S u : Ab} {d x : Int} (h : IsTr S d u) (h0 : 0 ≤ x) (h1 : x < 10) : u x ≠ 0 ↔ Reach S d x := by
  constructor
  · intro hu
    by_cases q : Reach S d x
    · exact q
    · exact absurd ((h x h0 h1).2 q) hu
  · exact fun q => ((h x h0 h1).1 q).1
theorem IsTr.uniq {S u v : Ab} {d : Int} (hG : ∃ P, Pot S P) (hd0 : 0 ≤ d) (hd1 : d < 10) (hu : IsTr S d u) (hv : IsTr S d v) : ∀ x, 0 ≤ x → x < 10 → u x = v x := by
  intro x h0 h1
  by_cases q : Reach S d x
  · obtain ⟨P, hP⟩ := hG
    have e1 := ((hu x h0 h1).1 q).2 P hP
    have e2 := ((hv x h0 h1).1 q).2 P hP
    exact Int.eq_of_mul_eq_mul_right (hP d hd0 hd1).1 (e1.trans e2.symm)
  · rw [(hu x h0 h1).2 q, (hv x h0 h1).2 q]
/-- how far from whole turns: the units of a gear that is reached as the n-th -/
def J (n : Nat) (u t : Int) : Prop := ∃ e : Nat, (2 * e + 1 ≤ n ∧ (120 : Int) ^ (5 - e) ∣ u ∧ (u.natAbs : Int) ≤ 24883200000 * 10 ^ e) ∨ (2 * e + 2 ≤ n ∧ (120 : Int) ^ (5 - e) ∣ u * t ∧ ((u * t).natAbs : Int) ≤ 1492992000000 * 10 ^ e)
theorem J.mono {n m : Nat} {u t : Int} (h : J n u t) (hm : n ≤ m) : J m u t := by
  obtain ⟨e, h | h⟩ := h
  · exact ⟨e, Or.inl ⟨by omega, h.2⟩⟩
  · exact ⟨e, Or.inr ⟨by omega, h.2⟩⟩
theorem J_root (t : Int) : J 1 24883200000 t := ⟨0, Or.inl ⟨by decide, by decide, by decide⟩⟩
theorem p120 {e : Nat} (h : e ≤ 4) : (120 : Int) ^ (5 - e) = 120 ^ (4 - e) * 120 := by
  rw [show 5 - e = (4 - e) + 1 by omega, Int.pow_succ]
theorem p10_le {e : Nat} (h : e ≤ 4) : (10 : Int) ^ e ≤ 10000 := by
  have : ∀ e : Nat, e < 5 → (10 : Int) ^ e ≤ 10000 := by decide
  exact this e (by omega)
theorem J_mesh {n : Nat} {u t t' v : Int} (hn : n ≤ 9) (ht : tooth t) (ht' : tooth t') (h : J n u t) (hv : v * t' = -(u * t)) : J (n + 1) v t' := by
  have b := tooth_b ht
  obtain ⟨e, ⟨h1, h2, h3⟩ | ⟨h1, h2, h3⟩⟩ := h
  · refine ⟨e, Or.inr ⟨by omega, ?_, ?_⟩⟩
    · rw [hv]; exact Int.dvd_neg.mpr (Int.dvd_trans h2 (Int.dvd_mul_right u t))
    · rw [hv, Int.natAbs_neg, Int.natAbs_mul, Int.natCast_mul]
      have h4 : (t.natAbs : Int) ≤ 60 := by omega
      calc (u.natAbs : Int) * (t.natAbs : Int) ≤ (24883200000 * 10 ^ e) * 60 := Int.mul_le_mul h3 h4 (by omega) (Int.mul_nonneg (by decide) (Int.le_of_lt (Int.pow_pos (by decide))))
        _ = 1492992000000 * 10 ^ e := by rw [Int.mul_right_comm, show (24883200000 : Int) * 60 = 1492992000000 from rfl]
  · refine ⟨e, Or.inr ⟨by omega, ?_, ?_⟩⟩
    · rw [hv]; exact Int.dvd_neg.mpr h2
    · rw [hv, Int.natAbs_neg]; exact h3
theorem J_dvd {n : Nat} {u t t' : Int} (hn : n ≤ 9) (ht' : tooth t') (h : J n u t) : t' ∣ u * t := by
  obtain ⟨s, hs⟩ := tooth_d ht'
  have h120 : t' ∣ 120 := ⟨s, hs.symm⟩
  obtain ⟨e, ⟨h1, h2, h3⟩ | ⟨h1, h2, h3⟩⟩ := h
  · rw [p120 (by omega)] at h2
    exact Int.dvd_trans (Int.dvd_trans h120 (Int.dvd_trans (Int.dvd_mul_left _ _) h2)) (Int.dvd_mul_right u t)
  · rw [p120 (by omega)] at h2
    exact Int.dvd_trans h120 (Int.dvd_trans (Int.dvd_mul_left _ _) h2)
theorem J_axle {n : Nat} {u t t' : Int} (hn : n ≤ 9) (ht : tooth t) (h : J n u t) : J (n + 1) u t' := by
  obtain ⟨s, hs⟩ := tooth_d ht
  have b := tooth_b ht
  obtain ⟨e, ⟨h1, h2, h3⟩ | ⟨h1, h2, h3⟩⟩ := h
  · exact ⟨e, Or.inl ⟨by omega, h2, h3⟩⟩
  · refine ⟨e + 1, Or.inl ⟨by omega, ?_, ?_⟩⟩
    · rw [p120 (by omega)] at h2
      have h4 : (120 : Int) ^ (4 - e) * 120 ∣ u * 120 := by
        have h5 := Int.dvd_trans h2 (Int.dvd_mul_right (u * t) s)
        rw [Int.mul_assoc u t s, hs] at h5
        exact h5
      rw [show 5 - (e + 1) = 4 - e by omega]
      exact Int.dvd_of_mul_dvd_mul_right (by decide) h4
    · rw [Int.natAbs_mul, Int.natCast_mul] at h3
      have h4 : (6 : Int) ≤ (t.natAbs : Int) := by omega
      have h5 : (u.natAbs : Int) * 6 ≤ (u.natAbs : Int) * (t.natAbs : Int) := Int.mul_le_mul_of_nonneg_left h4 (by omega)
      rw [Int.pow_succ]
      omega
theorem J_b {n : Nat} {u t : Int} (hn : n ≤ 10) (ht : tooth t) (h : J n u t) : -14929920000000000 ≤ u ∧ u ≤ 14929920000000000 ∧ -14929920000000000 ≤ u * t ∧ u * t ≤ 14929920000000000 := by
  have b := tooth_b ht
  obtain ⟨e, ⟨h1, h2, h3⟩ | ⟨h1, h2, h3⟩⟩ := h
  · have h4 := p10_le (e := e) (by omega)
    have h5 : (u.natAbs : Int) ≤ 248832000000000 := by omega
    have h6 : ((u * t).natAbs : Int) ≤ 248832000000000 * 60 := by
      rw [Int.natAbs_mul, Int.natCast_mul]
      exact Int.mul_le_mul h5 (by omega) (by omega) (by decide)
    omega
  · have h4 := p10_le (e := e) (by omega)
    have h5 : ((u * t).natAbs : Int) ≤ 14929920000000000 := by omega
    have h6 : (u.natAbs : Int) * 1 ≤ (u.natAbs : Int) * (t.natAbs : Int) := Int.mul_le_mul_of_nonneg_left (by omega) (by omega)
    rw [← Int.natCast_mul, ← Int.natAbs_mul] at h6
    omega
/-- how many gears turn -/
def ct (u : Ab) : Int := sm (fun x => if u x = 0 then 0 else 1) 10
theorem ct_lo (u : Ab) : 0 ≤ ct u := by
  have := sm_lo (g := fun x => if u x = 0 then 0 else 1) (c := 0) (n := 10) (fun i _ _ => by split <;> decide)
  unfold ct; omega
theorem ct_hi (u : Ab) : ct u ≤ 10 := by
  have := sm_hi (g := fun x => if u x = 0 then 0 else 1) (c := 1) (n := 10) (fun i _ _ => by split <;> decide)
  unfold ct; omega
theorem ct_up {u : Ab} {x v : Int} (h0 : 0 ≤ x) (h1 : x < 10) (hu : u x = 0) (hv : v ≠ 0) : ct (up u x v) = ct u + 1 := by
  unfold ct
  rw [sm_up (g := fun y => if up u x v y = 0 then 0 else 1) (h := fun y => if u y = 0 then 0 else 1) (k := x) h0 h1 (fun i _ _ q => by show (if up u x v i = 0 then _ else _) = _; rw [up_ne q])]
  show _ + ((if up u x v x = 0 then 0 else 1) - (if u x = 0 then 0 else 1)) = _
  rw [up_eq, if_neg hv, if_pos hu]
  rfl
theorem ct_9 {u : Ab} {x : Int} (h0 : 0 ≤ x) (h1 : x < 10) (hu : u x = 0) : ct u ≤ 9 := by
  have h2 := ct_up (v := 1) h0 h1 hu (by decide)
  have h3 := ct_hi (up u x 1)
  omega
theorem ct_congr {u v : Ab} (h : ∀ x, 0 ≤ x → x < 10 → (u x = 0 ↔ v x = 0)) : ct u = ct v := by
  unfold ct
  refine sm_congr (fun i h0 h1 => ?_)
  show (if u i = 0 then 0 else 1) = (if v i = 0 then 0 else 1)
  have h2 := h i h0 h1
  by_cases q : u i = 0
  · rw [if_pos q, if_pos (h2.mp q)]
  · rw [if_neg q, if_neg (fun z => q (h2.mpr z))]
/-- what the search holds between two steps, whichever way it goes -/
def TI (S : Ab) (d : Int) (u : Ab) : Prop := u d ≠ 0 ∧ ∀ x, 0 ≤ x → x < 10 → u x ≠ 0 → x < S 0 ∧ Reach S d x ∧ J (ct u).toNat (u x) (S (6 + x)) ∧ ∀ P, Pot S P → u x * P d = 24883200000 * P x
/-- the units behind a joint -/
def Bh (S : Ab) (c a b : Int) : Int := if S (92 + 10 * a + b) = 2 then c else -(c * S (6 + a) / S (6 + b))
theorem TI.step {S : Ab} {d a b : Int} {u : Ab} (hG : Good S) (h : TI S d u) (ha0 : 0 ≤ a) (ha1 : a < 10) (hb0 : 0 ≤ b) (hb1 : b < 10) (hua : u a ≠ 0) (hub : u b = 0) (hj : S (92 + 10 * a + b) ≠ 0) :
    TI S d (up u b (Bh S (u a) a b)) ∧ Bh S (u a) a b ≠ 0 ∧ (S (92 + 10 * a + b) ≠ 2 → S (6 + b) ∣ u a * S (6 + a)) := by
  obtain ⟨hd, hx⟩ := h
  obtain ⟨x1, x2, x3, x4⟩ := hx a ha0 ha1 hua
  obtain ⟨j1, j2, j3⟩ := hG.2.2.2.1 a b ha0 ha1 hb0 hb1
  obtain ⟨j4, j5, j6⟩ := j3 hj
  have ta : tooth (S (6 + a)) := (hG.2.1 a ha0 ha1).1 j5
  have tb : tooth (S (6 + b)) := (hG.2.1 b hb0 hb1).1 j6
  have c9 := ct_9 hb0 hb1 hub
  have c0 := ct_lo u
  have hdv : S (6 + b) ∣ u a * S (6 + a) := J_dvd (by omega) tb x3
  have hta := tooth_b ta
  have htb := tooth_b tb
  obtain ⟨q, hq⟩ := hdv
  have hdiv : u a * S (6 + a) / S (6 + b) = q := by rw [hq]; exact Int.mul_ediv_cancel_left q (by omega)
  have hmul : ∀ v : Int, v = -q → v * S (6 + b) = -(u a * S (6 + a)) := by
    intro v hv; rw [hv, hq, Int.neg_mul, Int.mul_comm q]
  have hne : Bh S (u a) a b ≠ 0 := by
    unfold Bh
    split
    · exact hua
    · rw [hdiv]
      intro z
      have h0 : q = 0 := by omega
      rw [h0, Int.mul_zero] at hq
      rcases Int.mul_eq_zero.mp hq with z1 | z1
      · exact hua z1
      · omega
  refine ⟨⟨?_, ?_⟩, hne, fun _ => ⟨q, hq⟩⟩
  · by_cases z : d = b
    · rw [z, up_eq]; exact hne
    · rw [up_ne z]; exact hd
  · intro x hx0 hx1 hux
    rw [ct_up hb0 hb1 hub hne, show (ct u + 1).toNat = (ct u).toNat + 1 by omega]
    by_cases z : x = b
    · subst z
      rw [up_eq]
      refine ⟨j6, x2.step ha0 ha1 hx0 hx1 hj, ?_, ?_⟩
      · unfold Bh
        split
        · exact J_axle (by omega) ta x3
        · rw [hdiv]; exact J_mesh (by omega) ta tb x3 (hmul _ rfl)
      · intro P hP
        have x5 := x4 P hP
        have r := (hP a ha0 ha1).2 x hx0 hx1
        unfold Bh
        split
        · rename_i k2
          rw [r.1 k2]; exact x5
        · rename_i k2
          rw [hdiv]
          have k1 : S (92 + 10 * a + x) = 1 := by omega
          have r1 := r.2 k1
          refine Int.eq_of_mul_eq_mul_right (show S (6 + x) ≠ 0 by omega) ?_
          have m1 := hmul (-q) rfl
          calc -q * P d * S (6 + x) = (-q * S (6 + x)) * P d := Int.mul_right_comm _ _ _
            _ = -(u a * S (6 + a)) * P d := by rw [m1]
            _ = -((u a * P d) * S (6 + a)) := by rw [Int.neg_mul, Int.mul_right_comm]
            _ = -((24883200000 * P a) * S (6 + a)) := by rw [x5]
            _ = 24883200000 * (-(P a * S (6 + a))) := by rw [Int.mul_assoc, Int.mul_neg]
            _ = 24883200000 * (P x * S (6 + x)) := by rw [r1]
            _ = 24883200000 * P x * S (6 + x) := (Int.mul_assoc _ _ _).symm
    · rw [up_ne z] at hux ⊢
      obtain ⟨y1, y2, y3, y4⟩ := hx x hx0 hx1 hux
      exact ⟨y1, y2, y3.mono (by omega), y4⟩
/-- closed: the units of the train -/
theorem TI.tr {S : Ab} {d : Int} {u : Ab} (h : TI S d u) (hd0 : 0 ≤ d) (hd1 : d < 10) (hc : ∀ a b, 0 ≤ a → a < 10 → 0 ≤ b → b < 10 → u a ≠ 0 → S (92 + 10 * a + b) ≠ 0 → u b ≠ 0) : IsTr S d u := by
  intro x h0 h1
  constructor
  · intro hr
    have hu : 0 ≤ x ∧ x < 10 ∧ u x ≠ 0 := hr (fun y => 0 ≤ y ∧ y < 10 ∧ u y ≠ 0) ⟨hd0, hd1, h.1⟩ (fun a b a0 a1 b0 b1 m j => ⟨b0, b1, hc a b a0 a1 b0 b1 m.2.2 j⟩)
    exact ⟨hu.2.2, (h.2 x h0 h1 hu.2.2).2.2.2⟩
  · intro hr
    by_cases z : u x = 0
    · exact z
    · exact absurd (h.2 x h0 h1 z).2.1 hr
end
section
/-! THE CLASS'S SEARCH -/
def KT (k : Nat) : Prop := k = 124 ∨ k = 125 ∨ k = 126
def CT (w : Wd) (u : Ab) (sz : Int) (m : Ab) : Prop := (∀ x : Int, 0 ≤ x → x < 10 → gL w 125 x.toNat = jL (u x)) ∧ gI w 124 2 = jI sz ∧ ∀ k : Int, 0 ≤ k → k < sz → gI w 126 k.toNat = jI (m k)
theorem s_reach {w : Wd} {u m : Ab} {sz g v : Int} (h : CT w u sz m) (hs : 0 ≤ sz) (hs9 : sz < 10) (g0 : 0 ≤ g) (g1 : g < 10) :
    ∃ w', f_X8_reach w (jI g) (jL v) = some w' ∧ Sm KT w w' ∧ CT w' (up u g v) (sz + 1) (up m sz g) := by
  obtain ⟨h1, h2, h3⟩ := h
  refine ⟨uI (uI (uL w 125 g.toNat (jL v)) 126 sz.toNat (jI g)) 124 2 (jI (sz + 1)), ?_, ?_, ?_, ?_, ?_⟩
  · unfold f_X8_reach
    simp (disch := omega) only [l32_0, l32_1, l32_2, l32_3, l32_4, l32_5, l32_6, l32_7, l32_8, l32_9, l32_10, l32_11, l32_12, l32_13, l32_14, l32_15, l32_16, l32_17, l32_18, l32_19, l32_20, l32_21, l32_22, l32_23, l32_24, l32_25, l32_26, l32_27, l32_28, l32_29, l32_30, l32_31, l32_32, l32_33, l32_34, l32_35, l32_36, l32_37, l32_38, l32_39, l32_40, l32_41, l32_42, l32_43, l32_44, l32_45, l32_46, l32_47, l32_48, l32_49, l32_50, l32_51, l32_52, l32_53, l32_54, l32_55, l32_56, l32_57, l32_58, l32_59, l32_60, l32_61, l32_62, l32_63, l32_64, l32_65, l32_66, l32_76, l32_86, l32_90, l32_92, l32_97, l32_98, l32_99, l32_100, l32_101, l32_102, l32_103, l32_104, l32_105, l32_106, l32_107, l32_108, l32_109, l32_110, l32_111, l32_112, l32_113, l32_114, l32_115, l32_116, l32_117, l32_118, l32_119, l32_120, l32_121, l32_122, l32_123, l32_124, l32_125, l32_126, l32_192, l32_200, l32_255, l32_999, l32_1000, l32_1344, l32_2147483639, l32_2147483647, l64_0, l64_1, l64_99, l64_999, l64_24883200000, l64_746496000000, jI_add, jI_sub, jI_mul, jI_neg, jL_add, jL_sub, jL_mul, jL_neg, jL_toI, jI_toL, jI_lt, jI_le, jI_eq, jL_lt, jL_le, jL_eq, inR_j, jI_clamp, nI_j, Option.bind_some, zc, u2, u3, u4, u5, wl, mo, if_pos, if_neg, ite_true, ite_false, gI_uL, gI_uI, h2]
  · exact ((Sm.wL w (Or.inr (Or.inl rfl))).tr (Sm.wI _ (Or.inr (Or.inr rfl)))).tr (Sm.wI _ (Or.inl rfl))
  · intro x x0 x1
    rw [gL_uI, gL_uI, gL_uL]
    by_cases z : x = g
    · rw [z, if_pos ⟨rfl, rfl⟩, up_eq]
    · rw [if_neg (by omega), up_ne z, h1 x x0 x1]
  · rw [gI_uI, if_pos ⟨rfl, rfl⟩]
  · intro k k0 k1
    rw [gI_uI, if_neg (by omega), gI_uI]
    by_cases z : k = sz
    · rw [z, if_pos ⟨rfl, rfl⟩, up_eq]
    · rw [if_neg (by omega), up_ne z, gI_uL, h3 k k0 (by omega)]
theorem s_jointOf {w : Wd} {S : Ab} (h : CSt w 1 S) {a b : Int} (a0 : 0 ≤ a) (a1 : a < 10) (b0 : 0 ≤ b) (b1 : b < 10) : f_X7_jointOf w (jI a) (jI b) = some (jI (jk (S (92 + 10 * a + b)))) := by
  unfold f_X7_jointOf
  simp (disch := omega) only [l32_0, l32_1, l32_2, l32_3, l32_4, l32_5, l32_6, l32_7, l32_8, l32_9, l32_10, l32_11, l32_12, l32_13, l32_14, l32_15, l32_16, l32_17, l32_18, l32_19, l32_20, l32_21, l32_22, l32_23, l32_24, l32_25, l32_26, l32_27, l32_28, l32_29, l32_30, l32_31, l32_32, l32_33, l32_34, l32_35, l32_36, l32_37, l32_38, l32_39, l32_40, l32_41, l32_42, l32_43, l32_44, l32_45, l32_46, l32_47, l32_48, l32_49, l32_50, l32_51, l32_52, l32_53, l32_54, l32_55, l32_56, l32_57, l32_58, l32_59, l32_60, l32_61, l32_62, l32_63, l32_64, l32_65, l32_66, l32_76, l32_86, l32_90, l32_92, l32_97, l32_98, l32_99, l32_100, l32_101, l32_102, l32_103, l32_104, l32_105, l32_106, l32_107, l32_108, l32_109, l32_110, l32_111, l32_112, l32_113, l32_114, l32_115, l32_116, l32_117, l32_118, l32_119, l32_120, l32_121, l32_122, l32_123, l32_124, l32_125, l32_126, l32_192, l32_200, l32_255, l32_999, l32_1000, l32_1344, l32_2147483639, l32_2147483647, l64_0, l64_1, l64_99, l64_999, l64_24883200000, l64_746496000000, jI_add, jI_sub, jI_mul, jI_neg, jL_add, jL_sub, jL_mul, jL_neg, jL_toI, jI_toL, jI_lt, jI_le, jI_eq, jL_lt, jL_le, jL_eq, inR_j, jI_clamp, nI_j, Option.bind_some, zc, u2, u3, u4, u5, wl, mo, if_pos, if_neg, ite_true, ite_false, c_jt h, jk_nar]
theorem s_unitsBehind {w : Wd} {S : Ab} (hG : Good S) (h : CSt w 1 S) {a b c : Int} (a0 : 0 ≤ a) (a1 : a < S 0) (b0 : 0 ≤ b) (b1 : b < S 0) (c1 : -14929920000000000 ≤ c * S (6 + a)) (c2 : c * S (6 + a) ≤ 14929920000000000) {k : Int} (hk : k = 0 ∨ k = 1 ∨ k = 2) :
    f_X7_unitsBehind w (jL c) (jI a) (jI b) (jI (jk k)) = some (jL (if k = 2 then c else -(c * S (6 + a) / S (6 + b)))) := by
  have hg := hG.1
  have ta := tooth_b ((hG.2.1 a a0 (by omega)).1 a1)
  have tb := tooth_b ((hG.2.1 b b0 (by omega)).1 b1)
  have hj := jk_b k
  have e1 : jk k = 97 ↔ k = 2 := by rcases hk with rfl | rfl | rfl <;> decide
  unfold f_X7_unitsBehind
  by_cases q : k = 2
  · rw [if_pos q, e1.mpr q, if_pos (show jI 97 = 97 from rfl)]
  · have q2 : jk k ≠ 97 := fun z => q (e1.mp z)
    rw [if_neg q]
    simp (disch := omega) only [l32_0, l32_1, l32_2, l32_3, l32_4, l32_5, l32_6, l32_7, l32_8, l32_9, l32_10, l32_11, l32_12, l32_13, l32_14, l32_15, l32_16, l32_17, l32_18, l32_19, l32_20, l32_21, l32_22, l32_23, l32_24, l32_25, l32_26, l32_27, l32_28, l32_29, l32_30, l32_31, l32_32, l32_33, l32_34, l32_35, l32_36, l32_37, l32_38, l32_39, l32_40, l32_41, l32_42, l32_43, l32_44, l32_45, l32_46, l32_47, l32_48, l32_49, l32_50, l32_51, l32_52, l32_53, l32_54, l32_55, l32_56, l32_57, l32_58, l32_59, l32_60, l32_61, l32_62, l32_63, l32_64, l32_65, l32_66, l32_76, l32_86, l32_90, l32_92, l32_97, l32_98, l32_99, l32_100, l32_101, l32_102, l32_103, l32_104, l32_105, l32_106, l32_107, l32_108, l32_109, l32_110, l32_111, l32_112, l32_113, l32_114, l32_115, l32_116, l32_117, l32_118, l32_119, l32_120, l32_121, l32_122, l32_123, l32_124, l32_125, l32_126, l32_192, l32_200, l32_255, l32_999, l32_1000, l32_1344, l32_2147483639, l32_2147483647, l64_0, l64_1, l64_99, l64_999, l64_24883200000, l64_746496000000, jI_add, jI_sub, jI_mul, jI_neg, jL_add, jL_sub, jL_mul, jL_neg, jL_toI, jI_toL, jI_lt, jI_le, jI_eq, jL_lt, jL_le, jL_eq, inR_j, jI_clamp, nI_j, Option.bind_some, zc, u2, u3, u4, u5, wl, mo, if_pos, if_neg, ite_true, ite_false, c_t h, s_quot]
theorem s_trace0 {w : Wd} {S : Ab} {d : Int} (hG : Good S) (h : CSt w 1 S) (d0 : 0 ≤ d) (d1 : d < S 0) :
    ∃ w', f_X8_trace w (jI d) = some w' ∧ Sm KT w w' ∧ ∃ u m, CT w' u (ct u) m ∧ IsTr S d u ∧ ∀ x, 0 ≤ x → x < 10 → -14929920000000000 ≤ u x ∧ u x ≤ 14929920000000000 := by
  have hg := hG.1
  have keep : ∀ {w w' : Wd}, CSt w 1 S → Sm KT w w' → CSt w' 1 S := by
    intro w w' h hs
    exact h.kept (fun r hr => hs.1 _ (by unfold KT; omega))
  -- the row of units is emptied
  obtain ⟨r, hr, hP⟩ := lp (fun n (s : Int32 × Wd) => p_X8_trace_2 n s.1 s.2) (fun i s => s.1 = jI i ∧ Sm KT w s.2 ∧ ∀ x : Int, 0 ≤ x → x < i → gL s.2 125 x.toNat = jL 0) 10 (fun r => ∃ q, r = .inl q ∧ Sm KT w q.2 ∧ ∀ x : Int, 0 ≤ x → x < 10 → gL q.2 125 x.toNat = jL 0)
    (fun i n s hi hI => by
      obtain ⟨y, v⟩ := s
      obtain ⟨rfl, hs, hx⟩ := hI
      refine Or.inl ⟨(jI ((i + 1 : Nat) : Int), uL v 125 i (jL 0)), ⟨rfl, hs.tr (Sm.wL v (Or.inr (Or.inl rfl))), fun x x0 x1 => ?_⟩, ?_⟩
      · show gL (uL v 125 i (jL 0)) 125 x.toNat = jL 0
        rw [gL_uL]
        by_cases z : x.toNat = i
        · rw [if_pos ⟨rfl, z⟩]
        · rw [if_neg (fun q => z q.2)]; exact hx x x0 (by omega)
      · show p_X8_trace_2 (n + 1) (jI i) v = p_X8_trace_2 n (jI ((i + 1 : Nat) : Int)) (uL v 125 i (jL 0))
        rw [p_X8_trace_2]
        simp (disch := omega) only [l32_0, l32_1, l32_2, l32_3, l32_4, l32_5, l32_6, l32_7, l32_8, l32_9, l32_10, l32_11, l32_12, l32_13, l32_14, l32_15, l32_16, l32_17, l32_18, l32_19, l32_20, l32_21, l32_22, l32_23, l32_24, l32_25, l32_26, l32_27, l32_28, l32_29, l32_30, l32_31, l32_32, l32_33, l32_34, l32_35, l32_36, l32_37, l32_38, l32_39, l32_40, l32_41, l32_42, l32_43, l32_44, l32_45, l32_46, l32_47, l32_48, l32_49, l32_50, l32_51, l32_52, l32_53, l32_54, l32_55, l32_56, l32_57, l32_58, l32_59, l32_60, l32_61, l32_62, l32_63, l32_64, l32_65, l32_66, l32_76, l32_86, l32_90, l32_92, l32_97, l32_98, l32_99, l32_100, l32_101, l32_102, l32_103, l32_104, l32_105, l32_106, l32_107, l32_108, l32_109, l32_110, l32_111, l32_112, l32_113, l32_114, l32_115, l32_116, l32_117, l32_118, l32_119, l32_120, l32_121, l32_122, l32_123, l32_124, l32_125, l32_126, l32_192, l32_200, l32_255, l32_999, l32_1000, l32_1344, l32_2147483639, l32_2147483647, l64_0, l64_1, l64_99, l64_999, l64_24883200000, l64_746496000000, jI_add, jI_sub, jI_mul, jI_neg, jL_add, jL_sub, jL_mul, jL_neg, jL_toI, jI_toL, jI_lt, jI_le, jI_eq, jL_lt, jL_le, jL_eq, inR_j, jI_clamp, nI_j, Option.bind_some, zc, u2, u3, u4, u5, wl, mo, if_pos, if_neg, ite_true, ite_false, Int.toNat_natCast]
        rfl)
    (fun n s hI => by
      obtain ⟨y, v⟩ := s
      obtain ⟨rfl, hs, hx⟩ := hI
      refine ⟨.inl (jI 10, v), ?_, (jI 10, v), rfl, hs, hx⟩
      show p_X8_trace_2 (n + 1) (jI ((10 : Nat) : Int)) v = _
      rw [p_X8_trace_2]
      simp (disch := omega) only [l32_0, l32_1, l32_2, l32_3, l32_4, l32_5, l32_6, l32_7, l32_8, l32_9, l32_10, l32_11, l32_12, l32_13, l32_14, l32_15, l32_16, l32_17, l32_18, l32_19, l32_20, l32_21, l32_22, l32_23, l32_24, l32_25, l32_26, l32_27, l32_28, l32_29, l32_30, l32_31, l32_32, l32_33, l32_34, l32_35, l32_36, l32_37, l32_38, l32_39, l32_40, l32_41, l32_42, l32_43, l32_44, l32_45, l32_46, l32_47, l32_48, l32_49, l32_50, l32_51, l32_52, l32_53, l32_54, l32_55, l32_56, l32_57, l32_58, l32_59, l32_60, l32_61, l32_62, l32_63, l32_64, l32_65, l32_66, l32_76, l32_86, l32_90, l32_92, l32_97, l32_98, l32_99, l32_100, l32_101, l32_102, l32_103, l32_104, l32_105, l32_106, l32_107, l32_108, l32_109, l32_110, l32_111, l32_112, l32_113, l32_114, l32_115, l32_116, l32_117, l32_118, l32_119, l32_120, l32_121, l32_122, l32_123, l32_124, l32_125, l32_126, l32_192, l32_200, l32_255, l32_999, l32_1000, l32_1344, l32_2147483639, l32_2147483647, l64_0, l64_1, l64_99, l64_999, l64_24883200000, l64_746496000000, jI_add, jI_sub, jI_mul, jI_neg, jL_add, jL_sub, jL_mul, jL_neg, jL_toI, jI_toL, jI_lt, jI_le, jI_eq, jL_lt, jL_le, jL_eq, inR_j, jI_clamp, nI_j, Option.bind_some, zc, u2, u3, u4, u5, wl, mo, if_pos, if_neg, ite_true, ite_false]
      rfl) 2000 0 (jI 0, w) (by omega) (by omega) ⟨rfl, Sm.refl w, fun x x0 x1 => by omega⟩
  obtain ⟨q, rfl, hs2, hz⟩ := hP
  obtain ⟨y1, w2⟩ := q
  have hr : p_X8_trace_2 2000 (jI 0) w = some (.inl (y1, w2)) := hr
  -- the first gear
  have hC0 : CT (uI w2 124 2 (jI 0)) (fun _ => 0) 0 (fun _ => 0) := by
    refine ⟨fun x x0 x1 => ?_, ?_, fun k k0 k1 => by omega⟩
    · rw [gL_uI]; exact hz x x0 x1
    · rw [gI_uI, if_pos ⟨rfl, rfl⟩]
  obtain ⟨w3, hr3, hs3, hC3⟩ := s_reach (v := 24883200000) hC0 (by decide) (by decide) d0 (by omega)
  have hs3 : Sm KT w w3 := hs2.tr ((Sm.wI _ (Or.inl rfl)).tr hs3)
  have ct1 : ct (up (fun _ => 0) d 24883200000) = 1 := by
    rw [ct_up d0 (by omega) rfl (by decide)]; rfl
  have T0 : TI S d (up (fun _ => 0) d 24883200000) := by
    refine ⟨by rw [up_eq]; decide, fun x x0 x1 hx => ?_⟩
    by_cases z : x = d
    · subst z
      rw [up_eq, ct1]
      exact ⟨d1, Reach.refl S x, J_root _, fun P _ => rfl⟩
    · rw [up_ne z] at hx; exact absurd rfl hx
  -- the search
  obtain ⟨r4, hr4, hP4⟩ := lp (fun n (s : Int32 × Wd) => p_X8_trace_36 n s.1 s.2)
    (fun i s => s.1 = jI i ∧ Sm KT w s.2 ∧ ∃ u m, CT s.2 u (ct u) m ∧ TI S d u ∧ (i : Int) ≤ ct u ∧ (∀ k : Int, 0 ≤ k → k < ct u → 0 ≤ m k ∧ m k < 10 ∧ u (m k) ≠ 0) ∧ (∀ x, 0 ≤ x → x < 10 → u x ≠ 0 → ∃ k : Int, 0 ≤ k ∧ k < ct u ∧ m k = x) ∧ ∀ k : Int, 0 ≤ k → k < i → ∀ b, 0 ≤ b → b < 10 → S (92 + 10 * m k + b) ≠ 0 → u b ≠ 0) 10
    (fun r => ∃ q, r = .inl q ∧ Sm KT w q.2 ∧ ∃ u m, CT q.2 u (ct u) m ∧ TI S d u ∧ ∀ a b, 0 ≤ a → a < 10 → 0 ≤ b → b < 10 → u a ≠ 0 → S (92 + 10 * a + b) ≠ 0 → u b ≠ 0)
    (fun i n s hi hI => by
      obtain ⟨y, v⟩ := s
      obtain ⟨rfl, hs, u, m, hC, hT, hic, hm1, hm2, hcl⟩ := hI
      have c10 := ct_hi u
      obtain ⟨e1, e2, e3⟩ := hC
      by_cases hlt : (i : Int) < ct u
      · -- a gear's neighbours
        obtain ⟨g0, g1, gu⟩ := hm1 i (by omega) hlt
        have gS := (hT.2 (m i) g0 g1 gu).1
        obtain ⟨r5, hr5, hP5⟩ := lp (fun n (s : Int32 × Wd) => p_X8_trace_61 (jI (m i)) n s.1 s.2)
          (fun j s => s.1 = jI j ∧ Sm KT w s.2 ∧ ∃ ux mx, CT s.2 ux (ct ux) mx ∧ TI S d ux ∧ ct u ≤ ct ux ∧ (∀ k : Int, 0 ≤ k → k < ct u → mx k = m k) ∧ (∀ x, u x ≠ 0 → ux x ≠ 0) ∧ (∀ k : Int, 0 ≤ k → k < ct ux → 0 ≤ mx k ∧ mx k < 10 ∧ ux (mx k) ≠ 0) ∧ (∀ x, 0 ≤ x → x < 10 → ux x ≠ 0 → ∃ k : Int, 0 ≤ k ∧ k < ct ux ∧ mx k = x) ∧ ∀ b : Int, 0 ≤ b → b < j → S (92 + 10 * m i + b) ≠ 0 → ux b ≠ 0) (S 0).toNat
          (fun r => ∃ q, r = .inl q ∧ Sm KT w q.2 ∧ ∃ ux mx, CT q.2 ux (ct ux) mx ∧ TI S d ux ∧ ct u ≤ ct ux ∧ (∀ k : Int, 0 ≤ k → k < ct u → mx k = m k) ∧ (∀ x, u x ≠ 0 → ux x ≠ 0) ∧ (∀ k : Int, 0 ≤ k → k < ct ux → 0 ≤ mx k ∧ mx k < 10 ∧ ux (mx k) ≠ 0) ∧ (∀ x, 0 ≤ x → x < 10 → ux x ≠ 0 → ∃ k : Int, 0 ≤ k ∧ k < ct ux ∧ mx k = x) ∧ ∀ b, 0 ≤ b → b < S 0 → S (92 + 10 * m i + b) ≠ 0 → ux b ≠ 0)
          (fun j n s hj hI => by
            obtain ⟨y, v⟩ := s
            obtain ⟨rfl, hs, ux, mx, hC, hT2, l1, l2, l3, l4, l5, l6⟩ := hI
            have hc := keep h hs
            have hC' := hC
            obtain ⟨f1, f2, f3⟩ := hC
            have jj := jk_b (S (92 + 10 * m i + j))
            have sj := s_jointOf hc g0 g1 (b := j) (by omega) (by omega)
            have d2 := hG.2.2.2.1 (m i) j g0 g1 (by omega) (by omega)
            by_cases q : S (92 + 10 * m i + j) = 0
            · refine Or.inl ⟨(jI ((j + 1 : Nat) : Int), v), ⟨rfl, hs, ux, mx, hC', hT2, l1, l2, l3, l4, l5, fun b b0 b1 => ?_⟩, ?_⟩
              · by_cases z : b = j
                · rw [z]; exact fun z2 => absurd q z2
                · exact l6 b b0 (by omega)
              · show p_X8_trace_61 (jI (m i)) (n + 1) (jI j) v = p_X8_trace_61 (jI (m i)) n (jI ((j + 1 : Nat) : Int)) v
                have q2 : jk (S (92 + 10 * m i + j)) = 0 := jk_0.mpr q
                rw [p_X8_trace_61]
                simp (disch := omega) only [l32_0, l32_1, l32_2, l32_3, l32_4, l32_5, l32_6, l32_7, l32_8, l32_9, l32_10, l32_11, l32_12, l32_13, l32_14, l32_15, l32_16, l32_17, l32_18, l32_19, l32_20, l32_21, l32_22, l32_23, l32_24, l32_25, l32_26, l32_27, l32_28, l32_29, l32_30, l32_31, l32_32, l32_33, l32_34, l32_35, l32_36, l32_37, l32_38, l32_39, l32_40, l32_41, l32_42, l32_43, l32_44, l32_45, l32_46, l32_47, l32_48, l32_49, l32_50, l32_51, l32_52, l32_53, l32_54, l32_55, l32_56, l32_57, l32_58, l32_59, l32_60, l32_61, l32_62, l32_63, l32_64, l32_65, l32_66, l32_76, l32_86, l32_90, l32_92, l32_97, l32_98, l32_99, l32_100, l32_101, l32_102, l32_103, l32_104, l32_105, l32_106, l32_107, l32_108, l32_109, l32_110, l32_111, l32_112, l32_113, l32_114, l32_115, l32_116, l32_117, l32_118, l32_119, l32_120, l32_121, l32_122, l32_123, l32_124, l32_125, l32_126, l32_192, l32_200, l32_255, l32_999, l32_1000, l32_1344, l32_2147483639, l32_2147483647, l64_0, l64_1, l64_99, l64_999, l64_24883200000, l64_746496000000, jI_add, jI_sub, jI_mul, jI_neg, jL_add, jL_sub, jL_mul, jL_neg, jL_toI, jI_toL, jI_lt, jI_le, jI_eq, jL_lt, jL_le, jL_eq, inR_j, jI_clamp, nI_j, Option.bind_some, zc, u2, u3, u4, u5, wl, mo, if_pos, if_neg, ite_true, ite_false, c_g hc, sj]
                rfl
            · have q2 : jk (S (92 + 10 * m i + j)) ≠ 0 := fun z => q (jk_0.mp z)
              by_cases q3 : ux j = 0
              · -- a new gear
                have hst := hT2.step hG g0 g1 (b := j) (by omega) (by omega) (l3 _ gu) q3 q
                have hb := hT2.2 (m i) g0 g1 (l3 _ gu)
                have c9 := ct_9 (x := j) (by omega) (by omega) q3
                have c0 := ct_lo ux
                have hJb := J_b (by omega) ((hG.2.1 (m i) g0 g1).1 gS) hb.2.2.1
                have sb := s_unitsBehind hG hc g0 gS (b := j) (by omega) (d2.2.2 q).2.2 hJb.2.2.1 hJb.2.2.2 d2.2.1
                obtain ⟨v6, hr6, hs6, hC6⟩ := s_reach (g := j) (v := Bh S (ux (m i)) (m i) j) hC' c0 (by omega) (by omega) (by omega)
                have cu := ct_up (u := ux) (x := j) (by omega) (by omega) q3 hst.2.1
                refine Or.inl ⟨(jI ((j + 1 : Nat) : Int), v6), ⟨rfl, hs.tr hs6, up ux j (Bh S (ux (m i)) (m i) j), up mx (ct ux) j, by rw [cu]; exact hC6, hst.1, by omega, fun k k0 k1 => by rw [up_ne (by omega)]; exact l2 k k0 k1, fun x hx => ?_, fun k k0 k1 => ?_, fun x x0 x1 hx => ?_, fun b b0 b1 hb2 => ?_⟩, ?_⟩
                · by_cases z : x = j
                  · rw [z, up_eq]; exact hst.2.1
                  · rw [up_ne z]; exact l3 x hx
                · by_cases z : k = ct ux
                  · rw [z, up_eq]; exact ⟨by omega, by omega, by rw [up_eq]; exact hst.2.1⟩
                  · rw [up_ne z]
                    obtain ⟨t1, t2, t3⟩ := l4 k k0 (by omega)
                    refine ⟨t1, t2, ?_⟩
                    by_cases z2 : mx k = j
                    · rw [z2, up_eq]; exact hst.2.1
                    · rw [up_ne z2]; exact t3
                · by_cases z : x = j
                  · exact ⟨ct ux, by omega, by omega, by rw [up_eq, z]⟩
                  · rw [up_ne z] at hx
                    obtain ⟨k, k0, k1, k2⟩ := l5 x x0 x1 hx
                    exact ⟨k, k0, by omega, by rw [up_ne (by omega)]; exact k2⟩
                · by_cases z : b = j
                  · rw [z, up_eq]; exact hst.2.1
                  · rw [up_ne z]; exact l6 b b0 (by omega) hb2
                · show p_X8_trace_61 (jI (m i)) (n + 1) (jI j) v = p_X8_trace_61 (jI (m i)) n (jI ((j + 1 : Nat) : Int)) v6
                  have sb2 : f_X7_unitsBehind v (jL (ux (m i))) (jI (m i)) (jI j) (jI (jk (S (92 + 10 * m i + j)))) = some (jL (Bh S (ux (m i)) (m i) j)) := sb
                  rw [p_X8_trace_61]
                  simp (disch := omega) only [l32_0, l32_1, l32_2, l32_3, l32_4, l32_5, l32_6, l32_7, l32_8, l32_9, l32_10, l32_11, l32_12, l32_13, l32_14, l32_15, l32_16, l32_17, l32_18, l32_19, l32_20, l32_21, l32_22, l32_23, l32_24, l32_25, l32_26, l32_27, l32_28, l32_29, l32_30, l32_31, l32_32, l32_33, l32_34, l32_35, l32_36, l32_37, l32_38, l32_39, l32_40, l32_41, l32_42, l32_43, l32_44, l32_45, l32_46, l32_47, l32_48, l32_49, l32_50, l32_51, l32_52, l32_53, l32_54, l32_55, l32_56, l32_57, l32_58, l32_59, l32_60, l32_61, l32_62, l32_63, l32_64, l32_65, l32_66, l32_76, l32_86, l32_90, l32_92, l32_97, l32_98, l32_99, l32_100, l32_101, l32_102, l32_103, l32_104, l32_105, l32_106, l32_107, l32_108, l32_109, l32_110, l32_111, l32_112, l32_113, l32_114, l32_115, l32_116, l32_117, l32_118, l32_119, l32_120, l32_121, l32_122, l32_123, l32_124, l32_125, l32_126, l32_192, l32_200, l32_255, l32_999, l32_1000, l32_1344, l32_2147483639, l32_2147483647, l64_0, l64_1, l64_99, l64_999, l64_24883200000, l64_746496000000, jI_add, jI_sub, jI_mul, jI_neg, jL_add, jL_sub, jL_mul, jL_neg, jL_toI, jI_toL, jI_lt, jI_le, jI_eq, jL_lt, jL_le, jL_eq, inR_j, jI_clamp, nI_j, Option.bind_some, zc, u2, u3, u4, u5, wl, mo, if_pos, if_neg, ite_true, ite_false, c_g hc, sj, f1, sb2, hr6]
                  rfl
              · have f4 := J_b (by have := ct_hi ux; omega) ((hG.2.1 j (by omega) (by omega)).1 (hT2.2 j (by omega) (by omega) q3).1) (hT2.2 j (by omega) (by omega) q3).2.2.1
                refine Or.inl ⟨(jI ((j + 1 : Nat) : Int), v), ⟨rfl, hs, ux, mx, hC', hT2, l1, l2, l3, l4, l5, fun b b0 b1 => ?_⟩, ?_⟩
                · by_cases z : b = j
                  · rw [z]; exact fun _ => q3
                  · exact l6 b b0 (by omega)
                · show p_X8_trace_61 (jI (m i)) (n + 1) (jI j) v = p_X8_trace_61 (jI (m i)) n (jI ((j + 1 : Nat) : Int)) v
                  rw [p_X8_trace_61]
                  simp (disch := omega) only [l32_0, l32_1, l32_2, l32_3, l32_4, l32_5, l32_6, l32_7, l32_8, l32_9, l32_10, l32_11, l32_12, l32_13, l32_14, l32_15, l32_16, l32_17, l32_18, l32_19, l32_20, l32_21, l32_22, l32_23, l32_24, l32_25, l32_26, l32_27, l32_28, l32_29, l32_30, l32_31, l32_32, l32_33, l32_34, l32_35, l32_36, l32_37, l32_38, l32_39, l32_40, l32_41, l32_42, l32_43, l32_44, l32_45, l32_46, l32_47, l32_48, l32_49, l32_50, l32_51, l32_52, l32_53, l32_54, l32_55, l32_56, l32_57, l32_58, l32_59, l32_60, l32_61, l32_62, l32_63, l32_64, l32_65, l32_66, l32_76, l32_86, l32_90, l32_92, l32_97, l32_98, l32_99, l32_100, l32_101, l32_102, l32_103, l32_104, l32_105, l32_106, l32_107, l32_108, l32_109, l32_110, l32_111, l32_112, l32_113, l32_114, l32_115, l32_116, l32_117, l32_118, l32_119, l32_120, l32_121, l32_122, l32_123, l32_124, l32_125, l32_126, l32_192, l32_200, l32_255, l32_999, l32_1000, l32_1344, l32_2147483639, l32_2147483647, l64_0, l64_1, l64_99, l64_999, l64_24883200000, l64_746496000000, jI_add, jI_sub, jI_mul, jI_neg, jL_add, jL_sub, jL_mul, jL_neg, jL_toI, jI_toL, jI_lt, jI_le, jI_eq, jL_lt, jL_le, jL_eq, inR_j, jI_clamp, nI_j, Option.bind_some, zc, u2, u3, u4, u5, wl, mo, if_pos, if_neg, ite_true, ite_false, c_g hc, sj, f1]
                  rfl)
          (fun n s hI => by
            obtain ⟨y, v⟩ := s
            obtain ⟨rfl, hs, ux, mx, hC, hT2, l1, l2, l3, l4, l5, l6⟩ := hI
            have hc := keep h hs
            refine ⟨.inl (jI (S 0), v), ?_, _, rfl, hs, ux, mx, hC, hT2, l1, l2, l3, l4, l5, fun b b0 b1 => l6 b b0 (by omega)⟩
            show p_X8_trace_61 (jI (m i)) (n + 1) (jI ((S 0).toNat : Int)) v = _
            rw [p_X8_trace_61, show ((S 0).toNat : Int) = S 0 by omega]
            simp (disch := omega) only [l32_0, l32_1, l32_2, l32_3, l32_4, l32_5, l32_6, l32_7, l32_8, l32_9, l32_10, l32_11, l32_12, l32_13, l32_14, l32_15, l32_16, l32_17, l32_18, l32_19, l32_20, l32_21, l32_22, l32_23, l32_24, l32_25, l32_26, l32_27, l32_28, l32_29, l32_30, l32_31, l32_32, l32_33, l32_34, l32_35, l32_36, l32_37, l32_38, l32_39, l32_40, l32_41, l32_42, l32_43, l32_44, l32_45, l32_46, l32_47, l32_48, l32_49, l32_50, l32_51, l32_52, l32_53, l32_54, l32_55, l32_56, l32_57, l32_58, l32_59, l32_60, l32_61, l32_62, l32_63, l32_64, l32_65, l32_66, l32_76, l32_86, l32_90, l32_92, l32_97, l32_98, l32_99, l32_100, l32_101, l32_102, l32_103, l32_104, l32_105, l32_106, l32_107, l32_108, l32_109, l32_110, l32_111, l32_112, l32_113, l32_114, l32_115, l32_116, l32_117, l32_118, l32_119, l32_120, l32_121, l32_122, l32_123, l32_124, l32_125, l32_126, l32_192, l32_200, l32_255, l32_999, l32_1000, l32_1344, l32_2147483639, l32_2147483647, l64_0, l64_1, l64_99, l64_999, l64_24883200000, l64_746496000000, jI_add, jI_sub, jI_mul, jI_neg, jL_add, jL_sub, jL_mul, jL_neg, jL_toI, jI_toL, jI_lt, jI_le, jI_eq, jL_lt, jL_le, jL_eq, inR_j, jI_clamp, nI_j, Option.bind_some, zc, u2, u3, u4, u5, wl, mo, if_pos, if_neg, ite_true, ite_false, c_g hc])
          2000 0 (jI 0, v) (by omega) (by omega) ⟨rfl, hs, u, m, ⟨e1, e2, e3⟩, hT, Int.le_refl _, fun _ _ _ => rfl, fun _ h => h, hm1, hm2, fun b b0 b1 => by omega⟩
        obtain ⟨q, rfl, hs5, ux, mx, hC2, hT2, l1, l2, l3, l4, l5, l6⟩ := hP5
        have hr5 : p_X8_trace_61 (jI (m i)) 2000 (jI 0) v = some (.inl q) := hr5
        refine Or.inl ⟨(jI ((i + 1 : Nat) : Int), q.2), ⟨rfl, hs5, ux, mx, hC2, hT2, by omega, l4, l5, fun k k0 k1 b b0 b1 hb => ?_⟩, ?_⟩
        · by_cases z : k = i
          · rw [z, l2 i (by omega) hlt] at hb
            have := (hG.2.2.2.1 (m i) b g0 g1 b0 b1).2.2 hb
            exact l6 b b0 this.2.2 hb
          · rw [l2 k k0 (by omega)] at hb
            exact l3 b (hcl k k0 (by omega) b b0 b1 hb)
        · show p_X8_trace_36 (n + 1) (jI i) v = p_X8_trace_36 n (jI ((i + 1 : Nat) : Int)) q.2
          have e4 := e3 i (by omega) hlt
          rw [p_X8_trace_36]
          simp (disch := omega) only [l32_0, l32_1, l32_2, l32_3, l32_4, l32_5, l32_6, l32_7, l32_8, l32_9, l32_10, l32_11, l32_12, l32_13, l32_14, l32_15, l32_16, l32_17, l32_18, l32_19, l32_20, l32_21, l32_22, l32_23, l32_24, l32_25, l32_26, l32_27, l32_28, l32_29, l32_30, l32_31, l32_32, l32_33, l32_34, l32_35, l32_36, l32_37, l32_38, l32_39, l32_40, l32_41, l32_42, l32_43, l32_44, l32_45, l32_46, l32_47, l32_48, l32_49, l32_50, l32_51, l32_52, l32_53, l32_54, l32_55, l32_56, l32_57, l32_58, l32_59, l32_60, l32_61, l32_62, l32_63, l32_64, l32_65, l32_66, l32_76, l32_86, l32_90, l32_92, l32_97, l32_98, l32_99, l32_100, l32_101, l32_102, l32_103, l32_104, l32_105, l32_106, l32_107, l32_108, l32_109, l32_110, l32_111, l32_112, l32_113, l32_114, l32_115, l32_116, l32_117, l32_118, l32_119, l32_120, l32_121, l32_122, l32_123, l32_124, l32_125, l32_126, l32_192, l32_200, l32_255, l32_999, l32_1000, l32_1344, l32_2147483639, l32_2147483647, l64_0, l64_1, l64_99, l64_999, l64_24883200000, l64_746496000000, jI_add, jI_sub, jI_mul, jI_neg, jL_add, jL_sub, jL_mul, jL_neg, jL_toI, jI_toL, jI_lt, jI_le, jI_eq, jL_lt, jL_le, jL_eq, inR_j, jI_clamp, nI_j, Option.bind_some, zc, u2, u3, u4, u5, wl, mo, if_pos, if_neg, ite_true, ite_false, e2, e4, hr5]
          rfl
      · refine Or.inr ⟨.inl (jI i, v), ?_, _, rfl, hs, u, m, ⟨e1, e2, e3⟩, hT, fun a b a0 a1 b0 b1 ha hab => ?_⟩
        · show p_X8_trace_36 (n + 1) (jI i) v = _
          rw [p_X8_trace_36]
          simp (disch := omega) only [l32_0, l32_1, l32_2, l32_3, l32_4, l32_5, l32_6, l32_7, l32_8, l32_9, l32_10, l32_11, l32_12, l32_13, l32_14, l32_15, l32_16, l32_17, l32_18, l32_19, l32_20, l32_21, l32_22, l32_23, l32_24, l32_25, l32_26, l32_27, l32_28, l32_29, l32_30, l32_31, l32_32, l32_33, l32_34, l32_35, l32_36, l32_37, l32_38, l32_39, l32_40, l32_41, l32_42, l32_43, l32_44, l32_45, l32_46, l32_47, l32_48, l32_49, l32_50, l32_51, l32_52, l32_53, l32_54, l32_55, l32_56, l32_57, l32_58, l32_59, l32_60, l32_61, l32_62, l32_63, l32_64, l32_65, l32_66, l32_76, l32_86, l32_90, l32_92, l32_97, l32_98, l32_99, l32_100, l32_101, l32_102, l32_103, l32_104, l32_105, l32_106, l32_107, l32_108, l32_109, l32_110, l32_111, l32_112, l32_113, l32_114, l32_115, l32_116, l32_117, l32_118, l32_119, l32_120, l32_121, l32_122, l32_123, l32_124, l32_125, l32_126, l32_192, l32_200, l32_255, l32_999, l32_1000, l32_1344, l32_2147483639, l32_2147483647, l64_0, l64_1, l64_99, l64_999, l64_24883200000, l64_746496000000, jI_add, jI_sub, jI_mul, jI_neg, jL_add, jL_sub, jL_mul, jL_neg, jL_toI, jI_toL, jI_lt, jI_le, jI_eq, jL_lt, jL_le, jL_eq, inR_j, jI_clamp, nI_j, Option.bind_some, zc, u2, u3, u4, u5, wl, mo, if_pos, if_neg, ite_true, ite_false, e2]
        · obtain ⟨k, k0, k1, rfl⟩ := hm2 a a0 a1 ha
          exact hcl k k0 (by omega) b b0 b1 hab)
    (fun n s hI => by
      obtain ⟨y, v⟩ := s
      obtain ⟨rfl, hs, u, m, ⟨e1, e2, e3⟩, hT, hic, hm1, hm2, hcl⟩ := hI
      have c10 := ct_hi u
      refine ⟨.inl (jI ((10 : Nat) : Int), v), ?_, _, rfl, hs, u, m, ⟨e1, e2, e3⟩, hT, fun a b a0 a1 b0 b1 ha hab => ?_⟩
      · show p_X8_trace_36 (n + 1) (jI ((10 : Nat) : Int)) v = _
        rw [p_X8_trace_36]
        simp (disch := omega) only [l32_0, l32_1, l32_2, l32_3, l32_4, l32_5, l32_6, l32_7, l32_8, l32_9, l32_10, l32_11, l32_12, l32_13, l32_14, l32_15, l32_16, l32_17, l32_18, l32_19, l32_20, l32_21, l32_22, l32_23, l32_24, l32_25, l32_26, l32_27, l32_28, l32_29, l32_30, l32_31, l32_32, l32_33, l32_34, l32_35, l32_36, l32_37, l32_38, l32_39, l32_40, l32_41, l32_42, l32_43, l32_44, l32_45, l32_46, l32_47, l32_48, l32_49, l32_50, l32_51, l32_52, l32_53, l32_54, l32_55, l32_56, l32_57, l32_58, l32_59, l32_60, l32_61, l32_62, l32_63, l32_64, l32_65, l32_66, l32_76, l32_86, l32_90, l32_92, l32_97, l32_98, l32_99, l32_100, l32_101, l32_102, l32_103, l32_104, l32_105, l32_106, l32_107, l32_108, l32_109, l32_110, l32_111, l32_112, l32_113, l32_114, l32_115, l32_116, l32_117, l32_118, l32_119, l32_120, l32_121, l32_122, l32_123, l32_124, l32_125, l32_126, l32_192, l32_200, l32_255, l32_999, l32_1000, l32_1344, l32_2147483639, l32_2147483647, l64_0, l64_1, l64_99, l64_999, l64_24883200000, l64_746496000000, jI_add, jI_sub, jI_mul, jI_neg, jL_add, jL_sub, jL_mul, jL_neg, jL_toI, jI_toL, jI_lt, jI_le, jI_eq, jL_lt, jL_le, jL_eq, inR_j, jI_clamp, nI_j, Option.bind_some, zc, u2, u3, u4, u5, wl, mo, if_pos, if_neg, ite_true, ite_false, e2]
      · obtain ⟨k, k0, k1, rfl⟩ := hm2 a a0 a1 ha
        exact hcl k k0 (by omega) b b0 b1 hab)
    2000 0 (jI 0, w3) (by omega) (by omega)
    ⟨rfl, hs3, up (fun _ => 0) d 24883200000, up (fun _ => 0) 0 d, by rw [ct1]; exact hC3, T0, by rw [ct1]; decide, fun k k0 k1 => by
      rw [ct1] at k1
      rw [show k = 0 by omega, up_eq, up_eq]
      exact ⟨d0, by omega, by decide⟩, fun x x0 x1 hx => ⟨0, by decide, by rw [ct1]; decide, by
      rw [up_eq]
      by_cases z : x = d
      · exact z.symm
      · rw [up_ne z] at hx; exact absurd rfl hx⟩, fun k k0 k1 => by omega⟩
  obtain ⟨q4, rfl, hs4, u, m, hC4, hT4, hcl⟩ := hP4
  have hr4 : p_X8_trace_36 2000 (jI 0) w3 = some (.inl q4) := hr4
  have hr3 : f_X8_reach (uI w2 124 2 (jI 0)) (jI d) (jL 24883200000) = some w3 := hr3
  refine ⟨q4.2, ?_, hs4, u, m, hC4, hT4.tr d0 (by omega) hcl, fun x x0 x1 => ?_⟩
  · unfold f_X8_trace
    simp (disch := omega) only [l32_0, l32_1, l32_2, l32_3, l32_4, l32_5, l32_6, l32_7, l32_8, l32_9, l32_10, l32_11, l32_12, l32_13, l32_14, l32_15, l32_16, l32_17, l32_18, l32_19, l32_20, l32_21, l32_22, l32_23, l32_24, l32_25, l32_26, l32_27, l32_28, l32_29, l32_30, l32_31, l32_32, l32_33, l32_34, l32_35, l32_36, l32_37, l32_38, l32_39, l32_40, l32_41, l32_42, l32_43, l32_44, l32_45, l32_46, l32_47, l32_48, l32_49, l32_50, l32_51, l32_52, l32_53, l32_54, l32_55, l32_56, l32_57, l32_58, l32_59, l32_60, l32_61, l32_62, l32_63, l32_64, l32_65, l32_66, l32_76, l32_86, l32_90, l32_92, l32_97, l32_98, l32_99, l32_100, l32_101, l32_102, l32_103, l32_104, l32_105, l32_106, l32_107, l32_108, l32_109, l32_110, l32_111, l32_112, l32_113, l32_114, l32_115, l32_116, l32_117, l32_118, l32_119, l32_120, l32_121, l32_122, l32_123, l32_124, l32_125, l32_126, l32_192, l32_200, l32_255, l32_999, l32_1000, l32_1344, l32_2147483639, l32_2147483647, l64_0, l64_1, l64_99, l64_999, l64_24883200000, l64_746496000000, jI_add, jI_sub, jI_mul, jI_neg, jL_add, jL_sub, jL_mul, jL_neg, jL_toI, jI_toL, jI_lt, jI_le, jI_eq, jL_lt, jL_le, jL_eq, inR_j, jI_clamp, nI_j, Option.bind_some, zc, u2, u3, u4, u5, wl, mo, if_pos, if_neg, ite_true, ite_false, hr, hr3, hr4]
  · by_cases z : u x = 0
    · rw [z]; omega
    · have hx := hT4.2 x x0 x1 z
      have := J_b (by have := ct_hi u; omega) ((hG.2.1 x x0 x1).1 hx.1) hx.2.2.1
      omega
end
section
/-! THE REFERENCE'S SEARCH -/
def KU (k : Nat) : Prop := k = 148 ∨ k = 149
def RT (w : Wd) (u : Ab) : Prop := ∀ x : Int, 0 ≤ x → x < 10 → gL w 148 x.toNat = jL (u x) ∧ gI w 149 x.toNat = jI (bZ (u x ≠ 0))
theorem rt_u {w : Wd} {u : Ab} (h : RT w u) (x : Int) (h0 : 0 ≤ x) (h1 : x < 10) : gL w 148 x.toNat = jL (u x) := (h x h0 h1).1
theorem rt_k {w : Wd} {u : Ab} (h : RT w u) (x : Int) (h0 : 0 ≤ x) (h1 : x < 10) : gI w 149 x.toNat = jI (bZ (u x ≠ 0)) := (h x h0 h1).2
theorem RSt.kept {w w' : Wd} {k : Nat} {o : Int} {S : Ab} (h : RSt w k o S) (e : gL w' k = gL w k) : RSt w' k o S := fun z h0 h1 => by rw [e]; exact h z h0 h1
theorem s_at {w : Wd} {S : Ab} (h : RSt w 142 0 S) {z : Int} (h0 : 0 ≤ z) (h1 : z < 192) : f_X11_at w (jI z) = some (jI (S z)) := by
  unfold f_X11_at
  simp (disch := omega) only [l32_0, l32_1, l32_2, l32_3, l32_4, l32_5, l32_6, l32_7, l32_8, l32_9, l32_10, l32_11, l32_12, l32_13, l32_14, l32_15, l32_16, l32_17, l32_18, l32_19, l32_20, l32_21, l32_22, l32_23, l32_24, l32_25, l32_26, l32_27, l32_28, l32_29, l32_30, l32_31, l32_32, l32_33, l32_34, l32_35, l32_36, l32_37, l32_38, l32_39, l32_40, l32_41, l32_42, l32_43, l32_44, l32_45, l32_46, l32_47, l32_48, l32_49, l32_50, l32_51, l32_52, l32_53, l32_54, l32_55, l32_56, l32_57, l32_58, l32_59, l32_60, l32_61, l32_62, l32_63, l32_64, l32_65, l32_66, l32_76, l32_86, l32_90, l32_92, l32_97, l32_98, l32_99, l32_100, l32_101, l32_102, l32_103, l32_104, l32_105, l32_106, l32_107, l32_108, l32_109, l32_110, l32_111, l32_112, l32_113, l32_114, l32_115, l32_116, l32_117, l32_118, l32_119, l32_120, l32_121, l32_122, l32_123, l32_124, l32_125, l32_126, l32_192, l32_200, l32_255, l32_999, l32_1000, l32_1344, l32_2147483639, l32_2147483647, l64_0, l64_1, l64_99, l64_999, l64_24883200000, l64_746496000000, jI_add, jI_sub, jI_mul, jI_neg, jL_add, jL_sub, jL_mul, jL_neg, jL_toI, jI_toL, jI_lt, jI_le, jI_eq, jL_lt, jL_le, jL_eq, inR_j, jI_clamp, nI_j, Option.bind_some, zc, u2, u3, u4, u5, wl, mo, if_pos, if_neg, ite_true, ite_false, r_g h]
theorem s_rJoint {w : Wd} {S : Ab} (h : RSt w 142 0 S) {a b : Int} (a0 : 0 ≤ a) (a1 : a < 10) (b0 : 0 ≤ b) (b1 : b < 10) : f_X11_jointOf w (jI a) (jI b) = some (jI (S (92 + 10 * a + b))) := by
  unfold f_X11_jointOf
  simp (disch := omega) only [l32_0, l32_1, l32_2, l32_3, l32_4, l32_5, l32_6, l32_7, l32_8, l32_9, l32_10, l32_11, l32_12, l32_13, l32_14, l32_15, l32_16, l32_17, l32_18, l32_19, l32_20, l32_21, l32_22, l32_23, l32_24, l32_25, l32_26, l32_27, l32_28, l32_29, l32_30, l32_31, l32_32, l32_33, l32_34, l32_35, l32_36, l32_37, l32_38, l32_39, l32_40, l32_41, l32_42, l32_43, l32_44, l32_45, l32_46, l32_47, l32_48, l32_49, l32_50, l32_51, l32_52, l32_53, l32_54, l32_55, l32_56, l32_57, l32_58, l32_59, l32_60, l32_61, l32_62, l32_63, l32_64, l32_65, l32_66, l32_76, l32_86, l32_90, l32_92, l32_97, l32_98, l32_99, l32_100, l32_101, l32_102, l32_103, l32_104, l32_105, l32_106, l32_107, l32_108, l32_109, l32_110, l32_111, l32_112, l32_113, l32_114, l32_115, l32_116, l32_117, l32_118, l32_119, l32_120, l32_121, l32_122, l32_123, l32_124, l32_125, l32_126, l32_192, l32_200, l32_255, l32_999, l32_1000, l32_1344, l32_2147483639, l32_2147483647, l64_0, l64_1, l64_99, l64_999, l64_24883200000, l64_746496000000, jI_add, jI_sub, jI_mul, jI_neg, jL_add, jL_sub, jL_mul, jL_neg, jL_toI, jI_toL, jI_lt, jI_le, jI_eq, jL_lt, jL_le, jL_eq, inR_j, jI_clamp, nI_j, Option.bind_some, zc, u2, u3, u4, u5, wl, mo, if_pos, if_neg, ite_true, ite_false, s_at h]
theorem RT.put {w : Wd} {u : Ab} {b v : Int} (h : RT w u) (b0 : 0 ≤ b) (b1 : b < 10) (hv : v ≠ 0) : RT (uI (uL w 148 b.toNat (jL v)) 149 b.toNat (jI 1)) (up u b v) := by
  intro x x0 x1
  rw [gL_uI, gL_uL, gI_uI, gI_uL]
  by_cases z : x = b
  · rw [z, if_pos ⟨rfl, rfl⟩, if_pos ⟨rfl, rfl⟩, up_eq, bZ_pos hv]; exact ⟨rfl, rfl⟩
  · rw [if_neg (by omega), if_neg (by omega), up_ne z]; exact h x x0 x1
theorem s_passes {w : Wd} {S u : Ab} {d a b : Int} (hG : Good S) (hR : RSt w 142 0 S) (h : RT w u) (hT : TI S d u) (a0 : 0 ≤ a) (a1 : a < 10) (b0 : 0 ≤ b) (b1 : b < 10) :
    ∃ r w' u', f_X11_passes w (jI a) (jI b) = some (jI r, w') ∧ Sm KU w w' ∧ RT w' u' ∧ TI S d u' ∧ (∀ x, u x ≠ 0 → u' x ≠ 0) ∧ ((r = 0 ∧ u' = u ∧ (u a ≠ 0 → S (92 + 10 * a + b) ≠ 0 → u b ≠ 0)) ∨ (r = 1 ∧ ct u' = ct u + 1)) := by
  have hj := hG.2.2.2.1 a b a0 a1 b0 b1
  have hg := hG.1
  unfold f_X11_passes
  by_cases q1 : u a = 0
  · refine ⟨0, w, u, ?_, Sm.refl w, h, hT, fun _ h => h, Or.inl ⟨rfl, rfl, fun z => absurd q1 z⟩⟩
    simp (disch := omega) only [l32_0, l32_1, l32_2, l32_3, l32_4, l32_5, l32_6, l32_7, l32_8, l32_9, l32_10, l32_11, l32_12, l32_13, l32_14, l32_15, l32_16, l32_17, l32_18, l32_19, l32_20, l32_21, l32_22, l32_23, l32_24, l32_25, l32_26, l32_27, l32_28, l32_29, l32_30, l32_31, l32_32, l32_33, l32_34, l32_35, l32_36, l32_37, l32_38, l32_39, l32_40, l32_41, l32_42, l32_43, l32_44, l32_45, l32_46, l32_47, l32_48, l32_49, l32_50, l32_51, l32_52, l32_53, l32_54, l32_55, l32_56, l32_57, l32_58, l32_59, l32_60, l32_61, l32_62, l32_63, l32_64, l32_65, l32_66, l32_76, l32_86, l32_90, l32_92, l32_97, l32_98, l32_99, l32_100, l32_101, l32_102, l32_103, l32_104, l32_105, l32_106, l32_107, l32_108, l32_109, l32_110, l32_111, l32_112, l32_113, l32_114, l32_115, l32_116, l32_117, l32_118, l32_119, l32_120, l32_121, l32_122, l32_123, l32_124, l32_125, l32_126, l32_192, l32_200, l32_255, l32_999, l32_1000, l32_1344, l32_2147483639, l32_2147483647, l64_0, l64_1, l64_99, l64_999, l64_24883200000, l64_746496000000, jI_add, jI_sub, jI_mul, jI_neg, jL_add, jL_sub, jL_mul, jL_neg, jL_toI, jI_toL, jI_lt, jI_le, jI_eq, jL_lt, jL_le, jL_eq, inR_j, jI_clamp, nI_j, Option.bind_some, zc, u2, u3, u4, u5, wl, mo, if_pos, if_neg, ite_true, ite_false, rt_k h, bZ_eq0]
  · by_cases q2 : u b = 0
    · by_cases q3 : S (92 + 10 * a + b) = 0
      · refine ⟨0, w, u, ?_, Sm.refl w, h, hT, fun _ h => h, Or.inl ⟨rfl, rfl, fun _ z => absurd q3 z⟩⟩
        simp (disch := omega) only [l32_0, l32_1, l32_2, l32_3, l32_4, l32_5, l32_6, l32_7, l32_8, l32_9, l32_10, l32_11, l32_12, l32_13, l32_14, l32_15, l32_16, l32_17, l32_18, l32_19, l32_20, l32_21, l32_22, l32_23, l32_24, l32_25, l32_26, l32_27, l32_28, l32_29, l32_30, l32_31, l32_32, l32_33, l32_34, l32_35, l32_36, l32_37, l32_38, l32_39, l32_40, l32_41, l32_42, l32_43, l32_44, l32_45, l32_46, l32_47, l32_48, l32_49, l32_50, l32_51, l32_52, l32_53, l32_54, l32_55, l32_56, l32_57, l32_58, l32_59, l32_60, l32_61, l32_62, l32_63, l32_64, l32_65, l32_66, l32_76, l32_86, l32_90, l32_92, l32_97, l32_98, l32_99, l32_100, l32_101, l32_102, l32_103, l32_104, l32_105, l32_106, l32_107, l32_108, l32_109, l32_110, l32_111, l32_112, l32_113, l32_114, l32_115, l32_116, l32_117, l32_118, l32_119, l32_120, l32_121, l32_122, l32_123, l32_124, l32_125, l32_126, l32_192, l32_200, l32_255, l32_999, l32_1000, l32_1344, l32_2147483639, l32_2147483647, l64_0, l64_1, l64_99, l64_999, l64_24883200000, l64_746496000000, jI_add, jI_sub, jI_mul, jI_neg, jL_add, jL_sub, jL_mul, jL_neg, jL_toI, jI_toL, jI_lt, jI_le, jI_eq, jL_lt, jL_le, jL_eq, inR_j, jI_clamp, nI_j, Option.bind_some, zc, u2, u3, u4, u5, wl, mo, if_pos, if_neg, ite_true, ite_false, rt_k h, bZ_eq0, s_rJoint hR]
      · obtain ⟨t1, t2, t3⟩ := hT.step hG a0 a1 b0 b1 q1 q2 q3
        have x := hT.2 a a0 a1 q1
        have c9 := ct_9 b0 b1 q2
        have ta := (hG.2.1 a a0 a1).1 x.1
        have tb := tooth_b ((hG.2.1 b b0 b1).1 (hj.2.2 q3).2.2)
        have hb := J_b (by omega) ta x.2.2.1
        have ta := tooth_b ta
        refine ⟨1, uI (uL w 148 b.toNat (jL (Bh S (u a) a b))) 149 b.toNat (jI 1), up u b (Bh S (u a) a b), ?_, (Sm.wL w (Or.inl rfl)).tr (Sm.wI _ (Or.inr rfl)), h.put b0 b1 t2, t1, fun x hx => ?_, Or.inr ⟨rfl, ct_up b0 b1 q2 t2⟩⟩
        · by_cases q4 : S (92 + 10 * a + b) = 2
          · have e1 : Bh S (u a) a b = u a := if_pos q4
            rw [e1]
            simp (disch := omega) only [l32_0, l32_1, l32_2, l32_3, l32_4, l32_5, l32_6, l32_7, l32_8, l32_9, l32_10, l32_11, l32_12, l32_13, l32_14, l32_15, l32_16, l32_17, l32_18, l32_19, l32_20, l32_21, l32_22, l32_23, l32_24, l32_25, l32_26, l32_27, l32_28, l32_29, l32_30, l32_31, l32_32, l32_33, l32_34, l32_35, l32_36, l32_37, l32_38, l32_39, l32_40, l32_41, l32_42, l32_43, l32_44, l32_45, l32_46, l32_47, l32_48, l32_49, l32_50, l32_51, l32_52, l32_53, l32_54, l32_55, l32_56, l32_57, l32_58, l32_59, l32_60, l32_61, l32_62, l32_63, l32_64, l32_65, l32_66, l32_76, l32_86, l32_90, l32_92, l32_97, l32_98, l32_99, l32_100, l32_101, l32_102, l32_103, l32_104, l32_105, l32_106, l32_107, l32_108, l32_109, l32_110, l32_111, l32_112, l32_113, l32_114, l32_115, l32_116, l32_117, l32_118, l32_119, l32_120, l32_121, l32_122, l32_123, l32_124, l32_125, l32_126, l32_192, l32_200, l32_255, l32_999, l32_1000, l32_1344, l32_2147483639, l32_2147483647, l64_0, l64_1, l64_99, l64_999, l64_24883200000, l64_746496000000, jI_add, jI_sub, jI_mul, jI_neg, jL_add, jL_sub, jL_mul, jL_neg, jL_toI, jI_toL, jI_lt, jI_le, jI_eq, jL_lt, jL_le, jL_eq, inR_j, jI_clamp, nI_j, Option.bind_some, zc, u2, u3, u4, u5, wl, mo, if_pos, if_neg, ite_true, ite_false, rt_k h, rt_u h, bZ_eq0, s_rJoint hR]
            rfl
          · obtain ⟨q, hq⟩ := t3 q4
            have e1 : Bh S (u a) a b = -q := by
              unfold Bh
              rw [if_neg q4, hq, Int.mul_ediv_cancel_left q (by omega)]
            have e2 : (-u a * S (6 + a)).tdiv (S (6 + b)) = -q := by
              rw [Int.neg_mul, hq, ← Int.mul_neg, Int.mul_tdiv_cancel_left _ (by omega)]
            have e3 : -u a * S (6 + a) = -(u a * S (6 + a)) := Int.neg_mul _ _
            have hj2 : S (92 + 10 * a + b) = 1 := by have := hj.2.1; omega
            rw [e1]
            simp (disch := omega) only [l32_0, l32_1, l32_2, l32_3, l32_4, l32_5, l32_6, l32_7, l32_8, l32_9, l32_10, l32_11, l32_12, l32_13, l32_14, l32_15, l32_16, l32_17, l32_18, l32_19, l32_20, l32_21, l32_22, l32_23, l32_24, l32_25, l32_26, l32_27, l32_28, l32_29, l32_30, l32_31, l32_32, l32_33, l32_34, l32_35, l32_36, l32_37, l32_38, l32_39, l32_40, l32_41, l32_42, l32_43, l32_44, l32_45, l32_46, l32_47, l32_48, l32_49, l32_50, l32_51, l32_52, l32_53, l32_54, l32_55, l32_56, l32_57, l32_58, l32_59, l32_60, l32_61, l32_62, l32_63, l32_64, l32_65, l32_66, l32_76, l32_86, l32_90, l32_92, l32_97, l32_98, l32_99, l32_100, l32_101, l32_102, l32_103, l32_104, l32_105, l32_106, l32_107, l32_108, l32_109, l32_110, l32_111, l32_112, l32_113, l32_114, l32_115, l32_116, l32_117, l32_118, l32_119, l32_120, l32_121, l32_122, l32_123, l32_124, l32_125, l32_126, l32_192, l32_200, l32_255, l32_999, l32_1000, l32_1344, l32_2147483639, l32_2147483647, l64_0, l64_1, l64_99, l64_999, l64_24883200000, l64_746496000000, jI_add, jI_sub, jI_mul, jI_neg, jL_add, jL_sub, jL_mul, jL_neg, jL_toI, jI_toL, jI_lt, jI_le, jI_eq, jL_lt, jL_le, jL_eq, inR_j, jI_clamp, nI_j, Option.bind_some, zc, u2, u3, u4, u5, wl, mo, if_pos, if_neg, ite_true, ite_false, rt_k h, rt_u h, bZ_eq0, s_rJoint hR, r_g hR, jL_div, e2]
            rfl
        · by_cases z : x = b
          · rw [z, up_eq]; exact t2
          · rw [up_ne z]; exact hx
    · refine ⟨0, w, u, ?_, Sm.refl w, h, hT, fun _ h => h, Or.inl ⟨rfl, rfl, fun _ _ => q2⟩⟩
      simp (disch := omega) only [l32_0, l32_1, l32_2, l32_3, l32_4, l32_5, l32_6, l32_7, l32_8, l32_9, l32_10, l32_11, l32_12, l32_13, l32_14, l32_15, l32_16, l32_17, l32_18, l32_19, l32_20, l32_21, l32_22, l32_23, l32_24, l32_25, l32_26, l32_27, l32_28, l32_29, l32_30, l32_31, l32_32, l32_33, l32_34, l32_35, l32_36, l32_37, l32_38, l32_39, l32_40, l32_41, l32_42, l32_43, l32_44, l32_45, l32_46, l32_47, l32_48, l32_49, l32_50, l32_51, l32_52, l32_53, l32_54, l32_55, l32_56, l32_57, l32_58, l32_59, l32_60, l32_61, l32_62, l32_63, l32_64, l32_65, l32_66, l32_76, l32_86, l32_90, l32_92, l32_97, l32_98, l32_99, l32_100, l32_101, l32_102, l32_103, l32_104, l32_105, l32_106, l32_107, l32_108, l32_109, l32_110, l32_111, l32_112, l32_113, l32_114, l32_115, l32_116, l32_117, l32_118, l32_119, l32_120, l32_121, l32_122, l32_123, l32_124, l32_125, l32_126, l32_192, l32_200, l32_255, l32_999, l32_1000, l32_1344, l32_2147483639, l32_2147483647, l64_0, l64_1, l64_99, l64_999, l64_24883200000, l64_746496000000, jI_add, jI_sub, jI_mul, jI_neg, jL_add, jL_sub, jL_mul, jL_neg, jL_toI, jI_toL, jI_lt, jI_le, jI_eq, jL_lt, jL_le, jL_eq, inR_j, jI_clamp, nI_j, Option.bind_some, zc, u2, u3, u4, u5, wl, mo, if_pos, if_neg, ite_true, ite_false, rt_k h, bZ_eq0]
theorem s_turns {w : Wd} {S : Ab} {d : Int} (hG : Good S) (h : RSt w 142 0 S) (d0 : 0 ≤ d) (d1 : d < S 0) :
    ∃ w', f_X11_turns w (jI d) = some w' ∧ Sm KU w w' ∧ ∃ u, RT w' u ∧ IsTr S d u ∧ ∀ x, 0 ≤ x → x < 10 → -14929920000000000 ≤ u x ∧ u x ≤ 14929920000000000 := by
  have hg := hG.1
  have keep : ∀ {w w' : Wd}, RSt w 142 0 S → Sm KU w w' → RSt w' 142 0 S := by
    intro w w' h hs
    exact h.kept (hs.1 142 (by unfold KU; omega)).2
  obtain ⟨r, hr, hP⟩ := lp (fun n (s : Int32 × Wd) => p_X11_turns_2 (jI d) n s.1 s.2) (fun i s => s.1 = jI i ∧ Sm KU w s.2 ∧ ∀ x : Int, 0 ≤ x → x < i → gL s.2 148 x.toNat = jL (up (fun _ => 0) d 24883200000 x) ∧ gI s.2 149 x.toNat = jI (bZ (up (fun _ => 0) d 24883200000 x ≠ 0))) 10 (fun r => ∃ q, r = .inl q ∧ Sm KU w q.2 ∧ RT q.2 (up (fun _ => 0) d 24883200000))
    (fun i n s hi hI => by
      obtain ⟨y, v⟩ := s
      obtain ⟨rfl, hs, hx⟩ := hI
      by_cases q : (i : Int) = d
      · refine Or.inl ⟨(jI ((i + 1 : Nat) : Int), uL (uI v 149 i (jI 1)) 148 i (jL 24883200000)), ⟨rfl, (hs.tr (Sm.wI v (Or.inr rfl))).tr (Sm.wL _ (Or.inl rfl)), fun x x0 x1 => ?_⟩, ?_⟩
        · show gL (uL (uI v 149 i (jI 1)) 148 i (jL 24883200000)) 148 x.toNat = _ ∧ gI (uL (uI v 149 i (jI 1)) 148 i (jL 24883200000)) 149 x.toNat = _
          rw [gL_uL, gI_uL, gI_uI]
          by_cases z : x = i
          · rw [z, Int.toNat_natCast, if_pos ⟨rfl, rfl⟩, if_pos ⟨rfl, rfl⟩, q, up_eq]; exact ⟨rfl, rfl⟩
          · rw [if_neg (by omega), if_neg (by omega)]; exact hx x x0 (by omega)
        · show p_X11_turns_2 (jI d) (n + 1) (jI i) v = p_X11_turns_2 (jI d) n (jI ((i + 1 : Nat) : Int)) (uL (uI v 149 i (jI 1)) 148 i (jL 24883200000))
          rw [p_X11_turns_2]
          simp (disch := omega) only [l32_0, l32_1, l32_2, l32_3, l32_4, l32_5, l32_6, l32_7, l32_8, l32_9, l32_10, l32_11, l32_12, l32_13, l32_14, l32_15, l32_16, l32_17, l32_18, l32_19, l32_20, l32_21, l32_22, l32_23, l32_24, l32_25, l32_26, l32_27, l32_28, l32_29, l32_30, l32_31, l32_32, l32_33, l32_34, l32_35, l32_36, l32_37, l32_38, l32_39, l32_40, l32_41, l32_42, l32_43, l32_44, l32_45, l32_46, l32_47, l32_48, l32_49, l32_50, l32_51, l32_52, l32_53, l32_54, l32_55, l32_56, l32_57, l32_58, l32_59, l32_60, l32_61, l32_62, l32_63, l32_64, l32_65, l32_66, l32_76, l32_86, l32_90, l32_92, l32_97, l32_98, l32_99, l32_100, l32_101, l32_102, l32_103, l32_104, l32_105, l32_106, l32_107, l32_108, l32_109, l32_110, l32_111, l32_112, l32_113, l32_114, l32_115, l32_116, l32_117, l32_118, l32_119, l32_120, l32_121, l32_122, l32_123, l32_124, l32_125, l32_126, l32_192, l32_200, l32_255, l32_999, l32_1000, l32_1344, l32_2147483639, l32_2147483647, l64_0, l64_1, l64_99, l64_999, l64_24883200000, l64_746496000000, jI_add, jI_sub, jI_mul, jI_neg, jL_add, jL_sub, jL_mul, jL_neg, jL_toI, jI_toL, jI_lt, jI_le, jI_eq, jL_lt, jL_le, jL_eq, inR_j, jI_clamp, nI_j, Option.bind_some, zc, u2, u3, u4, u5, wl, mo, if_pos, if_neg, ite_true, ite_false, Int.toNat_natCast]
          rfl
      · refine Or.inl ⟨(jI ((i + 1 : Nat) : Int), uL (uI v 149 i (jI 0)) 148 i (jL 0)), ⟨rfl, (hs.tr (Sm.wI v (Or.inr rfl))).tr (Sm.wL _ (Or.inl rfl)), fun x x0 x1 => ?_⟩, ?_⟩
        · show gL (uL (uI v 149 i (jI 0)) 148 i (jL 0)) 148 x.toNat = _ ∧ gI (uL (uI v 149 i (jI 0)) 148 i (jL 0)) 149 x.toNat = _
          rw [gL_uL, gI_uL, gI_uI]
          by_cases z : x = i
          · rw [z, Int.toNat_natCast, if_pos ⟨rfl, rfl⟩, if_pos ⟨rfl, rfl⟩, up_ne q]; exact ⟨rfl, rfl⟩
          · rw [if_neg (by omega), if_neg (by omega)]; exact hx x x0 (by omega)
        · show p_X11_turns_2 (jI d) (n + 1) (jI i) v = p_X11_turns_2 (jI d) n (jI ((i + 1 : Nat) : Int)) (uL (uI v 149 i (jI 0)) 148 i (jL 0))
          rw [p_X11_turns_2]
          simp (disch := omega) only [l32_0, l32_1, l32_2, l32_3, l32_4, l32_5, l32_6, l32_7, l32_8, l32_9, l32_10, l32_11, l32_12, l32_13, l32_14, l32_15, l32_16, l32_17, l32_18, l32_19, l32_20, l32_21, l32_22, l32_23, l32_24, l32_25, l32_26, l32_27, l32_28, l32_29, l32_30, l32_31, l32_32, l32_33, l32_34, l32_35, l32_36, l32_37, l32_38, l32_39, l32_40, l32_41, l32_42, l32_43, l32_44, l32_45, l32_46, l32_47, l32_48, l32_49, l32_50, l32_51, l32_52, l32_53, l32_54, l32_55, l32_56, l32_57, l32_58, l32_59, l32_60, l32_61, l32_62, l32_63, l32_64, l32_65, l32_66, l32_76, l32_86, l32_90, l32_92, l32_97, l32_98, l32_99, l32_100, l32_101, l32_102, l32_103, l32_104, l32_105, l32_106, l32_107, l32_108, l32_109, l32_110, l32_111, l32_112, l32_113, l32_114, l32_115, l32_116, l32_117, l32_118, l32_119, l32_120, l32_121, l32_122, l32_123, l32_124, l32_125, l32_126, l32_192, l32_200, l32_255, l32_999, l32_1000, l32_1344, l32_2147483639, l32_2147483647, l64_0, l64_1, l64_99, l64_999, l64_24883200000, l64_746496000000, jI_add, jI_sub, jI_mul, jI_neg, jL_add, jL_sub, jL_mul, jL_neg, jL_toI, jI_toL, jI_lt, jI_le, jI_eq, jL_lt, jL_le, jL_eq, inR_j, jI_clamp, nI_j, Option.bind_some, zc, u2, u3, u4, u5, wl, mo, if_pos, if_neg, ite_true, ite_false, Int.toNat_natCast]
          rfl)
    (fun n s hI => by
      obtain ⟨y, v⟩ := s
      obtain ⟨rfl, hs, hx⟩ := hI
      refine ⟨.inl (jI 10, v), ?_, (jI 10, v), rfl, hs, hx⟩
      show p_X11_turns_2 (jI d) (n + 1) (jI ((10 : Nat) : Int)) v = _
      rw [p_X11_turns_2]
      simp (disch := omega) only [l32_0, l32_1, l32_2, l32_3, l32_4, l32_5, l32_6, l32_7, l32_8, l32_9, l32_10, l32_11, l32_12, l32_13, l32_14, l32_15, l32_16, l32_17, l32_18, l32_19, l32_20, l32_21, l32_22, l32_23, l32_24, l32_25, l32_26, l32_27, l32_28, l32_29, l32_30, l32_31, l32_32, l32_33, l32_34, l32_35, l32_36, l32_37, l32_38, l32_39, l32_40, l32_41, l32_42, l32_43, l32_44, l32_45, l32_46, l32_47, l32_48, l32_49, l32_50, l32_51, l32_52, l32_53, l32_54, l32_55, l32_56, l32_57, l32_58, l32_59, l32_60, l32_61, l32_62, l32_63, l32_64, l32_65, l32_66, l32_76, l32_86, l32_90, l32_92, l32_97, l32_98, l32_99, l32_100, l32_101, l32_102, l32_103, l32_104, l32_105, l32_106, l32_107, l32_108, l32_109, l32_110, l32_111, l32_112, l32_113, l32_114, l32_115, l32_116, l32_117, l32_118, l32_119, l32_120, l32_121, l32_122, l32_123, l32_124, l32_125, l32_126, l32_192, l32_200, l32_255, l32_999, l32_1000, l32_1344, l32_2147483639, l32_2147483647, l64_0, l64_1, l64_99, l64_999, l64_24883200000, l64_746496000000, jI_add, jI_sub, jI_mul, jI_neg, jL_add, jL_sub, jL_mul, jL_neg, jL_toI, jI_toL, jI_lt, jI_le, jI_eq, jL_lt, jL_le, jL_eq, inR_j, jI_clamp, nI_j, Option.bind_some, zc, u2, u3, u4, u5, wl, mo, if_pos, if_neg, ite_true, ite_false]
      rfl) 2000 0 (jI 0, w) (by omega) (by omega) ⟨rfl, Sm.refl w, fun x x0 x1 => by omega⟩
  obtain ⟨q, rfl, hs2, hR2⟩ := hP
  obtain ⟨y1, w2⟩ := q
  have hr : p_X11_turns_2 (jI d) 2000 (jI 0) w = some (.inl (y1, w2)) := hr
  have hR2 : RT w2 (up (fun _ => 0) d 24883200000) := hR2
  have ct1 : ct (up (fun _ => 0) d 24883200000) = 1 := by
    rw [ct_up d0 (by omega) rfl (by decide)]; rfl
  have T0 : TI S d (up (fun _ => 0) d 24883200000) := by
    refine ⟨by rw [up_eq]; decide, fun x x0 x1 hx => ?_⟩
    by_cases z : x = d
    · subst z
      rw [up_eq, ct1]
      exact ⟨d1, Reach.refl S x, J_root _, fun P _ => rfl⟩
    · rw [up_ne z] at hx; exact absurd rfl hx
  -- one sweep
  have sweep : ∀ (v : Wd) (u : Ab), Sm KU w v → RT v u → TI S d u → ∃ m y v', p_X11_turns_58 2000 (jI 0) (jI 0) v = some (.inl (jI m, y, v')) ∧ Sm KU w v' ∧ ∃ u', RT v' u' ∧ TI S d u' ∧ ((m = 0 ∧ u' = u ∧ ∀ a b, 0 ≤ a → a < 10 → 0 ≤ b → b < 10 → u a ≠ 0 → S (92 + 10 * a + b) ≠ 0 → u b ≠ 0) ∨ (m = 1 ∧ ct u + 1 ≤ ct u')) := by
    intro v u hv hRv hTv
    obtain ⟨r, hr, hP⟩ := lp (fun n (s : Int32 × Int32 × Wd) => p_X11_turns_58 n s.1 s.2.1 s.2.2)
      (fun i s => s.2.1 = jI i ∧ Sm KU w s.2.2 ∧ ∃ m u', s.1 = jI m ∧ RT s.2.2 u' ∧ TI S d u' ∧ ((m = 0 ∧ u' = u ∧ ∀ k : Int, 0 ≤ k → k < i → u (k / 10) ≠ 0 → S (92 + 10 * (k / 10) + k % 10) ≠ 0 → u (k % 10) ≠ 0) ∨ (m = 1 ∧ ct u + 1 ≤ ct u'))) 100
      (fun r => ∃ m y v', r = .inl (jI m, y, v') ∧ Sm KU w v' ∧ ∃ u', RT v' u' ∧ TI S d u' ∧ ((m = 0 ∧ u' = u ∧ ∀ k : Int, 0 ≤ k → k < 100 → u (k / 10) ≠ 0 → S (92 + 10 * (k / 10) + k % 10) ≠ 0 → u (k % 10) ≠ 0) ∨ (m = 1 ∧ ct u + 1 ≤ ct u')))
      (fun i n s hi hI => by
        obtain ⟨y, x, v1⟩ := s
        obtain ⟨rfl, hs, m, u1, rfl, hR1, hT1, hm⟩ := hI
        have e0 : (i : Int).tdiv 10 = (i : Int) / 10 := Int.tdiv_eq_ediv_of_nonneg (by omega)
        have e1 : (i : Int) - (i : Int) / 10 * 10 = (i : Int) % 10 := by omega
        obtain ⟨r, v2, u2', hp, hs2, hR2, hT2, hmo, hc⟩ := s_passes (a := (i : Int) / 10) (b := (i : Int) % 10) hG (keep h hs) hR1 hT1 (by omega) (by omega) (by omega) (by omega)
        rcases hc with ⟨rfl, rfl, hc⟩ | ⟨rfl, hc⟩
        · refine Or.inl ⟨(jI m, jI ((i + 1 : Nat) : Int), v2), ⟨rfl, hs.tr hs2, m, u2', rfl, hR2, hT2, ?_⟩, ?_⟩
          · rcases hm with ⟨hm, rfl, hk⟩ | hm
            · refine Or.inl ⟨hm, rfl, fun k k0 k1 => ?_⟩
              by_cases z : k = i
              · rw [z]; exact hc
              · exact hk k k0 (by omega)
            · exact Or.inr hm
          · show p_X11_turns_58 (n + 1) (jI m) (jI i) v1 = p_X11_turns_58 n (jI m) (jI ((i + 1 : Nat) : Int)) v2
            rw [p_X11_turns_58]
            rcases hm with ⟨rfl, -⟩ | ⟨rfl, -⟩
            · simp (disch := omega) only [l32_0, l32_1, l32_2, l32_3, l32_4, l32_5, l32_6, l32_7, l32_8, l32_9, l32_10, l32_11, l32_12, l32_13, l32_14, l32_15, l32_16, l32_17, l32_18, l32_19, l32_20, l32_21, l32_22, l32_23, l32_24, l32_25, l32_26, l32_27, l32_28, l32_29, l32_30, l32_31, l32_32, l32_33, l32_34, l32_35, l32_36, l32_37, l32_38, l32_39, l32_40, l32_41, l32_42, l32_43, l32_44, l32_45, l32_46, l32_47, l32_48, l32_49, l32_50, l32_51, l32_52, l32_53, l32_54, l32_55, l32_56, l32_57, l32_58, l32_59, l32_60, l32_61, l32_62, l32_63, l32_64, l32_65, l32_66, l32_76, l32_86, l32_90, l32_92, l32_97, l32_98, l32_99, l32_100, l32_101, l32_102, l32_103, l32_104, l32_105, l32_106, l32_107, l32_108, l32_109, l32_110, l32_111, l32_112, l32_113, l32_114, l32_115, l32_116, l32_117, l32_118, l32_119, l32_120, l32_121, l32_122, l32_123, l32_124, l32_125, l32_126, l32_192, l32_200, l32_255, l32_999, l32_1000, l32_1344, l32_2147483639, l32_2147483647, l64_0, l64_1, l64_99, l64_999, l64_24883200000, l64_746496000000, jI_add, jI_sub, jI_mul, jI_neg, jL_add, jL_sub, jL_mul, jL_neg, jL_toI, jI_toL, jI_lt, jI_le, jI_eq, jL_lt, jL_le, jL_eq, inR_j, jI_clamp, nI_j, Option.bind_some, zc, u2, u3, u4, u5, wl, mo, if_pos, if_neg, ite_true, ite_false, jI_div, e0, e1, hp]
              rfl
            · simp (disch := omega) only [l32_0, l32_1, l32_2, l32_3, l32_4, l32_5, l32_6, l32_7, l32_8, l32_9, l32_10, l32_11, l32_12, l32_13, l32_14, l32_15, l32_16, l32_17, l32_18, l32_19, l32_20, l32_21, l32_22, l32_23, l32_24, l32_25, l32_26, l32_27, l32_28, l32_29, l32_30, l32_31, l32_32, l32_33, l32_34, l32_35, l32_36, l32_37, l32_38, l32_39, l32_40, l32_41, l32_42, l32_43, l32_44, l32_45, l32_46, l32_47, l32_48, l32_49, l32_50, l32_51, l32_52, l32_53, l32_54, l32_55, l32_56, l32_57, l32_58, l32_59, l32_60, l32_61, l32_62, l32_63, l32_64, l32_65, l32_66, l32_76, l32_86, l32_90, l32_92, l32_97, l32_98, l32_99, l32_100, l32_101, l32_102, l32_103, l32_104, l32_105, l32_106, l32_107, l32_108, l32_109, l32_110, l32_111, l32_112, l32_113, l32_114, l32_115, l32_116, l32_117, l32_118, l32_119, l32_120, l32_121, l32_122, l32_123, l32_124, l32_125, l32_126, l32_192, l32_200, l32_255, l32_999, l32_1000, l32_1344, l32_2147483639, l32_2147483647, l64_0, l64_1, l64_99, l64_999, l64_24883200000, l64_746496000000, jI_add, jI_sub, jI_mul, jI_neg, jL_add, jL_sub, jL_mul, jL_neg, jL_toI, jI_toL, jI_lt, jI_le, jI_eq, jL_lt, jL_le, jL_eq, inR_j, jI_clamp, nI_j, Option.bind_some, zc, u2, u3, u4, u5, wl, mo, if_pos, if_neg, ite_true, ite_false, jI_div, e0, e1, hp]
              rfl
        · refine Or.inl ⟨(jI 1, jI ((i + 1 : Nat) : Int), v2), ⟨rfl, hs.tr hs2, 1, u2', rfl, hR2, hT2, Or.inr ⟨rfl, ?_⟩⟩, ?_⟩
          · rcases hm with ⟨hm, rfl, hk⟩ | hm
            · omega
            · omega
          · show p_X11_turns_58 (n + 1) (jI m) (jI i) v1 = p_X11_turns_58 n (jI 1) (jI ((i + 1 : Nat) : Int)) v2
            rw [p_X11_turns_58]
            simp (disch := omega) only [l32_0, l32_1, l32_2, l32_3, l32_4, l32_5, l32_6, l32_7, l32_8, l32_9, l32_10, l32_11, l32_12, l32_13, l32_14, l32_15, l32_16, l32_17, l32_18, l32_19, l32_20, l32_21, l32_22, l32_23, l32_24, l32_25, l32_26, l32_27, l32_28, l32_29, l32_30, l32_31, l32_32, l32_33, l32_34, l32_35, l32_36, l32_37, l32_38, l32_39, l32_40, l32_41, l32_42, l32_43, l32_44, l32_45, l32_46, l32_47, l32_48, l32_49, l32_50, l32_51, l32_52, l32_53, l32_54, l32_55, l32_56, l32_57, l32_58, l32_59, l32_60, l32_61, l32_62, l32_63, l32_64, l32_65, l32_66, l32_76, l32_86, l32_90, l32_92, l32_97, l32_98, l32_99, l32_100, l32_101, l32_102, l32_103, l32_104, l32_105, l32_106, l32_107, l32_108, l32_109, l32_110, l32_111, l32_112, l32_113, l32_114, l32_115, l32_116, l32_117, l32_118, l32_119, l32_120, l32_121, l32_122, l32_123, l32_124, l32_125, l32_126, l32_192, l32_200, l32_255, l32_999, l32_1000, l32_1344, l32_2147483639, l32_2147483647, l64_0, l64_1, l64_99, l64_999, l64_24883200000, l64_746496000000, jI_add, jI_sub, jI_mul, jI_neg, jL_add, jL_sub, jL_mul, jL_neg, jL_toI, jI_toL, jI_lt, jI_le, jI_eq, jL_lt, jL_le, jL_eq, inR_j, jI_clamp, nI_j, Option.bind_some, zc, u2, u3, u4, u5, wl, mo, if_pos, if_neg, ite_true, ite_false, jI_div, e0, e1, hp]
            rfl)
      (fun n s hI => by
        obtain ⟨y, x, v1⟩ := s
        obtain ⟨rfl, hs, m, u1, rfl, hR1, hT1, hm⟩ := hI
        refine ⟨.inl (jI m, jI ((100 : Nat) : Int), v1), ?_, m, _, v1, rfl, hs, u1, hR1, hT1, hm⟩
        show p_X11_turns_58 (n + 1) (jI m) (jI ((100 : Nat) : Int)) v1 = _
        rw [p_X11_turns_58]
        simp (disch := omega) only [l32_0, l32_1, l32_2, l32_3, l32_4, l32_5, l32_6, l32_7, l32_8, l32_9, l32_10, l32_11, l32_12, l32_13, l32_14, l32_15, l32_16, l32_17, l32_18, l32_19, l32_20, l32_21, l32_22, l32_23, l32_24, l32_25, l32_26, l32_27, l32_28, l32_29, l32_30, l32_31, l32_32, l32_33, l32_34, l32_35, l32_36, l32_37, l32_38, l32_39, l32_40, l32_41, l32_42, l32_43, l32_44, l32_45, l32_46, l32_47, l32_48, l32_49, l32_50, l32_51, l32_52, l32_53, l32_54, l32_55, l32_56, l32_57, l32_58, l32_59, l32_60, l32_61, l32_62, l32_63, l32_64, l32_65, l32_66, l32_76, l32_86, l32_90, l32_92, l32_97, l32_98, l32_99, l32_100, l32_101, l32_102, l32_103, l32_104, l32_105, l32_106, l32_107, l32_108, l32_109, l32_110, l32_111, l32_112, l32_113, l32_114, l32_115, l32_116, l32_117, l32_118, l32_119, l32_120, l32_121, l32_122, l32_123, l32_124, l32_125, l32_126, l32_192, l32_200, l32_255, l32_999, l32_1000, l32_1344, l32_2147483639, l32_2147483647, l64_0, l64_1, l64_99, l64_999, l64_24883200000, l64_746496000000, jI_add, jI_sub, jI_mul, jI_neg, jL_add, jL_sub, jL_mul, jL_neg, jL_toI, jI_toL, jI_lt, jI_le, jI_eq, jL_lt, jL_le, jL_eq, inR_j, jI_clamp, nI_j, Option.bind_some, zc, u2, u3, u4, u5, wl, mo, if_pos, if_neg, ite_true, ite_false]) 2000 0 (jI 0, jI 0, v) (by omega) (by omega) ⟨rfl, hv, 0, u, rfl, hRv, hTv, Or.inl ⟨rfl, rfl, fun k k0 k1 => by omega⟩⟩
    obtain ⟨m, y, v', rfl, hs', u', hR', hT', hm⟩ := hP
    refine ⟨m, y, v', hr, hs', u', hR', hT', ?_⟩
    rcases hm with ⟨hm, hu, hk⟩ | hm
    · refine Or.inl ⟨hm, hu, fun a b a0 a1 b0 b1 => ?_⟩
      have := hk (a * 10 + b) (by omega) (by omega)
      rw [show (a * 10 + b) / 10 = a by omega, show (a * 10 + b) % 10 = b by omega] at this
      exact this
    · exact Or.inr hm
  obtain ⟨r4, hr4, hP4⟩ := lp (fun n (s : Int32 × Wd) => p_X11_turns_50 n s.1 s.2)
    (fun i s => Sm KU w s.2 ∧ ∃ u, RT s.2 u ∧ TI S d u ∧ ((s.1 = jI 1 ∧ (i : Int) + 1 ≤ ct u) ∨ (s.1 = jI 0 ∧ ∀ a b, 0 ≤ a → a < 10 → 0 ≤ b → b < 10 → u a ≠ 0 → S (92 + 10 * a + b) ≠ 0 → u b ≠ 0))) 11
    (fun r => ∃ q, r = .inl q ∧ Sm KU w q.2 ∧ ∃ u, RT q.2 u ∧ TI S d u ∧ ∀ a b, 0 ≤ a → a < 10 → 0 ≤ b → b < 10 → u a ≠ 0 → S (92 + 10 * a + b) ≠ 0 → u b ≠ 0)
    (fun i n s hi hI => by
      obtain ⟨y, v⟩ := s
      obtain ⟨hs, u, hRu, hTu, ⟨rfl, hm⟩ | ⟨rfl, hm⟩⟩ := hI
      · obtain ⟨m, y2, v', hr, hs', u', hR', hT', hm'⟩ := sweep v u hs hRu hTu
        refine Or.inl ⟨(jI m, v'), ⟨hs', u', hR', hT', ?_⟩, ?_⟩
        · rcases hm' with ⟨rfl, rfl, hk⟩ | ⟨rfl, hk⟩
          · exact Or.inr ⟨rfl, hk⟩
          · exact Or.inl ⟨rfl, by omega⟩
        · show p_X11_turns_50 (n + 1) (jI 1) v = p_X11_turns_50 n (jI m) v'
          rw [p_X11_turns_50]
          simp (disch := omega) only [l32_0, l32_1, l32_2, l32_3, l32_4, l32_5, l32_6, l32_7, l32_8, l32_9, l32_10, l32_11, l32_12, l32_13, l32_14, l32_15, l32_16, l32_17, l32_18, l32_19, l32_20, l32_21, l32_22, l32_23, l32_24, l32_25, l32_26, l32_27, l32_28, l32_29, l32_30, l32_31, l32_32, l32_33, l32_34, l32_35, l32_36, l32_37, l32_38, l32_39, l32_40, l32_41, l32_42, l32_43, l32_44, l32_45, l32_46, l32_47, l32_48, l32_49, l32_50, l32_51, l32_52, l32_53, l32_54, l32_55, l32_56, l32_57, l32_58, l32_59, l32_60, l32_61, l32_62, l32_63, l32_64, l32_65, l32_66, l32_76, l32_86, l32_90, l32_92, l32_97, l32_98, l32_99, l32_100, l32_101, l32_102, l32_103, l32_104, l32_105, l32_106, l32_107, l32_108, l32_109, l32_110, l32_111, l32_112, l32_113, l32_114, l32_115, l32_116, l32_117, l32_118, l32_119, l32_120, l32_121, l32_122, l32_123, l32_124, l32_125, l32_126, l32_192, l32_200, l32_255, l32_999, l32_1000, l32_1344, l32_2147483639, l32_2147483647, l64_0, l64_1, l64_99, l64_999, l64_24883200000, l64_746496000000, jI_add, jI_sub, jI_mul, jI_neg, jL_add, jL_sub, jL_mul, jL_neg, jL_toI, jI_toL, jI_lt, jI_le, jI_eq, jL_lt, jL_le, jL_eq, inR_j, jI_clamp, nI_j, Option.bind_some, zc, u2, u3, u4, u5, wl, mo, if_pos, if_neg, ite_true, ite_false, hr]
      · refine Or.inr ⟨.inl (jI 0, v), ?_, _, rfl, hs, u, hRu, hTu, hm⟩
        show p_X11_turns_50 (n + 1) (jI 0) v = _
        rw [p_X11_turns_50]
        simp (disch := omega) only [l32_0, l32_1, l32_2, l32_3, l32_4, l32_5, l32_6, l32_7, l32_8, l32_9, l32_10, l32_11, l32_12, l32_13, l32_14, l32_15, l32_16, l32_17, l32_18, l32_19, l32_20, l32_21, l32_22, l32_23, l32_24, l32_25, l32_26, l32_27, l32_28, l32_29, l32_30, l32_31, l32_32, l32_33, l32_34, l32_35, l32_36, l32_37, l32_38, l32_39, l32_40, l32_41, l32_42, l32_43, l32_44, l32_45, l32_46, l32_47, l32_48, l32_49, l32_50, l32_51, l32_52, l32_53, l32_54, l32_55, l32_56, l32_57, l32_58, l32_59, l32_60, l32_61, l32_62, l32_63, l32_64, l32_65, l32_66, l32_76, l32_86, l32_90, l32_92, l32_97, l32_98, l32_99, l32_100, l32_101, l32_102, l32_103, l32_104, l32_105, l32_106, l32_107, l32_108, l32_109, l32_110, l32_111, l32_112, l32_113, l32_114, l32_115, l32_116, l32_117, l32_118, l32_119, l32_120, l32_121, l32_122, l32_123, l32_124, l32_125, l32_126, l32_192, l32_200, l32_255, l32_999, l32_1000, l32_1344, l32_2147483639, l32_2147483647, l64_0, l64_1, l64_99, l64_999, l64_24883200000, l64_746496000000, jI_add, jI_sub, jI_mul, jI_neg, jL_add, jL_sub, jL_mul, jL_neg, jL_toI, jI_toL, jI_lt, jI_le, jI_eq, jL_lt, jL_le, jL_eq, inR_j, jI_clamp, nI_j, Option.bind_some, zc, u2, u3, u4, u5, wl, mo, if_pos, if_neg, ite_true, ite_false])
    (fun n s hI => by
      obtain ⟨y, v⟩ := s
      obtain ⟨hs, u, hRu, hTu, ⟨rfl, hm⟩ | ⟨rfl, hm⟩⟩ := hI
      · have := ct_hi u; omega
      · refine ⟨.inl (jI 0, v), ?_, _, rfl, hs, u, hRu, hTu, hm⟩
        show p_X11_turns_50 (n + 1) (jI 0) v = _
        rw [p_X11_turns_50]
        simp (disch := omega) only [l32_0, l32_1, l32_2, l32_3, l32_4, l32_5, l32_6, l32_7, l32_8, l32_9, l32_10, l32_11, l32_12, l32_13, l32_14, l32_15, l32_16, l32_17, l32_18, l32_19, l32_20, l32_21, l32_22, l32_23, l32_24, l32_25, l32_26, l32_27, l32_28, l32_29, l32_30, l32_31, l32_32, l32_33, l32_34, l32_35, l32_36, l32_37, l32_38, l32_39, l32_40, l32_41, l32_42, l32_43, l32_44, l32_45, l32_46, l32_47, l32_48, l32_49, l32_50, l32_51, l32_52, l32_53, l32_54, l32_55, l32_56, l32_57, l32_58, l32_59, l32_60, l32_61, l32_62, l32_63, l32_64, l32_65, l32_66, l32_76, l32_86, l32_90, l32_92, l32_97, l32_98, l32_99, l32_100, l32_101, l32_102, l32_103, l32_104, l32_105, l32_106, l32_107, l32_108, l32_109, l32_110, l32_111, l32_112, l32_113, l32_114, l32_115, l32_116, l32_117, l32_118, l32_119, l32_120, l32_121, l32_122, l32_123, l32_124, l32_125, l32_126, l32_192, l32_200, l32_255, l32_999, l32_1000, l32_1344, l32_2147483639, l32_2147483647, l64_0, l64_1, l64_99, l64_999, l64_24883200000, l64_746496000000, jI_add, jI_sub, jI_mul, jI_neg, jL_add, jL_sub, jL_mul, jL_neg, jL_toI, jI_toL, jI_lt, jI_le, jI_eq, jL_lt, jL_le, jL_eq, inR_j, jI_clamp, nI_j, Option.bind_some, zc, u2, u3, u4, u5, wl, mo, if_pos, if_neg, ite_true, ite_false]) 2000 0 (jI 1, w2) (by omega) (by omega) ⟨hs2, _, hR2, T0, Or.inl ⟨rfl, by rw [ct1]; decide⟩⟩
  obtain ⟨q4, rfl, hs4, u, hR4, hT4, hcl⟩ := hP4
  have hr4 : p_X11_turns_50 2000 (jI 1) w2 = some (.inl q4) := hr4
  refine ⟨q4.2, ?_, hs4, u, hR4, hT4.tr d0 (by omega) hcl, fun x x0 x1 => ?_⟩
  · unfold f_X11_turns
    simp (disch := omega) only [l32_0, l32_1, l32_2, l32_3, l32_4, l32_5, l32_6, l32_7, l32_8, l32_9, l32_10, l32_11, l32_12, l32_13, l32_14, l32_15, l32_16, l32_17, l32_18, l32_19, l32_20, l32_21, l32_22, l32_23, l32_24, l32_25, l32_26, l32_27, l32_28, l32_29, l32_30, l32_31, l32_32, l32_33, l32_34, l32_35, l32_36, l32_37, l32_38, l32_39, l32_40, l32_41, l32_42, l32_43, l32_44, l32_45, l32_46, l32_47, l32_48, l32_49, l32_50, l32_51, l32_52, l32_53, l32_54, l32_55, l32_56, l32_57, l32_58, l32_59, l32_60, l32_61, l32_62, l32_63, l32_64, l32_65, l32_66, l32_76, l32_86, l32_90, l32_92, l32_97, l32_98, l32_99, l32_100, l32_101, l32_102, l32_103, l32_104, l32_105, l32_106, l32_107, l32_108, l32_109, l32_110, l32_111, l32_112, l32_113, l32_114, l32_115, l32_116, l32_117, l32_118, l32_119, l32_120, l32_121, l32_122, l32_123, l32_124, l32_125, l32_126, l32_192, l32_200, l32_255, l32_999, l32_1000, l32_1344, l32_2147483639, l32_2147483647, l64_0, l64_1, l64_99, l64_999, l64_24883200000, l64_746496000000, jI_add, jI_sub, jI_mul, jI_neg, jL_add, jL_sub, jL_mul, jL_neg, jL_toI, jI_toL, jI_lt, jI_le, jI_eq, jL_lt, jL_le, jL_eq, inR_j, jI_clamp, nI_j, Option.bind_some, zc, u2, u3, u4, u5, wl, mo, if_pos, if_neg, ite_true, ite_false, hr, hr4]
  · by_cases z : u x = 0
    · rw [z]; omega
    · have hx := hT4.2 x x0 x1 z
      have := J_b (by have := ct_hi u; omega) ((hG.2.1 x x0 x1).1 hx.1) hx.2.2.1
      omega
end
section
/-! READS of the class -/
theorem lpSum {ρ : Type} (F : Nat → Int32 → Int32 → Option ((Int32 × Int32) ⊕ ρ)) (g : Int → Int) (N : Nat) (a0 : Int)
    (hs : ∀ (i n : Nat) (a : Int), i < N → F (n + 1) (jI a) (jI i) = F n (jI (a + g i)) (jI ((i + 1 : Nat) : Int)))
    (he : ∀ (n : Nat) (a : Int), F (n + 1) (jI a) (jI N) = some (.inl (jI a, jI N))) (fuel : Nat) (hf : N < fuel) : F fuel (jI a0) (jI 0) = some (.inl (jI (a0 + sm g N), jI N)) := by
  have h := lpF (fun n (s : Int32 × Int32) => F n s.1 s.2) N (fun i => (jI (a0 + sm g i), jI i)) (.inl (jI (a0 + sm g N), jI N))
    (fun i n hi => by
      show F (n + 1) (jI (a0 + sm g i)) (jI i) = F n (jI (a0 + (sm g i + g i))) (jI ((i + 1 : Nat) : Int))
      rw [hs i n _ hi, Int.add_assoc]) (fun n => he n _) fuel hf
  have h : F fuel (jI (a0 + 0)) (jI 0) = _ := h
  rw [Int.add_zero] at h
  exact h
theorem lpFind {ρ : Type} (F : Nat → Int32 → Option (Int32 ⊕ ρ)) (p : Int → Prop) (N : Nat) (res : Int → ρ)
    (hs : ∀ i n : Nat, i < N → ¬ p i → F (n + 1) (jI i) = F n (jI ((i + 1 : Nat) : Int)))
    (hf : ∀ i n : Nat, i < N → p i → F (n + 1) (jI i) = some (.inr (res i)))
    (he : ∀ n : Nat, F (n + 1) (jI N) = some (.inl (jI N))) (fuel : Nat) (hfu : N < fuel) :
    (∃ r : Int, 0 ≤ r ∧ r < N ∧ p r ∧ (∀ j, 0 ≤ j → j < r → ¬ p j) ∧ F fuel (jI 0) = some (.inr (res r))) ∨ ((∀ j : Int, 0 ≤ j → j < N → ¬ p j) ∧ F fuel (jI 0) = some (.inl (jI N))) := by
  obtain ⟨r, hr, hP⟩ := lp (fun n (s : Int32) => F n s) (fun i s => s = jI i ∧ ∀ j : Int, 0 ≤ j → j < i → ¬ p j) N
    (fun x => (∃ r : Int, 0 ≤ r ∧ r < N ∧ p r ∧ (∀ j, 0 ≤ j → j < r → ¬ p j) ∧ x = .inr (res r)) ∨ ((∀ j : Int, 0 ≤ j → j < N → ¬ p j) ∧ x = .inl (jI N)))
    (fun i n s hi hI => by
      obtain ⟨rfl, hj⟩ := hI
      by_cases q : p i
      · exact Or.inr ⟨_, hf i n hi q, Or.inl ⟨i, by omega, by omega, q, hj, rfl⟩⟩
      · refine Or.inl ⟨_, ⟨rfl, fun j j0 j1 => ?_⟩, hs i n hi q⟩
        by_cases z : j = i
        · rw [z]; exact q
        · exact hj j j0 (by omega))
    (fun n s hI => by
      obtain ⟨rfl, hj⟩ := hI
      exact ⟨_, he n, Or.inr ⟨hj, rfl⟩⟩) fuel 0 (jI 0) (Nat.zero_le _) (by omega) ⟨rfl, fun j j0 j1 => by omega⟩
  have hr : F fuel (jI 0) = some r := hr
  rcases hP with ⟨k, h1, h2, h3, h4, rfl⟩ | ⟨h1, rfl⟩
  · exact Or.inl ⟨k, h1, h2, h3, h4, hr⟩
  · exact Or.inr ⟨h1, hr⟩
/-- the first place where something holds; -1 where there is none -/
def IsF (p : Int → Prop) (n r : Int) : Prop := (0 ≤ r ∧ r < n ∧ p r ∧ ∀ j, 0 ≤ j → j < r → ¬ p j) ∨ (r = -1 ∧ ∀ j, 0 ≤ j → j < n → ¬ p j)
theorem IsF.uniq {p : Int → Prop} {n r s : Int} (h : IsF p n r) (k : IsF p n s) : r = s := by
  rcases h with ⟨h1, h2, h3, h4⟩ | ⟨h1, h2⟩
  · rcases k with ⟨k1, k2, k3, k4⟩ | ⟨k1, k2⟩
    · by_cases q : r < s
      · exact absurd h3 (k4 r h1 q)
      · by_cases q2 : s < r
        · exact absurd k3 (h4 s k1 q2)
        · omega
    · exact absurd h3 (k2 r h1 h2)
  · rcases k with ⟨k1, k2, k3, k4⟩ | ⟨k1, k2⟩
    · exact absurd k3 (h2 s k1 k2)
    · rw [h1, k1]
theorem IsF.b {p : Int → Prop} {n r : Int} (h : IsF p n r) : -1 ≤ r ∧ (r = -1 ∨ r < n) := by
  rcases h with h | h <;> omega
theorem IsF.congr {p q : Int → Prop} {n m r : Int} (h : IsF p n r) (hm : n ≤ m) (e : ∀ j, 0 ≤ j → j < n → (p j ↔ q j)) (t : ∀ j, n ≤ j → 0 ≤ j → j < m → ¬ q j) : IsF q m r := by
  rcases h with ⟨h1, h2, h3, h4⟩ | ⟨h1, h2⟩
  · exact Or.inl ⟨h1, by omega, (e r h1 h2).mp h3, fun j j0 j1 z => h4 j j0 j1 ((e j j0 (by omega)).mpr z)⟩
  · refine Or.inr ⟨h1, fun j j0 j1 z => ?_⟩
    by_cases q2 : j < n
    · exact h2 j j0 q2 ((e j j0 q2).mpr z)
    · exact t j (by omega) j0 j1 z
theorem Reach.lt {S : Ab} {d x : Int} (hG : Good S) (hd : d < S 0) (h : Reach S d x) : x < S 0 :=
  h (fun y => y < S 0) hd (fun a b a0 a1 b0 b1 _ hj => ((hG.2.2.2.1 a b a0 a1 b0 b1).2.2 hj).2.2)
theorem IsTr.out {S u : Ab} {d : Int} (hG : Good S) (hd : d < S 0) (h : IsTr S d u) (x : Int) (h0 : 0 ≤ x) (h1 : x < 10) (h2 : S 0 ≤ x) : u x = 0 :=
  (h x h0 h1).2 (fun z => by have := z.lt hG hd; omega)
section
variable {w : Wd} {S u m : Ab} {sz : Int}
theorem s_isGear (h : CSt w 1 S) (hG : Good S) {a : Int} (h1 : -2147483648 ≤ a) (h2 : a < 2147483648) : f_X7_isGear w (jI a) = some (jI (bZ (0 ≤ a ∧ a < S 0))) := by
  have hg := hG.1
  unfold f_X7_isGear
  by_cases q : 0 ≤ a ∧ a < S 0
  · rw [bZ_pos q]
    simp (disch := omega) only [l32_0, l32_1, l32_2, l32_3, l32_4, l32_5, l32_6, l32_7, l32_8, l32_9, l32_10, l32_11, l32_12, l32_13, l32_14, l32_15, l32_16, l32_17, l32_18, l32_19, l32_20, l32_21, l32_22, l32_23, l32_24, l32_25, l32_26, l32_27, l32_28, l32_29, l32_30, l32_31, l32_32, l32_33, l32_34, l32_35, l32_36, l32_37, l32_38, l32_39, l32_40, l32_41, l32_42, l32_43, l32_44, l32_45, l32_46, l32_47, l32_48, l32_49, l32_50, l32_51, l32_52, l32_53, l32_54, l32_55, l32_56, l32_57, l32_58, l32_59, l32_60, l32_61, l32_62, l32_63, l32_64, l32_65, l32_66, l32_76, l32_86, l32_90, l32_92, l32_97, l32_98, l32_99, l32_100, l32_101, l32_102, l32_103, l32_104, l32_105, l32_106, l32_107, l32_108, l32_109, l32_110, l32_111, l32_112, l32_113, l32_114, l32_115, l32_116, l32_117, l32_118, l32_119, l32_120, l32_121, l32_122, l32_123, l32_124, l32_125, l32_126, l32_192, l32_200, l32_255, l32_999, l32_1000, l32_1344, l32_2147483639, l32_2147483647, l64_0, l64_1, l64_99, l64_999, l64_24883200000, l64_746496000000, jI_add, jI_sub, jI_mul, jI_neg, jL_add, jL_sub, jL_mul, jL_neg, jL_toI, jI_toL, jI_lt, jI_le, jI_eq, jL_lt, jL_le, jL_eq, inR_j, jI_clamp, nI_j, Option.bind_some, zc, u2, u3, u4, u5, wl, mo, if_pos, if_neg, ite_true, ite_false, c_g h]
  · rw [bZ_neg q]
    by_cases q2 : a < 0
    · simp (disch := omega) only [l32_0, l32_1, l32_2, l32_3, l32_4, l32_5, l32_6, l32_7, l32_8, l32_9, l32_10, l32_11, l32_12, l32_13, l32_14, l32_15, l32_16, l32_17, l32_18, l32_19, l32_20, l32_21, l32_22, l32_23, l32_24, l32_25, l32_26, l32_27, l32_28, l32_29, l32_30, l32_31, l32_32, l32_33, l32_34, l32_35, l32_36, l32_37, l32_38, l32_39, l32_40, l32_41, l32_42, l32_43, l32_44, l32_45, l32_46, l32_47, l32_48, l32_49, l32_50, l32_51, l32_52, l32_53, l32_54, l32_55, l32_56, l32_57, l32_58, l32_59, l32_60, l32_61, l32_62, l32_63, l32_64, l32_65, l32_66, l32_76, l32_86, l32_90, l32_92, l32_97, l32_98, l32_99, l32_100, l32_101, l32_102, l32_103, l32_104, l32_105, l32_106, l32_107, l32_108, l32_109, l32_110, l32_111, l32_112, l32_113, l32_114, l32_115, l32_116, l32_117, l32_118, l32_119, l32_120, l32_121, l32_122, l32_123, l32_124, l32_125, l32_126, l32_192, l32_200, l32_255, l32_999, l32_1000, l32_1344, l32_2147483639, l32_2147483647, l64_0, l64_1, l64_99, l64_999, l64_24883200000, l64_746496000000, jI_add, jI_sub, jI_mul, jI_neg, jL_add, jL_sub, jL_mul, jL_neg, jL_toI, jI_toL, jI_lt, jI_le, jI_eq, jL_lt, jL_le, jL_eq, inR_j, jI_clamp, nI_j, Option.bind_some, zc, u2, u3, u4, u5, wl, mo, if_pos, if_neg, ite_true, ite_false, c_g h]
    · simp (disch := omega) only [l32_0, l32_1, l32_2, l32_3, l32_4, l32_5, l32_6, l32_7, l32_8, l32_9, l32_10, l32_11, l32_12, l32_13, l32_14, l32_15, l32_16, l32_17, l32_18, l32_19, l32_20, l32_21, l32_22, l32_23, l32_24, l32_25, l32_26, l32_27, l32_28, l32_29, l32_30, l32_31, l32_32, l32_33, l32_34, l32_35, l32_36, l32_37, l32_38, l32_39, l32_40, l32_41, l32_42, l32_43, l32_44, l32_45, l32_46, l32_47, l32_48, l32_49, l32_50, l32_51, l32_52, l32_53, l32_54, l32_55, l32_56, l32_57, l32_58, l32_59, l32_60, l32_61, l32_62, l32_63, l32_64, l32_65, l32_66, l32_76, l32_86, l32_90, l32_92, l32_97, l32_98, l32_99, l32_100, l32_101, l32_102, l32_103, l32_104, l32_105, l32_106, l32_107, l32_108, l32_109, l32_110, l32_111, l32_112, l32_113, l32_114, l32_115, l32_116, l32_117, l32_118, l32_119, l32_120, l32_121, l32_122, l32_123, l32_124, l32_125, l32_126, l32_192, l32_200, l32_255, l32_999, l32_1000, l32_1344, l32_2147483639, l32_2147483647, l64_0, l64_1, l64_99, l64_999, l64_24883200000, l64_746496000000, jI_add, jI_sub, jI_mul, jI_neg, jL_add, jL_sub, jL_mul, jL_neg, jL_toI, jI_toL, jI_lt, jI_le, jI_eq, jL_lt, jL_le, jL_eq, inR_j, jI_clamp, nI_j, Option.bind_some, zc, u2, u3, u4, u5, wl, mo, if_pos, if_neg, ite_true, ite_false, c_g h]
theorem s_isPlanet (h : CSt w 1 S) (hG : Good S) {a : Int} (h1 : -2147483648 ≤ a) (h2 : a < 2147483648) : f_X7_isPlanet w (jI a) = some (jI (bZ (0 ≤ a ∧ a < S 1))) := by
  have hg := hG.1
  unfold f_X7_isPlanet
  by_cases q : 0 ≤ a ∧ a < S 1
  · rw [bZ_pos q]
    simp (disch := omega) only [l32_0, l32_1, l32_2, l32_3, l32_4, l32_5, l32_6, l32_7, l32_8, l32_9, l32_10, l32_11, l32_12, l32_13, l32_14, l32_15, l32_16, l32_17, l32_18, l32_19, l32_20, l32_21, l32_22, l32_23, l32_24, l32_25, l32_26, l32_27, l32_28, l32_29, l32_30, l32_31, l32_32, l32_33, l32_34, l32_35, l32_36, l32_37, l32_38, l32_39, l32_40, l32_41, l32_42, l32_43, l32_44, l32_45, l32_46, l32_47, l32_48, l32_49, l32_50, l32_51, l32_52, l32_53, l32_54, l32_55, l32_56, l32_57, l32_58, l32_59, l32_60, l32_61, l32_62, l32_63, l32_64, l32_65, l32_66, l32_76, l32_86, l32_90, l32_92, l32_97, l32_98, l32_99, l32_100, l32_101, l32_102, l32_103, l32_104, l32_105, l32_106, l32_107, l32_108, l32_109, l32_110, l32_111, l32_112, l32_113, l32_114, l32_115, l32_116, l32_117, l32_118, l32_119, l32_120, l32_121, l32_122, l32_123, l32_124, l32_125, l32_126, l32_192, l32_200, l32_255, l32_999, l32_1000, l32_1344, l32_2147483639, l32_2147483647, l64_0, l64_1, l64_99, l64_999, l64_24883200000, l64_746496000000, jI_add, jI_sub, jI_mul, jI_neg, jL_add, jL_sub, jL_mul, jL_neg, jL_toI, jI_toL, jI_lt, jI_le, jI_eq, jL_lt, jL_le, jL_eq, inR_j, jI_clamp, nI_j, Option.bind_some, zc, u2, u3, u4, u5, wl, mo, if_pos, if_neg, ite_true, ite_false, c_p h]
  · rw [bZ_neg q]
    by_cases q2 : a < 0
    · simp (disch := omega) only [l32_0, l32_1, l32_2, l32_3, l32_4, l32_5, l32_6, l32_7, l32_8, l32_9, l32_10, l32_11, l32_12, l32_13, l32_14, l32_15, l32_16, l32_17, l32_18, l32_19, l32_20, l32_21, l32_22, l32_23, l32_24, l32_25, l32_26, l32_27, l32_28, l32_29, l32_30, l32_31, l32_32, l32_33, l32_34, l32_35, l32_36, l32_37, l32_38, l32_39, l32_40, l32_41, l32_42, l32_43, l32_44, l32_45, l32_46, l32_47, l32_48, l32_49, l32_50, l32_51, l32_52, l32_53, l32_54, l32_55, l32_56, l32_57, l32_58, l32_59, l32_60, l32_61, l32_62, l32_63, l32_64, l32_65, l32_66, l32_76, l32_86, l32_90, l32_92, l32_97, l32_98, l32_99, l32_100, l32_101, l32_102, l32_103, l32_104, l32_105, l32_106, l32_107, l32_108, l32_109, l32_110, l32_111, l32_112, l32_113, l32_114, l32_115, l32_116, l32_117, l32_118, l32_119, l32_120, l32_121, l32_122, l32_123, l32_124, l32_125, l32_126, l32_192, l32_200, l32_255, l32_999, l32_1000, l32_1344, l32_2147483639, l32_2147483647, l64_0, l64_1, l64_99, l64_999, l64_24883200000, l64_746496000000, jI_add, jI_sub, jI_mul, jI_neg, jL_add, jL_sub, jL_mul, jL_neg, jL_toI, jI_toL, jI_lt, jI_le, jI_eq, jL_lt, jL_le, jL_eq, inR_j, jI_clamp, nI_j, Option.bind_some, zc, u2, u3, u4, u5, wl, mo, if_pos, if_neg, ite_true, ite_false, c_p h]
    · simp (disch := omega) only [l32_0, l32_1, l32_2, l32_3, l32_4, l32_5, l32_6, l32_7, l32_8, l32_9, l32_10, l32_11, l32_12, l32_13, l32_14, l32_15, l32_16, l32_17, l32_18, l32_19, l32_20, l32_21, l32_22, l32_23, l32_24, l32_25, l32_26, l32_27, l32_28, l32_29, l32_30, l32_31, l32_32, l32_33, l32_34, l32_35, l32_36, l32_37, l32_38, l32_39, l32_40, l32_41, l32_42, l32_43, l32_44, l32_45, l32_46, l32_47, l32_48, l32_49, l32_50, l32_51, l32_52, l32_53, l32_54, l32_55, l32_56, l32_57, l32_58, l32_59, l32_60, l32_61, l32_62, l32_63, l32_64, l32_65, l32_66, l32_76, l32_86, l32_90, l32_92, l32_97, l32_98, l32_99, l32_100, l32_101, l32_102, l32_103, l32_104, l32_105, l32_106, l32_107, l32_108, l32_109, l32_110, l32_111, l32_112, l32_113, l32_114, l32_115, l32_116, l32_117, l32_118, l32_119, l32_120, l32_121, l32_122, l32_123, l32_124, l32_125, l32_126, l32_192, l32_200, l32_255, l32_999, l32_1000, l32_1344, l32_2147483639, l32_2147483647, l64_0, l64_1, l64_99, l64_999, l64_24883200000, l64_746496000000, jI_add, jI_sub, jI_mul, jI_neg, jL_add, jL_sub, jL_mul, jL_neg, jL_toI, jI_toL, jI_lt, jI_le, jI_eq, jL_lt, jL_le, jL_eq, inR_j, jI_clamp, nI_j, Option.bind_some, zc, u2, u3, u4, u5, wl, mo, if_pos, if_neg, ite_true, ite_false, c_p h]
theorem s_hasSpring (h : CSt w 1 S) (hG : Good S) {i : Int} (h1 : 0 ≤ i) (h2 : i < 10) : f_X7_hasSpring w (jI i) = some (jI (bZ (0 < S (26 + i)))) := by
  have hi := (hG.2.1 i h1 h2).2.2.2.2.2.2.2.1
  unfold f_X7_hasSpring
  by_cases q : 0 < S (26 + i)
  · rw [bZ_pos q]
    simp (disch := omega) only [l32_0, l32_1, l32_2, l32_3, l32_4, l32_5, l32_6, l32_7, l32_8, l32_9, l32_10, l32_11, l32_12, l32_13, l32_14, l32_15, l32_16, l32_17, l32_18, l32_19, l32_20, l32_21, l32_22, l32_23, l32_24, l32_25, l32_26, l32_27, l32_28, l32_29, l32_30, l32_31, l32_32, l32_33, l32_34, l32_35, l32_36, l32_37, l32_38, l32_39, l32_40, l32_41, l32_42, l32_43, l32_44, l32_45, l32_46, l32_47, l32_48, l32_49, l32_50, l32_51, l32_52, l32_53, l32_54, l32_55, l32_56, l32_57, l32_58, l32_59, l32_60, l32_61, l32_62, l32_63, l32_64, l32_65, l32_66, l32_76, l32_86, l32_90, l32_92, l32_97, l32_98, l32_99, l32_100, l32_101, l32_102, l32_103, l32_104, l32_105, l32_106, l32_107, l32_108, l32_109, l32_110, l32_111, l32_112, l32_113, l32_114, l32_115, l32_116, l32_117, l32_118, l32_119, l32_120, l32_121, l32_122, l32_123, l32_124, l32_125, l32_126, l32_192, l32_200, l32_255, l32_999, l32_1000, l32_1344, l32_2147483639, l32_2147483647, l64_0, l64_1, l64_99, l64_999, l64_24883200000, l64_746496000000, jI_add, jI_sub, jI_mul, jI_neg, jL_add, jL_sub, jL_mul, jL_neg, jL_toI, jI_toL, jI_lt, jI_le, jI_eq, jL_lt, jL_le, jL_eq, inR_j, jI_clamp, nI_j, Option.bind_some, zc, u2, u3, u4, u5, wl, mo, if_pos, if_neg, ite_true, ite_false, c_s h]
  · rw [bZ_neg q]
    simp (disch := omega) only [l32_0, l32_1, l32_2, l32_3, l32_4, l32_5, l32_6, l32_7, l32_8, l32_9, l32_10, l32_11, l32_12, l32_13, l32_14, l32_15, l32_16, l32_17, l32_18, l32_19, l32_20, l32_21, l32_22, l32_23, l32_24, l32_25, l32_26, l32_27, l32_28, l32_29, l32_30, l32_31, l32_32, l32_33, l32_34, l32_35, l32_36, l32_37, l32_38, l32_39, l32_40, l32_41, l32_42, l32_43, l32_44, l32_45, l32_46, l32_47, l32_48, l32_49, l32_50, l32_51, l32_52, l32_53, l32_54, l32_55, l32_56, l32_57, l32_58, l32_59, l32_60, l32_61, l32_62, l32_63, l32_64, l32_65, l32_66, l32_76, l32_86, l32_90, l32_92, l32_97, l32_98, l32_99, l32_100, l32_101, l32_102, l32_103, l32_104, l32_105, l32_106, l32_107, l32_108, l32_109, l32_110, l32_111, l32_112, l32_113, l32_114, l32_115, l32_116, l32_117, l32_118, l32_119, l32_120, l32_121, l32_122, l32_123, l32_124, l32_125, l32_126, l32_192, l32_200, l32_255, l32_999, l32_1000, l32_1344, l32_2147483639, l32_2147483647, l64_0, l64_1, l64_99, l64_999, l64_24883200000, l64_746496000000, jI_add, jI_sub, jI_mul, jI_neg, jL_add, jL_sub, jL_mul, jL_neg, jL_toI, jI_toL, jI_lt, jI_le, jI_eq, jL_lt, jL_le, jL_eq, inR_j, jI_clamp, nI_j, Option.bind_some, zc, u2, u3, u4, u5, wl, mo, if_pos, if_neg, ite_true, ite_false, c_s h]
theorem s_holds (h : CT w u sz m) (hb : ∀ x, 0 ≤ x → x < 10 → -14929920000000000 ≤ u x ∧ u x ≤ 14929920000000000) {i : Int} (h1 : 0 ≤ i) (h2 : i < 10) : f_X8_holds w (jI i) = some (jI (bZ (u i ≠ 0))) := by
  have hi := hb i h1 h2
  have e := h.1
  unfold f_X8_holds
  by_cases q : u i ≠ 0
  · rw [bZ_pos q]
    simp (disch := omega) only [l32_0, l32_1, l32_2, l32_3, l32_4, l32_5, l32_6, l32_7, l32_8, l32_9, l32_10, l32_11, l32_12, l32_13, l32_14, l32_15, l32_16, l32_17, l32_18, l32_19, l32_20, l32_21, l32_22, l32_23, l32_24, l32_25, l32_26, l32_27, l32_28, l32_29, l32_30, l32_31, l32_32, l32_33, l32_34, l32_35, l32_36, l32_37, l32_38, l32_39, l32_40, l32_41, l32_42, l32_43, l32_44, l32_45, l32_46, l32_47, l32_48, l32_49, l32_50, l32_51, l32_52, l32_53, l32_54, l32_55, l32_56, l32_57, l32_58, l32_59, l32_60, l32_61, l32_62, l32_63, l32_64, l32_65, l32_66, l32_76, l32_86, l32_90, l32_92, l32_97, l32_98, l32_99, l32_100, l32_101, l32_102, l32_103, l32_104, l32_105, l32_106, l32_107, l32_108, l32_109, l32_110, l32_111, l32_112, l32_113, l32_114, l32_115, l32_116, l32_117, l32_118, l32_119, l32_120, l32_121, l32_122, l32_123, l32_124, l32_125, l32_126, l32_192, l32_200, l32_255, l32_999, l32_1000, l32_1344, l32_2147483639, l32_2147483647, l64_0, l64_1, l64_99, l64_999, l64_24883200000, l64_746496000000, jI_add, jI_sub, jI_mul, jI_neg, jL_add, jL_sub, jL_mul, jL_neg, jL_toI, jI_toL, jI_lt, jI_le, jI_eq, jL_lt, jL_le, jL_eq, inR_j, jI_clamp, nI_j, Option.bind_some, zc, u2, u3, u4, u5, wl, mo, if_pos, if_neg, ite_true, ite_false, e]
  · rw [bZ_neg q]
    simp (disch := omega) only [l32_0, l32_1, l32_2, l32_3, l32_4, l32_5, l32_6, l32_7, l32_8, l32_9, l32_10, l32_11, l32_12, l32_13, l32_14, l32_15, l32_16, l32_17, l32_18, l32_19, l32_20, l32_21, l32_22, l32_23, l32_24, l32_25, l32_26, l32_27, l32_28, l32_29, l32_30, l32_31, l32_32, l32_33, l32_34, l32_35, l32_36, l32_37, l32_38, l32_39, l32_40, l32_41, l32_42, l32_43, l32_44, l32_45, l32_46, l32_47, l32_48, l32_49, l32_50, l32_51, l32_52, l32_53, l32_54, l32_55, l32_56, l32_57, l32_58, l32_59, l32_60, l32_61, l32_62, l32_63, l32_64, l32_65, l32_66, l32_76, l32_86, l32_90, l32_92, l32_97, l32_98, l32_99, l32_100, l32_101, l32_102, l32_103, l32_104, l32_105, l32_106, l32_107, l32_108, l32_109, l32_110, l32_111, l32_112, l32_113, l32_114, l32_115, l32_116, l32_117, l32_118, l32_119, l32_120, l32_121, l32_122, l32_123, l32_124, l32_125, l32_126, l32_192, l32_200, l32_255, l32_999, l32_1000, l32_1344, l32_2147483639, l32_2147483647, l64_0, l64_1, l64_99, l64_999, l64_24883200000, l64_746496000000, jI_add, jI_sub, jI_mul, jI_neg, jL_add, jL_sub, jL_mul, jL_neg, jL_toI, jI_toL, jI_lt, jI_le, jI_eq, jL_lt, jL_le, jL_eq, inR_j, jI_clamp, nI_j, Option.bind_some, zc, u2, u3, u4, u5, wl, mo, if_pos, if_neg, ite_true, ite_false, e]
theorem s_springGear (h : CSt w 1 S) (hG : Good S) (hT : CT w u sz m) (hb : ∀ x, 0 ≤ x → x < 10 → -14929920000000000 ≤ u x ∧ u x ≤ 14929920000000000) : ∃ r, f_X8_springGear w = some (jI r) ∧ IsF (fun i => u i ≠ 0 ∧ 0 < S (26 + i)) 10 r := by
  have hg := hG.1
  have e1 : ((S 0).toNat : Int) = S 0 := by omega
  have k := lpFind (p_X8_springGear_2 w) (fun i => u i ≠ 0 ∧ 0 < S (26 + i)) (S 0).toNat (fun i => jI i)
    (fun i n hi hp => by
      rw [p_X8_springGear_2]
      by_cases q : u i ≠ 0
      · have q2 : ¬ 0 < S (26 + (i : Int)) := fun z => hp ⟨q, z⟩
        simp (disch := omega) only [l32_0, l32_1, l32_2, l32_3, l32_4, l32_5, l32_6, l32_7, l32_8, l32_9, l32_10, l32_11, l32_12, l32_13, l32_14, l32_15, l32_16, l32_17, l32_18, l32_19, l32_20, l32_21, l32_22, l32_23, l32_24, l32_25, l32_26, l32_27, l32_28, l32_29, l32_30, l32_31, l32_32, l32_33, l32_34, l32_35, l32_36, l32_37, l32_38, l32_39, l32_40, l32_41, l32_42, l32_43, l32_44, l32_45, l32_46, l32_47, l32_48, l32_49, l32_50, l32_51, l32_52, l32_53, l32_54, l32_55, l32_56, l32_57, l32_58, l32_59, l32_60, l32_61, l32_62, l32_63, l32_64, l32_65, l32_66, l32_76, l32_86, l32_90, l32_92, l32_97, l32_98, l32_99, l32_100, l32_101, l32_102, l32_103, l32_104, l32_105, l32_106, l32_107, l32_108, l32_109, l32_110, l32_111, l32_112, l32_113, l32_114, l32_115, l32_116, l32_117, l32_118, l32_119, l32_120, l32_121, l32_122, l32_123, l32_124, l32_125, l32_126, l32_192, l32_200, l32_255, l32_999, l32_1000, l32_1344, l32_2147483639, l32_2147483647, l64_0, l64_1, l64_99, l64_999, l64_24883200000, l64_746496000000, jI_add, jI_sub, jI_mul, jI_neg, jL_add, jL_sub, jL_mul, jL_neg, jL_toI, jI_toL, jI_lt, jI_le, jI_eq, jL_lt, jL_le, jL_eq, inR_j, jI_clamp, nI_j, Option.bind_some, zc, u2, u3, u4, u5, wl, mo, if_pos, if_neg, ite_true, ite_false, c_g h, s_holds hT hb, s_hasSpring h hG, bZ_eq0] <;> rfl
      · simp (disch := omega) only [l32_0, l32_1, l32_2, l32_3, l32_4, l32_5, l32_6, l32_7, l32_8, l32_9, l32_10, l32_11, l32_12, l32_13, l32_14, l32_15, l32_16, l32_17, l32_18, l32_19, l32_20, l32_21, l32_22, l32_23, l32_24, l32_25, l32_26, l32_27, l32_28, l32_29, l32_30, l32_31, l32_32, l32_33, l32_34, l32_35, l32_36, l32_37, l32_38, l32_39, l32_40, l32_41, l32_42, l32_43, l32_44, l32_45, l32_46, l32_47, l32_48, l32_49, l32_50, l32_51, l32_52, l32_53, l32_54, l32_55, l32_56, l32_57, l32_58, l32_59, l32_60, l32_61, l32_62, l32_63, l32_64, l32_65, l32_66, l32_76, l32_86, l32_90, l32_92, l32_97, l32_98, l32_99, l32_100, l32_101, l32_102, l32_103, l32_104, l32_105, l32_106, l32_107, l32_108, l32_109, l32_110, l32_111, l32_112, l32_113, l32_114, l32_115, l32_116, l32_117, l32_118, l32_119, l32_120, l32_121, l32_122, l32_123, l32_124, l32_125, l32_126, l32_192, l32_200, l32_255, l32_999, l32_1000, l32_1344, l32_2147483639, l32_2147483647, l64_0, l64_1, l64_99, l64_999, l64_24883200000, l64_746496000000, jI_add, jI_sub, jI_mul, jI_neg, jL_add, jL_sub, jL_mul, jL_neg, jL_toI, jI_toL, jI_lt, jI_le, jI_eq, jL_lt, jL_le, jL_eq, inR_j, jI_clamp, nI_j, Option.bind_some, zc, u2, u3, u4, u5, wl, mo, if_pos, if_neg, ite_true, ite_false, c_g h, s_holds hT hb, bZ_eq0] <;> rfl)
    (fun i n hi hp => by
      rw [p_X8_springGear_2]
      simp (disch := omega) only [l32_0, l32_1, l32_2, l32_3, l32_4, l32_5, l32_6, l32_7, l32_8, l32_9, l32_10, l32_11, l32_12, l32_13, l32_14, l32_15, l32_16, l32_17, l32_18, l32_19, l32_20, l32_21, l32_22, l32_23, l32_24, l32_25, l32_26, l32_27, l32_28, l32_29, l32_30, l32_31, l32_32, l32_33, l32_34, l32_35, l32_36, l32_37, l32_38, l32_39, l32_40, l32_41, l32_42, l32_43, l32_44, l32_45, l32_46, l32_47, l32_48, l32_49, l32_50, l32_51, l32_52, l32_53, l32_54, l32_55, l32_56, l32_57, l32_58, l32_59, l32_60, l32_61, l32_62, l32_63, l32_64, l32_65, l32_66, l32_76, l32_86, l32_90, l32_92, l32_97, l32_98, l32_99, l32_100, l32_101, l32_102, l32_103, l32_104, l32_105, l32_106, l32_107, l32_108, l32_109, l32_110, l32_111, l32_112, l32_113, l32_114, l32_115, l32_116, l32_117, l32_118, l32_119, l32_120, l32_121, l32_122, l32_123, l32_124, l32_125, l32_126, l32_192, l32_200, l32_255, l32_999, l32_1000, l32_1344, l32_2147483639, l32_2147483647, l64_0, l64_1, l64_99, l64_999, l64_24883200000, l64_746496000000, jI_add, jI_sub, jI_mul, jI_neg, jL_add, jL_sub, jL_mul, jL_neg, jL_toI, jI_toL, jI_lt, jI_le, jI_eq, jL_lt, jL_le, jL_eq, inR_j, jI_clamp, nI_j, Option.bind_some, zc, u2, u3, u4, u5, wl, mo, if_pos, if_neg, ite_true, ite_false, c_g h, s_holds hT hb, s_hasSpring h hG, bZ_eq0] <;> rfl)
    (fun n => by
      rw [p_X8_springGear_2, e1]
      simp (disch := omega) only [l32_0, l32_1, l32_2, l32_3, l32_4, l32_5, l32_6, l32_7, l32_8, l32_9, l32_10, l32_11, l32_12, l32_13, l32_14, l32_15, l32_16, l32_17, l32_18, l32_19, l32_20, l32_21, l32_22, l32_23, l32_24, l32_25, l32_26, l32_27, l32_28, l32_29, l32_30, l32_31, l32_32, l32_33, l32_34, l32_35, l32_36, l32_37, l32_38, l32_39, l32_40, l32_41, l32_42, l32_43, l32_44, l32_45, l32_46, l32_47, l32_48, l32_49, l32_50, l32_51, l32_52, l32_53, l32_54, l32_55, l32_56, l32_57, l32_58, l32_59, l32_60, l32_61, l32_62, l32_63, l32_64, l32_65, l32_66, l32_76, l32_86, l32_90, l32_92, l32_97, l32_98, l32_99, l32_100, l32_101, l32_102, l32_103, l32_104, l32_105, l32_106, l32_107, l32_108, l32_109, l32_110, l32_111, l32_112, l32_113, l32_114, l32_115, l32_116, l32_117, l32_118, l32_119, l32_120, l32_121, l32_122, l32_123, l32_124, l32_125, l32_126, l32_192, l32_200, l32_255, l32_999, l32_1000, l32_1344, l32_2147483639, l32_2147483647, l64_0, l64_1, l64_99, l64_999, l64_24883200000, l64_746496000000, jI_add, jI_sub, jI_mul, jI_neg, jL_add, jL_sub, jL_mul, jL_neg, jL_toI, jI_toL, jI_lt, jI_le, jI_eq, jL_lt, jL_le, jL_eq, inR_j, jI_clamp, nI_j, Option.bind_some, zc, u2, u3, u4, u5, wl, mo, if_pos, if_neg, ite_true, ite_false, c_g h]) 2000 (by omega)
  unfold f_X8_springGear
  rcases k with ⟨r, r0, r1, r2, r3, r4⟩ | ⟨r3, r4⟩
  · refine ⟨r, by rw [l32_0, r4]; rfl, Or.inl ⟨r0, by omega, r2, r3⟩⟩
  · refine ⟨-1, by rw [l32_0, r4]; rfl, Or.inr ⟨rfl, fun j j0 j1 z => ?_⟩⟩
    by_cases q : j < S 0
    · exact r3 j j0 (by omega) z
    · have := ((hG.2.1 j j0 j1).2.1 (by omega)).2
      omega
/-- the friction of a train -/
def dg (S u : Ab) : Int := ct u + sm (fun i => if u i ≠ 0 ∧ S (66 + i) = 0 then 1 else 0) 10
theorem dg_b (S u : Ab) : 0 ≤ dg S u ∧ dg S u ≤ 20 ∧ ct u ≤ dg S u := by
  have h1 := ct_lo u
  have h2 := ct_hi u
  have h3 := sm_lo (g := fun i => if u i ≠ 0 ∧ S (66 + i) = 0 then 1 else 0) (c := 0) (n := 10) (fun i _ _ => by split <;> decide)
  have h4 := sm_hi (g := fun i => if u i ≠ 0 ∧ S (66 + i) = 0 then 1 else 0) (c := 1) (n := 10) (fun i _ _ => by split <;> decide)
  unfold dg
  omega
theorem s_drag (h : CSt w 1 S) (hG : Good S) (hT : CT w u (ct u) m) (hb : ∀ x, 0 ≤ x → x < 10 → -14929920000000000 ≤ u x ∧ u x ≤ 14929920000000000) (ho : ∀ x, 0 ≤ x → x < 10 → S 0 ≤ x → u x = 0) : f_X8_drag w = some (jI (dg S u)) := by
  have hg := hG.1
  have e1 : ((S 0).toNat : Int) = S 0 := by omega
  have k := lpSum (p_X8_drag_7 w) (fun i => if u i ≠ 0 ∧ S (66 + i) = 0 then 1 else 0) (S 0).toNat (ct u)
    (fun i n a hi => by
      have h6 := (hG.2.1 i (by omega) (by omega)).2.2.2.1
      rw [p_X8_drag_7]
      by_cases q : u i ≠ 0
      · by_cases q2 : S (66 + (i : Int)) = 0
        · rw [if_pos (show (u (i : Int) ≠ 0 ∧ S (66 + (i : Int)) = 0) from ⟨q, q2⟩)]
          simp (disch := omega) only [l32_0, l32_1, l32_2, l32_3, l32_4, l32_5, l32_6, l32_7, l32_8, l32_9, l32_10, l32_11, l32_12, l32_13, l32_14, l32_15, l32_16, l32_17, l32_18, l32_19, l32_20, l32_21, l32_22, l32_23, l32_24, l32_25, l32_26, l32_27, l32_28, l32_29, l32_30, l32_31, l32_32, l32_33, l32_34, l32_35, l32_36, l32_37, l32_38, l32_39, l32_40, l32_41, l32_42, l32_43, l32_44, l32_45, l32_46, l32_47, l32_48, l32_49, l32_50, l32_51, l32_52, l32_53, l32_54, l32_55, l32_56, l32_57, l32_58, l32_59, l32_60, l32_61, l32_62, l32_63, l32_64, l32_65, l32_66, l32_76, l32_86, l32_90, l32_92, l32_97, l32_98, l32_99, l32_100, l32_101, l32_102, l32_103, l32_104, l32_105, l32_106, l32_107, l32_108, l32_109, l32_110, l32_111, l32_112, l32_113, l32_114, l32_115, l32_116, l32_117, l32_118, l32_119, l32_120, l32_121, l32_122, l32_123, l32_124, l32_125, l32_126, l32_192, l32_200, l32_255, l32_999, l32_1000, l32_1344, l32_2147483639, l32_2147483647, l64_0, l64_1, l64_99, l64_999, l64_24883200000, l64_746496000000, jI_add, jI_sub, jI_mul, jI_neg, jL_add, jL_sub, jL_mul, jL_neg, jL_toI, jI_toL, jI_lt, jI_le, jI_eq, jL_lt, jL_le, jL_eq, inR_j, jI_clamp, nI_j, Option.bind_some, zc, u2, u3, u4, u5, wl, mo, if_pos, if_neg, ite_true, ite_false, c_g h, s_holds hT hb, c_o h, bZ_eq0] <;> rfl
        · rw [if_neg (show ¬ (u (i : Int) ≠ 0 ∧ S (66 + (i : Int)) = 0) from fun z => q2 z.2), Int.add_zero]
          simp (disch := omega) only [l32_0, l32_1, l32_2, l32_3, l32_4, l32_5, l32_6, l32_7, l32_8, l32_9, l32_10, l32_11, l32_12, l32_13, l32_14, l32_15, l32_16, l32_17, l32_18, l32_19, l32_20, l32_21, l32_22, l32_23, l32_24, l32_25, l32_26, l32_27, l32_28, l32_29, l32_30, l32_31, l32_32, l32_33, l32_34, l32_35, l32_36, l32_37, l32_38, l32_39, l32_40, l32_41, l32_42, l32_43, l32_44, l32_45, l32_46, l32_47, l32_48, l32_49, l32_50, l32_51, l32_52, l32_53, l32_54, l32_55, l32_56, l32_57, l32_58, l32_59, l32_60, l32_61, l32_62, l32_63, l32_64, l32_65, l32_66, l32_76, l32_86, l32_90, l32_92, l32_97, l32_98, l32_99, l32_100, l32_101, l32_102, l32_103, l32_104, l32_105, l32_106, l32_107, l32_108, l32_109, l32_110, l32_111, l32_112, l32_113, l32_114, l32_115, l32_116, l32_117, l32_118, l32_119, l32_120, l32_121, l32_122, l32_123, l32_124, l32_125, l32_126, l32_192, l32_200, l32_255, l32_999, l32_1000, l32_1344, l32_2147483639, l32_2147483647, l64_0, l64_1, l64_99, l64_999, l64_24883200000, l64_746496000000, jI_add, jI_sub, jI_mul, jI_neg, jL_add, jL_sub, jL_mul, jL_neg, jL_toI, jI_toL, jI_lt, jI_le, jI_eq, jL_lt, jL_le, jL_eq, inR_j, jI_clamp, nI_j, Option.bind_some, zc, u2, u3, u4, u5, wl, mo, if_pos, if_neg, ite_true, ite_false, c_g h, s_holds hT hb, c_o h, bZ_eq0] <;> rfl
      · rw [if_neg (show ¬ (u (i : Int) ≠ 0 ∧ S (66 + (i : Int)) = 0) from fun z => q z.1), Int.add_zero]
        simp (disch := omega) only [l32_0, l32_1, l32_2, l32_3, l32_4, l32_5, l32_6, l32_7, l32_8, l32_9, l32_10, l32_11, l32_12, l32_13, l32_14, l32_15, l32_16, l32_17, l32_18, l32_19, l32_20, l32_21, l32_22, l32_23, l32_24, l32_25, l32_26, l32_27, l32_28, l32_29, l32_30, l32_31, l32_32, l32_33, l32_34, l32_35, l32_36, l32_37, l32_38, l32_39, l32_40, l32_41, l32_42, l32_43, l32_44, l32_45, l32_46, l32_47, l32_48, l32_49, l32_50, l32_51, l32_52, l32_53, l32_54, l32_55, l32_56, l32_57, l32_58, l32_59, l32_60, l32_61, l32_62, l32_63, l32_64, l32_65, l32_66, l32_76, l32_86, l32_90, l32_92, l32_97, l32_98, l32_99, l32_100, l32_101, l32_102, l32_103, l32_104, l32_105, l32_106, l32_107, l32_108, l32_109, l32_110, l32_111, l32_112, l32_113, l32_114, l32_115, l32_116, l32_117, l32_118, l32_119, l32_120, l32_121, l32_122, l32_123, l32_124, l32_125, l32_126, l32_192, l32_200, l32_255, l32_999, l32_1000, l32_1344, l32_2147483639, l32_2147483647, l64_0, l64_1, l64_99, l64_999, l64_24883200000, l64_746496000000, jI_add, jI_sub, jI_mul, jI_neg, jL_add, jL_sub, jL_mul, jL_neg, jL_toI, jI_toL, jI_lt, jI_le, jI_eq, jL_lt, jL_le, jL_eq, inR_j, jI_clamp, nI_j, Option.bind_some, zc, u2, u3, u4, u5, wl, mo, if_pos, if_neg, ite_true, ite_false, c_g h, s_holds hT hb, bZ_eq0] <;> rfl)
    (fun n a => by
      rw [p_X8_drag_7, e1]
      simp (disch := omega) only [l32_0, l32_1, l32_2, l32_3, l32_4, l32_5, l32_6, l32_7, l32_8, l32_9, l32_10, l32_11, l32_12, l32_13, l32_14, l32_15, l32_16, l32_17, l32_18, l32_19, l32_20, l32_21, l32_22, l32_23, l32_24, l32_25, l32_26, l32_27, l32_28, l32_29, l32_30, l32_31, l32_32, l32_33, l32_34, l32_35, l32_36, l32_37, l32_38, l32_39, l32_40, l32_41, l32_42, l32_43, l32_44, l32_45, l32_46, l32_47, l32_48, l32_49, l32_50, l32_51, l32_52, l32_53, l32_54, l32_55, l32_56, l32_57, l32_58, l32_59, l32_60, l32_61, l32_62, l32_63, l32_64, l32_65, l32_66, l32_76, l32_86, l32_90, l32_92, l32_97, l32_98, l32_99, l32_100, l32_101, l32_102, l32_103, l32_104, l32_105, l32_106, l32_107, l32_108, l32_109, l32_110, l32_111, l32_112, l32_113, l32_114, l32_115, l32_116, l32_117, l32_118, l32_119, l32_120, l32_121, l32_122, l32_123, l32_124, l32_125, l32_126, l32_192, l32_200, l32_255, l32_999, l32_1000, l32_1344, l32_2147483639, l32_2147483647, l64_0, l64_1, l64_99, l64_999, l64_24883200000, l64_746496000000, jI_add, jI_sub, jI_mul, jI_neg, jL_add, jL_sub, jL_mul, jL_neg, jL_toI, jI_toL, jI_lt, jI_le, jI_eq, jL_lt, jL_le, jL_eq, inR_j, jI_clamp, nI_j, Option.bind_some, zc, u2, u3, u4, u5, wl, mo, if_pos, if_neg, ite_true, ite_false, c_g h]) 2000 (by omega)
  unfold f_X8_drag dg
  rw [hT.2.1, l32_0, k, sm_tail (n := 10) (m := (S 0).toNat) (by omega) (fun i h1 h2 => by
    show (if u i ≠ 0 ∧ S (66 + i) = 0 then (1 : Int) else 0) = 0
    rw [if_neg (show ¬ (u i ≠ 0 ∧ S (66 + i) = 0) from fun z => z.1 (ho i (by omega) h2 (by omega)))])]
  rfl
/-- a ratchet keeps the train -/
def Blk (S u : Ab) (d : Int) : Prop := ∃ i, 0 ≤ i ∧ i < 10 ∧ ((S (46 + d) = 0 ∧ u i < 0) ∨ (S (46 + d) ≠ 0 ∧ 0 < u i)) ∧ S (56 + i) = 1
theorem s_isBlocked (h : CSt w 1 S) (hG : Good S) (hT : CT w u sz m) (hb : ∀ x, 0 ≤ x → x < 10 → -14929920000000000 ≤ u x ∧ u x ≤ 14929920000000000) (ho : ∀ x, 0 ≤ x → x < 10 → S 0 ≤ x → u x = 0) {d : Int} (d0 : 0 ≤ d) (d1 : d < 10) : ∃ r, f_X8_isBlocked w (jI d) = some (jI r) ∧ ((r = 0 ∧ ¬ Blk S u d) ∨ (r = 1 ∧ Blk S u d)) := by
  have hg := hG.1
  have e1 : ((S 0).toNat : Int) = S 0 := by omega
  have hd := (hG.2.1 d d0 d1).2.2.2.2.2.2.1
  have e := hT.1
  have k := lpFind (p_X8_isBlocked_2 w (jI d)) (fun i => ((S (46 + d) = 0 ∧ u i < 0) ∨ (S (46 + d) ≠ 0 ∧ 0 < u i)) ∧ S (56 + i) = 1) (S 0).toNat (fun _ => jI 1)
    (fun i n hi hp => by
      have h6 := (hG.2.1 i (by omega) (by omega)).2.2.2.2.2.1
      have h7 := hb i (by omega) (by omega)
      rw [p_X8_isBlocked_2]
      by_cases q : S (46 + d) = 0
      · by_cases q2 : u i < 0
        · have q3 : S (56 + (i : Int)) = 0 := by
            rcases h6 with h6 | h6
            · exact h6
            · exact absurd ⟨Or.inl ⟨q, q2⟩, h6⟩ hp
          simp (disch := omega) only [l32_0, l32_1, l32_2, l32_3, l32_4, l32_5, l32_6, l32_7, l32_8, l32_9, l32_10, l32_11, l32_12, l32_13, l32_14, l32_15, l32_16, l32_17, l32_18, l32_19, l32_20, l32_21, l32_22, l32_23, l32_24, l32_25, l32_26, l32_27, l32_28, l32_29, l32_30, l32_31, l32_32, l32_33, l32_34, l32_35, l32_36, l32_37, l32_38, l32_39, l32_40, l32_41, l32_42, l32_43, l32_44, l32_45, l32_46, l32_47, l32_48, l32_49, l32_50, l32_51, l32_52, l32_53, l32_54, l32_55, l32_56, l32_57, l32_58, l32_59, l32_60, l32_61, l32_62, l32_63, l32_64, l32_65, l32_66, l32_76, l32_86, l32_90, l32_92, l32_97, l32_98, l32_99, l32_100, l32_101, l32_102, l32_103, l32_104, l32_105, l32_106, l32_107, l32_108, l32_109, l32_110, l32_111, l32_112, l32_113, l32_114, l32_115, l32_116, l32_117, l32_118, l32_119, l32_120, l32_121, l32_122, l32_123, l32_124, l32_125, l32_126, l32_192, l32_200, l32_255, l32_999, l32_1000, l32_1344, l32_2147483639, l32_2147483647, l64_0, l64_1, l64_99, l64_999, l64_24883200000, l64_746496000000, jI_add, jI_sub, jI_mul, jI_neg, jL_add, jL_sub, jL_mul, jL_neg, jL_toI, jI_toL, jI_lt, jI_le, jI_eq, jL_lt, jL_le, jL_eq, inR_j, jI_clamp, nI_j, Option.bind_some, zc, u2, u3, u4, u5, wl, mo, if_pos, if_neg, ite_true, ite_false, c_g h, c_v h, e, c_r h] <;> rfl
        · simp (disch := omega) only [l32_0, l32_1, l32_2, l32_3, l32_4, l32_5, l32_6, l32_7, l32_8, l32_9, l32_10, l32_11, l32_12, l32_13, l32_14, l32_15, l32_16, l32_17, l32_18, l32_19, l32_20, l32_21, l32_22, l32_23, l32_24, l32_25, l32_26, l32_27, l32_28, l32_29, l32_30, l32_31, l32_32, l32_33, l32_34, l32_35, l32_36, l32_37, l32_38, l32_39, l32_40, l32_41, l32_42, l32_43, l32_44, l32_45, l32_46, l32_47, l32_48, l32_49, l32_50, l32_51, l32_52, l32_53, l32_54, l32_55, l32_56, l32_57, l32_58, l32_59, l32_60, l32_61, l32_62, l32_63, l32_64, l32_65, l32_66, l32_76, l32_86, l32_90, l32_92, l32_97, l32_98, l32_99, l32_100, l32_101, l32_102, l32_103, l32_104, l32_105, l32_106, l32_107, l32_108, l32_109, l32_110, l32_111, l32_112, l32_113, l32_114, l32_115, l32_116, l32_117, l32_118, l32_119, l32_120, l32_121, l32_122, l32_123, l32_124, l32_125, l32_126, l32_192, l32_200, l32_255, l32_999, l32_1000, l32_1344, l32_2147483639, l32_2147483647, l64_0, l64_1, l64_99, l64_999, l64_24883200000, l64_746496000000, jI_add, jI_sub, jI_mul, jI_neg, jL_add, jL_sub, jL_mul, jL_neg, jL_toI, jI_toL, jI_lt, jI_le, jI_eq, jL_lt, jL_le, jL_eq, inR_j, jI_clamp, nI_j, Option.bind_some, zc, u2, u3, u4, u5, wl, mo, if_pos, if_neg, ite_true, ite_false, c_g h, c_v h, e, c_r h] <;> rfl
      · by_cases q2 : 0 < u i
        · have q3 : S (56 + (i : Int)) = 0 := by
            rcases h6 with h6 | h6
            · exact h6
            · exact absurd ⟨Or.inr ⟨q, q2⟩, h6⟩ hp
          simp (disch := omega) only [l32_0, l32_1, l32_2, l32_3, l32_4, l32_5, l32_6, l32_7, l32_8, l32_9, l32_10, l32_11, l32_12, l32_13, l32_14, l32_15, l32_16, l32_17, l32_18, l32_19, l32_20, l32_21, l32_22, l32_23, l32_24, l32_25, l32_26, l32_27, l32_28, l32_29, l32_30, l32_31, l32_32, l32_33, l32_34, l32_35, l32_36, l32_37, l32_38, l32_39, l32_40, l32_41, l32_42, l32_43, l32_44, l32_45, l32_46, l32_47, l32_48, l32_49, l32_50, l32_51, l32_52, l32_53, l32_54, l32_55, l32_56, l32_57, l32_58, l32_59, l32_60, l32_61, l32_62, l32_63, l32_64, l32_65, l32_66, l32_76, l32_86, l32_90, l32_92, l32_97, l32_98, l32_99, l32_100, l32_101, l32_102, l32_103, l32_104, l32_105, l32_106, l32_107, l32_108, l32_109, l32_110, l32_111, l32_112, l32_113, l32_114, l32_115, l32_116, l32_117, l32_118, l32_119, l32_120, l32_121, l32_122, l32_123, l32_124, l32_125, l32_126, l32_192, l32_200, l32_255, l32_999, l32_1000, l32_1344, l32_2147483639, l32_2147483647, l64_0, l64_1, l64_99, l64_999, l64_24883200000, l64_746496000000, jI_add, jI_sub, jI_mul, jI_neg, jL_add, jL_sub, jL_mul, jL_neg, jL_toI, jI_toL, jI_lt, jI_le, jI_eq, jL_lt, jL_le, jL_eq, inR_j, jI_clamp, nI_j, Option.bind_some, zc, u2, u3, u4, u5, wl, mo, if_pos, if_neg, ite_true, ite_false, c_g h, c_v h, e, c_r h] <;> rfl
        · simp (disch := omega) only [l32_0, l32_1, l32_2, l32_3, l32_4, l32_5, l32_6, l32_7, l32_8, l32_9, l32_10, l32_11, l32_12, l32_13, l32_14, l32_15, l32_16, l32_17, l32_18, l32_19, l32_20, l32_21, l32_22, l32_23, l32_24, l32_25, l32_26, l32_27, l32_28, l32_29, l32_30, l32_31, l32_32, l32_33, l32_34, l32_35, l32_36, l32_37, l32_38, l32_39, l32_40, l32_41, l32_42, l32_43, l32_44, l32_45, l32_46, l32_47, l32_48, l32_49, l32_50, l32_51, l32_52, l32_53, l32_54, l32_55, l32_56, l32_57, l32_58, l32_59, l32_60, l32_61, l32_62, l32_63, l32_64, l32_65, l32_66, l32_76, l32_86, l32_90, l32_92, l32_97, l32_98, l32_99, l32_100, l32_101, l32_102, l32_103, l32_104, l32_105, l32_106, l32_107, l32_108, l32_109, l32_110, l32_111, l32_112, l32_113, l32_114, l32_115, l32_116, l32_117, l32_118, l32_119, l32_120, l32_121, l32_122, l32_123, l32_124, l32_125, l32_126, l32_192, l32_200, l32_255, l32_999, l32_1000, l32_1344, l32_2147483639, l32_2147483647, l64_0, l64_1, l64_99, l64_999, l64_24883200000, l64_746496000000, jI_add, jI_sub, jI_mul, jI_neg, jL_add, jL_sub, jL_mul, jL_neg, jL_toI, jI_toL, jI_lt, jI_le, jI_eq, jL_lt, jL_le, jL_eq, inR_j, jI_clamp, nI_j, Option.bind_some, zc, u2, u3, u4, u5, wl, mo, if_pos, if_neg, ite_true, ite_false, c_g h, c_v h, e, c_r h] <;> rfl)
    (fun i n hi hp => by
      have h7 := hb i (by omega) (by omega)
      obtain ⟨hp, hp2⟩ := hp
      rw [p_X8_isBlocked_2]
      rcases hp with ⟨q, q2⟩ | ⟨q, q2⟩
      · simp (disch := omega) only [l32_0, l32_1, l32_2, l32_3, l32_4, l32_5, l32_6, l32_7, l32_8, l32_9, l32_10, l32_11, l32_12, l32_13, l32_14, l32_15, l32_16, l32_17, l32_18, l32_19, l32_20, l32_21, l32_22, l32_23, l32_24, l32_25, l32_26, l32_27, l32_28, l32_29, l32_30, l32_31, l32_32, l32_33, l32_34, l32_35, l32_36, l32_37, l32_38, l32_39, l32_40, l32_41, l32_42, l32_43, l32_44, l32_45, l32_46, l32_47, l32_48, l32_49, l32_50, l32_51, l32_52, l32_53, l32_54, l32_55, l32_56, l32_57, l32_58, l32_59, l32_60, l32_61, l32_62, l32_63, l32_64, l32_65, l32_66, l32_76, l32_86, l32_90, l32_92, l32_97, l32_98, l32_99, l32_100, l32_101, l32_102, l32_103, l32_104, l32_105, l32_106, l32_107, l32_108, l32_109, l32_110, l32_111, l32_112, l32_113, l32_114, l32_115, l32_116, l32_117, l32_118, l32_119, l32_120, l32_121, l32_122, l32_123, l32_124, l32_125, l32_126, l32_192, l32_200, l32_255, l32_999, l32_1000, l32_1344, l32_2147483639, l32_2147483647, l64_0, l64_1, l64_99, l64_999, l64_24883200000, l64_746496000000, jI_add, jI_sub, jI_mul, jI_neg, jL_add, jL_sub, jL_mul, jL_neg, jL_toI, jI_toL, jI_lt, jI_le, jI_eq, jL_lt, jL_le, jL_eq, inR_j, jI_clamp, nI_j, Option.bind_some, zc, u2, u3, u4, u5, wl, mo, if_pos, if_neg, ite_true, ite_false, c_g h, c_v h, e, c_r h] <;> rfl
      · simp (disch := omega) only [l32_0, l32_1, l32_2, l32_3, l32_4, l32_5, l32_6, l32_7, l32_8, l32_9, l32_10, l32_11, l32_12, l32_13, l32_14, l32_15, l32_16, l32_17, l32_18, l32_19, l32_20, l32_21, l32_22, l32_23, l32_24, l32_25, l32_26, l32_27, l32_28, l32_29, l32_30, l32_31, l32_32, l32_33, l32_34, l32_35, l32_36, l32_37, l32_38, l32_39, l32_40, l32_41, l32_42, l32_43, l32_44, l32_45, l32_46, l32_47, l32_48, l32_49, l32_50, l32_51, l32_52, l32_53, l32_54, l32_55, l32_56, l32_57, l32_58, l32_59, l32_60, l32_61, l32_62, l32_63, l32_64, l32_65, l32_66, l32_76, l32_86, l32_90, l32_92, l32_97, l32_98, l32_99, l32_100, l32_101, l32_102, l32_103, l32_104, l32_105, l32_106, l32_107, l32_108, l32_109, l32_110, l32_111, l32_112, l32_113, l32_114, l32_115, l32_116, l32_117, l32_118, l32_119, l32_120, l32_121, l32_122, l32_123, l32_124, l32_125, l32_126, l32_192, l32_200, l32_255, l32_999, l32_1000, l32_1344, l32_2147483639, l32_2147483647, l64_0, l64_1, l64_99, l64_999, l64_24883200000, l64_746496000000, jI_add, jI_sub, jI_mul, jI_neg, jL_add, jL_sub, jL_mul, jL_neg, jL_toI, jI_toL, jI_lt, jI_le, jI_eq, jL_lt, jL_le, jL_eq, inR_j, jI_clamp, nI_j, Option.bind_some, zc, u2, u3, u4, u5, wl, mo, if_pos, if_neg, ite_true, ite_false, c_g h, c_v h, e, c_r h] <;> rfl)
    (fun n => by
      rw [p_X8_isBlocked_2, e1]
      simp (disch := omega) only [l32_0, l32_1, l32_2, l32_3, l32_4, l32_5, l32_6, l32_7, l32_8, l32_9, l32_10, l32_11, l32_12, l32_13, l32_14, l32_15, l32_16, l32_17, l32_18, l32_19, l32_20, l32_21, l32_22, l32_23, l32_24, l32_25, l32_26, l32_27, l32_28, l32_29, l32_30, l32_31, l32_32, l32_33, l32_34, l32_35, l32_36, l32_37, l32_38, l32_39, l32_40, l32_41, l32_42, l32_43, l32_44, l32_45, l32_46, l32_47, l32_48, l32_49, l32_50, l32_51, l32_52, l32_53, l32_54, l32_55, l32_56, l32_57, l32_58, l32_59, l32_60, l32_61, l32_62, l32_63, l32_64, l32_65, l32_66, l32_76, l32_86, l32_90, l32_92, l32_97, l32_98, l32_99, l32_100, l32_101, l32_102, l32_103, l32_104, l32_105, l32_106, l32_107, l32_108, l32_109, l32_110, l32_111, l32_112, l32_113, l32_114, l32_115, l32_116, l32_117, l32_118, l32_119, l32_120, l32_121, l32_122, l32_123, l32_124, l32_125, l32_126, l32_192, l32_200, l32_255, l32_999, l32_1000, l32_1344, l32_2147483639, l32_2147483647, l64_0, l64_1, l64_99, l64_999, l64_24883200000, l64_746496000000, jI_add, jI_sub, jI_mul, jI_neg, jL_add, jL_sub, jL_mul, jL_neg, jL_toI, jI_toL, jI_lt, jI_le, jI_eq, jL_lt, jL_le, jL_eq, inR_j, jI_clamp, nI_j, Option.bind_some, zc, u2, u3, u4, u5, wl, mo, if_pos, if_neg, ite_true, ite_false, c_g h]) 2000 (by omega)
  unfold f_X8_isBlocked
  rcases k with ⟨r, r0, r1, r2, r3, r4⟩ | ⟨r3, r4⟩
  · refine ⟨1, by rw [l32_0, r4]; rfl, Or.inr ⟨rfl, r, r0, by omega, r2⟩⟩
  · refine ⟨0, by rw [l32_0, r4]; rfl, Or.inl ⟨rfl, fun ⟨j, j0, j1, z⟩ => ?_⟩⟩
    by_cases q : j < S 0
    · exact r3 j j0 (by omega) z
    · have := ho j j0 j1 (by omega)
      omega
def spr (S : Ab) : Int := sm (fun i => if 0 < S (26 + i) then 1 else 0) 10
theorem s_springs (h : CSt w 1 S) (hG : Good S) : f_X7_springs w = some (jI (spr S)) := by
  have hg := hG.1
  have e1 : ((S 0).toNat : Int) = S 0 := by omega
  have k := lpSum (p_X7_springs_4 w) (fun i => if 0 < S (26 + i) then 1 else 0) (S 0).toNat 0
    (fun i n a hi => by
      rw [p_X7_springs_4]
      by_cases q : 0 < S (26 + (i : Int))
      · rw [if_pos q]
        simp (disch := omega) only [l32_0, l32_1, l32_2, l32_3, l32_4, l32_5, l32_6, l32_7, l32_8, l32_9, l32_10, l32_11, l32_12, l32_13, l32_14, l32_15, l32_16, l32_17, l32_18, l32_19, l32_20, l32_21, l32_22, l32_23, l32_24, l32_25, l32_26, l32_27, l32_28, l32_29, l32_30, l32_31, l32_32, l32_33, l32_34, l32_35, l32_36, l32_37, l32_38, l32_39, l32_40, l32_41, l32_42, l32_43, l32_44, l32_45, l32_46, l32_47, l32_48, l32_49, l32_50, l32_51, l32_52, l32_53, l32_54, l32_55, l32_56, l32_57, l32_58, l32_59, l32_60, l32_61, l32_62, l32_63, l32_64, l32_65, l32_66, l32_76, l32_86, l32_90, l32_92, l32_97, l32_98, l32_99, l32_100, l32_101, l32_102, l32_103, l32_104, l32_105, l32_106, l32_107, l32_108, l32_109, l32_110, l32_111, l32_112, l32_113, l32_114, l32_115, l32_116, l32_117, l32_118, l32_119, l32_120, l32_121, l32_122, l32_123, l32_124, l32_125, l32_126, l32_192, l32_200, l32_255, l32_999, l32_1000, l32_1344, l32_2147483639, l32_2147483647, l64_0, l64_1, l64_99, l64_999, l64_24883200000, l64_746496000000, jI_add, jI_sub, jI_mul, jI_neg, jL_add, jL_sub, jL_mul, jL_neg, jL_toI, jI_toL, jI_lt, jI_le, jI_eq, jL_lt, jL_le, jL_eq, inR_j, jI_clamp, nI_j, Option.bind_some, zc, u2, u3, u4, u5, wl, mo, if_pos, if_neg, ite_true, ite_false, c_g h, s_hasSpring h hG, bZ_eq0] <;> rfl
      · rw [if_neg q, Int.add_zero]
        simp (disch := omega) only [l32_0, l32_1, l32_2, l32_3, l32_4, l32_5, l32_6, l32_7, l32_8, l32_9, l32_10, l32_11, l32_12, l32_13, l32_14, l32_15, l32_16, l32_17, l32_18, l32_19, l32_20, l32_21, l32_22, l32_23, l32_24, l32_25, l32_26, l32_27, l32_28, l32_29, l32_30, l32_31, l32_32, l32_33, l32_34, l32_35, l32_36, l32_37, l32_38, l32_39, l32_40, l32_41, l32_42, l32_43, l32_44, l32_45, l32_46, l32_47, l32_48, l32_49, l32_50, l32_51, l32_52, l32_53, l32_54, l32_55, l32_56, l32_57, l32_58, l32_59, l32_60, l32_61, l32_62, l32_63, l32_64, l32_65, l32_66, l32_76, l32_86, l32_90, l32_92, l32_97, l32_98, l32_99, l32_100, l32_101, l32_102, l32_103, l32_104, l32_105, l32_106, l32_107, l32_108, l32_109, l32_110, l32_111, l32_112, l32_113, l32_114, l32_115, l32_116, l32_117, l32_118, l32_119, l32_120, l32_121, l32_122, l32_123, l32_124, l32_125, l32_126, l32_192, l32_200, l32_255, l32_999, l32_1000, l32_1344, l32_2147483639, l32_2147483647, l64_0, l64_1, l64_99, l64_999, l64_24883200000, l64_746496000000, jI_add, jI_sub, jI_mul, jI_neg, jL_add, jL_sub, jL_mul, jL_neg, jL_toI, jI_toL, jI_lt, jI_le, jI_eq, jL_lt, jL_le, jL_eq, inR_j, jI_clamp, nI_j, Option.bind_some, zc, u2, u3, u4, u5, wl, mo, if_pos, if_neg, ite_true, ite_false, c_g h, s_hasSpring h hG, bZ_eq0] <;> rfl)
    (fun n a => by
      rw [p_X7_springs_4, e1]
      simp (disch := omega) only [l32_0, l32_1, l32_2, l32_3, l32_4, l32_5, l32_6, l32_7, l32_8, l32_9, l32_10, l32_11, l32_12, l32_13, l32_14, l32_15, l32_16, l32_17, l32_18, l32_19, l32_20, l32_21, l32_22, l32_23, l32_24, l32_25, l32_26, l32_27, l32_28, l32_29, l32_30, l32_31, l32_32, l32_33, l32_34, l32_35, l32_36, l32_37, l32_38, l32_39, l32_40, l32_41, l32_42, l32_43, l32_44, l32_45, l32_46, l32_47, l32_48, l32_49, l32_50, l32_51, l32_52, l32_53, l32_54, l32_55, l32_56, l32_57, l32_58, l32_59, l32_60, l32_61, l32_62, l32_63, l32_64, l32_65, l32_66, l32_76, l32_86, l32_90, l32_92, l32_97, l32_98, l32_99, l32_100, l32_101, l32_102, l32_103, l32_104, l32_105, l32_106, l32_107, l32_108, l32_109, l32_110, l32_111, l32_112, l32_113, l32_114, l32_115, l32_116, l32_117, l32_118, l32_119, l32_120, l32_121, l32_122, l32_123, l32_124, l32_125, l32_126, l32_192, l32_200, l32_255, l32_999, l32_1000, l32_1344, l32_2147483639, l32_2147483647, l64_0, l64_1, l64_99, l64_999, l64_24883200000, l64_746496000000, jI_add, jI_sub, jI_mul, jI_neg, jL_add, jL_sub, jL_mul, jL_neg, jL_toI, jI_toL, jI_lt, jI_le, jI_eq, jL_lt, jL_le, jL_eq, inR_j, jI_clamp, nI_j, Option.bind_some, zc, u2, u3, u4, u5, wl, mo, if_pos, if_neg, ite_true, ite_false, c_g h]) 2000 (by omega)
  unfold f_X7_springs spr
  rw [l32_0, k, sm_tail (n := 10) (m := (S 0).toNat) (by omega) (fun i h1 h2 => by
    have := ((hG.2.1 i (by omega) h2).2.1 (by omega)).2
    show (if 0 < S (26 + i) then (1 : Int) else 0) = 0
    rw [if_neg (by omega)]), Int.zero_add]
  rfl
theorem s_sumOfTensions (h : CSt w 1 S) (hG : Good S) : f_X7_sumOfTensions w = some (jI (sm (fun i => S (36 + i)) 10)) := by
  have hg := hG.1
  have e1 : ((S 0).toNat : Int) = S 0 := by omega
  have k := lpSum (p_X7_sumOfTensions_4 w) (fun i => S (36 + i)) (S 0).toNat 0
    (fun i n a hi => by
      rw [p_X7_sumOfTensions_4]
      simp (disch := omega) only [l32_0, l32_1, l32_2, l32_3, l32_4, l32_5, l32_6, l32_7, l32_8, l32_9, l32_10, l32_11, l32_12, l32_13, l32_14, l32_15, l32_16, l32_17, l32_18, l32_19, l32_20, l32_21, l32_22, l32_23, l32_24, l32_25, l32_26, l32_27, l32_28, l32_29, l32_30, l32_31, l32_32, l32_33, l32_34, l32_35, l32_36, l32_37, l32_38, l32_39, l32_40, l32_41, l32_42, l32_43, l32_44, l32_45, l32_46, l32_47, l32_48, l32_49, l32_50, l32_51, l32_52, l32_53, l32_54, l32_55, l32_56, l32_57, l32_58, l32_59, l32_60, l32_61, l32_62, l32_63, l32_64, l32_65, l32_66, l32_76, l32_86, l32_90, l32_92, l32_97, l32_98, l32_99, l32_100, l32_101, l32_102, l32_103, l32_104, l32_105, l32_106, l32_107, l32_108, l32_109, l32_110, l32_111, l32_112, l32_113, l32_114, l32_115, l32_116, l32_117, l32_118, l32_119, l32_120, l32_121, l32_122, l32_123, l32_124, l32_125, l32_126, l32_192, l32_200, l32_255, l32_999, l32_1000, l32_1344, l32_2147483639, l32_2147483647, l64_0, l64_1, l64_99, l64_999, l64_24883200000, l64_746496000000, jI_add, jI_sub, jI_mul, jI_neg, jL_add, jL_sub, jL_mul, jL_neg, jL_toI, jI_toL, jI_lt, jI_le, jI_eq, jL_lt, jL_le, jL_eq, inR_j, jI_clamp, nI_j, Option.bind_some, zc, u2, u3, u4, u5, wl, mo, if_pos, if_neg, ite_true, ite_false, c_g h, c_n h] <;> rfl)
    (fun n a => by
      rw [p_X7_sumOfTensions_4, e1]
      simp (disch := omega) only [l32_0, l32_1, l32_2, l32_3, l32_4, l32_5, l32_6, l32_7, l32_8, l32_9, l32_10, l32_11, l32_12, l32_13, l32_14, l32_15, l32_16, l32_17, l32_18, l32_19, l32_20, l32_21, l32_22, l32_23, l32_24, l32_25, l32_26, l32_27, l32_28, l32_29, l32_30, l32_31, l32_32, l32_33, l32_34, l32_35, l32_36, l32_37, l32_38, l32_39, l32_40, l32_41, l32_42, l32_43, l32_44, l32_45, l32_46, l32_47, l32_48, l32_49, l32_50, l32_51, l32_52, l32_53, l32_54, l32_55, l32_56, l32_57, l32_58, l32_59, l32_60, l32_61, l32_62, l32_63, l32_64, l32_65, l32_66, l32_76, l32_86, l32_90, l32_92, l32_97, l32_98, l32_99, l32_100, l32_101, l32_102, l32_103, l32_104, l32_105, l32_106, l32_107, l32_108, l32_109, l32_110, l32_111, l32_112, l32_113, l32_114, l32_115, l32_116, l32_117, l32_118, l32_119, l32_120, l32_121, l32_122, l32_123, l32_124, l32_125, l32_126, l32_192, l32_200, l32_255, l32_999, l32_1000, l32_1344, l32_2147483639, l32_2147483647, l64_0, l64_1, l64_99, l64_999, l64_24883200000, l64_746496000000, jI_add, jI_sub, jI_mul, jI_neg, jL_add, jL_sub, jL_mul, jL_neg, jL_toI, jI_toL, jI_lt, jI_le, jI_eq, jL_lt, jL_le, jL_eq, inR_j, jI_clamp, nI_j, Option.bind_some, zc, u2, u3, u4, u5, wl, mo, if_pos, if_neg, ite_true, ite_false, c_g h]) 2000 (by omega)
  unfold f_X7_sumOfTensions
  rw [l32_0, k, sm_tail (n := 10) (m := (S 0).toNat) (by omega) (fun i h1 h2 => by
    have q := hG.2.1 i (by omega) h2
    have := (q.2.1 (by omega)).2
    have := q.2.2.2.2.2.2.2.2
    show S (36 + i) = 0
    omega), Int.zero_add]
  rfl
theorem s_sumOfTeeth (h : CSt w 1 S) (hG : Good S) : f_X7_sumOfTeeth w = some (jI (sm (fun i => S (6 + i)) 10)) := by
  have hg := hG.1
  have e1 : ((S 0).toNat : Int) = S 0 := by omega
  have k := lpSum (p_X7_sumOfTeeth_4 w) (fun i => S (6 + i)) (S 0).toNat 0
    (fun i n a hi => by
      rw [p_X7_sumOfTeeth_4]
      simp (disch := omega) only [l32_0, l32_1, l32_2, l32_3, l32_4, l32_5, l32_6, l32_7, l32_8, l32_9, l32_10, l32_11, l32_12, l32_13, l32_14, l32_15, l32_16, l32_17, l32_18, l32_19, l32_20, l32_21, l32_22, l32_23, l32_24, l32_25, l32_26, l32_27, l32_28, l32_29, l32_30, l32_31, l32_32, l32_33, l32_34, l32_35, l32_36, l32_37, l32_38, l32_39, l32_40, l32_41, l32_42, l32_43, l32_44, l32_45, l32_46, l32_47, l32_48, l32_49, l32_50, l32_51, l32_52, l32_53, l32_54, l32_55, l32_56, l32_57, l32_58, l32_59, l32_60, l32_61, l32_62, l32_63, l32_64, l32_65, l32_66, l32_76, l32_86, l32_90, l32_92, l32_97, l32_98, l32_99, l32_100, l32_101, l32_102, l32_103, l32_104, l32_105, l32_106, l32_107, l32_108, l32_109, l32_110, l32_111, l32_112, l32_113, l32_114, l32_115, l32_116, l32_117, l32_118, l32_119, l32_120, l32_121, l32_122, l32_123, l32_124, l32_125, l32_126, l32_192, l32_200, l32_255, l32_999, l32_1000, l32_1344, l32_2147483639, l32_2147483647, l64_0, l64_1, l64_99, l64_999, l64_24883200000, l64_746496000000, jI_add, jI_sub, jI_mul, jI_neg, jL_add, jL_sub, jL_mul, jL_neg, jL_toI, jI_toL, jI_lt, jI_le, jI_eq, jL_lt, jL_le, jL_eq, inR_j, jI_clamp, nI_j, Option.bind_some, zc, u2, u3, u4, u5, wl, mo, if_pos, if_neg, ite_true, ite_false, c_g h, c_t h] <;> rfl)
    (fun n a => by
      rw [p_X7_sumOfTeeth_4, e1]
      simp (disch := omega) only [l32_0, l32_1, l32_2, l32_3, l32_4, l32_5, l32_6, l32_7, l32_8, l32_9, l32_10, l32_11, l32_12, l32_13, l32_14, l32_15, l32_16, l32_17, l32_18, l32_19, l32_20, l32_21, l32_22, l32_23, l32_24, l32_25, l32_26, l32_27, l32_28, l32_29, l32_30, l32_31, l32_32, l32_33, l32_34, l32_35, l32_36, l32_37, l32_38, l32_39, l32_40, l32_41, l32_42, l32_43, l32_44, l32_45, l32_46, l32_47, l32_48, l32_49, l32_50, l32_51, l32_52, l32_53, l32_54, l32_55, l32_56, l32_57, l32_58, l32_59, l32_60, l32_61, l32_62, l32_63, l32_64, l32_65, l32_66, l32_76, l32_86, l32_90, l32_92, l32_97, l32_98, l32_99, l32_100, l32_101, l32_102, l32_103, l32_104, l32_105, l32_106, l32_107, l32_108, l32_109, l32_110, l32_111, l32_112, l32_113, l32_114, l32_115, l32_116, l32_117, l32_118, l32_119, l32_120, l32_121, l32_122, l32_123, l32_124, l32_125, l32_126, l32_192, l32_200, l32_255, l32_999, l32_1000, l32_1344, l32_2147483639, l32_2147483647, l64_0, l64_1, l64_99, l64_999, l64_24883200000, l64_746496000000, jI_add, jI_sub, jI_mul, jI_neg, jL_add, jL_sub, jL_mul, jL_neg, jL_toI, jI_toL, jI_lt, jI_le, jI_eq, jL_lt, jL_le, jL_eq, inR_j, jI_clamp, nI_j, Option.bind_some, zc, u2, u3, u4, u5, wl, mo, if_pos, if_neg, ite_true, ite_false, c_g h]) 2000 (by omega)
  unfold f_X7_sumOfTeeth
  rw [l32_0, k, sm_tail (n := 10) (m := (S 0).toNat) (by omega) (fun i h1 h2 => ((hG.2.1 i (by omega) h2).2.1 (by omega)).1), Int.zero_add]
  rfl
def dry (S : Ab) : Int := sm (fun i => if S (66 + i) = 0 then 1 else 0) (S 0).toNat
theorem s_dryGears (h : CSt w 1 S) (hG : Good S) : f_X7_dryGears w = some (jI (dry S)) := by
  have hg := hG.1
  have e1 : ((S 0).toNat : Int) = S 0 := by omega
  have k := lpSum (p_X7_dryGears_4 w) (fun i => if S (66 + i) = 0 then 1 else 0) (S 0).toNat 0
    (fun i n a hi => by
      have h6 := (hG.2.1 i (by omega) (by omega)).2.2.2.1
      rw [p_X7_dryGears_4]
      by_cases q : S (66 + (i : Int)) = 0
      · rw [if_pos q]
        simp (disch := omega) only [l32_0, l32_1, l32_2, l32_3, l32_4, l32_5, l32_6, l32_7, l32_8, l32_9, l32_10, l32_11, l32_12, l32_13, l32_14, l32_15, l32_16, l32_17, l32_18, l32_19, l32_20, l32_21, l32_22, l32_23, l32_24, l32_25, l32_26, l32_27, l32_28, l32_29, l32_30, l32_31, l32_32, l32_33, l32_34, l32_35, l32_36, l32_37, l32_38, l32_39, l32_40, l32_41, l32_42, l32_43, l32_44, l32_45, l32_46, l32_47, l32_48, l32_49, l32_50, l32_51, l32_52, l32_53, l32_54, l32_55, l32_56, l32_57, l32_58, l32_59, l32_60, l32_61, l32_62, l32_63, l32_64, l32_65, l32_66, l32_76, l32_86, l32_90, l32_92, l32_97, l32_98, l32_99, l32_100, l32_101, l32_102, l32_103, l32_104, l32_105, l32_106, l32_107, l32_108, l32_109, l32_110, l32_111, l32_112, l32_113, l32_114, l32_115, l32_116, l32_117, l32_118, l32_119, l32_120, l32_121, l32_122, l32_123, l32_124, l32_125, l32_126, l32_192, l32_200, l32_255, l32_999, l32_1000, l32_1344, l32_2147483639, l32_2147483647, l64_0, l64_1, l64_99, l64_999, l64_24883200000, l64_746496000000, jI_add, jI_sub, jI_mul, jI_neg, jL_add, jL_sub, jL_mul, jL_neg, jL_toI, jI_toL, jI_lt, jI_le, jI_eq, jL_lt, jL_le, jL_eq, inR_j, jI_clamp, nI_j, Option.bind_some, zc, u2, u3, u4, u5, wl, mo, if_pos, if_neg, ite_true, ite_false, c_g h, c_o h] <;> rfl
      · rw [if_neg q, Int.add_zero]
        simp (disch := omega) only [l32_0, l32_1, l32_2, l32_3, l32_4, l32_5, l32_6, l32_7, l32_8, l32_9, l32_10, l32_11, l32_12, l32_13, l32_14, l32_15, l32_16, l32_17, l32_18, l32_19, l32_20, l32_21, l32_22, l32_23, l32_24, l32_25, l32_26, l32_27, l32_28, l32_29, l32_30, l32_31, l32_32, l32_33, l32_34, l32_35, l32_36, l32_37, l32_38, l32_39, l32_40, l32_41, l32_42, l32_43, l32_44, l32_45, l32_46, l32_47, l32_48, l32_49, l32_50, l32_51, l32_52, l32_53, l32_54, l32_55, l32_56, l32_57, l32_58, l32_59, l32_60, l32_61, l32_62, l32_63, l32_64, l32_65, l32_66, l32_76, l32_86, l32_90, l32_92, l32_97, l32_98, l32_99, l32_100, l32_101, l32_102, l32_103, l32_104, l32_105, l32_106, l32_107, l32_108, l32_109, l32_110, l32_111, l32_112, l32_113, l32_114, l32_115, l32_116, l32_117, l32_118, l32_119, l32_120, l32_121, l32_122, l32_123, l32_124, l32_125, l32_126, l32_192, l32_200, l32_255, l32_999, l32_1000, l32_1344, l32_2147483639, l32_2147483647, l64_0, l64_1, l64_99, l64_999, l64_24883200000, l64_746496000000, jI_add, jI_sub, jI_mul, jI_neg, jL_add, jL_sub, jL_mul, jL_neg, jL_toI, jI_toL, jI_lt, jI_le, jI_eq, jL_lt, jL_le, jL_eq, inR_j, jI_clamp, nI_j, Option.bind_some, zc, u2, u3, u4, u5, wl, mo, if_pos, if_neg, ite_true, ite_false, c_g h, c_o h] <;> rfl)
    (fun n a => by
      rw [p_X7_dryGears_4, e1]
      simp (disch := omega) only [l32_0, l32_1, l32_2, l32_3, l32_4, l32_5, l32_6, l32_7, l32_8, l32_9, l32_10, l32_11, l32_12, l32_13, l32_14, l32_15, l32_16, l32_17, l32_18, l32_19, l32_20, l32_21, l32_22, l32_23, l32_24, l32_25, l32_26, l32_27, l32_28, l32_29, l32_30, l32_31, l32_32, l32_33, l32_34, l32_35, l32_36, l32_37, l32_38, l32_39, l32_40, l32_41, l32_42, l32_43, l32_44, l32_45, l32_46, l32_47, l32_48, l32_49, l32_50, l32_51, l32_52, l32_53, l32_54, l32_55, l32_56, l32_57, l32_58, l32_59, l32_60, l32_61, l32_62, l32_63, l32_64, l32_65, l32_66, l32_76, l32_86, l32_90, l32_92, l32_97, l32_98, l32_99, l32_100, l32_101, l32_102, l32_103, l32_104, l32_105, l32_106, l32_107, l32_108, l32_109, l32_110, l32_111, l32_112, l32_113, l32_114, l32_115, l32_116, l32_117, l32_118, l32_119, l32_120, l32_121, l32_122, l32_123, l32_124, l32_125, l32_126, l32_192, l32_200, l32_255, l32_999, l32_1000, l32_1344, l32_2147483639, l32_2147483647, l64_0, l64_1, l64_99, l64_999, l64_24883200000, l64_746496000000, jI_add, jI_sub, jI_mul, jI_neg, jL_add, jL_sub, jL_mul, jL_neg, jL_toI, jI_toL, jI_lt, jI_le, jI_eq, jL_lt, jL_le, jL_eq, inR_j, jI_clamp, nI_j, Option.bind_some, zc, u2, u3, u4, u5, wl, mo, if_pos, if_neg, ite_true, ite_false, c_g h]) 2000 (by omega)
  unfold f_X7_dryGears dry
  rw [l32_0, k, Int.zero_add]
  rfl
theorem s_carriesPlanet (h : CSt w 1 S) (hG : Good S) {g : Int} (g0 : 0 ≤ g) (g1 : g < 10) : ∃ r, f_X7_carriesPlanet w (jI g) = some (jI r) ∧ ((r = 0 ∧ ¬ ∃ p, 0 ≤ p ∧ p < S 1 ∧ S (86 + p) = g) ∨ (r = 1 ∧ ∃ p, 0 ≤ p ∧ p < S 1 ∧ S (86 + p) = g)) := by
  have hg := hG.1
  have e1 : ((S 1).toNat : Int) = S 1 := by omega
  have k := lpFind (p_X7_carriesPlanet_2 w (jI g)) (fun p => S (86 + p) = g) (S 1).toNat (fun _ => jI 1)
    (fun i n hi hp => by
      have h6 := hG.2.2.1 i (by omega) (by omega)
      rw [p_X7_carriesPlanet_2]
      simp (disch := omega) only [l32_0, l32_1, l32_2, l32_3, l32_4, l32_5, l32_6, l32_7, l32_8, l32_9, l32_10, l32_11, l32_12, l32_13, l32_14, l32_15, l32_16, l32_17, l32_18, l32_19, l32_20, l32_21, l32_22, l32_23, l32_24, l32_25, l32_26, l32_27, l32_28, l32_29, l32_30, l32_31, l32_32, l32_33, l32_34, l32_35, l32_36, l32_37, l32_38, l32_39, l32_40, l32_41, l32_42, l32_43, l32_44, l32_45, l32_46, l32_47, l32_48, l32_49, l32_50, l32_51, l32_52, l32_53, l32_54, l32_55, l32_56, l32_57, l32_58, l32_59, l32_60, l32_61, l32_62, l32_63, l32_64, l32_65, l32_66, l32_76, l32_86, l32_90, l32_92, l32_97, l32_98, l32_99, l32_100, l32_101, l32_102, l32_103, l32_104, l32_105, l32_106, l32_107, l32_108, l32_109, l32_110, l32_111, l32_112, l32_113, l32_114, l32_115, l32_116, l32_117, l32_118, l32_119, l32_120, l32_121, l32_122, l32_123, l32_124, l32_125, l32_126, l32_192, l32_200, l32_255, l32_999, l32_1000, l32_1344, l32_2147483639, l32_2147483647, l64_0, l64_1, l64_99, l64_999, l64_24883200000, l64_746496000000, jI_add, jI_sub, jI_mul, jI_neg, jL_add, jL_sub, jL_mul, jL_neg, jL_toI, jI_toL, jI_lt, jI_le, jI_eq, jL_lt, jL_le, jL_eq, inR_j, jI_clamp, nI_j, Option.bind_some, zc, u2, u3, u4, u5, wl, mo, if_pos, if_neg, ite_true, ite_false, c_p h, c_c h] <;> rfl)
    (fun i n hi hp => by
      have h6 := hG.2.2.1 i (by omega) (by omega)
      rw [p_X7_carriesPlanet_2]
      simp (disch := omega) only [l32_0, l32_1, l32_2, l32_3, l32_4, l32_5, l32_6, l32_7, l32_8, l32_9, l32_10, l32_11, l32_12, l32_13, l32_14, l32_15, l32_16, l32_17, l32_18, l32_19, l32_20, l32_21, l32_22, l32_23, l32_24, l32_25, l32_26, l32_27, l32_28, l32_29, l32_30, l32_31, l32_32, l32_33, l32_34, l32_35, l32_36, l32_37, l32_38, l32_39, l32_40, l32_41, l32_42, l32_43, l32_44, l32_45, l32_46, l32_47, l32_48, l32_49, l32_50, l32_51, l32_52, l32_53, l32_54, l32_55, l32_56, l32_57, l32_58, l32_59, l32_60, l32_61, l32_62, l32_63, l32_64, l32_65, l32_66, l32_76, l32_86, l32_90, l32_92, l32_97, l32_98, l32_99, l32_100, l32_101, l32_102, l32_103, l32_104, l32_105, l32_106, l32_107, l32_108, l32_109, l32_110, l32_111, l32_112, l32_113, l32_114, l32_115, l32_116, l32_117, l32_118, l32_119, l32_120, l32_121, l32_122, l32_123, l32_124, l32_125, l32_126, l32_192, l32_200, l32_255, l32_999, l32_1000, l32_1344, l32_2147483639, l32_2147483647, l64_0, l64_1, l64_99, l64_999, l64_24883200000, l64_746496000000, jI_add, jI_sub, jI_mul, jI_neg, jL_add, jL_sub, jL_mul, jL_neg, jL_toI, jI_toL, jI_lt, jI_le, jI_eq, jL_lt, jL_le, jL_eq, inR_j, jI_clamp, nI_j, Option.bind_some, zc, u2, u3, u4, u5, wl, mo, if_pos, if_neg, ite_true, ite_false, c_p h, c_c h] <;> rfl)
    (fun n => by
      rw [p_X7_carriesPlanet_2, e1]
      simp (disch := omega) only [l32_0, l32_1, l32_2, l32_3, l32_4, l32_5, l32_6, l32_7, l32_8, l32_9, l32_10, l32_11, l32_12, l32_13, l32_14, l32_15, l32_16, l32_17, l32_18, l32_19, l32_20, l32_21, l32_22, l32_23, l32_24, l32_25, l32_26, l32_27, l32_28, l32_29, l32_30, l32_31, l32_32, l32_33, l32_34, l32_35, l32_36, l32_37, l32_38, l32_39, l32_40, l32_41, l32_42, l32_43, l32_44, l32_45, l32_46, l32_47, l32_48, l32_49, l32_50, l32_51, l32_52, l32_53, l32_54, l32_55, l32_56, l32_57, l32_58, l32_59, l32_60, l32_61, l32_62, l32_63, l32_64, l32_65, l32_66, l32_76, l32_86, l32_90, l32_92, l32_97, l32_98, l32_99, l32_100, l32_101, l32_102, l32_103, l32_104, l32_105, l32_106, l32_107, l32_108, l32_109, l32_110, l32_111, l32_112, l32_113, l32_114, l32_115, l32_116, l32_117, l32_118, l32_119, l32_120, l32_121, l32_122, l32_123, l32_124, l32_125, l32_126, l32_192, l32_200, l32_255, l32_999, l32_1000, l32_1344, l32_2147483639, l32_2147483647, l64_0, l64_1, l64_99, l64_999, l64_24883200000, l64_746496000000, jI_add, jI_sub, jI_mul, jI_neg, jL_add, jL_sub, jL_mul, jL_neg, jL_toI, jI_toL, jI_lt, jI_le, jI_eq, jL_lt, jL_le, jL_eq, inR_j, jI_clamp, nI_j, Option.bind_some, zc, u2, u3, u4, u5, wl, mo, if_pos, if_neg, ite_true, ite_false, c_p h]) 2000 (by omega)
  unfold f_X7_carriesPlanet
  rcases k with ⟨r, r0, r1, r2, r3, r4⟩ | ⟨r3, r4⟩
  · exact ⟨1, by rw [l32_0, r4]; rfl, Or.inr ⟨rfl, r, r0, by omega, r2⟩⟩
  · exact ⟨0, by rw [l32_0, r4]; rfl, Or.inl ⟨rfl, fun ⟨j, j0, j1, z⟩ => r3 j j0 (by omega) z⟩⟩
/-- a planet's place by angle -/
def bhd (S : Ab) (o p : Int) : Prop := S (16 + S (86 + o)) < S (16 + S (86 + p)) ∨ (S (16 + S (86 + o)) = S (16 + S (86 + p)) ∧ o < p)
theorem s_lowestGear (hT : CT w u sz m) (hb : ∀ x, 0 ≤ x → x < 10 → -14929920000000000 ≤ u x ∧ u x ≤ 14929920000000000) : ∃ r, f_X8_lowestGear w = some (jI r) ∧ IsF (fun i => u i ≠ 0) 10 r := by
  have e := hT.1
  have k := lpFind (p_X8_lowestGear_2 w) (fun i => u i ≠ 0) 10 (fun i => jI i)
    (fun i n hi hp => by
      have h7 := hb i (by omega) (by omega)
      rw [p_X8_lowestGear_2]
      simp (disch := omega) only [l32_0, l32_1, l32_2, l32_3, l32_4, l32_5, l32_6, l32_7, l32_8, l32_9, l32_10, l32_11, l32_12, l32_13, l32_14, l32_15, l32_16, l32_17, l32_18, l32_19, l32_20, l32_21, l32_22, l32_23, l32_24, l32_25, l32_26, l32_27, l32_28, l32_29, l32_30, l32_31, l32_32, l32_33, l32_34, l32_35, l32_36, l32_37, l32_38, l32_39, l32_40, l32_41, l32_42, l32_43, l32_44, l32_45, l32_46, l32_47, l32_48, l32_49, l32_50, l32_51, l32_52, l32_53, l32_54, l32_55, l32_56, l32_57, l32_58, l32_59, l32_60, l32_61, l32_62, l32_63, l32_64, l32_65, l32_66, l32_76, l32_86, l32_90, l32_92, l32_97, l32_98, l32_99, l32_100, l32_101, l32_102, l32_103, l32_104, l32_105, l32_106, l32_107, l32_108, l32_109, l32_110, l32_111, l32_112, l32_113, l32_114, l32_115, l32_116, l32_117, l32_118, l32_119, l32_120, l32_121, l32_122, l32_123, l32_124, l32_125, l32_126, l32_192, l32_200, l32_255, l32_999, l32_1000, l32_1344, l32_2147483639, l32_2147483647, l64_0, l64_1, l64_99, l64_999, l64_24883200000, l64_746496000000, jI_add, jI_sub, jI_mul, jI_neg, jL_add, jL_sub, jL_mul, jL_neg, jL_toI, jI_toL, jI_lt, jI_le, jI_eq, jL_lt, jL_le, jL_eq, inR_j, jI_clamp, nI_j, Option.bind_some, zc, u2, u3, u4, u5, wl, mo, if_pos, if_neg, ite_true, ite_false, e] <;> rfl)
    (fun i n hi hp => by
      have h7 := hb i (by omega) (by omega)
      rw [p_X8_lowestGear_2]
      simp (disch := omega) only [l32_0, l32_1, l32_2, l32_3, l32_4, l32_5, l32_6, l32_7, l32_8, l32_9, l32_10, l32_11, l32_12, l32_13, l32_14, l32_15, l32_16, l32_17, l32_18, l32_19, l32_20, l32_21, l32_22, l32_23, l32_24, l32_25, l32_26, l32_27, l32_28, l32_29, l32_30, l32_31, l32_32, l32_33, l32_34, l32_35, l32_36, l32_37, l32_38, l32_39, l32_40, l32_41, l32_42, l32_43, l32_44, l32_45, l32_46, l32_47, l32_48, l32_49, l32_50, l32_51, l32_52, l32_53, l32_54, l32_55, l32_56, l32_57, l32_58, l32_59, l32_60, l32_61, l32_62, l32_63, l32_64, l32_65, l32_66, l32_76, l32_86, l32_90, l32_92, l32_97, l32_98, l32_99, l32_100, l32_101, l32_102, l32_103, l32_104, l32_105, l32_106, l32_107, l32_108, l32_109, l32_110, l32_111, l32_112, l32_113, l32_114, l32_115, l32_116, l32_117, l32_118, l32_119, l32_120, l32_121, l32_122, l32_123, l32_124, l32_125, l32_126, l32_192, l32_200, l32_255, l32_999, l32_1000, l32_1344, l32_2147483639, l32_2147483647, l64_0, l64_1, l64_99, l64_999, l64_24883200000, l64_746496000000, jI_add, jI_sub, jI_mul, jI_neg, jL_add, jL_sub, jL_mul, jL_neg, jL_toI, jI_toL, jI_lt, jI_le, jI_eq, jL_lt, jL_le, jL_eq, inR_j, jI_clamp, nI_j, Option.bind_some, zc, u2, u3, u4, u5, wl, mo, if_pos, if_neg, ite_true, ite_false, e] <;> rfl)
    (fun n => by
      rw [p_X8_lowestGear_2, show ((10 : Nat) : Int) = 10 from rfl]
      simp (disch := omega) only [l32_0, l32_1, l32_2, l32_3, l32_4, l32_5, l32_6, l32_7, l32_8, l32_9, l32_10, l32_11, l32_12, l32_13, l32_14, l32_15, l32_16, l32_17, l32_18, l32_19, l32_20, l32_21, l32_22, l32_23, l32_24, l32_25, l32_26, l32_27, l32_28, l32_29, l32_30, l32_31, l32_32, l32_33, l32_34, l32_35, l32_36, l32_37, l32_38, l32_39, l32_40, l32_41, l32_42, l32_43, l32_44, l32_45, l32_46, l32_47, l32_48, l32_49, l32_50, l32_51, l32_52, l32_53, l32_54, l32_55, l32_56, l32_57, l32_58, l32_59, l32_60, l32_61, l32_62, l32_63, l32_64, l32_65, l32_66, l32_76, l32_86, l32_90, l32_92, l32_97, l32_98, l32_99, l32_100, l32_101, l32_102, l32_103, l32_104, l32_105, l32_106, l32_107, l32_108, l32_109, l32_110, l32_111, l32_112, l32_113, l32_114, l32_115, l32_116, l32_117, l32_118, l32_119, l32_120, l32_121, l32_122, l32_123, l32_124, l32_125, l32_126, l32_192, l32_200, l32_255, l32_999, l32_1000, l32_1344, l32_2147483639, l32_2147483647, l64_0, l64_1, l64_99, l64_999, l64_24883200000, l64_746496000000, jI_add, jI_sub, jI_mul, jI_neg, jL_add, jL_sub, jL_mul, jL_neg, jL_toI, jI_toL, jI_lt, jI_le, jI_eq, jL_lt, jL_le, jL_eq, inR_j, jI_clamp, nI_j, Option.bind_some, zc, u2, u3, u4, u5, wl, mo, if_pos, if_neg, ite_true, ite_false]) 2000 (by omega)
  unfold f_X8_lowestGear
  rcases k with ⟨r, r0, r1, r2, r3, r4⟩ | ⟨r3, r4⟩
  · exact ⟨r, by rw [l32_0, r4]; rfl, Or.inl ⟨r0, by omega, r2, r3⟩⟩
  · exact ⟨-1, by rw [l32_0, r4]; rfl, Or.inr ⟨rfl, r3⟩⟩
end
end
section
/-! READS of the reference -/
section
variable {w : Wd} {S u : Ab}
theorem s_rIsGear (h : RSt w 142 0 S) (hG : Good S) {a : Int} (h1 : -2147483648 ≤ a) (h2 : a < 2147483648) : f_X11_isGear w (jI a) = some (jI (bZ (0 ≤ a ∧ a < S 0))) := by
  have hg := hG.1
  unfold f_X11_isGear
  simp (disch := omega) only [l32_0, l32_1, l32_2, l32_3, l32_4, l32_5, l32_6, l32_7, l32_8, l32_9, l32_10, l32_11, l32_12, l32_13, l32_14, l32_15, l32_16, l32_17, l32_18, l32_19, l32_20, l32_21, l32_22, l32_23, l32_24, l32_25, l32_26, l32_27, l32_28, l32_29, l32_30, l32_31, l32_32, l32_33, l32_34, l32_35, l32_36, l32_37, l32_38, l32_39, l32_40, l32_41, l32_42, l32_43, l32_44, l32_45, l32_46, l32_47, l32_48, l32_49, l32_50, l32_51, l32_52, l32_53, l32_54, l32_55, l32_56, l32_57, l32_58, l32_59, l32_60, l32_61, l32_62, l32_63, l32_64, l32_65, l32_66, l32_76, l32_86, l32_90, l32_92, l32_97, l32_98, l32_99, l32_100, l32_101, l32_102, l32_103, l32_104, l32_105, l32_106, l32_107, l32_108, l32_109, l32_110, l32_111, l32_112, l32_113, l32_114, l32_115, l32_116, l32_117, l32_118, l32_119, l32_120, l32_121, l32_122, l32_123, l32_124, l32_125, l32_126, l32_192, l32_200, l32_255, l32_999, l32_1000, l32_1344, l32_2147483639, l32_2147483647, l64_0, l64_1, l64_99, l64_999, l64_24883200000, l64_746496000000, jI_add, jI_sub, jI_mul, jI_neg, jL_add, jL_sub, jL_mul, jL_neg, jL_toI, jI_toL, jI_lt, jI_le, jI_eq, jL_lt, jL_le, jL_eq, inR_j, jI_clamp, nI_j, Option.bind_some, zc, u2, u3, u4, u5, wl, mo, if_pos, if_neg, ite_true, ite_false, s_at h, s_in, bZ_nar]
  rw [bZ_congr (show 0 ≤ a ∧ a ≤ S 0 - 1 ↔ 0 ≤ a ∧ a < S 0 by omega)]
theorem s_rIsPlanet (h : RSt w 142 0 S) (hG : Good S) {a : Int} (h1 : -2147483648 ≤ a) (h2 : a < 2147483648) : f_X11_isPlanet w (jI a) = some (jI (bZ (0 ≤ a ∧ a < S 1))) := by
  have hg := hG.1
  unfold f_X11_isPlanet
  simp (disch := omega) only [l32_0, l32_1, l32_2, l32_3, l32_4, l32_5, l32_6, l32_7, l32_8, l32_9, l32_10, l32_11, l32_12, l32_13, l32_14, l32_15, l32_16, l32_17, l32_18, l32_19, l32_20, l32_21, l32_22, l32_23, l32_24, l32_25, l32_26, l32_27, l32_28, l32_29, l32_30, l32_31, l32_32, l32_33, l32_34, l32_35, l32_36, l32_37, l32_38, l32_39, l32_40, l32_41, l32_42, l32_43, l32_44, l32_45, l32_46, l32_47, l32_48, l32_49, l32_50, l32_51, l32_52, l32_53, l32_54, l32_55, l32_56, l32_57, l32_58, l32_59, l32_60, l32_61, l32_62, l32_63, l32_64, l32_65, l32_66, l32_76, l32_86, l32_90, l32_92, l32_97, l32_98, l32_99, l32_100, l32_101, l32_102, l32_103, l32_104, l32_105, l32_106, l32_107, l32_108, l32_109, l32_110, l32_111, l32_112, l32_113, l32_114, l32_115, l32_116, l32_117, l32_118, l32_119, l32_120, l32_121, l32_122, l32_123, l32_124, l32_125, l32_126, l32_192, l32_200, l32_255, l32_999, l32_1000, l32_1344, l32_2147483639, l32_2147483647, l64_0, l64_1, l64_99, l64_999, l64_24883200000, l64_746496000000, jI_add, jI_sub, jI_mul, jI_neg, jL_add, jL_sub, jL_mul, jL_neg, jL_toI, jI_toL, jI_lt, jI_le, jI_eq, jL_lt, jL_le, jL_eq, inR_j, jI_clamp, nI_j, Option.bind_some, zc, u2, u3, u4, u5, wl, mo, if_pos, if_neg, ite_true, ite_false, s_at h, s_in, bZ_nar]
  rw [bZ_congr (show 0 ≤ a ∧ a ≤ S 1 - 1 ↔ 0 ≤ a ∧ a < S 1 by omega)]
theorem s_rAreGears (h : RSt w 142 0 S) (hG : Good S) {a b : Int} (h1 : -2147483648 ≤ a) (h2 : a < 2147483648) (h3 : -2147483648 ≤ b) (h4 : b < 2147483648) : f_X11_areGears w (jI a) (jI b) = some (jI (bZ ((0 ≤ a ∧ a < S 0) ∧ 0 ≤ b ∧ b < S 0))) := by
  have hg := hG.1
  unfold f_X11_areGears
  by_cases q : 0 ≤ a ∧ a < S 0
  · by_cases q2 : 0 ≤ b ∧ b < S 0
    · rw [bZ_pos ⟨q, q2⟩]
      simp (disch := omega) only [l32_0, l32_1, l32_2, l32_3, l32_4, l32_5, l32_6, l32_7, l32_8, l32_9, l32_10, l32_11, l32_12, l32_13, l32_14, l32_15, l32_16, l32_17, l32_18, l32_19, l32_20, l32_21, l32_22, l32_23, l32_24, l32_25, l32_26, l32_27, l32_28, l32_29, l32_30, l32_31, l32_32, l32_33, l32_34, l32_35, l32_36, l32_37, l32_38, l32_39, l32_40, l32_41, l32_42, l32_43, l32_44, l32_45, l32_46, l32_47, l32_48, l32_49, l32_50, l32_51, l32_52, l32_53, l32_54, l32_55, l32_56, l32_57, l32_58, l32_59, l32_60, l32_61, l32_62, l32_63, l32_64, l32_65, l32_66, l32_76, l32_86, l32_90, l32_92, l32_97, l32_98, l32_99, l32_100, l32_101, l32_102, l32_103, l32_104, l32_105, l32_106, l32_107, l32_108, l32_109, l32_110, l32_111, l32_112, l32_113, l32_114, l32_115, l32_116, l32_117, l32_118, l32_119, l32_120, l32_121, l32_122, l32_123, l32_124, l32_125, l32_126, l32_192, l32_200, l32_255, l32_999, l32_1000, l32_1344, l32_2147483639, l32_2147483647, l64_0, l64_1, l64_99, l64_999, l64_24883200000, l64_746496000000, jI_add, jI_sub, jI_mul, jI_neg, jL_add, jL_sub, jL_mul, jL_neg, jL_toI, jI_toL, jI_lt, jI_le, jI_eq, jL_lt, jL_le, jL_eq, inR_j, jI_clamp, nI_j, Option.bind_some, zc, u2, u3, u4, u5, wl, mo, if_pos, if_neg, ite_true, ite_false, s_rIsGear h hG, bZ_eq0]
    · rw [bZ_neg (fun z => q2 z.2)]
      simp (disch := omega) only [l32_0, l32_1, l32_2, l32_3, l32_4, l32_5, l32_6, l32_7, l32_8, l32_9, l32_10, l32_11, l32_12, l32_13, l32_14, l32_15, l32_16, l32_17, l32_18, l32_19, l32_20, l32_21, l32_22, l32_23, l32_24, l32_25, l32_26, l32_27, l32_28, l32_29, l32_30, l32_31, l32_32, l32_33, l32_34, l32_35, l32_36, l32_37, l32_38, l32_39, l32_40, l32_41, l32_42, l32_43, l32_44, l32_45, l32_46, l32_47, l32_48, l32_49, l32_50, l32_51, l32_52, l32_53, l32_54, l32_55, l32_56, l32_57, l32_58, l32_59, l32_60, l32_61, l32_62, l32_63, l32_64, l32_65, l32_66, l32_76, l32_86, l32_90, l32_92, l32_97, l32_98, l32_99, l32_100, l32_101, l32_102, l32_103, l32_104, l32_105, l32_106, l32_107, l32_108, l32_109, l32_110, l32_111, l32_112, l32_113, l32_114, l32_115, l32_116, l32_117, l32_118, l32_119, l32_120, l32_121, l32_122, l32_123, l32_124, l32_125, l32_126, l32_192, l32_200, l32_255, l32_999, l32_1000, l32_1344, l32_2147483639, l32_2147483647, l64_0, l64_1, l64_99, l64_999, l64_24883200000, l64_746496000000, jI_add, jI_sub, jI_mul, jI_neg, jL_add, jL_sub, jL_mul, jL_neg, jL_toI, jI_toL, jI_lt, jI_le, jI_eq, jL_lt, jL_le, jL_eq, inR_j, jI_clamp, nI_j, Option.bind_some, zc, u2, u3, u4, u5, wl, mo, if_pos, if_neg, ite_true, ite_false, s_rIsGear h hG, bZ_eq0]
  · rw [bZ_neg (fun z => q z.1)]
    simp (disch := omega) only [l32_0, l32_1, l32_2, l32_3, l32_4, l32_5, l32_6, l32_7, l32_8, l32_9, l32_10, l32_11, l32_12, l32_13, l32_14, l32_15, l32_16, l32_17, l32_18, l32_19, l32_20, l32_21, l32_22, l32_23, l32_24, l32_25, l32_26, l32_27, l32_28, l32_29, l32_30, l32_31, l32_32, l32_33, l32_34, l32_35, l32_36, l32_37, l32_38, l32_39, l32_40, l32_41, l32_42, l32_43, l32_44, l32_45, l32_46, l32_47, l32_48, l32_49, l32_50, l32_51, l32_52, l32_53, l32_54, l32_55, l32_56, l32_57, l32_58, l32_59, l32_60, l32_61, l32_62, l32_63, l32_64, l32_65, l32_66, l32_76, l32_86, l32_90, l32_92, l32_97, l32_98, l32_99, l32_100, l32_101, l32_102, l32_103, l32_104, l32_105, l32_106, l32_107, l32_108, l32_109, l32_110, l32_111, l32_112, l32_113, l32_114, l32_115, l32_116, l32_117, l32_118, l32_119, l32_120, l32_121, l32_122, l32_123, l32_124, l32_125, l32_126, l32_192, l32_200, l32_255, l32_999, l32_1000, l32_1344, l32_2147483639, l32_2147483647, l64_0, l64_1, l64_99, l64_999, l64_24883200000, l64_746496000000, jI_add, jI_sub, jI_mul, jI_neg, jL_add, jL_sub, jL_mul, jL_neg, jL_toI, jI_toL, jI_lt, jI_le, jI_eq, jL_lt, jL_le, jL_eq, inR_j, jI_clamp, nI_j, Option.bind_some, zc, u2, u3, u4, u5, wl, mo, if_pos, if_neg, ite_true, ite_false, s_rIsGear h hG, bZ_eq0]
theorem s_rHasSpring (h : RSt w 142 0 S) (hG : Good S) {i : Int} (h1 : 0 ≤ i) (h2 : i < 10) : f_X11_hasSpring w (jI i) = some (jI (bZ (0 < S (26 + i)))) := by
  have hi := (hG.2.1 i h1 h2).2.2.2.2.2.2.2.1
  unfold f_X11_hasSpring
  by_cases q : 0 < S (26 + i)
  · rw [bZ_pos q]
    simp (disch := omega) only [l32_0, l32_1, l32_2, l32_3, l32_4, l32_5, l32_6, l32_7, l32_8, l32_9, l32_10, l32_11, l32_12, l32_13, l32_14, l32_15, l32_16, l32_17, l32_18, l32_19, l32_20, l32_21, l32_22, l32_23, l32_24, l32_25, l32_26, l32_27, l32_28, l32_29, l32_30, l32_31, l32_32, l32_33, l32_34, l32_35, l32_36, l32_37, l32_38, l32_39, l32_40, l32_41, l32_42, l32_43, l32_44, l32_45, l32_46, l32_47, l32_48, l32_49, l32_50, l32_51, l32_52, l32_53, l32_54, l32_55, l32_56, l32_57, l32_58, l32_59, l32_60, l32_61, l32_62, l32_63, l32_64, l32_65, l32_66, l32_76, l32_86, l32_90, l32_92, l32_97, l32_98, l32_99, l32_100, l32_101, l32_102, l32_103, l32_104, l32_105, l32_106, l32_107, l32_108, l32_109, l32_110, l32_111, l32_112, l32_113, l32_114, l32_115, l32_116, l32_117, l32_118, l32_119, l32_120, l32_121, l32_122, l32_123, l32_124, l32_125, l32_126, l32_192, l32_200, l32_255, l32_999, l32_1000, l32_1344, l32_2147483639, l32_2147483647, l64_0, l64_1, l64_99, l64_999, l64_24883200000, l64_746496000000, jI_add, jI_sub, jI_mul, jI_neg, jL_add, jL_sub, jL_mul, jL_neg, jL_toI, jI_toL, jI_lt, jI_le, jI_eq, jL_lt, jL_le, jL_eq, inR_j, jI_clamp, nI_j, Option.bind_some, zc, u2, u3, u4, u5, wl, mo, if_pos, if_neg, ite_true, ite_false, s_at h]
  · rw [bZ_neg q]
    simp (disch := omega) only [l32_0, l32_1, l32_2, l32_3, l32_4, l32_5, l32_6, l32_7, l32_8, l32_9, l32_10, l32_11, l32_12, l32_13, l32_14, l32_15, l32_16, l32_17, l32_18, l32_19, l32_20, l32_21, l32_22, l32_23, l32_24, l32_25, l32_26, l32_27, l32_28, l32_29, l32_30, l32_31, l32_32, l32_33, l32_34, l32_35, l32_36, l32_37, l32_38, l32_39, l32_40, l32_41, l32_42, l32_43, l32_44, l32_45, l32_46, l32_47, l32_48, l32_49, l32_50, l32_51, l32_52, l32_53, l32_54, l32_55, l32_56, l32_57, l32_58, l32_59, l32_60, l32_61, l32_62, l32_63, l32_64, l32_65, l32_66, l32_76, l32_86, l32_90, l32_92, l32_97, l32_98, l32_99, l32_100, l32_101, l32_102, l32_103, l32_104, l32_105, l32_106, l32_107, l32_108, l32_109, l32_110, l32_111, l32_112, l32_113, l32_114, l32_115, l32_116, l32_117, l32_118, l32_119, l32_120, l32_121, l32_122, l32_123, l32_124, l32_125, l32_126, l32_192, l32_200, l32_255, l32_999, l32_1000, l32_1344, l32_2147483639, l32_2147483647, l64_0, l64_1, l64_99, l64_999, l64_24883200000, l64_746496000000, jI_add, jI_sub, jI_mul, jI_neg, jL_add, jL_sub, jL_mul, jL_neg, jL_toI, jI_toL, jI_lt, jI_le, jI_eq, jL_lt, jL_le, jL_eq, inR_j, jI_clamp, nI_j, Option.bind_some, zc, u2, u3, u4, u5, wl, mo, if_pos, if_neg, ite_true, ite_false, s_at h]
theorem s_rMembers (hT : RT w u) : f_X11_members w = some (jI (ct u)) := by
  have k := lpSum (p_X11_members_4 w) (fun x => if u x = 0 then 0 else 1) 10 0
    (fun i n a hi => by
      rw [p_X11_members_4]
      by_cases q : u i = 0
      · rw [if_pos q]
        simp (disch := omega) only [l32_0, l32_1, l32_2, l32_3, l32_4, l32_5, l32_6, l32_7, l32_8, l32_9, l32_10, l32_11, l32_12, l32_13, l32_14, l32_15, l32_16, l32_17, l32_18, l32_19, l32_20, l32_21, l32_22, l32_23, l32_24, l32_25, l32_26, l32_27, l32_28, l32_29, l32_30, l32_31, l32_32, l32_33, l32_34, l32_35, l32_36, l32_37, l32_38, l32_39, l32_40, l32_41, l32_42, l32_43, l32_44, l32_45, l32_46, l32_47, l32_48, l32_49, l32_50, l32_51, l32_52, l32_53, l32_54, l32_55, l32_56, l32_57, l32_58, l32_59, l32_60, l32_61, l32_62, l32_63, l32_64, l32_65, l32_66, l32_76, l32_86, l32_90, l32_92, l32_97, l32_98, l32_99, l32_100, l32_101, l32_102, l32_103, l32_104, l32_105, l32_106, l32_107, l32_108, l32_109, l32_110, l32_111, l32_112, l32_113, l32_114, l32_115, l32_116, l32_117, l32_118, l32_119, l32_120, l32_121, l32_122, l32_123, l32_124, l32_125, l32_126, l32_192, l32_200, l32_255, l32_999, l32_1000, l32_1344, l32_2147483639, l32_2147483647, l64_0, l64_1, l64_99, l64_999, l64_24883200000, l64_746496000000, jI_add, jI_sub, jI_mul, jI_neg, jL_add, jL_sub, jL_mul, jL_neg, jL_toI, jI_toL, jI_lt, jI_le, jI_eq, jL_lt, jL_le, jL_eq, inR_j, jI_clamp, nI_j, Option.bind_some, zc, u2, u3, u4, u5, wl, mo, if_pos, if_neg, ite_true, ite_false, rt_k hT, bZ_eq0] <;> rfl
      · rw [if_neg q]
        simp (disch := omega) only [l32_0, l32_1, l32_2, l32_3, l32_4, l32_5, l32_6, l32_7, l32_8, l32_9, l32_10, l32_11, l32_12, l32_13, l32_14, l32_15, l32_16, l32_17, l32_18, l32_19, l32_20, l32_21, l32_22, l32_23, l32_24, l32_25, l32_26, l32_27, l32_28, l32_29, l32_30, l32_31, l32_32, l32_33, l32_34, l32_35, l32_36, l32_37, l32_38, l32_39, l32_40, l32_41, l32_42, l32_43, l32_44, l32_45, l32_46, l32_47, l32_48, l32_49, l32_50, l32_51, l32_52, l32_53, l32_54, l32_55, l32_56, l32_57, l32_58, l32_59, l32_60, l32_61, l32_62, l32_63, l32_64, l32_65, l32_66, l32_76, l32_86, l32_90, l32_92, l32_97, l32_98, l32_99, l32_100, l32_101, l32_102, l32_103, l32_104, l32_105, l32_106, l32_107, l32_108, l32_109, l32_110, l32_111, l32_112, l32_113, l32_114, l32_115, l32_116, l32_117, l32_118, l32_119, l32_120, l32_121, l32_122, l32_123, l32_124, l32_125, l32_126, l32_192, l32_200, l32_255, l32_999, l32_1000, l32_1344, l32_2147483639, l32_2147483647, l64_0, l64_1, l64_99, l64_999, l64_24883200000, l64_746496000000, jI_add, jI_sub, jI_mul, jI_neg, jL_add, jL_sub, jL_mul, jL_neg, jL_toI, jI_toL, jI_lt, jI_le, jI_eq, jL_lt, jL_le, jL_eq, inR_j, jI_clamp, nI_j, Option.bind_some, zc, u2, u3, u4, u5, wl, mo, if_pos, if_neg, ite_true, ite_false, rt_k hT, bZ_eq0] <;> rfl)
    (fun n a => by
      rw [p_X11_members_4, show ((10 : Nat) : Int) = 10 from rfl]
      simp (disch := omega) only [l32_0, l32_1, l32_2, l32_3, l32_4, l32_5, l32_6, l32_7, l32_8, l32_9, l32_10, l32_11, l32_12, l32_13, l32_14, l32_15, l32_16, l32_17, l32_18, l32_19, l32_20, l32_21, l32_22, l32_23, l32_24, l32_25, l32_26, l32_27, l32_28, l32_29, l32_30, l32_31, l32_32, l32_33, l32_34, l32_35, l32_36, l32_37, l32_38, l32_39, l32_40, l32_41, l32_42, l32_43, l32_44, l32_45, l32_46, l32_47, l32_48, l32_49, l32_50, l32_51, l32_52, l32_53, l32_54, l32_55, l32_56, l32_57, l32_58, l32_59, l32_60, l32_61, l32_62, l32_63, l32_64, l32_65, l32_66, l32_76, l32_86, l32_90, l32_92, l32_97, l32_98, l32_99, l32_100, l32_101, l32_102, l32_103, l32_104, l32_105, l32_106, l32_107, l32_108, l32_109, l32_110, l32_111, l32_112, l32_113, l32_114, l32_115, l32_116, l32_117, l32_118, l32_119, l32_120, l32_121, l32_122, l32_123, l32_124, l32_125, l32_126, l32_192, l32_200, l32_255, l32_999, l32_1000, l32_1344, l32_2147483639, l32_2147483647, l64_0, l64_1, l64_99, l64_999, l64_24883200000, l64_746496000000, jI_add, jI_sub, jI_mul, jI_neg, jL_add, jL_sub, jL_mul, jL_neg, jL_toI, jI_toL, jI_lt, jI_le, jI_eq, jL_lt, jL_le, jL_eq, inR_j, jI_clamp, nI_j, Option.bind_some, zc, u2, u3, u4, u5, wl, mo, if_pos, if_neg, ite_true, ite_false]) 2000 (by omega)
  unfold f_X11_members ct
  rw [l32_0, k, Int.zero_add]
  rfl
theorem jc_hi (S : Ab) : jc S ≤ 100 := by
  have := sm_hi (g := fun k => if S (92 + k) = 0 then 0 else 1) (c := 1) (n := 100) (fun i _ _ => by split <;> decide)
  unfold jc
  omega
theorem s_rJoints (h : RSt w 142 0 S) (hj : ∀ k, 0 ≤ k → k < 100 → 0 ≤ S (92 + k) ∧ S (92 + k) ≤ 2) : f_X11_joints w = some (jI (jc S / 2)) := by
  have k := lpSum (p_X11_joints_4 w) (fun k => if S (92 + k) = 0 then 0 else 1) 100 0
    (fun i n a hi => by
      have h1 := hj i (by omega) (by omega)
      rw [p_X11_joints_4]
      by_cases q : S (92 + (i : Int)) = 0
      · rw [if_pos q]
        simp (disch := omega) only [l32_0, l32_1, l32_2, l32_3, l32_4, l32_5, l32_6, l32_7, l32_8, l32_9, l32_10, l32_11, l32_12, l32_13, l32_14, l32_15, l32_16, l32_17, l32_18, l32_19, l32_20, l32_21, l32_22, l32_23, l32_24, l32_25, l32_26, l32_27, l32_28, l32_29, l32_30, l32_31, l32_32, l32_33, l32_34, l32_35, l32_36, l32_37, l32_38, l32_39, l32_40, l32_41, l32_42, l32_43, l32_44, l32_45, l32_46, l32_47, l32_48, l32_49, l32_50, l32_51, l32_52, l32_53, l32_54, l32_55, l32_56, l32_57, l32_58, l32_59, l32_60, l32_61, l32_62, l32_63, l32_64, l32_65, l32_66, l32_76, l32_86, l32_90, l32_92, l32_97, l32_98, l32_99, l32_100, l32_101, l32_102, l32_103, l32_104, l32_105, l32_106, l32_107, l32_108, l32_109, l32_110, l32_111, l32_112, l32_113, l32_114, l32_115, l32_116, l32_117, l32_118, l32_119, l32_120, l32_121, l32_122, l32_123, l32_124, l32_125, l32_126, l32_192, l32_200, l32_255, l32_999, l32_1000, l32_1344, l32_2147483639, l32_2147483647, l64_0, l64_1, l64_99, l64_999, l64_24883200000, l64_746496000000, jI_add, jI_sub, jI_mul, jI_neg, jL_add, jL_sub, jL_mul, jL_neg, jL_toI, jI_toL, jI_lt, jI_le, jI_eq, jL_lt, jL_le, jL_eq, inR_j, jI_clamp, nI_j, Option.bind_some, zc, u2, u3, u4, u5, wl, mo, if_pos, if_neg, ite_true, ite_false, r_g h] <;> rfl
      · rw [if_neg q]
        simp (disch := omega) only [l32_0, l32_1, l32_2, l32_3, l32_4, l32_5, l32_6, l32_7, l32_8, l32_9, l32_10, l32_11, l32_12, l32_13, l32_14, l32_15, l32_16, l32_17, l32_18, l32_19, l32_20, l32_21, l32_22, l32_23, l32_24, l32_25, l32_26, l32_27, l32_28, l32_29, l32_30, l32_31, l32_32, l32_33, l32_34, l32_35, l32_36, l32_37, l32_38, l32_39, l32_40, l32_41, l32_42, l32_43, l32_44, l32_45, l32_46, l32_47, l32_48, l32_49, l32_50, l32_51, l32_52, l32_53, l32_54, l32_55, l32_56, l32_57, l32_58, l32_59, l32_60, l32_61, l32_62, l32_63, l32_64, l32_65, l32_66, l32_76, l32_86, l32_90, l32_92, l32_97, l32_98, l32_99, l32_100, l32_101, l32_102, l32_103, l32_104, l32_105, l32_106, l32_107, l32_108, l32_109, l32_110, l32_111, l32_112, l32_113, l32_114, l32_115, l32_116, l32_117, l32_118, l32_119, l32_120, l32_121, l32_122, l32_123, l32_124, l32_125, l32_126, l32_192, l32_200, l32_255, l32_999, l32_1000, l32_1344, l32_2147483639, l32_2147483647, l64_0, l64_1, l64_99, l64_999, l64_24883200000, l64_746496000000, jI_add, jI_sub, jI_mul, jI_neg, jL_add, jL_sub, jL_mul, jL_neg, jL_toI, jI_toL, jI_lt, jI_le, jI_eq, jL_lt, jL_le, jL_eq, inR_j, jI_clamp, nI_j, Option.bind_some, zc, u2, u3, u4, u5, wl, mo, if_pos, if_neg, ite_true, ite_false, r_g h] <;> rfl)
    (fun n a => by
      rw [p_X11_joints_4, show ((100 : Nat) : Int) = 100 from rfl]
      simp (disch := omega) only [l32_0, l32_1, l32_2, l32_3, l32_4, l32_5, l32_6, l32_7, l32_8, l32_9, l32_10, l32_11, l32_12, l32_13, l32_14, l32_15, l32_16, l32_17, l32_18, l32_19, l32_20, l32_21, l32_22, l32_23, l32_24, l32_25, l32_26, l32_27, l32_28, l32_29, l32_30, l32_31, l32_32, l32_33, l32_34, l32_35, l32_36, l32_37, l32_38, l32_39, l32_40, l32_41, l32_42, l32_43, l32_44, l32_45, l32_46, l32_47, l32_48, l32_49, l32_50, l32_51, l32_52, l32_53, l32_54, l32_55, l32_56, l32_57, l32_58, l32_59, l32_60, l32_61, l32_62, l32_63, l32_64, l32_65, l32_66, l32_76, l32_86, l32_90, l32_92, l32_97, l32_98, l32_99, l32_100, l32_101, l32_102, l32_103, l32_104, l32_105, l32_106, l32_107, l32_108, l32_109, l32_110, l32_111, l32_112, l32_113, l32_114, l32_115, l32_116, l32_117, l32_118, l32_119, l32_120, l32_121, l32_122, l32_123, l32_124, l32_125, l32_126, l32_192, l32_200, l32_255, l32_999, l32_1000, l32_1344, l32_2147483639, l32_2147483647, l64_0, l64_1, l64_99, l64_999, l64_24883200000, l64_746496000000, jI_add, jI_sub, jI_mul, jI_neg, jL_add, jL_sub, jL_mul, jL_neg, jL_toI, jI_toL, jI_lt, jI_le, jI_eq, jL_lt, jL_le, jL_eq, inR_j, jI_clamp, nI_j, Option.bind_some, zc, u2, u3, u4, u5, wl, mo, if_pos, if_neg, ite_true, ite_false]) 2000 (by omega)
  have h1 := jc_lo S
  have h2 := jc_hi S
  unfold f_X11_joints
  rw [l32_0, k, Int.zero_add]
  show (if ¬ (2 : Int32) = 0 then some (jI (jc S) / (2 : Int32)) else none) = _
  rw [if_pos (by decide +kernel), l32_2, jI_div (by omega) (by omega) (by omega) (by omega), Int.tdiv_eq_ediv_of_nonneg h1]
theorem Good.j2 (hG : Good S) (k : Int) (h0 : 0 ≤ k) (h1 : k < 100) : 0 ≤ S (92 + k) ∧ S (92 + k) ≤ 2 := by
  have := (hG.2.2.2.1 (k / 10) (k % 10) (by omega) (by omega) (by omega) (by omega)).2.1
  rw [show 92 + 10 * (k / 10) + k % 10 = 92 + k by omega] at this
  omega
theorem s_rSpringIn (h : RSt w 142 0 S) (hG : Good S) (hT : RT w u) : ∃ r, f_X11_springIn w = some (jI r) ∧ IsF (fun i => u i ≠ 0 ∧ 0 < S (26 + i)) 10 r := by
  have k := lpFind (p_X11_springIn_2 w) (fun i => u i ≠ 0 ∧ 0 < S (26 + i)) 10 (fun i => jI i)
    (fun i n hi hp => by
      rw [p_X11_springIn_2]
      by_cases q : u i ≠ 0
      · have q2 : ¬ 0 < S (26 + (i : Int)) := fun z => hp ⟨q, z⟩
        simp (disch := omega) only [l32_0, l32_1, l32_2, l32_3, l32_4, l32_5, l32_6, l32_7, l32_8, l32_9, l32_10, l32_11, l32_12, l32_13, l32_14, l32_15, l32_16, l32_17, l32_18, l32_19, l32_20, l32_21, l32_22, l32_23, l32_24, l32_25, l32_26, l32_27, l32_28, l32_29, l32_30, l32_31, l32_32, l32_33, l32_34, l32_35, l32_36, l32_37, l32_38, l32_39, l32_40, l32_41, l32_42, l32_43, l32_44, l32_45, l32_46, l32_47, l32_48, l32_49, l32_50, l32_51, l32_52, l32_53, l32_54, l32_55, l32_56, l32_57, l32_58, l32_59, l32_60, l32_61, l32_62, l32_63, l32_64, l32_65, l32_66, l32_76, l32_86, l32_90, l32_92, l32_97, l32_98, l32_99, l32_100, l32_101, l32_102, l32_103, l32_104, l32_105, l32_106, l32_107, l32_108, l32_109, l32_110, l32_111, l32_112, l32_113, l32_114, l32_115, l32_116, l32_117, l32_118, l32_119, l32_120, l32_121, l32_122, l32_123, l32_124, l32_125, l32_126, l32_192, l32_200, l32_255, l32_999, l32_1000, l32_1344, l32_2147483639, l32_2147483647, l64_0, l64_1, l64_99, l64_999, l64_24883200000, l64_746496000000, jI_add, jI_sub, jI_mul, jI_neg, jL_add, jL_sub, jL_mul, jL_neg, jL_toI, jI_toL, jI_lt, jI_le, jI_eq, jL_lt, jL_le, jL_eq, inR_j, jI_clamp, nI_j, Option.bind_some, zc, u2, u3, u4, u5, wl, mo, if_pos, if_neg, ite_true, ite_false, rt_k hT, s_rHasSpring h hG, bZ_eq0] <;> rfl
      · simp (disch := omega) only [l32_0, l32_1, l32_2, l32_3, l32_4, l32_5, l32_6, l32_7, l32_8, l32_9, l32_10, l32_11, l32_12, l32_13, l32_14, l32_15, l32_16, l32_17, l32_18, l32_19, l32_20, l32_21, l32_22, l32_23, l32_24, l32_25, l32_26, l32_27, l32_28, l32_29, l32_30, l32_31, l32_32, l32_33, l32_34, l32_35, l32_36, l32_37, l32_38, l32_39, l32_40, l32_41, l32_42, l32_43, l32_44, l32_45, l32_46, l32_47, l32_48, l32_49, l32_50, l32_51, l32_52, l32_53, l32_54, l32_55, l32_56, l32_57, l32_58, l32_59, l32_60, l32_61, l32_62, l32_63, l32_64, l32_65, l32_66, l32_76, l32_86, l32_90, l32_92, l32_97, l32_98, l32_99, l32_100, l32_101, l32_102, l32_103, l32_104, l32_105, l32_106, l32_107, l32_108, l32_109, l32_110, l32_111, l32_112, l32_113, l32_114, l32_115, l32_116, l32_117, l32_118, l32_119, l32_120, l32_121, l32_122, l32_123, l32_124, l32_125, l32_126, l32_192, l32_200, l32_255, l32_999, l32_1000, l32_1344, l32_2147483639, l32_2147483647, l64_0, l64_1, l64_99, l64_999, l64_24883200000, l64_746496000000, jI_add, jI_sub, jI_mul, jI_neg, jL_add, jL_sub, jL_mul, jL_neg, jL_toI, jI_toL, jI_lt, jI_le, jI_eq, jL_lt, jL_le, jL_eq, inR_j, jI_clamp, nI_j, Option.bind_some, zc, u2, u3, u4, u5, wl, mo, if_pos, if_neg, ite_true, ite_false, rt_k hT, bZ_eq0] <;> rfl)
    (fun i n hi hp => by
      rw [p_X11_springIn_2]
      simp (disch := omega) only [l32_0, l32_1, l32_2, l32_3, l32_4, l32_5, l32_6, l32_7, l32_8, l32_9, l32_10, l32_11, l32_12, l32_13, l32_14, l32_15, l32_16, l32_17, l32_18, l32_19, l32_20, l32_21, l32_22, l32_23, l32_24, l32_25, l32_26, l32_27, l32_28, l32_29, l32_30, l32_31, l32_32, l32_33, l32_34, l32_35, l32_36, l32_37, l32_38, l32_39, l32_40, l32_41, l32_42, l32_43, l32_44, l32_45, l32_46, l32_47, l32_48, l32_49, l32_50, l32_51, l32_52, l32_53, l32_54, l32_55, l32_56, l32_57, l32_58, l32_59, l32_60, l32_61, l32_62, l32_63, l32_64, l32_65, l32_66, l32_76, l32_86, l32_90, l32_92, l32_97, l32_98, l32_99, l32_100, l32_101, l32_102, l32_103, l32_104, l32_105, l32_106, l32_107, l32_108, l32_109, l32_110, l32_111, l32_112, l32_113, l32_114, l32_115, l32_116, l32_117, l32_118, l32_119, l32_120, l32_121, l32_122, l32_123, l32_124, l32_125, l32_126, l32_192, l32_200, l32_255, l32_999, l32_1000, l32_1344, l32_2147483639, l32_2147483647, l64_0, l64_1, l64_99, l64_999, l64_24883200000, l64_746496000000, jI_add, jI_sub, jI_mul, jI_neg, jL_add, jL_sub, jL_mul, jL_neg, jL_toI, jI_toL, jI_lt, jI_le, jI_eq, jL_lt, jL_le, jL_eq, inR_j, jI_clamp, nI_j, Option.bind_some, zc, u2, u3, u4, u5, wl, mo, if_pos, if_neg, ite_true, ite_false, rt_k hT, s_rHasSpring h hG, bZ_eq0] <;> rfl)
    (fun n => by
      rw [p_X11_springIn_2, show ((10 : Nat) : Int) = 10 from rfl]
      simp (disch := omega) only [l32_0, l32_1, l32_2, l32_3, l32_4, l32_5, l32_6, l32_7, l32_8, l32_9, l32_10, l32_11, l32_12, l32_13, l32_14, l32_15, l32_16, l32_17, l32_18, l32_19, l32_20, l32_21, l32_22, l32_23, l32_24, l32_25, l32_26, l32_27, l32_28, l32_29, l32_30, l32_31, l32_32, l32_33, l32_34, l32_35, l32_36, l32_37, l32_38, l32_39, l32_40, l32_41, l32_42, l32_43, l32_44, l32_45, l32_46, l32_47, l32_48, l32_49, l32_50, l32_51, l32_52, l32_53, l32_54, l32_55, l32_56, l32_57, l32_58, l32_59, l32_60, l32_61, l32_62, l32_63, l32_64, l32_65, l32_66, l32_76, l32_86, l32_90, l32_92, l32_97, l32_98, l32_99, l32_100, l32_101, l32_102, l32_103, l32_104, l32_105, l32_106, l32_107, l32_108, l32_109, l32_110, l32_111, l32_112, l32_113, l32_114, l32_115, l32_116, l32_117, l32_118, l32_119, l32_120, l32_121, l32_122, l32_123, l32_124, l32_125, l32_126, l32_192, l32_200, l32_255, l32_999, l32_1000, l32_1344, l32_2147483639, l32_2147483647, l64_0, l64_1, l64_99, l64_999, l64_24883200000, l64_746496000000, jI_add, jI_sub, jI_mul, jI_neg, jL_add, jL_sub, jL_mul, jL_neg, jL_toI, jI_toL, jI_lt, jI_le, jI_eq, jL_lt, jL_le, jL_eq, inR_j, jI_clamp, nI_j, Option.bind_some, zc, u2, u3, u4, u5, wl, mo, if_pos, if_neg, ite_true, ite_false]) 2000 (by omega)
  unfold f_X11_springIn
  rcases k with ⟨r, r0, r1, r2, r3, r4⟩ | ⟨r3, r4⟩
  · exact ⟨r, by rw [l32_0, r4]; rfl, Or.inl ⟨r0, by omega, r2, r3⟩⟩
  · exact ⟨-1, by rw [l32_0, r4]; rfl, Or.inr ⟨rfl, r3⟩⟩
theorem s_rRubs {d : Int} (hG : Good S) (h : RSt w 142 0 S) (d0 : 0 ≤ d) (d1 : d < S 0) :
    ∃ w' u, f_X11_rubs w (jI d) = some (jI (dg S u), w') ∧ Sm KU w w' ∧ RT w' u ∧ IsTr S d u ∧ ∀ x, 0 ≤ x → x < 10 → -14929920000000000 ≤ u x ∧ u x ≤ 14929920000000000 := by
  obtain ⟨w', hr, hs, u, hR, hI, hb⟩ := s_turns hG h d0 d1
  have h' : RSt w' 142 0 S := h.kept (hs.1 142 (by unfold KU; omega)).2
  have k := lpSum (p_X11_rubs_12 w') (fun i => if u i ≠ 0 ∧ S (66 + i) = 0 then 1 else 0) 10 (ct u)
    (fun i n a hi => by
      have h6 := (hG.2.1 i (by omega) (by omega)).2.2.2.1
      rw [p_X11_rubs_12]
      by_cases q : u i ≠ 0
      · by_cases q2 : S (66 + (i : Int)) = 0
        · rw [if_pos (show (u (i : Int) ≠ 0 ∧ S (66 + (i : Int)) = 0) from ⟨q, q2⟩)]
          simp (disch := omega) only [l32_0, l32_1, l32_2, l32_3, l32_4, l32_5, l32_6, l32_7, l32_8, l32_9, l32_10, l32_11, l32_12, l32_13, l32_14, l32_15, l32_16, l32_17, l32_18, l32_19, l32_20, l32_21, l32_22, l32_23, l32_24, l32_25, l32_26, l32_27, l32_28, l32_29, l32_30, l32_31, l32_32, l32_33, l32_34, l32_35, l32_36, l32_37, l32_38, l32_39, l32_40, l32_41, l32_42, l32_43, l32_44, l32_45, l32_46, l32_47, l32_48, l32_49, l32_50, l32_51, l32_52, l32_53, l32_54, l32_55, l32_56, l32_57, l32_58, l32_59, l32_60, l32_61, l32_62, l32_63, l32_64, l32_65, l32_66, l32_76, l32_86, l32_90, l32_92, l32_97, l32_98, l32_99, l32_100, l32_101, l32_102, l32_103, l32_104, l32_105, l32_106, l32_107, l32_108, l32_109, l32_110, l32_111, l32_112, l32_113, l32_114, l32_115, l32_116, l32_117, l32_118, l32_119, l32_120, l32_121, l32_122, l32_123, l32_124, l32_125, l32_126, l32_192, l32_200, l32_255, l32_999, l32_1000, l32_1344, l32_2147483639, l32_2147483647, l64_0, l64_1, l64_99, l64_999, l64_24883200000, l64_746496000000, jI_add, jI_sub, jI_mul, jI_neg, jL_add, jL_sub, jL_mul, jL_neg, jL_toI, jI_toL, jI_lt, jI_le, jI_eq, jL_lt, jL_le, jL_eq, inR_j, jI_clamp, nI_j, Option.bind_some, zc, u2, u3, u4, u5, wl, mo, if_pos, if_neg, ite_true, ite_false, rt_k hR, r_g h', bZ_eq0] <;> rfl
        · rw [if_neg (show ¬ (u (i : Int) ≠ 0 ∧ S (66 + (i : Int)) = 0) from fun z => q2 z.2)]
          simp (disch := omega) only [l32_0, l32_1, l32_2, l32_3, l32_4, l32_5, l32_6, l32_7, l32_8, l32_9, l32_10, l32_11, l32_12, l32_13, l32_14, l32_15, l32_16, l32_17, l32_18, l32_19, l32_20, l32_21, l32_22, l32_23, l32_24, l32_25, l32_26, l32_27, l32_28, l32_29, l32_30, l32_31, l32_32, l32_33, l32_34, l32_35, l32_36, l32_37, l32_38, l32_39, l32_40, l32_41, l32_42, l32_43, l32_44, l32_45, l32_46, l32_47, l32_48, l32_49, l32_50, l32_51, l32_52, l32_53, l32_54, l32_55, l32_56, l32_57, l32_58, l32_59, l32_60, l32_61, l32_62, l32_63, l32_64, l32_65, l32_66, l32_76, l32_86, l32_90, l32_92, l32_97, l32_98, l32_99, l32_100, l32_101, l32_102, l32_103, l32_104, l32_105, l32_106, l32_107, l32_108, l32_109, l32_110, l32_111, l32_112, l32_113, l32_114, l32_115, l32_116, l32_117, l32_118, l32_119, l32_120, l32_121, l32_122, l32_123, l32_124, l32_125, l32_126, l32_192, l32_200, l32_255, l32_999, l32_1000, l32_1344, l32_2147483639, l32_2147483647, l64_0, l64_1, l64_99, l64_999, l64_24883200000, l64_746496000000, jI_add, jI_sub, jI_mul, jI_neg, jL_add, jL_sub, jL_mul, jL_neg, jL_toI, jI_toL, jI_lt, jI_le, jI_eq, jL_lt, jL_le, jL_eq, inR_j, jI_clamp, nI_j, Option.bind_some, zc, u2, u3, u4, u5, wl, mo, if_pos, if_neg, ite_true, ite_false, rt_k hR, r_g h', bZ_eq0] <;> rfl
      · rw [if_neg (show ¬ (u (i : Int) ≠ 0 ∧ S (66 + (i : Int)) = 0) from fun z => q z.1)]
        simp (disch := omega) only [l32_0, l32_1, l32_2, l32_3, l32_4, l32_5, l32_6, l32_7, l32_8, l32_9, l32_10, l32_11, l32_12, l32_13, l32_14, l32_15, l32_16, l32_17, l32_18, l32_19, l32_20, l32_21, l32_22, l32_23, l32_24, l32_25, l32_26, l32_27, l32_28, l32_29, l32_30, l32_31, l32_32, l32_33, l32_34, l32_35, l32_36, l32_37, l32_38, l32_39, l32_40, l32_41, l32_42, l32_43, l32_44, l32_45, l32_46, l32_47, l32_48, l32_49, l32_50, l32_51, l32_52, l32_53, l32_54, l32_55, l32_56, l32_57, l32_58, l32_59, l32_60, l32_61, l32_62, l32_63, l32_64, l32_65, l32_66, l32_76, l32_86, l32_90, l32_92, l32_97, l32_98, l32_99, l32_100, l32_101, l32_102, l32_103, l32_104, l32_105, l32_106, l32_107, l32_108, l32_109, l32_110, l32_111, l32_112, l32_113, l32_114, l32_115, l32_116, l32_117, l32_118, l32_119, l32_120, l32_121, l32_122, l32_123, l32_124, l32_125, l32_126, l32_192, l32_200, l32_255, l32_999, l32_1000, l32_1344, l32_2147483639, l32_2147483647, l64_0, l64_1, l64_99, l64_999, l64_24883200000, l64_746496000000, jI_add, jI_sub, jI_mul, jI_neg, jL_add, jL_sub, jL_mul, jL_neg, jL_toI, jI_toL, jI_lt, jI_le, jI_eq, jL_lt, jL_le, jL_eq, inR_j, jI_clamp, nI_j, Option.bind_some, zc, u2, u3, u4, u5, wl, mo, if_pos, if_neg, ite_true, ite_false, rt_k hR, bZ_eq0] <;> rfl)
    (fun n a => by
      rw [p_X11_rubs_12, show ((10 : Nat) : Int) = 10 from rfl]
      simp (disch := omega) only [l32_0, l32_1, l32_2, l32_3, l32_4, l32_5, l32_6, l32_7, l32_8, l32_9, l32_10, l32_11, l32_12, l32_13, l32_14, l32_15, l32_16, l32_17, l32_18, l32_19, l32_20, l32_21, l32_22, l32_23, l32_24, l32_25, l32_26, l32_27, l32_28, l32_29, l32_30, l32_31, l32_32, l32_33, l32_34, l32_35, l32_36, l32_37, l32_38, l32_39, l32_40, l32_41, l32_42, l32_43, l32_44, l32_45, l32_46, l32_47, l32_48, l32_49, l32_50, l32_51, l32_52, l32_53, l32_54, l32_55, l32_56, l32_57, l32_58, l32_59, l32_60, l32_61, l32_62, l32_63, l32_64, l32_65, l32_66, l32_76, l32_86, l32_90, l32_92, l32_97, l32_98, l32_99, l32_100, l32_101, l32_102, l32_103, l32_104, l32_105, l32_106, l32_107, l32_108, l32_109, l32_110, l32_111, l32_112, l32_113, l32_114, l32_115, l32_116, l32_117, l32_118, l32_119, l32_120, l32_121, l32_122, l32_123, l32_124, l32_125, l32_126, l32_192, l32_200, l32_255, l32_999, l32_1000, l32_1344, l32_2147483639, l32_2147483647, l64_0, l64_1, l64_99, l64_999, l64_24883200000, l64_746496000000, jI_add, jI_sub, jI_mul, jI_neg, jL_add, jL_sub, jL_mul, jL_neg, jL_toI, jI_toL, jI_lt, jI_le, jI_eq, jL_lt, jL_le, jL_eq, inR_j, jI_clamp, nI_j, Option.bind_some, zc, u2, u3, u4, u5, wl, mo, if_pos, if_neg, ite_true, ite_false]) 2000 (by omega)
  refine ⟨w', u, ?_, hs, hR, hI, hb⟩
  unfold f_X11_rubs dg
  rw [hr]
  show ((f_X11_members w').bind _) = _
  rw [s_rMembers hR]
  show ((p_X11_rubs_12 w' 2000 (jI (ct u)) (0 : Int32)).bind _) = _
  rw [l32_0, k]
  rfl
theorem s_rHindered (h : RSt w 142 0 S) (hG : Good S) (hT : RT w u) (hb : ∀ x, 0 ≤ x → x < 10 → -14929920000000000 ≤ u x ∧ u x ≤ 14929920000000000) {d : Int} (d0 : 0 ≤ d) (d1 : d < 10) : ∃ r, f_X11_isHindered w (jI d) = some (jI r) ∧ ((r = 0 ∧ ¬ Blk S u d) ∨ (r = 1 ∧ Blk S u d)) := by
  have hd := (hG.2.1 d d0 d1).2.2.2.2.2.2.1
  obtain ⟨r, hr, hP⟩ := lp (fun n (s : Int32 × Int32) => p_X11_isHindered_4 w (jI d) n s.1 s.2)
    (fun i s => s.2 = jI i ∧ ∃ b : Int, s.1 = jI b ∧ ((b = 0 ∧ ∀ j : Int, 0 ≤ j → j < i → ¬ (((S (46 + d) = 0 ∧ u j < 0) ∨ (S (46 + d) ≠ 0 ∧ 0 < u j)) ∧ S (56 + j) = 1)) ∨ (b = 1 ∧ Blk S u d))) 10
    (fun r => ∃ b y, r = .inl (jI b, y) ∧ ((b = 0 ∧ ¬ Blk S u d) ∨ (b = 1 ∧ Blk S u d)))
    (fun i n s hi hI => by
      obtain ⟨y, x⟩ := s
      obtain ⟨rfl, b, rfl, hb2⟩ := hI
      have h6 := (hG.2.1 i (by omega) (by omega)).2.2.2.2.2.1
      have h7 := hb i (by omega) (by omega)
      by_cases q : ((S (46 + d) = 0 ∧ u i < 0) ∨ (S (46 + d) ≠ 0 ∧ 0 < u i)) ∧ S (56 + (i : Int)) = 1
      · refine Or.inl ⟨(jI 1, jI ((i + 1 : Nat) : Int)), ⟨rfl, 1, rfl, Or.inr ⟨rfl, i, by omega, by omega, q⟩⟩, ?_⟩
        show p_X11_isHindered_4 w (jI d) (n + 1) (jI b) (jI i) = p_X11_isHindered_4 w (jI d) n (jI 1) (jI ((i + 1 : Nat) : Int))
        have hb3 : b = 0 ∨ b = 1 := by omega
        obtain ⟨q, q5⟩ := q
        rw [p_X11_isHindered_4]
        rcases q with ⟨q1, q2⟩ | ⟨q1, q2⟩ <;> rcases hb3 with rfl | rfl <;> (simp (disch := omega) only [l32_0, l32_1, l32_2, l32_3, l32_4, l32_5, l32_6, l32_7, l32_8, l32_9, l32_10, l32_11, l32_12, l32_13, l32_14, l32_15, l32_16, l32_17, l32_18, l32_19, l32_20, l32_21, l32_22, l32_23, l32_24, l32_25, l32_26, l32_27, l32_28, l32_29, l32_30, l32_31, l32_32, l32_33, l32_34, l32_35, l32_36, l32_37, l32_38, l32_39, l32_40, l32_41, l32_42, l32_43, l32_44, l32_45, l32_46, l32_47, l32_48, l32_49, l32_50, l32_51, l32_52, l32_53, l32_54, l32_55, l32_56, l32_57, l32_58, l32_59, l32_60, l32_61, l32_62, l32_63, l32_64, l32_65, l32_66, l32_76, l32_86, l32_90, l32_92, l32_97, l32_98, l32_99, l32_100, l32_101, l32_102, l32_103, l32_104, l32_105, l32_106, l32_107, l32_108, l32_109, l32_110, l32_111, l32_112, l32_113, l32_114, l32_115, l32_116, l32_117, l32_118, l32_119, l32_120, l32_121, l32_122, l32_123, l32_124, l32_125, l32_126, l32_192, l32_200, l32_255, l32_999, l32_1000, l32_1344, l32_2147483639, l32_2147483647, l64_0, l64_1, l64_99, l64_999, l64_24883200000, l64_746496000000, jI_add, jI_sub, jI_mul, jI_neg, jL_add, jL_sub, jL_mul, jL_neg, jL_toI, jI_toL, jI_lt, jI_le, jI_eq, jL_lt, jL_le, jL_eq, inR_j, jI_clamp, nI_j, Option.bind_some, zc, u2, u3, u4, u5, wl, mo, if_pos, if_neg, ite_true, ite_false, rt_u hT, rt_k hT, r_g h, bZ_eq0] <;> rfl)
      · refine Or.inl ⟨(jI b, jI ((i + 1 : Nat) : Int)), ⟨rfl, b, rfl, ?_⟩, ?_⟩
        · rcases hb2 with ⟨hb2, hb3⟩ | hb2
          · refine Or.inl ⟨hb2, fun j j0 j1 => ?_⟩
            by_cases z : j = i
            · rw [z]; exact q
            · exact hb3 j j0 (by omega)
          · exact Or.inr hb2
        · show p_X11_isHindered_4 w (jI d) (n + 1) (jI b) (jI i) = p_X11_isHindered_4 w (jI d) n (jI b) (jI ((i + 1 : Nat) : Int))
          have hb3 : b = 0 ∨ b = 1 := by omega
          rw [p_X11_isHindered_4]
          rcases hb3 with rfl | rfl
          · rcases hd with q1 | q1
            · by_cases q2 : u i < 0
              · have q5 : S (56 + (i : Int)) = 0 := h6.resolve_right (fun z => q ⟨Or.inl ⟨q1, q2⟩, z⟩)
                simp (disch := omega) only [l32_0, l32_1, l32_2, l32_3, l32_4, l32_5, l32_6, l32_7, l32_8, l32_9, l32_10, l32_11, l32_12, l32_13, l32_14, l32_15, l32_16, l32_17, l32_18, l32_19, l32_20, l32_21, l32_22, l32_23, l32_24, l32_25, l32_26, l32_27, l32_28, l32_29, l32_30, l32_31, l32_32, l32_33, l32_34, l32_35, l32_36, l32_37, l32_38, l32_39, l32_40, l32_41, l32_42, l32_43, l32_44, l32_45, l32_46, l32_47, l32_48, l32_49, l32_50, l32_51, l32_52, l32_53, l32_54, l32_55, l32_56, l32_57, l32_58, l32_59, l32_60, l32_61, l32_62, l32_63, l32_64, l32_65, l32_66, l32_76, l32_86, l32_90, l32_92, l32_97, l32_98, l32_99, l32_100, l32_101, l32_102, l32_103, l32_104, l32_105, l32_106, l32_107, l32_108, l32_109, l32_110, l32_111, l32_112, l32_113, l32_114, l32_115, l32_116, l32_117, l32_118, l32_119, l32_120, l32_121, l32_122, l32_123, l32_124, l32_125, l32_126, l32_192, l32_200, l32_255, l32_999, l32_1000, l32_1344, l32_2147483639, l32_2147483647, l64_0, l64_1, l64_99, l64_999, l64_24883200000, l64_746496000000, jI_add, jI_sub, jI_mul, jI_neg, jL_add, jL_sub, jL_mul, jL_neg, jL_toI, jI_toL, jI_lt, jI_le, jI_eq, jL_lt, jL_le, jL_eq, inR_j, jI_clamp, nI_j, Option.bind_some, zc, u2, u3, u4, u5, wl, mo, if_pos, if_neg, ite_true, ite_false, rt_u hT, rt_k hT, r_g h, bZ_eq0] <;> rfl
              · by_cases q3 : u i = 0
                · simp (disch := omega) only [l32_0, l32_1, l32_2, l32_3, l32_4, l32_5, l32_6, l32_7, l32_8, l32_9, l32_10, l32_11, l32_12, l32_13, l32_14, l32_15, l32_16, l32_17, l32_18, l32_19, l32_20, l32_21, l32_22, l32_23, l32_24, l32_25, l32_26, l32_27, l32_28, l32_29, l32_30, l32_31, l32_32, l32_33, l32_34, l32_35, l32_36, l32_37, l32_38, l32_39, l32_40, l32_41, l32_42, l32_43, l32_44, l32_45, l32_46, l32_47, l32_48, l32_49, l32_50, l32_51, l32_52, l32_53, l32_54, l32_55, l32_56, l32_57, l32_58, l32_59, l32_60, l32_61, l32_62, l32_63, l32_64, l32_65, l32_66, l32_76, l32_86, l32_90, l32_92, l32_97, l32_98, l32_99, l32_100, l32_101, l32_102, l32_103, l32_104, l32_105, l32_106, l32_107, l32_108, l32_109, l32_110, l32_111, l32_112, l32_113, l32_114, l32_115, l32_116, l32_117, l32_118, l32_119, l32_120, l32_121, l32_122, l32_123, l32_124, l32_125, l32_126, l32_192, l32_200, l32_255, l32_999, l32_1000, l32_1344, l32_2147483639, l32_2147483647, l64_0, l64_1, l64_99, l64_999, l64_24883200000, l64_746496000000, jI_add, jI_sub, jI_mul, jI_neg, jL_add, jL_sub, jL_mul, jL_neg, jL_toI, jI_toL, jI_lt, jI_le, jI_eq, jL_lt, jL_le, jL_eq, inR_j, jI_clamp, nI_j, Option.bind_some, zc, u2, u3, u4, u5, wl, mo, if_pos, if_neg, ite_true, ite_false, rt_u hT, rt_k hT, r_g h, bZ_eq0] <;> rfl
                · simp (disch := omega) only [l32_0, l32_1, l32_2, l32_3, l32_4, l32_5, l32_6, l32_7, l32_8, l32_9, l32_10, l32_11, l32_12, l32_13, l32_14, l32_15, l32_16, l32_17, l32_18, l32_19, l32_20, l32_21, l32_22, l32_23, l32_24, l32_25, l32_26, l32_27, l32_28, l32_29, l32_30, l32_31, l32_32, l32_33, l32_34, l32_35, l32_36, l32_37, l32_38, l32_39, l32_40, l32_41, l32_42, l32_43, l32_44, l32_45, l32_46, l32_47, l32_48, l32_49, l32_50, l32_51, l32_52, l32_53, l32_54, l32_55, l32_56, l32_57, l32_58, l32_59, l32_60, l32_61, l32_62, l32_63, l32_64, l32_65, l32_66, l32_76, l32_86, l32_90, l32_92, l32_97, l32_98, l32_99, l32_100, l32_101, l32_102, l32_103, l32_104, l32_105, l32_106, l32_107, l32_108, l32_109, l32_110, l32_111, l32_112, l32_113, l32_114, l32_115, l32_116, l32_117, l32_118, l32_119, l32_120, l32_121, l32_122, l32_123, l32_124, l32_125, l32_126, l32_192, l32_200, l32_255, l32_999, l32_1000, l32_1344, l32_2147483639, l32_2147483647, l64_0, l64_1, l64_99, l64_999, l64_24883200000, l64_746496000000, jI_add, jI_sub, jI_mul, jI_neg, jL_add, jL_sub, jL_mul, jL_neg, jL_toI, jI_toL, jI_lt, jI_le, jI_eq, jL_lt, jL_le, jL_eq, inR_j, jI_clamp, nI_j, Option.bind_some, zc, u2, u3, u4, u5, wl, mo, if_pos, if_neg, ite_true, ite_false, rt_u hT, rt_k hT, r_g h, bZ_eq0] <;> rfl
            · by_cases q2 : u i < 0
              · simp (disch := omega) only [l32_0, l32_1, l32_2, l32_3, l32_4, l32_5, l32_6, l32_7, l32_8, l32_9, l32_10, l32_11, l32_12, l32_13, l32_14, l32_15, l32_16, l32_17, l32_18, l32_19, l32_20, l32_21, l32_22, l32_23, l32_24, l32_25, l32_26, l32_27, l32_28, l32_29, l32_30, l32_31, l32_32, l32_33, l32_34, l32_35, l32_36, l32_37, l32_38, l32_39, l32_40, l32_41, l32_42, l32_43, l32_44, l32_45, l32_46, l32_47, l32_48, l32_49, l32_50, l32_51, l32_52, l32_53, l32_54, l32_55, l32_56, l32_57, l32_58, l32_59, l32_60, l32_61, l32_62, l32_63, l32_64, l32_65, l32_66, l32_76, l32_86, l32_90, l32_92, l32_97, l32_98, l32_99, l32_100, l32_101, l32_102, l32_103, l32_104, l32_105, l32_106, l32_107, l32_108, l32_109, l32_110, l32_111, l32_112, l32_113, l32_114, l32_115, l32_116, l32_117, l32_118, l32_119, l32_120, l32_121, l32_122, l32_123, l32_124, l32_125, l32_126, l32_192, l32_200, l32_255, l32_999, l32_1000, l32_1344, l32_2147483639, l32_2147483647, l64_0, l64_1, l64_99, l64_999, l64_24883200000, l64_746496000000, jI_add, jI_sub, jI_mul, jI_neg, jL_add, jL_sub, jL_mul, jL_neg, jL_toI, jI_toL, jI_lt, jI_le, jI_eq, jL_lt, jL_le, jL_eq, inR_j, jI_clamp, nI_j, Option.bind_some, zc, u2, u3, u4, u5, wl, mo, if_pos, if_neg, ite_true, ite_false, rt_u hT, rt_k hT, r_g h, bZ_eq0] <;> rfl
              · by_cases q3 : u i = 0
                · simp (disch := omega) only [l32_0, l32_1, l32_2, l32_3, l32_4, l32_5, l32_6, l32_7, l32_8, l32_9, l32_10, l32_11, l32_12, l32_13, l32_14, l32_15, l32_16, l32_17, l32_18, l32_19, l32_20, l32_21, l32_22, l32_23, l32_24, l32_25, l32_26, l32_27, l32_28, l32_29, l32_30, l32_31, l32_32, l32_33, l32_34, l32_35, l32_36, l32_37, l32_38, l32_39, l32_40, l32_41, l32_42, l32_43, l32_44, l32_45, l32_46, l32_47, l32_48, l32_49, l32_50, l32_51, l32_52, l32_53, l32_54, l32_55, l32_56, l32_57, l32_58, l32_59, l32_60, l32_61, l32_62, l32_63, l32_64, l32_65, l32_66, l32_76, l32_86, l32_90, l32_92, l32_97, l32_98, l32_99, l32_100, l32_101, l32_102, l32_103, l32_104, l32_105, l32_106, l32_107, l32_108, l32_109, l32_110, l32_111, l32_112, l32_113, l32_114, l32_115, l32_116, l32_117, l32_118, l32_119, l32_120, l32_121, l32_122, l32_123, l32_124, l32_125, l32_126, l32_192, l32_200, l32_255, l32_999, l32_1000, l32_1344, l32_2147483639, l32_2147483647, l64_0, l64_1, l64_99, l64_999, l64_24883200000, l64_746496000000, jI_add, jI_sub, jI_mul, jI_neg, jL_add, jL_sub, jL_mul, jL_neg, jL_toI, jI_toL, jI_lt, jI_le, jI_eq, jL_lt, jL_le, jL_eq, inR_j, jI_clamp, nI_j, Option.bind_some, zc, u2, u3, u4, u5, wl, mo, if_pos, if_neg, ite_true, ite_false, rt_u hT, rt_k hT, r_g h, bZ_eq0] <;> rfl
                · have q5 : S (56 + (i : Int)) = 0 := h6.resolve_right (fun z => q ⟨Or.inr ⟨by omega, by omega⟩, z⟩)
                  simp (disch := omega) only [l32_0, l32_1, l32_2, l32_3, l32_4, l32_5, l32_6, l32_7, l32_8, l32_9, l32_10, l32_11, l32_12, l32_13, l32_14, l32_15, l32_16, l32_17, l32_18, l32_19, l32_20, l32_21, l32_22, l32_23, l32_24, l32_25, l32_26, l32_27, l32_28, l32_29, l32_30, l32_31, l32_32, l32_33, l32_34, l32_35, l32_36, l32_37, l32_38, l32_39, l32_40, l32_41, l32_42, l32_43, l32_44, l32_45, l32_46, l32_47, l32_48, l32_49, l32_50, l32_51, l32_52, l32_53, l32_54, l32_55, l32_56, l32_57, l32_58, l32_59, l32_60, l32_61, l32_62, l32_63, l32_64, l32_65, l32_66, l32_76, l32_86, l32_90, l32_92, l32_97, l32_98, l32_99, l32_100, l32_101, l32_102, l32_103, l32_104, l32_105, l32_106, l32_107, l32_108, l32_109, l32_110, l32_111, l32_112, l32_113, l32_114, l32_115, l32_116, l32_117, l32_118, l32_119, l32_120, l32_121, l32_122, l32_123, l32_124, l32_125, l32_126, l32_192, l32_200, l32_255, l32_999, l32_1000, l32_1344, l32_2147483639, l32_2147483647, l64_0, l64_1, l64_99, l64_999, l64_24883200000, l64_746496000000, jI_add, jI_sub, jI_mul, jI_neg, jL_add, jL_sub, jL_mul, jL_neg, jL_toI, jI_toL, jI_lt, jI_le, jI_eq, jL_lt, jL_le, jL_eq, inR_j, jI_clamp, nI_j, Option.bind_some, zc, u2, u3, u4, u5, wl, mo, if_pos, if_neg, ite_true, ite_false, rt_u hT, rt_k hT, r_g h, bZ_eq0] <;> rfl
          · rcases hd with q1 | q1
            · by_cases q2 : u i < 0
              · simp (disch := omega) only [l32_0, l32_1, l32_2, l32_3, l32_4, l32_5, l32_6, l32_7, l32_8, l32_9, l32_10, l32_11, l32_12, l32_13, l32_14, l32_15, l32_16, l32_17, l32_18, l32_19, l32_20, l32_21, l32_22, l32_23, l32_24, l32_25, l32_26, l32_27, l32_28, l32_29, l32_30, l32_31, l32_32, l32_33, l32_34, l32_35, l32_36, l32_37, l32_38, l32_39, l32_40, l32_41, l32_42, l32_43, l32_44, l32_45, l32_46, l32_47, l32_48, l32_49, l32_50, l32_51, l32_52, l32_53, l32_54, l32_55, l32_56, l32_57, l32_58, l32_59, l32_60, l32_61, l32_62, l32_63, l32_64, l32_65, l32_66, l32_76, l32_86, l32_90, l32_92, l32_97, l32_98, l32_99, l32_100, l32_101, l32_102, l32_103, l32_104, l32_105, l32_106, l32_107, l32_108, l32_109, l32_110, l32_111, l32_112, l32_113, l32_114, l32_115, l32_116, l32_117, l32_118, l32_119, l32_120, l32_121, l32_122, l32_123, l32_124, l32_125, l32_126, l32_192, l32_200, l32_255, l32_999, l32_1000, l32_1344, l32_2147483639, l32_2147483647, l64_0, l64_1, l64_99, l64_999, l64_24883200000, l64_746496000000, jI_add, jI_sub, jI_mul, jI_neg, jL_add, jL_sub, jL_mul, jL_neg, jL_toI, jI_toL, jI_lt, jI_le, jI_eq, jL_lt, jL_le, jL_eq, inR_j, jI_clamp, nI_j, Option.bind_some, zc, u2, u3, u4, u5, wl, mo, if_pos, if_neg, ite_true, ite_false, rt_u hT, rt_k hT, r_g h, bZ_eq0] <;> rfl
              · simp (disch := omega) only [l32_0, l32_1, l32_2, l32_3, l32_4, l32_5, l32_6, l32_7, l32_8, l32_9, l32_10, l32_11, l32_12, l32_13, l32_14, l32_15, l32_16, l32_17, l32_18, l32_19, l32_20, l32_21, l32_22, l32_23, l32_24, l32_25, l32_26, l32_27, l32_28, l32_29, l32_30, l32_31, l32_32, l32_33, l32_34, l32_35, l32_36, l32_37, l32_38, l32_39, l32_40, l32_41, l32_42, l32_43, l32_44, l32_45, l32_46, l32_47, l32_48, l32_49, l32_50, l32_51, l32_52, l32_53, l32_54, l32_55, l32_56, l32_57, l32_58, l32_59, l32_60, l32_61, l32_62, l32_63, l32_64, l32_65, l32_66, l32_76, l32_86, l32_90, l32_92, l32_97, l32_98, l32_99, l32_100, l32_101, l32_102, l32_103, l32_104, l32_105, l32_106, l32_107, l32_108, l32_109, l32_110, l32_111, l32_112, l32_113, l32_114, l32_115, l32_116, l32_117, l32_118, l32_119, l32_120, l32_121, l32_122, l32_123, l32_124, l32_125, l32_126, l32_192, l32_200, l32_255, l32_999, l32_1000, l32_1344, l32_2147483639, l32_2147483647, l64_0, l64_1, l64_99, l64_999, l64_24883200000, l64_746496000000, jI_add, jI_sub, jI_mul, jI_neg, jL_add, jL_sub, jL_mul, jL_neg, jL_toI, jI_toL, jI_lt, jI_le, jI_eq, jL_lt, jL_le, jL_eq, inR_j, jI_clamp, nI_j, Option.bind_some, zc, u2, u3, u4, u5, wl, mo, if_pos, if_neg, ite_true, ite_false, rt_u hT, rt_k hT, r_g h, bZ_eq0] <;> rfl
            · by_cases q2 : u i < 0
              · simp (disch := omega) only [l32_0, l32_1, l32_2, l32_3, l32_4, l32_5, l32_6, l32_7, l32_8, l32_9, l32_10, l32_11, l32_12, l32_13, l32_14, l32_15, l32_16, l32_17, l32_18, l32_19, l32_20, l32_21, l32_22, l32_23, l32_24, l32_25, l32_26, l32_27, l32_28, l32_29, l32_30, l32_31, l32_32, l32_33, l32_34, l32_35, l32_36, l32_37, l32_38, l32_39, l32_40, l32_41, l32_42, l32_43, l32_44, l32_45, l32_46, l32_47, l32_48, l32_49, l32_50, l32_51, l32_52, l32_53, l32_54, l32_55, l32_56, l32_57, l32_58, l32_59, l32_60, l32_61, l32_62, l32_63, l32_64, l32_65, l32_66, l32_76, l32_86, l32_90, l32_92, l32_97, l32_98, l32_99, l32_100, l32_101, l32_102, l32_103, l32_104, l32_105, l32_106, l32_107, l32_108, l32_109, l32_110, l32_111, l32_112, l32_113, l32_114, l32_115, l32_116, l32_117, l32_118, l32_119, l32_120, l32_121, l32_122, l32_123, l32_124, l32_125, l32_126, l32_192, l32_200, l32_255, l32_999, l32_1000, l32_1344, l32_2147483639, l32_2147483647, l64_0, l64_1, l64_99, l64_999, l64_24883200000, l64_746496000000, jI_add, jI_sub, jI_mul, jI_neg, jL_add, jL_sub, jL_mul, jL_neg, jL_toI, jI_toL, jI_lt, jI_le, jI_eq, jL_lt, jL_le, jL_eq, inR_j, jI_clamp, nI_j, Option.bind_some, zc, u2, u3, u4, u5, wl, mo, if_pos, if_neg, ite_true, ite_false, rt_u hT, rt_k hT, r_g h, bZ_eq0] <;> rfl
              · simp (disch := omega) only [l32_0, l32_1, l32_2, l32_3, l32_4, l32_5, l32_6, l32_7, l32_8, l32_9, l32_10, l32_11, l32_12, l32_13, l32_14, l32_15, l32_16, l32_17, l32_18, l32_19, l32_20, l32_21, l32_22, l32_23, l32_24, l32_25, l32_26, l32_27, l32_28, l32_29, l32_30, l32_31, l32_32, l32_33, l32_34, l32_35, l32_36, l32_37, l32_38, l32_39, l32_40, l32_41, l32_42, l32_43, l32_44, l32_45, l32_46, l32_47, l32_48, l32_49, l32_50, l32_51, l32_52, l32_53, l32_54, l32_55, l32_56, l32_57, l32_58, l32_59, l32_60, l32_61, l32_62, l32_63, l32_64, l32_65, l32_66, l32_76, l32_86, l32_90, l32_92, l32_97, l32_98, l32_99, l32_100, l32_101, l32_102, l32_103, l32_104, l32_105, l32_106, l32_107, l32_108, l32_109, l32_110, l32_111, l32_112, l32_113, l32_114, l32_115, l32_116, l32_117, l32_118, l32_119, l32_120, l32_121, l32_122, l32_123, l32_124, l32_125, l32_126, l32_192, l32_200, l32_255, l32_999, l32_1000, l32_1344, l32_2147483639, l32_2147483647, l64_0, l64_1, l64_99, l64_999, l64_24883200000, l64_746496000000, jI_add, jI_sub, jI_mul, jI_neg, jL_add, jL_sub, jL_mul, jL_neg, jL_toI, jI_toL, jI_lt, jI_le, jI_eq, jL_lt, jL_le, jL_eq, inR_j, jI_clamp, nI_j, Option.bind_some, zc, u2, u3, u4, u5, wl, mo, if_pos, if_neg, ite_true, ite_false, rt_u hT, rt_k hT, r_g h, bZ_eq0] <;> rfl)
    (fun n s hI => by
      obtain ⟨y, x⟩ := s
      obtain ⟨rfl, b, rfl, hb2⟩ := hI
      refine ⟨.inl (jI b, jI ((10 : Nat) : Int)), ?_, b, _, rfl, ?_⟩
      · show p_X11_isHindered_4 w (jI d) (n + 1) (jI b) (jI ((10 : Nat) : Int)) = _
        rw [p_X11_isHindered_4]
        simp (disch := omega) only [l32_0, l32_1, l32_2, l32_3, l32_4, l32_5, l32_6, l32_7, l32_8, l32_9, l32_10, l32_11, l32_12, l32_13, l32_14, l32_15, l32_16, l32_17, l32_18, l32_19, l32_20, l32_21, l32_22, l32_23, l32_24, l32_25, l32_26, l32_27, l32_28, l32_29, l32_30, l32_31, l32_32, l32_33, l32_34, l32_35, l32_36, l32_37, l32_38, l32_39, l32_40, l32_41, l32_42, l32_43, l32_44, l32_45, l32_46, l32_47, l32_48, l32_49, l32_50, l32_51, l32_52, l32_53, l32_54, l32_55, l32_56, l32_57, l32_58, l32_59, l32_60, l32_61, l32_62, l32_63, l32_64, l32_65, l32_66, l32_76, l32_86, l32_90, l32_92, l32_97, l32_98, l32_99, l32_100, l32_101, l32_102, l32_103, l32_104, l32_105, l32_106, l32_107, l32_108, l32_109, l32_110, l32_111, l32_112, l32_113, l32_114, l32_115, l32_116, l32_117, l32_118, l32_119, l32_120, l32_121, l32_122, l32_123, l32_124, l32_125, l32_126, l32_192, l32_200, l32_255, l32_999, l32_1000, l32_1344, l32_2147483639, l32_2147483647, l64_0, l64_1, l64_99, l64_999, l64_24883200000, l64_746496000000, jI_add, jI_sub, jI_mul, jI_neg, jL_add, jL_sub, jL_mul, jL_neg, jL_toI, jI_toL, jI_lt, jI_le, jI_eq, jL_lt, jL_le, jL_eq, inR_j, jI_clamp, nI_j, Option.bind_some, zc, u2, u3, u4, u5, wl, mo, if_pos, if_neg, ite_true, ite_false]
      · rcases hb2 with ⟨hb2, hb3⟩ | hb2
        · exact Or.inl ⟨hb2, fun ⟨j, j0, j1, z⟩ => hb3 j j0 j1 z⟩
        · exact Or.inr hb2) 2000 0 (jI 0, jI 0) (by omega) (by omega) ⟨rfl, 0, rfl, Or.inl ⟨rfl, fun j j0 j1 => by omega⟩⟩
  obtain ⟨b, y, rfl, hb2⟩ := hP
  have hr : p_X11_isHindered_4 w (jI d) 2000 (jI 0) (jI 0) = _ := hr
  refine ⟨b, ?_, hb2⟩
  unfold f_X11_isHindered
  rw [l32_0, hr]
  show some (vp_nar .boolean (jI b)) = _
  rcases hb2 with ⟨rfl, -⟩ | ⟨rfl, -⟩ <;> rfl
theorem s_rPlanetOn (h : RSt w 142 0 S) (hG : Good S) {g : Int} (g0 : 0 ≤ g) (g1 : g < 10) : ∃ r, f_X11_planetOn w (jI g) = some (jI r) ∧ IsF (fun p => S (86 + p) = g) (S 1) r := by
  have hg := hG.1
  have e1 : ((S 1).toNat : Int) = S 1 := by omega
  have k := lpFind (p_X11_planetOn_2 w (jI g)) (fun p => S (86 + p) = g) (S 1).toNat (fun i => jI i)
    (fun i n hi hp => by
      have h6 := hG.2.2.1 i (by omega) (by omega)
      rw [p_X11_planetOn_2]
      simp (disch := omega) only [l32_0, l32_1, l32_2, l32_3, l32_4, l32_5, l32_6, l32_7, l32_8, l32_9, l32_10, l32_11, l32_12, l32_13, l32_14, l32_15, l32_16, l32_17, l32_18, l32_19, l32_20, l32_21, l32_22, l32_23, l32_24, l32_25, l32_26, l32_27, l32_28, l32_29, l32_30, l32_31, l32_32, l32_33, l32_34, l32_35, l32_36, l32_37, l32_38, l32_39, l32_40, l32_41, l32_42, l32_43, l32_44, l32_45, l32_46, l32_47, l32_48, l32_49, l32_50, l32_51, l32_52, l32_53, l32_54, l32_55, l32_56, l32_57, l32_58, l32_59, l32_60, l32_61, l32_62, l32_63, l32_64, l32_65, l32_66, l32_76, l32_86, l32_90, l32_92, l32_97, l32_98, l32_99, l32_100, l32_101, l32_102, l32_103, l32_104, l32_105, l32_106, l32_107, l32_108, l32_109, l32_110, l32_111, l32_112, l32_113, l32_114, l32_115, l32_116, l32_117, l32_118, l32_119, l32_120, l32_121, l32_122, l32_123, l32_124, l32_125, l32_126, l32_192, l32_200, l32_255, l32_999, l32_1000, l32_1344, l32_2147483639, l32_2147483647, l64_0, l64_1, l64_99, l64_999, l64_24883200000, l64_746496000000, jI_add, jI_sub, jI_mul, jI_neg, jL_add, jL_sub, jL_mul, jL_neg, jL_toI, jI_toL, jI_lt, jI_le, jI_eq, jL_lt, jL_le, jL_eq, inR_j, jI_clamp, nI_j, Option.bind_some, zc, u2, u3, u4, u5, wl, mo, if_pos, if_neg, ite_true, ite_false, s_at h] <;> rfl)
    (fun i n hi hp => by
      have h6 := hG.2.2.1 i (by omega) (by omega)
      rw [p_X11_planetOn_2]
      simp (disch := omega) only [l32_0, l32_1, l32_2, l32_3, l32_4, l32_5, l32_6, l32_7, l32_8, l32_9, l32_10, l32_11, l32_12, l32_13, l32_14, l32_15, l32_16, l32_17, l32_18, l32_19, l32_20, l32_21, l32_22, l32_23, l32_24, l32_25, l32_26, l32_27, l32_28, l32_29, l32_30, l32_31, l32_32, l32_33, l32_34, l32_35, l32_36, l32_37, l32_38, l32_39, l32_40, l32_41, l32_42, l32_43, l32_44, l32_45, l32_46, l32_47, l32_48, l32_49, l32_50, l32_51, l32_52, l32_53, l32_54, l32_55, l32_56, l32_57, l32_58, l32_59, l32_60, l32_61, l32_62, l32_63, l32_64, l32_65, l32_66, l32_76, l32_86, l32_90, l32_92, l32_97, l32_98, l32_99, l32_100, l32_101, l32_102, l32_103, l32_104, l32_105, l32_106, l32_107, l32_108, l32_109, l32_110, l32_111, l32_112, l32_113, l32_114, l32_115, l32_116, l32_117, l32_118, l32_119, l32_120, l32_121, l32_122, l32_123, l32_124, l32_125, l32_126, l32_192, l32_200, l32_255, l32_999, l32_1000, l32_1344, l32_2147483639, l32_2147483647, l64_0, l64_1, l64_99, l64_999, l64_24883200000, l64_746496000000, jI_add, jI_sub, jI_mul, jI_neg, jL_add, jL_sub, jL_mul, jL_neg, jL_toI, jI_toL, jI_lt, jI_le, jI_eq, jL_lt, jL_le, jL_eq, inR_j, jI_clamp, nI_j, Option.bind_some, zc, u2, u3, u4, u5, wl, mo, if_pos, if_neg, ite_true, ite_false, s_at h] <;> rfl)
    (fun n => by
      rw [p_X11_planetOn_2, e1]
      simp (disch := omega) only [l32_0, l32_1, l32_2, l32_3, l32_4, l32_5, l32_6, l32_7, l32_8, l32_9, l32_10, l32_11, l32_12, l32_13, l32_14, l32_15, l32_16, l32_17, l32_18, l32_19, l32_20, l32_21, l32_22, l32_23, l32_24, l32_25, l32_26, l32_27, l32_28, l32_29, l32_30, l32_31, l32_32, l32_33, l32_34, l32_35, l32_36, l32_37, l32_38, l32_39, l32_40, l32_41, l32_42, l32_43, l32_44, l32_45, l32_46, l32_47, l32_48, l32_49, l32_50, l32_51, l32_52, l32_53, l32_54, l32_55, l32_56, l32_57, l32_58, l32_59, l32_60, l32_61, l32_62, l32_63, l32_64, l32_65, l32_66, l32_76, l32_86, l32_90, l32_92, l32_97, l32_98, l32_99, l32_100, l32_101, l32_102, l32_103, l32_104, l32_105, l32_106, l32_107, l32_108, l32_109, l32_110, l32_111, l32_112, l32_113, l32_114, l32_115, l32_116, l32_117, l32_118, l32_119, l32_120, l32_121, l32_122, l32_123, l32_124, l32_125, l32_126, l32_192, l32_200, l32_255, l32_999, l32_1000, l32_1344, l32_2147483639, l32_2147483647, l64_0, l64_1, l64_99, l64_999, l64_24883200000, l64_746496000000, jI_add, jI_sub, jI_mul, jI_neg, jL_add, jL_sub, jL_mul, jL_neg, jL_toI, jI_toL, jI_lt, jI_le, jI_eq, jL_lt, jL_le, jL_eq, inR_j, jI_clamp, nI_j, Option.bind_some, zc, u2, u3, u4, u5, wl, mo, if_pos, if_neg, ite_true, ite_false, s_at h]) 2000 (by omega)
  unfold f_X11_planetOn
  rcases k with ⟨r, r0, r1, r2, r3, r4⟩ | ⟨r3, r4⟩
  · exact ⟨r, by rw [l32_0, r4]; rfl, Or.inl ⟨r0, by omega, r2, r3⟩⟩
  · exact ⟨-1, by rw [l32_0, r4]; rfl, Or.inr ⟨rfl, fun j j0 j1 => r3 j j0 (by omega)⟩⟩
theorem s_rMayHave {t : Int} (h1 : -2147483648 ≤ t) (h2 : t < 2147483648) : ∃ r, f_X11_mayHave w (jI t) = some (jI r) ∧ ((r = 0 ∧ ¬ tooth t) ∨ (r = 1 ∧ tooth t)) := by
  by_cases q : tooth t
  · refine ⟨1, ?_, Or.inr ⟨rfl, q⟩⟩
    rcases q with rfl | rfl | rfl | rfl | rfl | rfl | rfl | rfl | rfl | rfl <;> rfl
  · refine ⟨0, ?_, Or.inl ⟨rfl, q⟩⟩
    unfold tooth at q
    unfold f_X11_mayHave
    simp (disch := omega) only [l32_0, l32_1, l32_2, l32_3, l32_4, l32_5, l32_6, l32_7, l32_8, l32_9, l32_10, l32_11, l32_12, l32_13, l32_14, l32_15, l32_16, l32_17, l32_18, l32_19, l32_20, l32_21, l32_22, l32_23, l32_24, l32_25, l32_26, l32_27, l32_28, l32_29, l32_30, l32_31, l32_32, l32_33, l32_34, l32_35, l32_36, l32_37, l32_38, l32_39, l32_40, l32_41, l32_42, l32_43, l32_44, l32_45, l32_46, l32_47, l32_48, l32_49, l32_50, l32_51, l32_52, l32_53, l32_54, l32_55, l32_56, l32_57, l32_58, l32_59, l32_60, l32_61, l32_62, l32_63, l32_64, l32_65, l32_66, l32_76, l32_86, l32_90, l32_92, l32_97, l32_98, l32_99, l32_100, l32_101, l32_102, l32_103, l32_104, l32_105, l32_106, l32_107, l32_108, l32_109, l32_110, l32_111, l32_112, l32_113, l32_114, l32_115, l32_116, l32_117, l32_118, l32_119, l32_120, l32_121, l32_122, l32_123, l32_124, l32_125, l32_126, l32_192, l32_200, l32_255, l32_999, l32_1000, l32_1344, l32_2147483639, l32_2147483647, l64_0, l64_1, l64_99, l64_999, l64_24883200000, l64_746496000000, jI_add, jI_sub, jI_mul, jI_neg, jL_add, jL_sub, jL_mul, jL_neg, jL_toI, jI_toL, jI_lt, jI_le, jI_eq, jL_lt, jL_le, jL_eq, inR_j, jI_clamp, nI_j, Option.bind_some, zc, u2, u3, u4, u5, wl, mo, if_pos, if_neg, ite_true, ite_false]
end
end
section
/-! WRITES: what one of them does to the picture of the state -/
theorem nar_b0 : vp_nar .boolean (jI 0) = jI 0 := rfl
theorem nar_b1 : vp_nar .boolean (jI 1) = jI 1 := rfl
theorem jc_up {S : Ab} {z v : Int} (h : z < 92) : jc (up S z v) = jc S := by
  unfold jc
  exact sm_congr (fun i h0 h1 => by rw [up_ne (by omega)])
theorem RSt.put {w : Wd} {S : Ab} {z v : Int} (h : RSt w 142 0 S) (z0 : 0 ≤ z) (z1 : z < 192) : RSt (uL w 142 z.toNat (jL v)) 142 0 (up S z v) := by
  intro x x0 x1
  rw [Int.zero_add, gL_uL]
  by_cases q : x = z
  · rw [q, if_pos ⟨rfl, rfl⟩, up_eq]
  · rw [if_neg (by omega), up_ne q]; exact r_g h x x0 x1
theorem CSt.put_t {w : Wd} {S : Ab} {i v : Int} (h : CSt w 1 S) (i0 : 0 ≤ i) (i1 : i < 10) : CSt (uI w 2 i.toNat (jI v)) 1 (up S (6 + i) v) := by
  obtain ⟨h1, h2, h3, h4, h5, h6, h7, h8, h9, h10⟩ := h
  refine ⟨fun x x0 x1 => ?_, fun x x0 x1 => ?_, fun x x0 x1 => ?_, ?_, ?_, ?_, ?_, ?_, ?_, ?_⟩
  · obtain ⟨k1, k2, k3, k4, k5, k6, k7, k8⟩ := h1 x x0 x1
    by_cases q : x = i
    · subst q
      refine ⟨?_, ?_, ?_, fun q2 => ?_, ?_, ?_, ?_, ?_⟩
      · simp (disch := omega) only [gI_uI, gL_uI, gI_uL, gL_uL, up, if_pos, if_neg, and_self, ite_true] <;> exact k1
      · simp (disch := omega) only [gI_uI, gL_uI, gI_uL, gL_uL, up, if_pos, if_neg, and_self, ite_true] <;> exact k2
      · simp (disch := omega) only [gI_uI, gL_uI, gI_uL, gL_uL, up, if_pos, if_neg, and_self, ite_true] <;> exact k3
      · rw [up_ne (by omega)] at q2; simp (disch := omega) only [gI_uI, gL_uI, gI_uL, gL_uL, up, if_pos, if_neg, and_self, ite_true] <;> exact k4 q2
      · simp (disch := omega) only [gI_uI, gL_uI, gI_uL, gL_uL, up, if_pos, if_neg, and_self, ite_true] <;> exact k5
      · simp (disch := omega) only [gI_uI, gL_uI, gI_uL, gL_uL, up, if_pos, if_neg, and_self, ite_true] <;> exact k6
      · simp (disch := omega) only [gI_uI, gL_uI, gI_uL, gL_uL, up, if_pos, if_neg, and_self, ite_true] <;> exact k7
      · simp (disch := omega) only [gI_uI, gL_uI, gI_uL, gL_uL, up, if_pos, if_neg, and_self, ite_true] <;> exact k8
    · refine ⟨?_, ?_, ?_, fun q2 => ?_, ?_, ?_, ?_, ?_⟩
      · simp (disch := omega) only [gI_uI, gL_uI, gI_uL, gL_uL, up, if_pos, if_neg, and_self, ite_true]; exact k1
      · simp (disch := omega) only [gI_uI, gL_uI, gI_uL, gL_uL, up, if_pos, if_neg, and_self, ite_true]; exact k2
      · simp (disch := omega) only [gI_uI, gL_uI, gI_uL, gL_uL, up, if_pos, if_neg, and_self, ite_true]; exact k3
      · rw [up_ne (by omega)] at q2; simp (disch := omega) only [gI_uI, gL_uI, gI_uL, gL_uL, up, if_pos, if_neg, and_self, ite_true]; exact k4 q2
      · simp (disch := omega) only [gI_uI, gL_uI, gI_uL, gL_uL, up, if_pos, if_neg, and_self, ite_true]; exact k5
      · simp (disch := omega) only [gI_uI, gL_uI, gI_uL, gL_uL, up, if_pos, if_neg, and_self, ite_true]; exact k6
      · simp (disch := omega) only [gI_uI, gL_uI, gI_uL, gL_uL, up, if_pos, if_neg, and_self, ite_true]; exact k7
      · simp (disch := omega) only [gI_uI, gL_uI, gI_uL, gL_uL, up, if_pos, if_neg, and_self, ite_true]; exact k8
  · have k1 := h2 x x0 x1
    simp (disch := omega) only [gI_uI, gL_uI, gI_uL, gL_uL, up, if_pos, if_neg, and_self, ite_true]; exact k1
  · have k1 := h3 x x0 x1
    simp (disch := omega) only [gI_uI, gL_uI, gI_uL, gL_uL, up, if_pos, if_neg, and_self, ite_true]; exact k1
  · simp (disch := omega) only [gI_uI, gL_uI, gI_uL, gL_uL, up, if_pos, if_neg, and_self, ite_true]; exact h4
  · rw [jc_up (by omega)]; simp (disch := omega) only [gI_uI, gL_uI, gI_uL, gL_uL, if_pos, if_neg, and_self, ite_true]; exact h5
  · simp (disch := omega) only [gI_uI, gL_uI, gI_uL, gL_uL, up, if_pos, if_neg, and_self, ite_true]; exact h6
  · simp (disch := omega) only [gI_uI, gL_uI, gI_uL, gL_uL, up, if_pos, if_neg, and_self, ite_true]; exact h7
  · simp (disch := omega) only [gI_uI, gL_uI, gI_uL, gL_uL, up, if_pos, if_neg, and_self, ite_true]; exact h8
  · simp (disch := omega) only [gI_uI, gL_uI, gI_uL, gL_uL, up, if_pos, if_neg, and_self, ite_true]; exact h9
  · simp (disch := omega) only [gI_uI, gL_uI, gI_uL, gL_uL, up, if_pos, if_neg, and_self, ite_true]; exact h10
theorem CSt.put_a {w : Wd} {S : Ab} {i v : Int} (h : CSt w 1 S) (i0 : 0 ≤ i) (i1 : i < 10) : CSt (uL w 3 i.toNat (jL v)) 1 (up S (16 + i) v) := by
  obtain ⟨h1, h2, h3, h4, h5, h6, h7, h8, h9, h10⟩ := h
  refine ⟨fun x x0 x1 => ?_, fun x x0 x1 => ?_, fun x x0 x1 => ?_, ?_, ?_, ?_, ?_, ?_, ?_, ?_⟩
  · obtain ⟨k1, k2, k3, k4, k5, k6, k7, k8⟩ := h1 x x0 x1
    by_cases q : x = i
    · subst q
      refine ⟨?_, ?_, ?_, fun q2 => ?_, ?_, ?_, ?_, ?_⟩
      · simp (disch := omega) only [gI_uI, gL_uI, gI_uL, gL_uL, up, if_pos, if_neg, and_self, ite_true] <;> exact k1
      · simp (disch := omega) only [gI_uI, gL_uI, gI_uL, gL_uL, up, if_pos, if_neg, and_self, ite_true] <;> exact k2
      · simp (disch := omega) only [gI_uI, gL_uI, gI_uL, gL_uL, up, if_pos, if_neg, and_self, ite_true] <;> exact k3
      · rw [up_ne (by omega)] at q2; simp (disch := omega) only [gI_uI, gL_uI, gI_uL, gL_uL, up, if_pos, if_neg, and_self, ite_true] <;> exact k4 q2
      · simp (disch := omega) only [gI_uI, gL_uI, gI_uL, gL_uL, up, if_pos, if_neg, and_self, ite_true] <;> exact k5
      · simp (disch := omega) only [gI_uI, gL_uI, gI_uL, gL_uL, up, if_pos, if_neg, and_self, ite_true] <;> exact k6
      · simp (disch := omega) only [gI_uI, gL_uI, gI_uL, gL_uL, up, if_pos, if_neg, and_self, ite_true] <;> exact k7
      · simp (disch := omega) only [gI_uI, gL_uI, gI_uL, gL_uL, up, if_pos, if_neg, and_self, ite_true] <;> exact k8
    · refine ⟨?_, ?_, ?_, fun q2 => ?_, ?_, ?_, ?_, ?_⟩
      · simp (disch := omega) only [gI_uI, gL_uI, gI_uL, gL_uL, up, if_pos, if_neg, and_self, ite_true]; exact k1
      · simp (disch := omega) only [gI_uI, gL_uI, gI_uL, gL_uL, up, if_pos, if_neg, and_self, ite_true]; exact k2
      · simp (disch := omega) only [gI_uI, gL_uI, gI_uL, gL_uL, up, if_pos, if_neg, and_self, ite_true]; exact k3
      · rw [up_ne (by omega)] at q2; simp (disch := omega) only [gI_uI, gL_uI, gI_uL, gL_uL, up, if_pos, if_neg, and_self, ite_true]; exact k4 q2
      · simp (disch := omega) only [gI_uI, gL_uI, gI_uL, gL_uL, up, if_pos, if_neg, and_self, ite_true]; exact k5
      · simp (disch := omega) only [gI_uI, gL_uI, gI_uL, gL_uL, up, if_pos, if_neg, and_self, ite_true]; exact k6
      · simp (disch := omega) only [gI_uI, gL_uI, gI_uL, gL_uL, up, if_pos, if_neg, and_self, ite_true]; exact k7
      · simp (disch := omega) only [gI_uI, gL_uI, gI_uL, gL_uL, up, if_pos, if_neg, and_self, ite_true]; exact k8
  · have k1 := h2 x x0 x1
    simp (disch := omega) only [gI_uI, gL_uI, gI_uL, gL_uL, up, if_pos, if_neg, and_self, ite_true]; exact k1
  · have k1 := h3 x x0 x1
    simp (disch := omega) only [gI_uI, gL_uI, gI_uL, gL_uL, up, if_pos, if_neg, and_self, ite_true]; exact k1
  · simp (disch := omega) only [gI_uI, gL_uI, gI_uL, gL_uL, up, if_pos, if_neg, and_self, ite_true]; exact h4
  · rw [jc_up (by omega)]; simp (disch := omega) only [gI_uI, gL_uI, gI_uL, gL_uL, if_pos, if_neg, and_self, ite_true]; exact h5
  · simp (disch := omega) only [gI_uI, gL_uI, gI_uL, gL_uL, up, if_pos, if_neg, and_self, ite_true]; exact h6
  · simp (disch := omega) only [gI_uI, gL_uI, gI_uL, gL_uL, up, if_pos, if_neg, and_self, ite_true]; exact h7
  · simp (disch := omega) only [gI_uI, gL_uI, gI_uL, gL_uL, up, if_pos, if_neg, and_self, ite_true]; exact h8
  · simp (disch := omega) only [gI_uI, gL_uI, gI_uL, gL_uL, up, if_pos, if_neg, and_self, ite_true]; exact h9
  · simp (disch := omega) only [gI_uI, gL_uI, gI_uL, gL_uL, up, if_pos, if_neg, and_self, ite_true]; exact h10
theorem CSt.put_o {w : Wd} {S : Ab} {i v : Int} (h : CSt w 1 S) (i0 : 0 ≤ i) (i1 : i < 10) (hw : v = 1 → gL w 5 i.toNat = jL (S (76 + i))) : CSt (uI w 4 i.toNat (jI v)) 1 (up S (66 + i) v) := by
  obtain ⟨h1, h2, h3, h4, h5, h6, h7, h8, h9, h10⟩ := h
  refine ⟨fun x x0 x1 => ?_, fun x x0 x1 => ?_, fun x x0 x1 => ?_, ?_, ?_, ?_, ?_, ?_, ?_, ?_⟩
  · obtain ⟨k1, k2, k3, k4, k5, k6, k7, k8⟩ := h1 x x0 x1
    by_cases q : x = i
    · subst q
      refine ⟨?_, ?_, ?_, fun q2 => ?_, ?_, ?_, ?_, ?_⟩
      · simp (disch := omega) only [gI_uI, gL_uI, gI_uL, gL_uL, up, if_pos, if_neg, and_self, ite_true] <;> exact k1
      · simp (disch := omega) only [gI_uI, gL_uI, gI_uL, gL_uL, up, if_pos, if_neg, and_self, ite_true] <;> exact k2
      · simp (disch := omega) only [gI_uI, gL_uI, gI_uL, gL_uL, up, if_pos, if_neg, and_self, ite_true] <;> exact k3
      · rw [up_eq] at q2; simp (disch := omega) only [gI_uI, gL_uI, gI_uL, gL_uL, up, if_pos, if_neg, and_self, ite_true]; exact hw q2
      · simp (disch := omega) only [gI_uI, gL_uI, gI_uL, gL_uL, up, if_pos, if_neg, and_self, ite_true] <;> exact k5
      · simp (disch := omega) only [gI_uI, gL_uI, gI_uL, gL_uL, up, if_pos, if_neg, and_self, ite_true] <;> exact k6
      · simp (disch := omega) only [gI_uI, gL_uI, gI_uL, gL_uL, up, if_pos, if_neg, and_self, ite_true] <;> exact k7
      · simp (disch := omega) only [gI_uI, gL_uI, gI_uL, gL_uL, up, if_pos, if_neg, and_self, ite_true] <;> exact k8
    · refine ⟨?_, ?_, ?_, fun q2 => ?_, ?_, ?_, ?_, ?_⟩
      · simp (disch := omega) only [gI_uI, gL_uI, gI_uL, gL_uL, up, if_pos, if_neg, and_self, ite_true]; exact k1
      · simp (disch := omega) only [gI_uI, gL_uI, gI_uL, gL_uL, up, if_pos, if_neg, and_self, ite_true]; exact k2
      · simp (disch := omega) only [gI_uI, gL_uI, gI_uL, gL_uL, up, if_pos, if_neg, and_self, ite_true]; exact k3
      · rw [up_ne (by omega)] at q2; simp (disch := omega) only [gI_uI, gL_uI, gI_uL, gL_uL, up, if_pos, if_neg, and_self, ite_true]; exact k4 q2
      · simp (disch := omega) only [gI_uI, gL_uI, gI_uL, gL_uL, up, if_pos, if_neg, and_self, ite_true]; exact k5
      · simp (disch := omega) only [gI_uI, gL_uI, gI_uL, gL_uL, up, if_pos, if_neg, and_self, ite_true]; exact k6
      · simp (disch := omega) only [gI_uI, gL_uI, gI_uL, gL_uL, up, if_pos, if_neg, and_self, ite_true]; exact k7
      · simp (disch := omega) only [gI_uI, gL_uI, gI_uL, gL_uL, up, if_pos, if_neg, and_self, ite_true]; exact k8
  · have k1 := h2 x x0 x1
    simp (disch := omega) only [gI_uI, gL_uI, gI_uL, gL_uL, up, if_pos, if_neg, and_self, ite_true]; exact k1
  · have k1 := h3 x x0 x1
    simp (disch := omega) only [gI_uI, gL_uI, gI_uL, gL_uL, up, if_pos, if_neg, and_self, ite_true]; exact k1
  · simp (disch := omega) only [gI_uI, gL_uI, gI_uL, gL_uL, up, if_pos, if_neg, and_self, ite_true]; exact h4
  · rw [jc_up (by omega)]; simp (disch := omega) only [gI_uI, gL_uI, gI_uL, gL_uL, if_pos, if_neg, and_self, ite_true]; exact h5
  · simp (disch := omega) only [gI_uI, gL_uI, gI_uL, gL_uL, up, if_pos, if_neg, and_self, ite_true]; exact h6
  · simp (disch := omega) only [gI_uI, gL_uI, gI_uL, gL_uL, up, if_pos, if_neg, and_self, ite_true]; exact h7
  · simp (disch := omega) only [gI_uI, gL_uI, gI_uL, gL_uL, up, if_pos, if_neg, and_self, ite_true]; exact h8
  · simp (disch := omega) only [gI_uI, gL_uI, gI_uL, gL_uL, up, if_pos, if_neg, and_self, ite_true]; exact h9
  · simp (disch := omega) only [gI_uI, gL_uI, gI_uL, gL_uL, up, if_pos, if_neg, and_self, ite_true]; exact h10
theorem CSt.put_r {w : Wd} {S : Ab} {i v : Int} (h : CSt w 1 S) (i0 : 0 ≤ i) (i1 : i < 10) : CSt (uI w 6 i.toNat (jI v)) 1 (up S (56 + i) v) := by
  obtain ⟨h1, h2, h3, h4, h5, h6, h7, h8, h9, h10⟩ := h
  refine ⟨fun x x0 x1 => ?_, fun x x0 x1 => ?_, fun x x0 x1 => ?_, ?_, ?_, ?_, ?_, ?_, ?_, ?_⟩
  · obtain ⟨k1, k2, k3, k4, k5, k6, k7, k8⟩ := h1 x x0 x1
    by_cases q : x = i
    · subst q
      refine ⟨?_, ?_, ?_, fun q2 => ?_, ?_, ?_, ?_, ?_⟩
      · simp (disch := omega) only [gI_uI, gL_uI, gI_uL, gL_uL, up, if_pos, if_neg, and_self, ite_true] <;> exact k1
      · simp (disch := omega) only [gI_uI, gL_uI, gI_uL, gL_uL, up, if_pos, if_neg, and_self, ite_true] <;> exact k2
      · simp (disch := omega) only [gI_uI, gL_uI, gI_uL, gL_uL, up, if_pos, if_neg, and_self, ite_true] <;> exact k3
      · rw [up_ne (by omega)] at q2; simp (disch := omega) only [gI_uI, gL_uI, gI_uL, gL_uL, up, if_pos, if_neg, and_self, ite_true] <;> exact k4 q2
      · simp (disch := omega) only [gI_uI, gL_uI, gI_uL, gL_uL, up, if_pos, if_neg, and_self, ite_true] <;> exact k5
      · simp (disch := omega) only [gI_uI, gL_uI, gI_uL, gL_uL, up, if_pos, if_neg, and_self, ite_true] <;> exact k6
      · simp (disch := omega) only [gI_uI, gL_uI, gI_uL, gL_uL, up, if_pos, if_neg, and_self, ite_true] <;> exact k7
      · simp (disch := omega) only [gI_uI, gL_uI, gI_uL, gL_uL, up, if_pos, if_neg, and_self, ite_true] <;> exact k8
    · refine ⟨?_, ?_, ?_, fun q2 => ?_, ?_, ?_, ?_, ?_⟩
      · simp (disch := omega) only [gI_uI, gL_uI, gI_uL, gL_uL, up, if_pos, if_neg, and_self, ite_true]; exact k1
      · simp (disch := omega) only [gI_uI, gL_uI, gI_uL, gL_uL, up, if_pos, if_neg, and_self, ite_true]; exact k2
      · simp (disch := omega) only [gI_uI, gL_uI, gI_uL, gL_uL, up, if_pos, if_neg, and_self, ite_true]; exact k3
      · rw [up_ne (by omega)] at q2; simp (disch := omega) only [gI_uI, gL_uI, gI_uL, gL_uL, up, if_pos, if_neg, and_self, ite_true]; exact k4 q2
      · simp (disch := omega) only [gI_uI, gL_uI, gI_uL, gL_uL, up, if_pos, if_neg, and_self, ite_true]; exact k5
      · simp (disch := omega) only [gI_uI, gL_uI, gI_uL, gL_uL, up, if_pos, if_neg, and_self, ite_true]; exact k6
      · simp (disch := omega) only [gI_uI, gL_uI, gI_uL, gL_uL, up, if_pos, if_neg, and_self, ite_true]; exact k7
      · simp (disch := omega) only [gI_uI, gL_uI, gI_uL, gL_uL, up, if_pos, if_neg, and_self, ite_true]; exact k8
  · have k1 := h2 x x0 x1
    simp (disch := omega) only [gI_uI, gL_uI, gI_uL, gL_uL, up, if_pos, if_neg, and_self, ite_true]; exact k1
  · have k1 := h3 x x0 x1
    simp (disch := omega) only [gI_uI, gL_uI, gI_uL, gL_uL, up, if_pos, if_neg, and_self, ite_true]; exact k1
  · simp (disch := omega) only [gI_uI, gL_uI, gI_uL, gL_uL, up, if_pos, if_neg, and_self, ite_true]; exact h4
  · rw [jc_up (by omega)]; simp (disch := omega) only [gI_uI, gL_uI, gI_uL, gL_uL, if_pos, if_neg, and_self, ite_true]; exact h5
  · simp (disch := omega) only [gI_uI, gL_uI, gI_uL, gL_uL, up, if_pos, if_neg, and_self, ite_true]; exact h6
  · simp (disch := omega) only [gI_uI, gL_uI, gI_uL, gL_uL, up, if_pos, if_neg, and_self, ite_true]; exact h7
  · simp (disch := omega) only [gI_uI, gL_uI, gI_uL, gL_uL, up, if_pos, if_neg, and_self, ite_true]; exact h8
  · simp (disch := omega) only [gI_uI, gL_uI, gI_uL, gL_uL, up, if_pos, if_neg, and_self, ite_true]; exact h9
  · simp (disch := omega) only [gI_uI, gL_uI, gI_uL, gL_uL, up, if_pos, if_neg, and_self, ite_true]; exact h10
theorem CSt.put_s {w : Wd} {S : Ab} {i v : Int} (h : CSt w 1 S) (i0 : 0 ≤ i) (i1 : i < 10) : CSt (uI w 7 i.toNat (jI v)) 1 (up S (26 + i) v) := by
  obtain ⟨h1, h2, h3, h4, h5, h6, h7, h8, h9, h10⟩ := h
  refine ⟨fun x x0 x1 => ?_, fun x x0 x1 => ?_, fun x x0 x1 => ?_, ?_, ?_, ?_, ?_, ?_, ?_, ?_⟩
  · obtain ⟨k1, k2, k3, k4, k5, k6, k7, k8⟩ := h1 x x0 x1
    by_cases q : x = i
    · subst q
      refine ⟨?_, ?_, ?_, fun q2 => ?_, ?_, ?_, ?_, ?_⟩
      · simp (disch := omega) only [gI_uI, gL_uI, gI_uL, gL_uL, up, if_pos, if_neg, and_self, ite_true] <;> exact k1
      · simp (disch := omega) only [gI_uI, gL_uI, gI_uL, gL_uL, up, if_pos, if_neg, and_self, ite_true] <;> exact k2
      · simp (disch := omega) only [gI_uI, gL_uI, gI_uL, gL_uL, up, if_pos, if_neg, and_self, ite_true] <;> exact k3
      · rw [up_ne (by omega)] at q2; simp (disch := omega) only [gI_uI, gL_uI, gI_uL, gL_uL, up, if_pos, if_neg, and_self, ite_true] <;> exact k4 q2
      · simp (disch := omega) only [gI_uI, gL_uI, gI_uL, gL_uL, up, if_pos, if_neg, and_self, ite_true] <;> exact k5
      · simp (disch := omega) only [gI_uI, gL_uI, gI_uL, gL_uL, up, if_pos, if_neg, and_self, ite_true] <;> exact k6
      · simp (disch := omega) only [gI_uI, gL_uI, gI_uL, gL_uL, up, if_pos, if_neg, and_self, ite_true] <;> exact k7
      · simp (disch := omega) only [gI_uI, gL_uI, gI_uL, gL_uL, up, if_pos, if_neg, and_self, ite_true] <;> exact k8
    · refine ⟨?_, ?_, ?_, fun q2 => ?_, ?_, ?_, ?_, ?_⟩
      · simp (disch := omega) only [gI_uI, gL_uI, gI_uL, gL_uL, up, if_pos, if_neg, and_self, ite_true]; exact k1
      · simp (disch := omega) only [gI_uI, gL_uI, gI_uL, gL_uL, up, if_pos, if_neg, and_self, ite_true]; exact k2
      · simp (disch := omega) only [gI_uI, gL_uI, gI_uL, gL_uL, up, if_pos, if_neg, and_self, ite_true]; exact k3
      · rw [up_ne (by omega)] at q2; simp (disch := omega) only [gI_uI, gL_uI, gI_uL, gL_uL, up, if_pos, if_neg, and_self, ite_true]; exact k4 q2
      · simp (disch := omega) only [gI_uI, gL_uI, gI_uL, gL_uL, up, if_pos, if_neg, and_self, ite_true]; exact k5
      · simp (disch := omega) only [gI_uI, gL_uI, gI_uL, gL_uL, up, if_pos, if_neg, and_self, ite_true]; exact k6
      · simp (disch := omega) only [gI_uI, gL_uI, gI_uL, gL_uL, up, if_pos, if_neg, and_self, ite_true]; exact k7
      · simp (disch := omega) only [gI_uI, gL_uI, gI_uL, gL_uL, up, if_pos, if_neg, and_self, ite_true]; exact k8
  · have k1 := h2 x x0 x1
    simp (disch := omega) only [gI_uI, gL_uI, gI_uL, gL_uL, up, if_pos, if_neg, and_self, ite_true]; exact k1
  · have k1 := h3 x x0 x1
    simp (disch := omega) only [gI_uI, gL_uI, gI_uL, gL_uL, up, if_pos, if_neg, and_self, ite_true]; exact k1
  · simp (disch := omega) only [gI_uI, gL_uI, gI_uL, gL_uL, up, if_pos, if_neg, and_self, ite_true]; exact h4
  · rw [jc_up (by omega)]; simp (disch := omega) only [gI_uI, gL_uI, gI_uL, gL_uL, if_pos, if_neg, and_self, ite_true]; exact h5
  · simp (disch := omega) only [gI_uI, gL_uI, gI_uL, gL_uL, up, if_pos, if_neg, and_self, ite_true]; exact h6
  · simp (disch := omega) only [gI_uI, gL_uI, gI_uL, gL_uL, up, if_pos, if_neg, and_self, ite_true]; exact h7
  · simp (disch := omega) only [gI_uI, gL_uI, gI_uL, gL_uL, up, if_pos, if_neg, and_self, ite_true]; exact h8
  · simp (disch := omega) only [gI_uI, gL_uI, gI_uL, gL_uL, up, if_pos, if_neg, and_self, ite_true]; exact h9
  · simp (disch := omega) only [gI_uI, gL_uI, gI_uL, gL_uL, up, if_pos, if_neg, and_self, ite_true]; exact h10
theorem CSt.put_n {w : Wd} {S : Ab} {i v : Int} (h : CSt w 1 S) (i0 : 0 ≤ i) (i1 : i < 10) : CSt (uI w 8 i.toNat (jI v)) 1 (up S (36 + i) v) := by
  obtain ⟨h1, h2, h3, h4, h5, h6, h7, h8, h9, h10⟩ := h
  refine ⟨fun x x0 x1 => ?_, fun x x0 x1 => ?_, fun x x0 x1 => ?_, ?_, ?_, ?_, ?_, ?_, ?_, ?_⟩
  · obtain ⟨k1, k2, k3, k4, k5, k6, k7, k8⟩ := h1 x x0 x1
    by_cases q : x = i
    · subst q
      refine ⟨?_, ?_, ?_, fun q2 => ?_, ?_, ?_, ?_, ?_⟩
      · simp (disch := omega) only [gI_uI, gL_uI, gI_uL, gL_uL, up, if_pos, if_neg, and_self, ite_true] <;> exact k1
      · simp (disch := omega) only [gI_uI, gL_uI, gI_uL, gL_uL, up, if_pos, if_neg, and_self, ite_true] <;> exact k2
      · simp (disch := omega) only [gI_uI, gL_uI, gI_uL, gL_uL, up, if_pos, if_neg, and_self, ite_true] <;> exact k3
      · rw [up_ne (by omega)] at q2; simp (disch := omega) only [gI_uI, gL_uI, gI_uL, gL_uL, up, if_pos, if_neg, and_self, ite_true] <;> exact k4 q2
      · simp (disch := omega) only [gI_uI, gL_uI, gI_uL, gL_uL, up, if_pos, if_neg, and_self, ite_true] <;> exact k5
      · simp (disch := omega) only [gI_uI, gL_uI, gI_uL, gL_uL, up, if_pos, if_neg, and_self, ite_true] <;> exact k6
      · simp (disch := omega) only [gI_uI, gL_uI, gI_uL, gL_uL, up, if_pos, if_neg, and_self, ite_true] <;> exact k7
      · simp (disch := omega) only [gI_uI, gL_uI, gI_uL, gL_uL, up, if_pos, if_neg, and_self, ite_true] <;> exact k8
    · refine ⟨?_, ?_, ?_, fun q2 => ?_, ?_, ?_, ?_, ?_⟩
      · simp (disch := omega) only [gI_uI, gL_uI, gI_uL, gL_uL, up, if_pos, if_neg, and_self, ite_true]; exact k1
      · simp (disch := omega) only [gI_uI, gL_uI, gI_uL, gL_uL, up, if_pos, if_neg, and_self, ite_true]; exact k2
      · simp (disch := omega) only [gI_uI, gL_uI, gI_uL, gL_uL, up, if_pos, if_neg, and_self, ite_true]; exact k3
      · rw [up_ne (by omega)] at q2; simp (disch := omega) only [gI_uI, gL_uI, gI_uL, gL_uL, up, if_pos, if_neg, and_self, ite_true]; exact k4 q2
      · simp (disch := omega) only [gI_uI, gL_uI, gI_uL, gL_uL, up, if_pos, if_neg, and_self, ite_true]; exact k5
      · simp (disch := omega) only [gI_uI, gL_uI, gI_uL, gL_uL, up, if_pos, if_neg, and_self, ite_true]; exact k6
      · simp (disch := omega) only [gI_uI, gL_uI, gI_uL, gL_uL, up, if_pos, if_neg, and_self, ite_true]; exact k7
      · simp (disch := omega) only [gI_uI, gL_uI, gI_uL, gL_uL, up, if_pos, if_neg, and_self, ite_true]; exact k8
  · have k1 := h2 x x0 x1
    simp (disch := omega) only [gI_uI, gL_uI, gI_uL, gL_uL, up, if_pos, if_neg, and_self, ite_true]; exact k1
  · have k1 := h3 x x0 x1
    simp (disch := omega) only [gI_uI, gL_uI, gI_uL, gL_uL, up, if_pos, if_neg, and_self, ite_true]; exact k1
  · simp (disch := omega) only [gI_uI, gL_uI, gI_uL, gL_uL, up, if_pos, if_neg, and_self, ite_true]; exact h4
  · rw [jc_up (by omega)]; simp (disch := omega) only [gI_uI, gL_uI, gI_uL, gL_uL, if_pos, if_neg, and_self, ite_true]; exact h5
  · simp (disch := omega) only [gI_uI, gL_uI, gI_uL, gL_uL, up, if_pos, if_neg, and_self, ite_true]; exact h6
  · simp (disch := omega) only [gI_uI, gL_uI, gI_uL, gL_uL, up, if_pos, if_neg, and_self, ite_true]; exact h7
  · simp (disch := omega) only [gI_uI, gL_uI, gI_uL, gL_uL, up, if_pos, if_neg, and_self, ite_true]; exact h8
  · simp (disch := omega) only [gI_uI, gL_uI, gI_uL, gL_uL, up, if_pos, if_neg, and_self, ite_true]; exact h9
  · simp (disch := omega) only [gI_uI, gL_uI, gI_uL, gL_uL, up, if_pos, if_neg, and_self, ite_true]; exact h10
theorem CSt.put_v {w : Wd} {S : Ab} {i v : Int} (h : CSt w 1 S) (i0 : 0 ≤ i) (i1 : i < 10) : CSt (uI w 9 i.toNat (jI v)) 1 (up S (46 + i) v) := by
  obtain ⟨h1, h2, h3, h4, h5, h6, h7, h8, h9, h10⟩ := h
  refine ⟨fun x x0 x1 => ?_, fun x x0 x1 => ?_, fun x x0 x1 => ?_, ?_, ?_, ?_, ?_, ?_, ?_, ?_⟩
  · obtain ⟨k1, k2, k3, k4, k5, k6, k7, k8⟩ := h1 x x0 x1
    by_cases q : x = i
    · subst q
      refine ⟨?_, ?_, ?_, fun q2 => ?_, ?_, ?_, ?_, ?_⟩
      · simp (disch := omega) only [gI_uI, gL_uI, gI_uL, gL_uL, up, if_pos, if_neg, and_self, ite_true] <;> exact k1
      · simp (disch := omega) only [gI_uI, gL_uI, gI_uL, gL_uL, up, if_pos, if_neg, and_self, ite_true] <;> exact k2
      · simp (disch := omega) only [gI_uI, gL_uI, gI_uL, gL_uL, up, if_pos, if_neg, and_self, ite_true] <;> exact k3
      · rw [up_ne (by omega)] at q2; simp (disch := omega) only [gI_uI, gL_uI, gI_uL, gL_uL, up, if_pos, if_neg, and_self, ite_true] <;> exact k4 q2
      · simp (disch := omega) only [gI_uI, gL_uI, gI_uL, gL_uL, up, if_pos, if_neg, and_self, ite_true] <;> exact k5
      · simp (disch := omega) only [gI_uI, gL_uI, gI_uL, gL_uL, up, if_pos, if_neg, and_self, ite_true] <;> exact k6
      · simp (disch := omega) only [gI_uI, gL_uI, gI_uL, gL_uL, up, if_pos, if_neg, and_self, ite_true] <;> exact k7
      · simp (disch := omega) only [gI_uI, gL_uI, gI_uL, gL_uL, up, if_pos, if_neg, and_self, ite_true] <;> exact k8
    · refine ⟨?_, ?_, ?_, fun q2 => ?_, ?_, ?_, ?_, ?_⟩
      · simp (disch := omega) only [gI_uI, gL_uI, gI_uL, gL_uL, up, if_pos, if_neg, and_self, ite_true]; exact k1
      · simp (disch := omega) only [gI_uI, gL_uI, gI_uL, gL_uL, up, if_pos, if_neg, and_self, ite_true]; exact k2
      · simp (disch := omega) only [gI_uI, gL_uI, gI_uL, gL_uL, up, if_pos, if_neg, and_self, ite_true]; exact k3
      · rw [up_ne (by omega)] at q2; simp (disch := omega) only [gI_uI, gL_uI, gI_uL, gL_uL, up, if_pos, if_neg, and_self, ite_true]; exact k4 q2
      · simp (disch := omega) only [gI_uI, gL_uI, gI_uL, gL_uL, up, if_pos, if_neg, and_self, ite_true]; exact k5
      · simp (disch := omega) only [gI_uI, gL_uI, gI_uL, gL_uL, up, if_pos, if_neg, and_self, ite_true]; exact k6
      · simp (disch := omega) only [gI_uI, gL_uI, gI_uL, gL_uL, up, if_pos, if_neg, and_self, ite_true]; exact k7
      · simp (disch := omega) only [gI_uI, gL_uI, gI_uL, gL_uL, up, if_pos, if_neg, and_self, ite_true]; exact k8
  · have k1 := h2 x x0 x1
    simp (disch := omega) only [gI_uI, gL_uI, gI_uL, gL_uL, up, if_pos, if_neg, and_self, ite_true]; exact k1
  · have k1 := h3 x x0 x1
    simp (disch := omega) only [gI_uI, gL_uI, gI_uL, gL_uL, up, if_pos, if_neg, and_self, ite_true]; exact k1
  · simp (disch := omega) only [gI_uI, gL_uI, gI_uL, gL_uL, up, if_pos, if_neg, and_self, ite_true]; exact h4
  · rw [jc_up (by omega)]; simp (disch := omega) only [gI_uI, gL_uI, gI_uL, gL_uL, if_pos, if_neg, and_self, ite_true]; exact h5
  · simp (disch := omega) only [gI_uI, gL_uI, gI_uL, gL_uL, up, if_pos, if_neg, and_self, ite_true]; exact h6
  · simp (disch := omega) only [gI_uI, gL_uI, gI_uL, gL_uL, up, if_pos, if_neg, and_self, ite_true]; exact h7
  · simp (disch := omega) only [gI_uI, gL_uI, gI_uL, gL_uL, up, if_pos, if_neg, and_self, ite_true]; exact h8
  · simp (disch := omega) only [gI_uI, gL_uI, gI_uL, gL_uL, up, if_pos, if_neg, and_self, ite_true]; exact h9
  · simp (disch := omega) only [gI_uI, gL_uI, gI_uL, gL_uL, up, if_pos, if_neg, and_self, ite_true]; exact h10
theorem CSt.put_w {w : Wd} {S : Ab} {i v : Int} {y : Int64} (h : CSt w 1 S) (i0 : 0 ≤ i) (i1 : i < 10) (hv : S (66 + i) = 1 → y = jL v) : CSt (uL w 5 i.toNat y) 1 (up S (76 + i) v) := by
  obtain ⟨h1, h2, h3, h4, h5, h6, h7, h8, h9, h10⟩ := h
  refine ⟨fun x x0 x1 => ?_, fun x x0 x1 => ?_, fun x x0 x1 => ?_, ?_, ?_, ?_, ?_, ?_, ?_, ?_⟩
  · obtain ⟨k1, k2, k3, k4, k5, k6, k7, k8⟩ := h1 x x0 x1
    refine ⟨?_, ?_, ?_, fun q2 => ?_, ?_, ?_, ?_, ?_⟩
    · simp (disch := omega) only [gI_uI, gL_uI, gI_uL, gL_uL, up, if_pos, if_neg, and_self, ite_true]; exact k1
    · simp (disch := omega) only [gI_uI, gL_uI, gI_uL, gL_uL, up, if_pos, if_neg, and_self, ite_true]; exact k2
    · simp (disch := omega) only [gI_uI, gL_uI, gI_uL, gL_uL, up, if_pos, if_neg, and_self, ite_true]; exact k3
    · rw [up_ne (by omega)] at q2
      by_cases q : x = i
      · subst q
        simp (disch := omega) only [gI_uI, gL_uI, gI_uL, gL_uL, up, if_pos, if_neg, and_self, ite_true]
        exact hv q2
      · simp (disch := omega) only [gI_uI, gL_uI, gI_uL, gL_uL, up, if_pos, if_neg, and_self, ite_true]; exact k4 q2
    · simp (disch := omega) only [gI_uI, gL_uI, gI_uL, gL_uL, up, if_pos, if_neg, and_self, ite_true]; exact k5
    · simp (disch := omega) only [gI_uI, gL_uI, gI_uL, gL_uL, up, if_pos, if_neg, and_self, ite_true]; exact k6
    · simp (disch := omega) only [gI_uI, gL_uI, gI_uL, gL_uL, up, if_pos, if_neg, and_self, ite_true]; exact k7
    · simp (disch := omega) only [gI_uI, gL_uI, gI_uL, gL_uL, up, if_pos, if_neg, and_self, ite_true]; exact k8
  · have k1 := h2 x x0 x1
    simp (disch := omega) only [gI_uI, gL_uI, gI_uL, gL_uL, up, if_pos, if_neg, and_self, ite_true]; exact k1
  · have k1 := h3 x x0 x1
    simp (disch := omega) only [gI_uI, gL_uI, gI_uL, gL_uL, up, if_pos, if_neg, and_self, ite_true]; exact k1
  · simp (disch := omega) only [gI_uI, gL_uI, gI_uL, gL_uL, up, if_pos, if_neg, and_self, ite_true]; exact h4
  · rw [jc_up (by omega)]; simp (disch := omega) only [gI_uI, gL_uI, gI_uL, gL_uL, if_pos, if_neg, and_self, ite_true]; exact h5
  · simp (disch := omega) only [gI_uI, gL_uI, gI_uL, gL_uL, up, if_pos, if_neg, and_self, ite_true]; exact h6
  · simp (disch := omega) only [gI_uI, gL_uI, gI_uL, gL_uL, up, if_pos, if_neg, and_self, ite_true]; exact h7
  · simp (disch := omega) only [gI_uI, gL_uI, gI_uL, gL_uL, up, if_pos, if_neg, and_self, ite_true]; exact h8
  · simp (disch := omega) only [gI_uI, gL_uI, gI_uL, gL_uL, up, if_pos, if_neg, and_self, ite_true]; exact h9
  · simp (disch := omega) only [gI_uI, gL_uI, gI_uL, gL_uL, up, if_pos, if_neg, and_self, ite_true]; exact h10
theorem CSt.put_c {w : Wd} {S : Ab} {i v : Int} (h : CSt w 1 S) (i0 : 0 ≤ i) (i1 : i < 6) : CSt (uI w 11 i.toNat (jI v)) 1 (up S (86 + i) v) := by
  obtain ⟨h1, h2, h3, h4, h5, h6, h7, h8, h9, h10⟩ := h
  refine ⟨fun x x0 x1 => ?_, fun x x0 x1 => ?_, fun x x0 x1 => ?_, ?_, ?_, ?_, ?_, ?_, ?_, ?_⟩
  · obtain ⟨k1, k2, k3, k4, k5, k6, k7, k8⟩ := h1 x x0 x1
    refine ⟨?_, ?_, ?_, fun q2 => ?_, ?_, ?_, ?_, ?_⟩
    · simp (disch := omega) only [gI_uI, gL_uI, gI_uL, gL_uL, up, if_pos, if_neg, and_self, ite_true]; exact k1
    · simp (disch := omega) only [gI_uI, gL_uI, gI_uL, gL_uL, up, if_pos, if_neg, and_self, ite_true]; exact k2
    · simp (disch := omega) only [gI_uI, gL_uI, gI_uL, gL_uL, up, if_pos, if_neg, and_self, ite_true]; exact k3
    · rw [up_ne (by omega)] at q2; simp (disch := omega) only [gI_uI, gL_uI, gI_uL, gL_uL, up, if_pos, if_neg, and_self, ite_true]; exact k4 q2
    · simp (disch := omega) only [gI_uI, gL_uI, gI_uL, gL_uL, up, if_pos, if_neg, and_self, ite_true]; exact k5
    · simp (disch := omega) only [gI_uI, gL_uI, gI_uL, gL_uL, up, if_pos, if_neg, and_self, ite_true]; exact k6
    · simp (disch := omega) only [gI_uI, gL_uI, gI_uL, gL_uL, up, if_pos, if_neg, and_self, ite_true]; exact k7
    · simp (disch := omega) only [gI_uI, gL_uI, gI_uL, gL_uL, up, if_pos, if_neg, and_self, ite_true]; exact k8
  · have k1 := h2 x x0 x1
    simp (disch := omega) only [gI_uI, gL_uI, gI_uL, gL_uL, up, if_pos, if_neg, and_self, ite_true]; exact k1
  · have k1 := h3 x x0 x1
    by_cases q : x = i
    · subst q
      simp (disch := omega) only [gI_uI, gL_uI, gI_uL, gL_uL, up, if_pos, if_neg, and_self, ite_true]
    · simp (disch := omega) only [gI_uI, gL_uI, gI_uL, gL_uL, up, if_pos, if_neg, and_self, ite_true]; exact k1
  · simp (disch := omega) only [gI_uI, gL_uI, gI_uL, gL_uL, up, if_pos, if_neg, and_self, ite_true]; exact h4
  · rw [jc_up (by omega)]; simp (disch := omega) only [gI_uI, gL_uI, gI_uL, gL_uL, if_pos, if_neg, and_self, ite_true]; exact h5
  · simp (disch := omega) only [gI_uI, gL_uI, gI_uL, gL_uL, up, if_pos, if_neg, and_self, ite_true]; exact h6
  · simp (disch := omega) only [gI_uI, gL_uI, gI_uL, gL_uL, up, if_pos, if_neg, and_self, ite_true]; exact h7
  · simp (disch := omega) only [gI_uI, gL_uI, gI_uL, gL_uL, up, if_pos, if_neg, and_self, ite_true]; exact h8
  · simp (disch := omega) only [gI_uI, gL_uI, gI_uL, gL_uL, up, if_pos, if_neg, and_self, ite_true]; exact h9
  · simp (disch := omega) only [gI_uI, gL_uI, gI_uL, gL_uL, up, if_pos, if_neg, and_self, ite_true]; exact h10
theorem CSt.put_g {w : Wd} {S : Ab} {v : Int} (h : CSt w 1 S) : CSt (uI w 1 10 (jI v)) 1 (up S 0 v) := by
  obtain ⟨h1, h2, h3, h4, h5, h6, h7, h8, h9, h10⟩ := h
  refine ⟨fun x x0 x1 => ?_, fun x x0 x1 => ?_, fun x x0 x1 => ?_, ?_, ?_, ?_, ?_, ?_, ?_, ?_⟩
  · obtain ⟨k1, k2, k3, k4, k5, k6, k7, k8⟩ := h1 x x0 x1
    refine ⟨?_, ?_, ?_, fun q2 => ?_, ?_, ?_, ?_, ?_⟩
    · simp (disch := omega) only [gI_uI, gL_uI, gI_uL, gL_uL, up, if_pos, if_neg, and_self, ite_true]; exact k1
    · simp (disch := omega) only [gI_uI, gL_uI, gI_uL, gL_uL, up, if_pos, if_neg, and_self, ite_true]; exact k2
    · simp (disch := omega) only [gI_uI, gL_uI, gI_uL, gL_uL, up, if_pos, if_neg, and_self, ite_true]; exact k3
    · rw [up_ne (by omega)] at q2; simp (disch := omega) only [gI_uI, gL_uI, gI_uL, gL_uL, up, if_pos, if_neg, and_self, ite_true]; exact k4 q2
    · simp (disch := omega) only [gI_uI, gL_uI, gI_uL, gL_uL, up, if_pos, if_neg, and_self, ite_true]; exact k5
    · simp (disch := omega) only [gI_uI, gL_uI, gI_uL, gL_uL, up, if_pos, if_neg, and_self, ite_true]; exact k6
    · simp (disch := omega) only [gI_uI, gL_uI, gI_uL, gL_uL, up, if_pos, if_neg, and_self, ite_true]; exact k7
    · simp (disch := omega) only [gI_uI, gL_uI, gI_uL, gL_uL, up, if_pos, if_neg, and_self, ite_true]; exact k8
  · have k1 := h2 x x0 x1
    simp (disch := omega) only [gI_uI, gL_uI, gI_uL, gL_uL, up, if_pos, if_neg, and_self, ite_true]; exact k1
  · have k1 := h3 x x0 x1
    simp (disch := omega) only [gI_uI, gL_uI, gI_uL, gL_uL, up, if_pos, if_neg, and_self, ite_true]; exact k1
  · simp (disch := omega) only [gI_uI, gL_uI, gI_uL, gL_uL, up, if_pos, if_neg, and_self, ite_true]
  · rw [jc_up (by omega)]; simp (disch := omega) only [gI_uI, gL_uI, gI_uL, gL_uL, if_pos, if_neg, and_self, ite_true]; exact h5
  · simp (disch := omega) only [gI_uI, gL_uI, gI_uL, gL_uL, up, if_pos, if_neg, and_self, ite_true]; exact h6
  · simp (disch := omega) only [gI_uI, gL_uI, gI_uL, gL_uL, up, if_pos, if_neg, and_self, ite_true]; exact h7
  · simp (disch := omega) only [gI_uI, gL_uI, gI_uL, gL_uL, up, if_pos, if_neg, and_self, ite_true]; exact h8
  · simp (disch := omega) only [gI_uI, gL_uI, gI_uL, gL_uL, up, if_pos, if_neg, and_self, ite_true]; exact h9
  · simp (disch := omega) only [gI_uI, gL_uI, gI_uL, gL_uL, up, if_pos, if_neg, and_self, ite_true]; exact h10
theorem CSt.put_p {w : Wd} {S : Ab} {v : Int} (h : CSt w 1 S) : CSt (uI w 1 12 (jI v)) 1 (up S 1 v) := by
  obtain ⟨h1, h2, h3, h4, h5, h6, h7, h8, h9, h10⟩ := h
  refine ⟨fun x x0 x1 => ?_, fun x x0 x1 => ?_, fun x x0 x1 => ?_, ?_, ?_, ?_, ?_, ?_, ?_, ?_⟩
  · obtain ⟨k1, k2, k3, k4, k5, k6, k7, k8⟩ := h1 x x0 x1
    refine ⟨?_, ?_, ?_, fun q2 => ?_, ?_, ?_, ?_, ?_⟩
    · simp (disch := omega) only [gI_uI, gL_uI, gI_uL, gL_uL, up, if_pos, if_neg, and_self, ite_true]; exact k1
    · simp (disch := omega) only [gI_uI, gL_uI, gI_uL, gL_uL, up, if_pos, if_neg, and_self, ite_true]; exact k2
    · simp (disch := omega) only [gI_uI, gL_uI, gI_uL, gL_uL, up, if_pos, if_neg, and_self, ite_true]; exact k3
    · rw [up_ne (by omega)] at q2; simp (disch := omega) only [gI_uI, gL_uI, gI_uL, gL_uL, up, if_pos, if_neg, and_self, ite_true]; exact k4 q2
    · simp (disch := omega) only [gI_uI, gL_uI, gI_uL, gL_uL, up, if_pos, if_neg, and_self, ite_true]; exact k5
    · simp (disch := omega) only [gI_uI, gL_uI, gI_uL, gL_uL, up, if_pos, if_neg, and_self, ite_true]; exact k6
    · simp (disch := omega) only [gI_uI, gL_uI, gI_uL, gL_uL, up, if_pos, if_neg, and_self, ite_true]; exact k7
    · simp (disch := omega) only [gI_uI, gL_uI, gI_uL, gL_uL, up, if_pos, if_neg, and_self, ite_true]; exact k8
  · have k1 := h2 x x0 x1
    simp (disch := omega) only [gI_uI, gL_uI, gI_uL, gL_uL, up, if_pos, if_neg, and_self, ite_true]; exact k1
  · have k1 := h3 x x0 x1
    simp (disch := omega) only [gI_uI, gL_uI, gI_uL, gL_uL, up, if_pos, if_neg, and_self, ite_true]; exact k1
  · simp (disch := omega) only [gI_uI, gL_uI, gI_uL, gL_uL, up, if_pos, if_neg, and_self, ite_true]; exact h4
  · rw [jc_up (by omega)]; simp (disch := omega) only [gI_uI, gL_uI, gI_uL, gL_uL, if_pos, if_neg, and_self, ite_true]; exact h5
  · simp (disch := omega) only [gI_uI, gL_uI, gI_uL, gL_uL, up, if_pos, if_neg, and_self, ite_true]
  · simp (disch := omega) only [gI_uI, gL_uI, gI_uL, gL_uL, up, if_pos, if_neg, and_self, ite_true]; exact h7
  · simp (disch := omega) only [gI_uI, gL_uI, gI_uL, gL_uL, up, if_pos, if_neg, and_self, ite_true]; exact h8
  · simp (disch := omega) only [gI_uI, gL_uI, gI_uL, gL_uL, up, if_pos, if_neg, and_self, ite_true]; exact h9
  · simp (disch := omega) only [gI_uI, gL_uI, gI_uL, gL_uL, up, if_pos, if_neg, and_self, ite_true]; exact h10
theorem CSt.put_d {w : Wd} {S : Ab} {v : Int} (h : CSt w 1 S) : CSt (uI w 1 13 (jI v)) 1 (up S 2 v) := by
  obtain ⟨h1, h2, h3, h4, h5, h6, h7, h8, h9, h10⟩ := h
  refine ⟨fun x x0 x1 => ?_, fun x x0 x1 => ?_, fun x x0 x1 => ?_, ?_, ?_, ?_, ?_, ?_, ?_, ?_⟩
  · obtain ⟨k1, k2, k3, k4, k5, k6, k7, k8⟩ := h1 x x0 x1
    refine ⟨?_, ?_, ?_, fun q2 => ?_, ?_, ?_, ?_, ?_⟩
    · simp (disch := omega) only [gI_uI, gL_uI, gI_uL, gL_uL, up, if_pos, if_neg, and_self, ite_true]; exact k1
    · simp (disch := omega) only [gI_uI, gL_uI, gI_uL, gL_uL, up, if_pos, if_neg, and_self, ite_true]; exact k2
    · simp (disch := omega) only [gI_uI, gL_uI, gI_uL, gL_uL, up, if_pos, if_neg, and_self, ite_true]; exact k3
    · rw [up_ne (by omega)] at q2; simp (disch := omega) only [gI_uI, gL_uI, gI_uL, gL_uL, up, if_pos, if_neg, and_self, ite_true]; exact k4 q2
    · simp (disch := omega) only [gI_uI, gL_uI, gI_uL, gL_uL, up, if_pos, if_neg, and_self, ite_true]; exact k5
    · simp (disch := omega) only [gI_uI, gL_uI, gI_uL, gL_uL, up, if_pos, if_neg, and_self, ite_true]; exact k6
    · simp (disch := omega) only [gI_uI, gL_uI, gI_uL, gL_uL, up, if_pos, if_neg, and_self, ite_true]; exact k7
    · simp (disch := omega) only [gI_uI, gL_uI, gI_uL, gL_uL, up, if_pos, if_neg, and_self, ite_true]; exact k8
  · have k1 := h2 x x0 x1
    simp (disch := omega) only [gI_uI, gL_uI, gI_uL, gL_uL, up, if_pos, if_neg, and_self, ite_true]; exact k1
  · have k1 := h3 x x0 x1
    simp (disch := omega) only [gI_uI, gL_uI, gI_uL, gL_uL, up, if_pos, if_neg, and_self, ite_true]; exact k1
  · simp (disch := omega) only [gI_uI, gL_uI, gI_uL, gL_uL, up, if_pos, if_neg, and_self, ite_true]; exact h4
  · rw [jc_up (by omega)]; simp (disch := omega) only [gI_uI, gL_uI, gI_uL, gL_uL, if_pos, if_neg, and_self, ite_true]; exact h5
  · simp (disch := omega) only [gI_uI, gL_uI, gI_uL, gL_uL, up, if_pos, if_neg, and_self, ite_true]; exact h6
  · simp (disch := omega) only [gI_uI, gL_uI, gI_uL, gL_uL, up, if_pos, if_neg, and_self, ite_true]
  · simp (disch := omega) only [gI_uI, gL_uI, gI_uL, gL_uL, up, if_pos, if_neg, and_self, ite_true]; exact h8
  · simp (disch := omega) only [gI_uI, gL_uI, gI_uL, gL_uL, up, if_pos, if_neg, and_self, ite_true]; exact h9
  · simp (disch := omega) only [gI_uI, gL_uI, gI_uL, gL_uL, up, if_pos, if_neg, and_self, ite_true]; exact h10
theorem CSt.put_wd {w : Wd} {S : Ab} {v : Int} (h : CSt w 1 S) : CSt (uI w 1 14 (jI v)) 1 (up S 3 v) := by
  obtain ⟨h1, h2, h3, h4, h5, h6, h7, h8, h9, h10⟩ := h
  refine ⟨fun x x0 x1 => ?_, fun x x0 x1 => ?_, fun x x0 x1 => ?_, ?_, ?_, ?_, ?_, ?_, ?_, ?_⟩
  · obtain ⟨k1, k2, k3, k4, k5, k6, k7, k8⟩ := h1 x x0 x1
    refine ⟨?_, ?_, ?_, fun q2 => ?_, ?_, ?_, ?_, ?_⟩
    · simp (disch := omega) only [gI_uI, gL_uI, gI_uL, gL_uL, up, if_pos, if_neg, and_self, ite_true]; exact k1
    · simp (disch := omega) only [gI_uI, gL_uI, gI_uL, gL_uL, up, if_pos, if_neg, and_self, ite_true]; exact k2
    · simp (disch := omega) only [gI_uI, gL_uI, gI_uL, gL_uL, up, if_pos, if_neg, and_self, ite_true]; exact k3
    · rw [up_ne (by omega)] at q2; simp (disch := omega) only [gI_uI, gL_uI, gI_uL, gL_uL, up, if_pos, if_neg, and_self, ite_true]; exact k4 q2
    · simp (disch := omega) only [gI_uI, gL_uI, gI_uL, gL_uL, up, if_pos, if_neg, and_self, ite_true]; exact k5
    · simp (disch := omega) only [gI_uI, gL_uI, gI_uL, gL_uL, up, if_pos, if_neg, and_self, ite_true]; exact k6
    · simp (disch := omega) only [gI_uI, gL_uI, gI_uL, gL_uL, up, if_pos, if_neg, and_self, ite_true]; exact k7
    · simp (disch := omega) only [gI_uI, gL_uI, gI_uL, gL_uL, up, if_pos, if_neg, and_self, ite_true]; exact k8
  · have k1 := h2 x x0 x1
    simp (disch := omega) only [gI_uI, gL_uI, gI_uL, gL_uL, up, if_pos, if_neg, and_self, ite_true]; exact k1
  · have k1 := h3 x x0 x1
    simp (disch := omega) only [gI_uI, gL_uI, gI_uL, gL_uL, up, if_pos, if_neg, and_self, ite_true]; exact k1
  · simp (disch := omega) only [gI_uI, gL_uI, gI_uL, gL_uL, up, if_pos, if_neg, and_self, ite_true]; exact h4
  · rw [jc_up (by omega)]; simp (disch := omega) only [gI_uI, gL_uI, gI_uL, gL_uL, if_pos, if_neg, and_self, ite_true]; exact h5
  · simp (disch := omega) only [gI_uI, gL_uI, gI_uL, gL_uL, up, if_pos, if_neg, and_self, ite_true]; exact h6
  · simp (disch := omega) only [gI_uI, gL_uI, gI_uL, gL_uL, up, if_pos, if_neg, and_self, ite_true]; exact h7
  · simp (disch := omega) only [gI_uI, gL_uI, gI_uL, gL_uL, up, if_pos, if_neg, and_self, ite_true]
  · simp (disch := omega) only [gI_uI, gL_uI, gI_uL, gL_uL, up, if_pos, if_neg, and_self, ite_true]; exact h9
  · simp (disch := omega) only [gI_uI, gL_uI, gI_uL, gL_uL, up, if_pos, if_neg, and_self, ite_true]; exact h10
theorem CSt.put_tk {w : Wd} {S : Ab} {v : Int} (h : CSt w 1 S) : CSt (uI w 1 15 (jI v)) 1 (up S 4 v) := by
  obtain ⟨h1, h2, h3, h4, h5, h6, h7, h8, h9, h10⟩ := h
  refine ⟨fun x x0 x1 => ?_, fun x x0 x1 => ?_, fun x x0 x1 => ?_, ?_, ?_, ?_, ?_, ?_, ?_, ?_⟩
  · obtain ⟨k1, k2, k3, k4, k5, k6, k7, k8⟩ := h1 x x0 x1
    refine ⟨?_, ?_, ?_, fun q2 => ?_, ?_, ?_, ?_, ?_⟩
    · simp (disch := omega) only [gI_uI, gL_uI, gI_uL, gL_uL, up, if_pos, if_neg, and_self, ite_true]; exact k1
    · simp (disch := omega) only [gI_uI, gL_uI, gI_uL, gL_uL, up, if_pos, if_neg, and_self, ite_true]; exact k2
    · simp (disch := omega) only [gI_uI, gL_uI, gI_uL, gL_uL, up, if_pos, if_neg, and_self, ite_true]; exact k3
    · rw [up_ne (by omega)] at q2; simp (disch := omega) only [gI_uI, gL_uI, gI_uL, gL_uL, up, if_pos, if_neg, and_self, ite_true]; exact k4 q2
    · simp (disch := omega) only [gI_uI, gL_uI, gI_uL, gL_uL, up, if_pos, if_neg, and_self, ite_true]; exact k5
    · simp (disch := omega) only [gI_uI, gL_uI, gI_uL, gL_uL, up, if_pos, if_neg, and_self, ite_true]; exact k6
    · simp (disch := omega) only [gI_uI, gL_uI, gI_uL, gL_uL, up, if_pos, if_neg, and_self, ite_true]; exact k7
    · simp (disch := omega) only [gI_uI, gL_uI, gI_uL, gL_uL, up, if_pos, if_neg, and_self, ite_true]; exact k8
  · have k1 := h2 x x0 x1
    simp (disch := omega) only [gI_uI, gL_uI, gI_uL, gL_uL, up, if_pos, if_neg, and_self, ite_true]; exact k1
  · have k1 := h3 x x0 x1
    simp (disch := omega) only [gI_uI, gL_uI, gI_uL, gL_uL, up, if_pos, if_neg, and_self, ite_true]; exact k1
  · simp (disch := omega) only [gI_uI, gL_uI, gI_uL, gL_uL, up, if_pos, if_neg, and_self, ite_true]; exact h4
  · rw [jc_up (by omega)]; simp (disch := omega) only [gI_uI, gL_uI, gI_uL, gL_uL, if_pos, if_neg, and_self, ite_true]; exact h5
  · simp (disch := omega) only [gI_uI, gL_uI, gI_uL, gL_uL, up, if_pos, if_neg, and_self, ite_true]; exact h6
  · simp (disch := omega) only [gI_uI, gL_uI, gI_uL, gL_uL, up, if_pos, if_neg, and_self, ite_true]; exact h7
  · simp (disch := omega) only [gI_uI, gL_uI, gI_uL, gL_uL, up, if_pos, if_neg, and_self, ite_true]; exact h8
  · simp (disch := omega) only [gI_uI, gL_uI, gI_uL, gL_uL, up, if_pos, if_neg, and_self, ite_true]
  · simp (disch := omega) only [gI_uI, gL_uI, gI_uL, gL_uL, up, if_pos, if_neg, and_self, ite_true]; exact h10
theorem CSt.put_rl {w : Wd} {S : Ab} {v : Int} (h : CSt w 1 S) : CSt (uI w 1 16 (jI v)) 1 (up S 5 v) := by
  obtain ⟨h1, h2, h3, h4, h5, h6, h7, h8, h9, h10⟩ := h
  refine ⟨fun x x0 x1 => ?_, fun x x0 x1 => ?_, fun x x0 x1 => ?_, ?_, ?_, ?_, ?_, ?_, ?_, ?_⟩
  · obtain ⟨k1, k2, k3, k4, k5, k6, k7, k8⟩ := h1 x x0 x1
    refine ⟨?_, ?_, ?_, fun q2 => ?_, ?_, ?_, ?_, ?_⟩
    · simp (disch := omega) only [gI_uI, gL_uI, gI_uL, gL_uL, up, if_pos, if_neg, and_self, ite_true]; exact k1
    · simp (disch := omega) only [gI_uI, gL_uI, gI_uL, gL_uL, up, if_pos, if_neg, and_self, ite_true]; exact k2
    · simp (disch := omega) only [gI_uI, gL_uI, gI_uL, gL_uL, up, if_pos, if_neg, and_self, ite_true]; exact k3
    · rw [up_ne (by omega)] at q2; simp (disch := omega) only [gI_uI, gL_uI, gI_uL, gL_uL, up, if_pos, if_neg, and_self, ite_true]; exact k4 q2
    · simp (disch := omega) only [gI_uI, gL_uI, gI_uL, gL_uL, up, if_pos, if_neg, and_self, ite_true]; exact k5
    · simp (disch := omega) only [gI_uI, gL_uI, gI_uL, gL_uL, up, if_pos, if_neg, and_self, ite_true]; exact k6
    · simp (disch := omega) only [gI_uI, gL_uI, gI_uL, gL_uL, up, if_pos, if_neg, and_self, ite_true]; exact k7
    · simp (disch := omega) only [gI_uI, gL_uI, gI_uL, gL_uL, up, if_pos, if_neg, and_self, ite_true]; exact k8
  · have k1 := h2 x x0 x1
    simp (disch := omega) only [gI_uI, gL_uI, gI_uL, gL_uL, up, if_pos, if_neg, and_self, ite_true]; exact k1
  · have k1 := h3 x x0 x1
    simp (disch := omega) only [gI_uI, gL_uI, gI_uL, gL_uL, up, if_pos, if_neg, and_self, ite_true]; exact k1
  · simp (disch := omega) only [gI_uI, gL_uI, gI_uL, gL_uL, up, if_pos, if_neg, and_self, ite_true]; exact h4
  · rw [jc_up (by omega)]; simp (disch := omega) only [gI_uI, gL_uI, gI_uL, gL_uL, if_pos, if_neg, and_self, ite_true]; exact h5
  · simp (disch := omega) only [gI_uI, gL_uI, gI_uL, gL_uL, up, if_pos, if_neg, and_self, ite_true]; exact h6
  · simp (disch := omega) only [gI_uI, gL_uI, gI_uL, gL_uL, up, if_pos, if_neg, and_self, ite_true]; exact h7
  · simp (disch := omega) only [gI_uI, gL_uI, gI_uL, gL_uL, up, if_pos, if_neg, and_self, ite_true]; exact h8
  · simp (disch := omega) only [gI_uI, gL_uI, gI_uL, gL_uL, up, if_pos, if_neg, and_self, ite_true]; exact h9
  · simp (disch := omega) only [gI_uI, gL_uI, gI_uL, gL_uL, up, if_pos, if_neg, and_self, ite_true]
theorem CSt.put_j {w : Wd} {S : Ab} {a b v : Int} (h : CSt w 1 S) (a0 : 0 ≤ a) (a1 : a < 10) (b0 : 0 ≤ b) (b1 : b < 10) : CSt (uI (uI (uI w 10 (a * 10 + b).toNat (jI (jk v))) 10 (b * 10 + a).toNat (jI (jk v))) 1 11 (jI (jc (up (up S (92 + 10 * a + b) v) (92 + 10 * b + a) v) / 2))) 1 (up (up S (92 + 10 * a + b) v) (92 + 10 * b + a) v) := by
  obtain ⟨h1, h2, h3, h4, h5, h6, h7, h8, h9, h10⟩ := h
  refine ⟨fun x x0 x1 => ?_, fun x x0 x1 => ?_, fun x x0 x1 => ?_, ?_, ?_, ?_, ?_, ?_, ?_, ?_⟩
  · obtain ⟨k1, k2, k3, k4, k5, k6, k7, k8⟩ := h1 x x0 x1
    refine ⟨?_, ?_, ?_, fun q2 => ?_, ?_, ?_, ?_, ?_⟩
    · simp (disch := omega) only [gI_uI, gL_uI, gI_uL, gL_uL, up, if_pos, if_neg, and_self, ite_true]; exact k1
    · simp (disch := omega) only [gI_uI, gL_uI, gI_uL, gL_uL, up, if_pos, if_neg, and_self, ite_true]; exact k2
    · simp (disch := omega) only [gI_uI, gL_uI, gI_uL, gL_uL, up, if_pos, if_neg, and_self, ite_true]; exact k3
    · rw [up_ne (by omega), up_ne (by omega)] at q2; simp (disch := omega) only [gI_uI, gL_uI, gI_uL, gL_uL, up, if_pos, if_neg, and_self, ite_true]; exact k4 q2
    · simp (disch := omega) only [gI_uI, gL_uI, gI_uL, gL_uL, up, if_pos, if_neg, and_self, ite_true]; exact k5
    · simp (disch := omega) only [gI_uI, gL_uI, gI_uL, gL_uL, up, if_pos, if_neg, and_self, ite_true]; exact k6
    · simp (disch := omega) only [gI_uI, gL_uI, gI_uL, gL_uL, up, if_pos, if_neg, and_self, ite_true]; exact k7
    · simp (disch := omega) only [gI_uI, gL_uI, gI_uL, gL_uL, up, if_pos, if_neg, and_self, ite_true]; exact k8
  · have k1 := h2 x x0 x1
    by_cases q : x = b * 10 + a
    · subst q
      simp (disch := omega) only [gI_uI, gL_uI, gI_uL, gL_uL, up, if_pos, if_neg, and_self, ite_true]
    · by_cases q2 : x = a * 10 + b
      · subst q2
        simp (disch := omega) only [gI_uI, gL_uI, gI_uL, gL_uL, up, if_pos, if_neg, and_self, ite_true]
      · simp (disch := omega) only [gI_uI, gL_uI, gI_uL, gL_uL, up, if_pos, if_neg, and_self, ite_true]; exact k1
  · have k1 := h3 x x0 x1
    simp (disch := omega) only [gI_uI, gL_uI, gI_uL, gL_uL, up, if_pos, if_neg, and_self, ite_true]; exact k1
  · simp (disch := omega) only [gI_uI, gL_uI, gI_uL, gL_uL, up, if_pos, if_neg, and_self, ite_true]; exact h4
  · rw [gI_uI, if_pos ⟨rfl, rfl⟩]
  · simp (disch := omega) only [gI_uI, gL_uI, gI_uL, gL_uL, up, if_pos, if_neg, and_self, ite_true]; exact h6
  · simp (disch := omega) only [gI_uI, gL_uI, gI_uL, gL_uL, up, if_pos, if_neg, and_self, ite_true]; exact h7
  · simp (disch := omega) only [gI_uI, gL_uI, gI_uL, gL_uL, up, if_pos, if_neg, and_self, ite_true]; exact h8
  · simp (disch := omega) only [gI_uI, gL_uI, gI_uL, gL_uL, up, if_pos, if_neg, and_self, ite_true]; exact h9
  · simp (disch := omega) only [gI_uI, gL_uI, gI_uL, gL_uL, up, if_pos, if_neg, and_self, ite_true]; exact h10
end
section
/-! THE STATE STAYS GOOD -/
theorem CSt.congr {w : Wd} {b : Nat} {S S' : Ab} (h : CSt w b S) (e : ∀ z, 0 ≤ z → z < 192 → S' z = S z) : CSt w b S' := by
  have hj : jc S' = jc S := sm_congr (fun i h0 h1 => by rw [e (92 + i) (by omega) (by omega)])
  obtain ⟨h1, h2, h3, h4, h5, h6, h7, h8, h9, h10⟩ := h
  refine ⟨fun x x0 x1 => ?_, fun x x0 x1 => ?_, fun x x0 x1 => ?_, ?_, ?_, ?_, ?_, ?_, ?_, ?_⟩
  · rw [e (6 + x) (by omega) (by omega), e (16 + x) (by omega) (by omega), e (66 + x) (by omega) (by omega), e (76 + x) (by omega) (by omega), e (56 + x) (by omega) (by omega), e (26 + x) (by omega) (by omega), e (36 + x) (by omega) (by omega), e (46 + x) (by omega) (by omega)]
    exact h1 x x0 x1
  · rw [e (92 + x) (by omega) (by omega)]; exact h2 x x0 x1
  · rw [e (86 + x) (by omega) (by omega)]; exact h3 x x0 x1
  · rw [e 0 (by omega) (by omega)]; exact h4
  · rw [hj]; exact h5
  · rw [e 1 (by omega) (by omega)]; exact h6
  · rw [e 2 (by omega) (by omega)]; exact h7
  · rw [e 3 (by omega) (by omega)]; exact h8
  · rw [e 4 (by omega) (by omega)]; exact h9
  · rw [e 5 (by omega) (by omega)]; exact h10
theorem RSt.congr {w : Wd} {k : Nat} {o : Int} {S S' : Ab} (h : RSt w k o S) (e : ∀ z, 0 ≤ z → z < 192 → S' z = S z) : RSt w k o S' := fun z h0 h1 => by rw [e z h0 h1]; exact h z h0 h1
theorem Good.of {S S' : Ab} (hG : Good S) (e0 : S' 0 = S 0) (e1 : S' 1 = S 1) (d : 0 ≤ S' 2 ∧ S' 2 ≤ 99) (et : ∀ i, 0 ≤ i → i < 10 → S' (6 + i) = S (6 + i)) (ec : ∀ p, 0 ≤ p → p < 6 → S' (86 + p) = S (86 + p)) (ej : ∀ k, 0 ≤ k → k < 100 → S' (92 + k) = S (92 + k)) (hg : ∀ i, 0 ≤ i → i < 10 → Gg S' i) (hs : sm (fun i => S' (36 + i)) 10 = S' 3 - S' 4) : Good S' := by
  have ej2 : ∀ a b, 0 ≤ a → a < 10 → 0 ≤ b → b < 10 → S' (92 + 10 * a + b) = S (92 + 10 * a + b) := by
    intro a b a0 a1 b0 b1
    rw [show 92 + 10 * a + b = 92 + (10 * a + b) by omega]
    exact ej _ (by omega) (by omega)
  obtain ⟨g1, g2, g3, g4, g5, g6, P, hP⟩ := hG
  refine ⟨⟨by omega, by omega, by omega, by omega, d.1, d.2⟩, hg, fun p p0 p1 => ?_, fun a b a0 a1 b0 b1 => ?_, ?_, hs, P, fun a a0 a1 => ⟨(hP a a0 a1).1, fun b b0 b1 => ?_⟩⟩
  · rw [ec p p0 (by omega), e0]; exact g3 p p0 (by omega)
  · unfold Gj
    rw [ej2 a b a0 a1 b0 b1, ej2 b a b0 b1 a0 a1, e0]
    exact g4 a b a0 a1 b0 b1
  · rw [show jc S' = jc S from sm_congr (fun i h0 h1 => by rw [ej i h0 (by omega)])]
    exact g5
  · unfold Rl
    rw [ej2 a b a0 a1 b0 b1, et a a0 a1, et b b0 b1]
    exact (hP a a0 a1).2 b b0 b1
theorem Good.congr {S S' : Ab} (hG : Good S) (e : ∀ z, 0 ≤ z → z < 192 → S' z = S z) : Good S' := by
  refine hG.of (e 0 (by omega) (by omega)) (e 1 (by omega) (by omega)) (by rw [e 2 (by omega) (by omega)]; have := hG.1; omega) (fun i i0 i1 => e _ (by omega) (by omega)) (fun i i0 i1 => e _ (by omega) (by omega)) (fun i i0 i1 => e _ (by omega) (by omega)) (fun i i0 i1 => ?_) ?_
  · unfold Gg
    rw [e (6 + i) (by omega) (by omega), e (16 + i) (by omega) (by omega), e (66 + i) (by omega) (by omega), e (76 + i) (by omega) (by omega), e (56 + i) (by omega) (by omega), e (26 + i) (by omega) (by omega), e (36 + i) (by omega) (by omega), e (46 + i) (by omega) (by omega), e 0 (by omega) (by omega)]
    exact hG.2.1 i i0 i1
  · rw [e 3 (by omega) (by omega), e 4 (by omega) (by omega), ← hG.2.2.2.2.2.1]
    exact sm_congr (fun i h0 h1 => e _ (by omega) (by omega))
/-- the units, as a function of the state -/
noncomputable def TU (S : Ab) (d : Int) : Ab := Classical.epsilon (fun u => IsTr S d u)
def wOf (S : Ab) : Wd := (fun _ _ => 0, fun k i => if k = 142 then jL (S i) else 0, fun _ => none, fun _ => 0, 0)
theorem wOf_r (S : Ab) : RSt (wOf S) 142 0 S := by
  intro z h0 h1
  show (if (142 : Nat) = 142 then jL (S (((0 + z).toNat : Nat) : Int)) else 0) = _
  rw [if_pos rfl, show (((0 + z).toNat : Nat) : Int) = z by omega]
theorem tu_is {S : Ab} {d : Int} (hG : Good S) (d0 : 0 ≤ d) (d1 : d < S 0) : IsTr S d (TU S d) := by
  obtain ⟨w', -, -, u, -, hI, -⟩ := s_turns hG (wOf_r S) d0 d1
  exact Classical.epsilon_spec (p := fun u => IsTr S d u) ⟨u, hI⟩
theorem tu_b {S : Ab} {d : Int} (hG : Good S) (d0 : 0 ≤ d) (d1 : d < S 0) (x : Int) (x0 : 0 ≤ x) (x1 : x < 10) : -14929920000000000 ≤ TU S d x ∧ TU S d x ≤ 14929920000000000 := by
  have hg := hG.1
  obtain ⟨w', -, -, u, -, hI, hb⟩ := s_turns hG (wOf_r S) d0 d1
  rw [(tu_is hG d0 d1).uniq hG.2.2.2.2.2.2 d0 (by omega) hI x x0 x1]
  exact hb x x0 x1
theorem tu_d {S : Ab} {d : Int} (hG : Good S) (d0 : 0 ≤ d) (d1 : d < S 0) : TU S d d = 24883200000 := by
  have hg := hG.1
  obtain ⟨P, hP⟩ := hG.2.2.2.2.2.2
  have h := ((tu_is hG d0 d1) d d0 (by omega)).1 (Reach.refl S d)
  exact Int.eq_of_mul_eq_mul_right (hP d d0 (by omega)).1 (h.2 P hP)
theorem tu_out {S : Ab} {d : Int} (hG : Good S) (d0 : 0 ≤ d) (d1 : d < S 0) (x : Int) (x0 : 0 ≤ x) (x1 : x < 10) (h : S 0 ≤ x) : TU S d x = 0 := (tu_is hG d0 d1).out hG d1 x x0 x1 h
/-- the class's train, by the state alone -/
def CTr (w : Wd) (u : Ab) : Prop := ∃ m, CT w u (ct u) m
theorem CT.congr {w : Wd} {u v m : Ab} {sz : Int} (h : CT w u sz m) (e : ∀ x, 0 ≤ x → x < 10 → u x = v x) : CT w v sz m := ⟨fun x x0 x1 => by rw [← e x x0 x1]; exact h.1 x x0 x1, h.2⟩
theorem RT.congr {w : Wd} {u v : Ab} (h : RT w u) (e : ∀ x, 0 ≤ x → x < 10 → u x = v x) : RT w v := fun x x0 x1 => by
  have h1 := h x x0 x1
  rw [h1.1, h1.2, e x x0 x1]
  exact ⟨rfl, rfl⟩
theorem s_trace {w : Wd} {S : Ab} {d : Int} (hG : Good S) (h : CSt w 1 S) (d0 : 0 ≤ d) (d1 : d < S 0) :
    ∃ w' m, f_X8_trace w (jI d) = some w' ∧ Sm KT w w' ∧ CT w' (TU S d) (ct (TU S d)) m ∧ CSt w' 1 S := by
  have hg := hG.1
  obtain ⟨w', hr, hs, u, m, hC, hI, -⟩ := s_trace0 hG h d0 d1
  have e := hI.uniq hG.2.2.2.2.2.2 d0 (by omega) (tu_is hG d0 d1)
  refine ⟨w', m, hr, hs, ?_, h.kept (fun r hr => hs.1 _ (by unfold KT; omega))⟩
  rw [← ct_congr (u := u) (v := TU S d) (fun x x0 x1 => by rw [e x x0 x1])]
  exact hC.congr e
theorem s_rTurns {w : Wd} {S : Ab} {d : Int} (hG : Good S) (h : RSt w 142 0 S) (d0 : 0 ≤ d) (d1 : d < S 0) :
    ∃ w', f_X11_turns w (jI d) = some w' ∧ Sm KU w w' ∧ RT w' (TU S d) ∧ RSt w' 142 0 S := by
  have hg := hG.1
  obtain ⟨w', hr, hs, u, hR, hI, -⟩ := s_turns hG h d0 d1
  exact ⟨w', hr, hs, hR.congr (hI.uniq hG.2.2.2.2.2.2 d0 (by omega) (tu_is hG d0 d1)), h.kept (hs.1 142 (by unfold KU; omega)).2⟩
/-! what a change answers -/
abbrev Oc : Type := Nat ⊕ (Int × Ab)
def KC (k : Nat) : Prop := (1 ≤ k ∧ k < 12) ∨ (124 ≤ k ∧ k < 127)
def KM (k : Nat) : Prop := k = 141 ∨ k = 142 ∨ k = 148 ∨ k = 149
def CO (w w' : Wd) (r : Int32) (S : Ab) (o : Oc) : Prop := Sm KC w w' ∧ zc o (fun e => r = jI (-(e : Int) - 1) ∧ CSt w' 1 S) (fun q => r = jI q.1 ∧ CSt w' 1 q.2)
def RO (w w' : Wd) (r : Int32) (cd : Nat → Int) (o : Oc) : Prop := Sm KM w w' ∧ (∀ i, i ≠ 12 → gI w' 141 i = gI w 141 i) ∧ zc o (fun e => gI w' 141 12 = jI (cd e)) (fun q => r = jI q.1 ∧ gI w' 141 12 = jI 0 ∧ RSt w' 142 0 q.2)
def OK (es : List Nat) (o : Oc) : Prop := zc o (fun e => e ∈ es) (fun q => 0 ≤ q.1 ∧ q.1 < 1000 ∧ Good q.2)
theorem ok_e {es : List Nat} {e : Nat} (h : e ∈ es) : OK es (.inl e) := h
def Op (S : Ab) (es : List Nat) (cd : Nat → Int) (cf rf : Wd → Option (Int32 × Wd)) : Prop :=
  ∃ o : Oc, OK es o ∧ (∀ w, CSt w 1 S → ∃ r w', cf w = some (r, w') ∧ CO w w' r S o) ∧ ∀ w, RSt w 142 0 S → ∃ r w', rf w = some (r, w') ∧ RO w w' r cd o
theorem s_fails (w : Wd) (x : Int32) : f_X11_fails w x = some (jI 0, uI w 141 12 x) := rfl
theorem s_done (w : Wd) (x : Int32) : f_X11_done w x = some (x, uI w 141 12 (jI 0)) := rfl
theorem KT_C {k : Nat} (h : KT k) : KC k := by unfold KT at h; unfold KC; omega
theorem KU_M {k : Nat} (h : KU k) : KM k := by unfold KU at h; unfold KM; omega
theorem CO.err {w w' : Wd} {r : Int32} {S : Ab} {e : Nat} (hs : Sm KC w w') (hr : r = jI (-(e : Int) - 1)) (h : CSt w' 1 S) : CO w w' r S (.inl e) := ⟨hs, hr, h⟩
theorem CO.val {w w' : Wd} {r : Int32} {S S' : Ab} {v : Int} (hs : Sm KC w w') (hr : r = jI v) (h : CSt w' 1 S') : CO w w' r S (.inr (v, S')) := ⟨hs, hr, h⟩
theorem RO.err {w w' : Wd} {cd : Nat → Int} {e : Nat} {x : Int} (hs : Sm KM w w') (h1 : gI w' 141 = gI w 141) (hx : x = cd e) : RO w (uI w' 141 12 (jI x)) (jI 0) cd (.inl e) :=
  ⟨hs.tr (Sm.wI w' (Or.inl rfl)), fun i hi => by rw [gI_uI, if_neg (fun z => hi z.2), h1], by show gI (uI w' 141 12 (jI x)) 141 12 = jI (cd e); rw [gI_uI, if_pos ⟨rfl, rfl⟩, hx]⟩
theorem RO.val {w w' : Wd} {cd : Nat → Int} {S' : Ab} {v : Int} (hs : Sm KM w w') (h1 : gI w' 141 = gI w 141) (h : RSt w' 142 0 S') : RO w (uI w' 141 12 (jI 0)) (jI v) cd (.inr (v, S')) :=
  ⟨hs.tr (Sm.wI w' (Or.inl rfl)), fun i hi => by rw [gI_uI, if_neg (fun z => hi z.2), h1], rfl, by rw [gI_uI, if_pos ⟨rfl, rfl⟩], h.kept rfl⟩
end
section
/-! THE CHANGES, both ways at once -/
def tl (i : Int) : Int := if i = 0 then 6 else if i = 1 then 8 else if i = 2 then 10 else if i = 3 then 12 else if i = 4 then 15 else if i = 5 then 20 else if i = 6 then 24 else if i = 7 then 30 else if i = 8 then 40 else 60
theorem tl_c : ∀ i : Nat, i < 10 → cTeeth.getD i (jI 0) = jI (tl i) := by decide +kernel
theorem tl_t (i : Int) : tooth (tl i) := by unfold tl tooth; omega
theorem s_tooth {w : Wd} {t : Int} (t1 : -2147483648 ≤ t) (t2 : t < 2147483648) : ∃ r, f_X1_isToothNumber w (jI t) = some (jI r) ∧ ((r = 0 ∧ ¬ tooth t) ∨ (r = 1 ∧ tooth t)) := by
  have k := lpFind (p_X1_isToothNumber_9 (jI 10) (jI t)) (fun i => tl i = t) 10 (fun _ => jI 1)
    (fun i n hi hp => by
      have hb := tooth_b (tl_t i)
      rw [p_X1_isToothNumber_9]
      simp (disch := omega) only [l32_0, l32_1, l32_2, l32_3, l32_4, l32_5, l32_6, l32_7, l32_8, l32_9, l32_10, l32_11, l32_12, l32_13, l32_14, l32_15, l32_16, l32_17, l32_18, l32_19, l32_20, l32_21, l32_22, l32_23, l32_24, l32_25, l32_26, l32_27, l32_28, l32_29, l32_30, l32_31, l32_32, l32_33, l32_34, l32_35, l32_36, l32_37, l32_38, l32_39, l32_40, l32_41, l32_42, l32_43, l32_44, l32_45, l32_46, l32_47, l32_48, l32_49, l32_50, l32_51, l32_52, l32_53, l32_54, l32_55, l32_56, l32_57, l32_58, l32_59, l32_60, l32_61, l32_62, l32_63, l32_64, l32_65, l32_66, l32_76, l32_86, l32_90, l32_92, l32_97, l32_98, l32_99, l32_100, l32_101, l32_102, l32_103, l32_104, l32_105, l32_106, l32_107, l32_108, l32_109, l32_110, l32_111, l32_112, l32_113, l32_114, l32_115, l32_116, l32_117, l32_118, l32_119, l32_120, l32_121, l32_122, l32_123, l32_124, l32_125, l32_126, l32_192, l32_200, l32_255, l32_999, l32_1000, l32_1344, l32_2147483639, l32_2147483647, l64_0, l64_1, l64_99, l64_999, l64_24883200000, l64_746496000000, jI_add, jI_sub, jI_mul, jI_neg, jL_add, jL_sub, jL_mul, jL_neg, jL_toI, jI_toL, jI_lt, jI_le, jI_eq, jL_lt, jL_le, jL_eq, inR_j, jI_clamp, nI_j, Option.bind_some, zc, u2, u3, u4, u5, wl, mo, if_pos, if_neg, ite_true, ite_false, Int.toNat_natCast, tl_c] <;> rfl)
    (fun i n hi hp => by
      have hb := tooth_b (tl_t i)
      rw [p_X1_isToothNumber_9]
      simp (disch := omega) only [l32_0, l32_1, l32_2, l32_3, l32_4, l32_5, l32_6, l32_7, l32_8, l32_9, l32_10, l32_11, l32_12, l32_13, l32_14, l32_15, l32_16, l32_17, l32_18, l32_19, l32_20, l32_21, l32_22, l32_23, l32_24, l32_25, l32_26, l32_27, l32_28, l32_29, l32_30, l32_31, l32_32, l32_33, l32_34, l32_35, l32_36, l32_37, l32_38, l32_39, l32_40, l32_41, l32_42, l32_43, l32_44, l32_45, l32_46, l32_47, l32_48, l32_49, l32_50, l32_51, l32_52, l32_53, l32_54, l32_55, l32_56, l32_57, l32_58, l32_59, l32_60, l32_61, l32_62, l32_63, l32_64, l32_65, l32_66, l32_76, l32_86, l32_90, l32_92, l32_97, l32_98, l32_99, l32_100, l32_101, l32_102, l32_103, l32_104, l32_105, l32_106, l32_107, l32_108, l32_109, l32_110, l32_111, l32_112, l32_113, l32_114, l32_115, l32_116, l32_117, l32_118, l32_119, l32_120, l32_121, l32_122, l32_123, l32_124, l32_125, l32_126, l32_192, l32_200, l32_255, l32_999, l32_1000, l32_1344, l32_2147483639, l32_2147483647, l64_0, l64_1, l64_99, l64_999, l64_24883200000, l64_746496000000, jI_add, jI_sub, jI_mul, jI_neg, jL_add, jL_sub, jL_mul, jL_neg, jL_toI, jI_toL, jI_lt, jI_le, jI_eq, jL_lt, jL_le, jL_eq, inR_j, jI_clamp, nI_j, Option.bind_some, zc, u2, u3, u4, u5, wl, mo, if_pos, if_neg, ite_true, ite_false, Int.toNat_natCast, tl_c] <;> rfl)
    (fun n => by
      rw [p_X1_isToothNumber_9, show ((10 : Nat) : Int) = 10 from rfl]
      simp (disch := omega) only [l32_0, l32_1, l32_2, l32_3, l32_4, l32_5, l32_6, l32_7, l32_8, l32_9, l32_10, l32_11, l32_12, l32_13, l32_14, l32_15, l32_16, l32_17, l32_18, l32_19, l32_20, l32_21, l32_22, l32_23, l32_24, l32_25, l32_26, l32_27, l32_28, l32_29, l32_30, l32_31, l32_32, l32_33, l32_34, l32_35, l32_36, l32_37, l32_38, l32_39, l32_40, l32_41, l32_42, l32_43, l32_44, l32_45, l32_46, l32_47, l32_48, l32_49, l32_50, l32_51, l32_52, l32_53, l32_54, l32_55, l32_56, l32_57, l32_58, l32_59, l32_60, l32_61, l32_62, l32_63, l32_64, l32_65, l32_66, l32_76, l32_86, l32_90, l32_92, l32_97, l32_98, l32_99, l32_100, l32_101, l32_102, l32_103, l32_104, l32_105, l32_106, l32_107, l32_108, l32_109, l32_110, l32_111, l32_112, l32_113, l32_114, l32_115, l32_116, l32_117, l32_118, l32_119, l32_120, l32_121, l32_122, l32_123, l32_124, l32_125, l32_126, l32_192, l32_200, l32_255, l32_999, l32_1000, l32_1344, l32_2147483639, l32_2147483647, l64_0, l64_1, l64_99, l64_999, l64_24883200000, l64_746496000000, jI_add, jI_sub, jI_mul, jI_neg, jL_add, jL_sub, jL_mul, jL_neg, jL_toI, jI_toL, jI_lt, jI_le, jI_eq, jL_lt, jL_le, jL_eq, inR_j, jI_clamp, nI_j, Option.bind_some, zc, u2, u3, u4, u5, wl, mo, if_pos, if_neg, ite_true, ite_false]) 2000 (by omega)
  unfold f_X1_isToothNumber
  rcases k with ⟨r, r0, r1, r2, r3, r4⟩ | ⟨r3, r4⟩
  · refine ⟨1, by rw [l32_0, l32_10, r4]; rfl, Or.inr ⟨rfl, ?_⟩⟩
    rw [← r2]; exact tl_t r
  · refine ⟨0, by rw [l32_0, l32_10, r4]; rfl, Or.inl ⟨rfl, fun z => ?_⟩⟩
    rcases z with rfl | rfl | rfl | rfl | rfl | rfl | rfl | rfl | rfl | rfl
    · exact r3 0 (by decide) (by decide) rfl
    · exact r3 1 (by decide) (by decide) rfl
    · exact r3 2 (by decide) (by decide) rfl
    · exact r3 3 (by decide) (by decide) rfl
    · exact r3 4 (by decide) (by decide) rfl
    · exact r3 5 (by decide) (by decide) rfl
    · exact r3 6 (by decide) (by decide) rfl
    · exact r3 7 (by decide) (by decide) rfl
    · exact r3 8 (by decide) (by decide) rfl
    · exact r3 9 (by decide) (by decide) rfl
theorem Good.gear {S : Ab} {t : Int} (hG : Good S) (ht : tooth t) (h : S 0 < 10) : Good (up (up S (6 + S 0) t) 0 (S 0 + 1)) := by
  obtain ⟨g1, g2, g3, g4, g5, g6, P, hP⟩ := hG
  have e0 : (up (up S (6 + S 0) t) 0 (S 0 + 1)) 0 = S 0 + 1 := up_eq _ _ _
  have e : ∀ z, 0 ≤ z → z ≠ 0 → z ≠ 6 + S 0 → (up (up S (6 + S 0) t) 0 (S 0 + 1)) z = S z := fun z z0 z1 z2 => by rw [up_ne z1, up_ne z2]
  have ej : ∀ k, 0 ≤ k → k < 100 → (up (up S (6 + S 0) t) 0 (S 0 + 1)) (92 + k) = S (92 + k) := fun k k0 k1 => e _ (by omega) (by omega) (by omega)
  have ej2 : ∀ a b, 0 ≤ a → a < 10 → 0 ≤ b → b < 10 → (up (up S (6 + S 0) t) 0 (S 0 + 1)) (92 + 10 * a + b) = S (92 + 10 * a + b) := fun a b a0 a1 b0 b1 => e _ (by omega) (by omega) (by omega)
  refine ⟨?_, fun i i0 i1 => ?_, fun p p0 p1 => ?_, fun a b a0 a1 b0 b1 => ?_, ?_, ?_, P, fun a a0 a1 => ⟨(hP a a0 a1).1, fun b b0 b1 => ?_⟩⟩
  · rw [e0, e 1 (by omega) (by omega) (by omega), e 2 (by omega) (by omega) (by omega)]; omega
  · obtain ⟨k1, k2, k3, k4, k5, k6, k7, k8, k9⟩ := g2 i i0 i1
    unfold Gg
    rw [e0, e (16 + i) (by omega) (by omega) (by omega), e (26 + i) (by omega) (by omega) (by omega), e (36 + i) (by omega) (by omega) (by omega), e (46 + i) (by omega) (by omega) (by omega), e (56 + i) (by omega) (by omega) (by omega), e (66 + i) (by omega) (by omega) (by omega), e (76 + i) (by omega) (by omega) (by omega)]
    refine ⟨fun q => ?_, fun q => ?_, k3, k4, k5, k6, k7, k8, k9⟩
    · by_cases q2 : i = S 0
      · rw [q2, up_ne (by omega), up_eq]; exact ht
      · rw [e (6 + i) (by omega) (by omega) (by omega)]; exact k1 (by omega)
    · rw [e (6 + i) (by omega) (by omega) (by omega)]; exact k2 (by omega)
  · rw [e 1 (by omega) (by omega) (by omega)] at p1
    rw [e (86 + p) (by omega) (by omega) (by omega), e0]
    have := g3 p p0 p1
    omega
  · unfold Gj
    rw [ej2 a b a0 a1 b0 b1, ej2 b a b0 b1 a0 a1, e0]
    obtain ⟨k1, k2, k3⟩ := g4 a b a0 a1 b0 b1
    exact ⟨k1, k2, fun q => by have := k3 q; omega⟩
  · rw [show jc (up (up S (6 + S 0) t) 0 (S 0 + 1)) = jc S from sm_congr (fun i h0 h1 => by rw [ej i h0 (by omega)])]
    exact g5
  · rw [e 3 (by omega) (by omega) (by omega), e 4 (by omega) (by omega) (by omega), ← g6]
    exact sm_congr (fun i h0 h1 => e _ (by omega) (by omega) (by omega))
  · have hr := (hP a a0 a1).2 b b0 b1
    have k3 := (g4 a b a0 a1 b0 b1).2.2
    unfold Rl
    rw [ej2 a b a0 a1 b0 b1]
    refine ⟨hr.1, fun q => ?_⟩
    have k4 := k3 (by omega)
    rw [e (6 + a) (by omega) (by omega) (by omega), e (6 + b) (by omega) (by omega) (by omega)]
    exact hr.2 q
theorem op_gear {S : Ab} (hG : Good S) {t : Int} (t1 : -2147483648 ≤ t) (t2 : t < 2147483648) : Op S [1, 2] (fun e => (e : Int)) (fun w => f_X1_putGear w (jI t)) (fun w => f_X11_addsGear w (jI t)) := by
  have hg := hG.1
  by_cases q : tooth t
  · have hb := tooth_b q
    by_cases q2 : S 0 = 10
    · refine ⟨.inl 2, ok_e (e := 2) (by decide), fun w h => ?_, fun w h => ?_⟩
      · obtain ⟨r, hr, ⟨rfl, hx⟩ | ⟨rfl, hx⟩⟩ := s_tooth (w := w) t1 t2
        · exact absurd q hx
        · refine ⟨jI (-3), w, ?_, CO.err (Sm.refl w) rfl h⟩
          unfold f_X1_putGear
          simp (disch := omega) only [l32_0, l32_1, l32_2, l32_3, l32_4, l32_5, l32_6, l32_7, l32_8, l32_9, l32_10, l32_11, l32_12, l32_13, l32_14, l32_15, l32_16, l32_17, l32_18, l32_19, l32_20, l32_21, l32_22, l32_23, l32_24, l32_25, l32_26, l32_27, l32_28, l32_29, l32_30, l32_31, l32_32, l32_33, l32_34, l32_35, l32_36, l32_37, l32_38, l32_39, l32_40, l32_41, l32_42, l32_43, l32_44, l32_45, l32_46, l32_47, l32_48, l32_49, l32_50, l32_51, l32_52, l32_53, l32_54, l32_55, l32_56, l32_57, l32_58, l32_59, l32_60, l32_61, l32_62, l32_63, l32_64, l32_65, l32_66, l32_76, l32_86, l32_90, l32_92, l32_97, l32_98, l32_99, l32_100, l32_101, l32_102, l32_103, l32_104, l32_105, l32_106, l32_107, l32_108, l32_109, l32_110, l32_111, l32_112, l32_113, l32_114, l32_115, l32_116, l32_117, l32_118, l32_119, l32_120, l32_121, l32_122, l32_123, l32_124, l32_125, l32_126, l32_192, l32_200, l32_255, l32_999, l32_1000, l32_1344, l32_2147483639, l32_2147483647, l64_0, l64_1, l64_99, l64_999, l64_24883200000, l64_746496000000, jI_add, jI_sub, jI_mul, jI_neg, jL_add, jL_sub, jL_mul, jL_neg, jL_toI, jI_toL, jI_lt, jI_le, jI_eq, jL_lt, jL_le, jL_eq, inR_j, jI_clamp, nI_j, Option.bind_some, zc, u2, u3, u4, u5, wl, mo, if_pos, if_neg, ite_true, ite_false, hr, c_g h]
      · obtain ⟨r, hr, ⟨rfl, hx⟩ | ⟨rfl, hx⟩⟩ := s_rMayHave (w := w) t1 t2
        · exact absurd q hx
        · refine ⟨jI 0, uI w 141 12 (jI 2), ?_, RO.err (Sm.refl w) rfl rfl⟩
          unfold f_X11_addsGear
          simp (disch := omega) only [l32_0, l32_1, l32_2, l32_3, l32_4, l32_5, l32_6, l32_7, l32_8, l32_9, l32_10, l32_11, l32_12, l32_13, l32_14, l32_15, l32_16, l32_17, l32_18, l32_19, l32_20, l32_21, l32_22, l32_23, l32_24, l32_25, l32_26, l32_27, l32_28, l32_29, l32_30, l32_31, l32_32, l32_33, l32_34, l32_35, l32_36, l32_37, l32_38, l32_39, l32_40, l32_41, l32_42, l32_43, l32_44, l32_45, l32_46, l32_47, l32_48, l32_49, l32_50, l32_51, l32_52, l32_53, l32_54, l32_55, l32_56, l32_57, l32_58, l32_59, l32_60, l32_61, l32_62, l32_63, l32_64, l32_65, l32_66, l32_76, l32_86, l32_90, l32_92, l32_97, l32_98, l32_99, l32_100, l32_101, l32_102, l32_103, l32_104, l32_105, l32_106, l32_107, l32_108, l32_109, l32_110, l32_111, l32_112, l32_113, l32_114, l32_115, l32_116, l32_117, l32_118, l32_119, l32_120, l32_121, l32_122, l32_123, l32_124, l32_125, l32_126, l32_192, l32_200, l32_255, l32_999, l32_1000, l32_1344, l32_2147483639, l32_2147483647, l64_0, l64_1, l64_99, l64_999, l64_24883200000, l64_746496000000, jI_add, jI_sub, jI_mul, jI_neg, jL_add, jL_sub, jL_mul, jL_neg, jL_toI, jI_toL, jI_lt, jI_le, jI_eq, jL_lt, jL_le, jL_eq, inR_j, jI_clamp, nI_j, Option.bind_some, zc, u2, u3, u4, u5, wl, mo, if_pos, if_neg, ite_true, ite_false, hr, s_at h, s_fails]
    · refine ⟨.inr (S 0, up (up S (6 + S 0) t) 0 (S 0 + 1)), ⟨hg.1, by omega, hG.gear q (by omega)⟩, fun w h => ?_, fun w h => ?_⟩
      · obtain ⟨r, hr, ⟨rfl, hx⟩ | ⟨rfl, hx⟩⟩ := s_tooth (w := w) t1 t2
        · exact absurd q hx
        · refine ⟨jI (S 0), uI (uI w 2 (S 0).toNat (jI t)) 1 10 (jI (S 0 + 1)), ?_, CO.val ((Sm.wI w (by unfold KC; omega)).tr (Sm.wI _ (by unfold KC; omega))) rfl (h.put_t (by omega) (by omega)).put_g⟩
          unfold f_X1_putGear
          simp (disch := omega) only [l32_0, l32_1, l32_2, l32_3, l32_4, l32_5, l32_6, l32_7, l32_8, l32_9, l32_10, l32_11, l32_12, l32_13, l32_14, l32_15, l32_16, l32_17, l32_18, l32_19, l32_20, l32_21, l32_22, l32_23, l32_24, l32_25, l32_26, l32_27, l32_28, l32_29, l32_30, l32_31, l32_32, l32_33, l32_34, l32_35, l32_36, l32_37, l32_38, l32_39, l32_40, l32_41, l32_42, l32_43, l32_44, l32_45, l32_46, l32_47, l32_48, l32_49, l32_50, l32_51, l32_52, l32_53, l32_54, l32_55, l32_56, l32_57, l32_58, l32_59, l32_60, l32_61, l32_62, l32_63, l32_64, l32_65, l32_66, l32_76, l32_86, l32_90, l32_92, l32_97, l32_98, l32_99, l32_100, l32_101, l32_102, l32_103, l32_104, l32_105, l32_106, l32_107, l32_108, l32_109, l32_110, l32_111, l32_112, l32_113, l32_114, l32_115, l32_116, l32_117, l32_118, l32_119, l32_120, l32_121, l32_122, l32_123, l32_124, l32_125, l32_126, l32_192, l32_200, l32_255, l32_999, l32_1000, l32_1344, l32_2147483639, l32_2147483647, l64_0, l64_1, l64_99, l64_999, l64_24883200000, l64_746496000000, jI_add, jI_sub, jI_mul, jI_neg, jL_add, jL_sub, jL_mul, jL_neg, jL_toI, jI_toL, jI_lt, jI_le, jI_eq, jL_lt, jL_le, jL_eq, inR_j, jI_clamp, nI_j, Option.bind_some, zc, u2, u3, u4, u5, wl, mo, if_pos, if_neg, ite_true, ite_false, hr, c_g h]
      · obtain ⟨r, hr, ⟨rfl, hx⟩ | ⟨rfl, hx⟩⟩ := s_rMayHave (w := w) t1 t2
        · exact absurd q hx
        · refine ⟨jI (S 0), uI (uL (uL w 142 (6 + S 0).toNat (jL t)) 142 (0 : Int).toNat (jL (S 0 + 1))) 141 12 (jI 0), ?_, RO.val ((Sm.wL w (by unfold KM; omega)).tr (Sm.wL _ (by unfold KM; omega))) rfl ((h.put (by omega) (by omega)).put (by omega) (by omega))⟩
          unfold f_X11_addsGear
          simp (disch := omega) only [l32_0, l32_1, l32_2, l32_3, l32_4, l32_5, l32_6, l32_7, l32_8, l32_9, l32_10, l32_11, l32_12, l32_13, l32_14, l32_15, l32_16, l32_17, l32_18, l32_19, l32_20, l32_21, l32_22, l32_23, l32_24, l32_25, l32_26, l32_27, l32_28, l32_29, l32_30, l32_31, l32_32, l32_33, l32_34, l32_35, l32_36, l32_37, l32_38, l32_39, l32_40, l32_41, l32_42, l32_43, l32_44, l32_45, l32_46, l32_47, l32_48, l32_49, l32_50, l32_51, l32_52, l32_53, l32_54, l32_55, l32_56, l32_57, l32_58, l32_59, l32_60, l32_61, l32_62, l32_63, l32_64, l32_65, l32_66, l32_76, l32_86, l32_90, l32_92, l32_97, l32_98, l32_99, l32_100, l32_101, l32_102, l32_103, l32_104, l32_105, l32_106, l32_107, l32_108, l32_109, l32_110, l32_111, l32_112, l32_113, l32_114, l32_115, l32_116, l32_117, l32_118, l32_119, l32_120, l32_121, l32_122, l32_123, l32_124, l32_125, l32_126, l32_192, l32_200, l32_255, l32_999, l32_1000, l32_1344, l32_2147483639, l32_2147483647, l64_0, l64_1, l64_99, l64_999, l64_24883200000, l64_746496000000, jI_add, jI_sub, jI_mul, jI_neg, jL_add, jL_sub, jL_mul, jL_neg, jL_toI, jI_toL, jI_lt, jI_le, jI_eq, jL_lt, jL_le, jL_eq, inR_j, jI_clamp, nI_j, Option.bind_some, zc, u2, u3, u4, u5, wl, mo, if_pos, if_neg, ite_true, ite_false, hr, s_at h, s_done, gL_uL, r_g h]
  · refine ⟨.inl 1, ok_e (e := 1) (by decide), fun w h => ?_, fun w h => ?_⟩
    · obtain ⟨r, hr, ⟨rfl, hx⟩ | ⟨rfl, hx⟩⟩ := s_tooth (w := w) t1 t2
      · refine ⟨jI (-2), w, ?_, CO.err (Sm.refl w) rfl h⟩
        unfold f_X1_putGear
        simp (disch := omega) only [l32_0, l32_1, l32_2, l32_3, l32_4, l32_5, l32_6, l32_7, l32_8, l32_9, l32_10, l32_11, l32_12, l32_13, l32_14, l32_15, l32_16, l32_17, l32_18, l32_19, l32_20, l32_21, l32_22, l32_23, l32_24, l32_25, l32_26, l32_27, l32_28, l32_29, l32_30, l32_31, l32_32, l32_33, l32_34, l32_35, l32_36, l32_37, l32_38, l32_39, l32_40, l32_41, l32_42, l32_43, l32_44, l32_45, l32_46, l32_47, l32_48, l32_49, l32_50, l32_51, l32_52, l32_53, l32_54, l32_55, l32_56, l32_57, l32_58, l32_59, l32_60, l32_61, l32_62, l32_63, l32_64, l32_65, l32_66, l32_76, l32_86, l32_90, l32_92, l32_97, l32_98, l32_99, l32_100, l32_101, l32_102, l32_103, l32_104, l32_105, l32_106, l32_107, l32_108, l32_109, l32_110, l32_111, l32_112, l32_113, l32_114, l32_115, l32_116, l32_117, l32_118, l32_119, l32_120, l32_121, l32_122, l32_123, l32_124, l32_125, l32_126, l32_192, l32_200, l32_255, l32_999, l32_1000, l32_1344, l32_2147483639, l32_2147483647, l64_0, l64_1, l64_99, l64_999, l64_24883200000, l64_746496000000, jI_add, jI_sub, jI_mul, jI_neg, jL_add, jL_sub, jL_mul, jL_neg, jL_toI, jI_toL, jI_lt, jI_le, jI_eq, jL_lt, jL_le, jL_eq, inR_j, jI_clamp, nI_j, Option.bind_some, zc, u2, u3, u4, u5, wl, mo, if_pos, if_neg, ite_true, ite_false, hr]
      · exact absurd hx q
    · obtain ⟨r, hr, ⟨rfl, hx⟩ | ⟨rfl, hx⟩⟩ := s_rMayHave (w := w) t1 t2
      · refine ⟨jI 0, uI w 141 12 (jI 1), ?_, RO.err (Sm.refl w) rfl rfl⟩
        unfold f_X11_addsGear
        simp (disch := omega) only [l32_0, l32_1, l32_2, l32_3, l32_4, l32_5, l32_6, l32_7, l32_8, l32_9, l32_10, l32_11, l32_12, l32_13, l32_14, l32_15, l32_16, l32_17, l32_18, l32_19, l32_20, l32_21, l32_22, l32_23, l32_24, l32_25, l32_26, l32_27, l32_28, l32_29, l32_30, l32_31, l32_32, l32_33, l32_34, l32_35, l32_36, l32_37, l32_38, l32_39, l32_40, l32_41, l32_42, l32_43, l32_44, l32_45, l32_46, l32_47, l32_48, l32_49, l32_50, l32_51, l32_52, l32_53, l32_54, l32_55, l32_56, l32_57, l32_58, l32_59, l32_60, l32_61, l32_62, l32_63, l32_64, l32_65, l32_66, l32_76, l32_86, l32_90, l32_92, l32_97, l32_98, l32_99, l32_100, l32_101, l32_102, l32_103, l32_104, l32_105, l32_106, l32_107, l32_108, l32_109, l32_110, l32_111, l32_112, l32_113, l32_114, l32_115, l32_116, l32_117, l32_118, l32_119, l32_120, l32_121, l32_122, l32_123, l32_124, l32_125, l32_126, l32_192, l32_200, l32_255, l32_999, l32_1000, l32_1344, l32_2147483639, l32_2147483647, l64_0, l64_1, l64_99, l64_999, l64_24883200000, l64_746496000000, jI_add, jI_sub, jI_mul, jI_neg, jL_add, jL_sub, jL_mul, jL_neg, jL_toI, jI_toL, jI_lt, jI_le, jI_eq, jL_lt, jL_le, jL_eq, inR_j, jI_clamp, nI_j, Option.bind_some, zc, u2, u3, u4, u5, wl, mo, if_pos, if_neg, ite_true, ite_false, hr, s_fails]
      · exact absurd hx q
theorem Good.scal {S : Ab} (hG : Good S) {v : Int} (v0 : 0 ≤ v) (v1 : v ≤ 99) : Good (up S 2 v) := by
  refine hG.of (up_ne (by omega)) (up_ne (by omega)) (by rw [up_eq]; omega) (fun i i0 i1 => up_ne (by omega)) (fun i i0 i1 => up_ne (by omega)) (fun i i0 i1 => up_ne (by omega)) (fun i i0 i1 => ?_) ?_
  · unfold Gg
    rw [up_ne (x := 0) (by omega), up_ne (x := 6 + i) (by omega), up_ne (x := 16 + i) (by omega), up_ne (x := 26 + i) (by omega), up_ne (x := 36 + i) (by omega), up_ne (x := 46 + i) (by omega), up_ne (x := 56 + i) (by omega), up_ne (x := 66 + i) (by omega), up_ne (x := 76 + i) (by omega)]
    exact hG.2.1 i i0 i1
  · rw [up_ne (x := 3) (by omega), up_ne (x := 4) (by omega), ← hG.2.2.2.2.2.1]
    exact sm_congr (fun i h0 h1 => up_ne (by omega))
theorem op_buy {S : Ab} (hG : Good S) {x : Int} (x1 : -2147483648 ≤ x) (x2 : x < 2147483648) : Op S [1, 2] (fun e => (e : Int)) (fun w => f_X1_addDrops w (jI x)) (fun w => f_X11_buys w (jI x)) := by
  have hg := hG.1
  by_cases q : 1 ≤ x ∧ x ≤ 50
  · by_cases q2 : S 2 + x ≤ 99
    · refine ⟨.inr (S 2 + x, up S 2 (S 2 + x)), ⟨by omega, by omega, hG.scal (by omega) q2⟩, fun w h => ?_, fun w h => ?_⟩
      · refine ⟨jI (S 2 + x), uI w 1 13 (jI (S 2 + x)), ?_, CO.val (Sm.wI w (by unfold KC; omega)) rfl h.put_d⟩
        unfold f_X1_addDrops
        simp (disch := omega) only [l32_0, l32_1, l32_2, l32_3, l32_4, l32_5, l32_6, l32_7, l32_8, l32_9, l32_10, l32_11, l32_12, l32_13, l32_14, l32_15, l32_16, l32_17, l32_18, l32_19, l32_20, l32_21, l32_22, l32_23, l32_24, l32_25, l32_26, l32_27, l32_28, l32_29, l32_30, l32_31, l32_32, l32_33, l32_34, l32_35, l32_36, l32_37, l32_38, l32_39, l32_40, l32_41, l32_42, l32_43, l32_44, l32_45, l32_46, l32_47, l32_48, l32_49, l32_50, l32_51, l32_52, l32_53, l32_54, l32_55, l32_56, l32_57, l32_58, l32_59, l32_60, l32_61, l32_62, l32_63, l32_64, l32_65, l32_66, l32_76, l32_86, l32_90, l32_92, l32_97, l32_98, l32_99, l32_100, l32_101, l32_102, l32_103, l32_104, l32_105, l32_106, l32_107, l32_108, l32_109, l32_110, l32_111, l32_112, l32_113, l32_114, l32_115, l32_116, l32_117, l32_118, l32_119, l32_120, l32_121, l32_122, l32_123, l32_124, l32_125, l32_126, l32_192, l32_200, l32_255, l32_999, l32_1000, l32_1344, l32_2147483639, l32_2147483647, l64_0, l64_1, l64_99, l64_999, l64_24883200000, l64_746496000000, jI_add, jI_sub, jI_mul, jI_neg, jL_add, jL_sub, jL_mul, jL_neg, jL_toI, jI_toL, jI_lt, jI_le, jI_eq, jL_lt, jL_le, jL_eq, inR_j, jI_clamp, nI_j, Option.bind_some, zc, u2, u3, u4, u5, wl, mo, if_pos, if_neg, ite_true, ite_false, c_d h, gI_uI, and_self]
      · refine ⟨jI (S 2 + x), uI (uL w 142 (2 : Int).toNat (jL (S 2 + x))) 141 12 (jI 0), ?_, RO.val (Sm.wL w (by unfold KM; omega)) rfl (h.put (by omega) (by omega))⟩
        have h' : RSt (uL w 142 (2 : Int).toNat (jL (S 2 + x))) 142 0 (up S 2 (S 2 + x)) := h.put (by omega) (by omega)
        have e := s_at h' (z := 2) (by omega) (by omega)
        rw [up_eq] at e
        unfold f_X11_buys
        simp (disch := omega) only [l32_0, l32_1, l32_2, l32_3, l32_4, l32_5, l32_6, l32_7, l32_8, l32_9, l32_10, l32_11, l32_12, l32_13, l32_14, l32_15, l32_16, l32_17, l32_18, l32_19, l32_20, l32_21, l32_22, l32_23, l32_24, l32_25, l32_26, l32_27, l32_28, l32_29, l32_30, l32_31, l32_32, l32_33, l32_34, l32_35, l32_36, l32_37, l32_38, l32_39, l32_40, l32_41, l32_42, l32_43, l32_44, l32_45, l32_46, l32_47, l32_48, l32_49, l32_50, l32_51, l32_52, l32_53, l32_54, l32_55, l32_56, l32_57, l32_58, l32_59, l32_60, l32_61, l32_62, l32_63, l32_64, l32_65, l32_66, l32_76, l32_86, l32_90, l32_92, l32_97, l32_98, l32_99, l32_100, l32_101, l32_102, l32_103, l32_104, l32_105, l32_106, l32_107, l32_108, l32_109, l32_110, l32_111, l32_112, l32_113, l32_114, l32_115, l32_116, l32_117, l32_118, l32_119, l32_120, l32_121, l32_122, l32_123, l32_124, l32_125, l32_126, l32_192, l32_200, l32_255, l32_999, l32_1000, l32_1344, l32_2147483639, l32_2147483647, l64_0, l64_1, l64_99, l64_999, l64_24883200000, l64_746496000000, jI_add, jI_sub, jI_mul, jI_neg, jL_add, jL_sub, jL_mul, jL_neg, jL_toI, jI_toL, jI_lt, jI_le, jI_eq, jL_lt, jL_le, jL_eq, inR_j, jI_clamp, nI_j, Option.bind_some, zc, u2, u3, u4, u5, wl, mo, if_pos, if_neg, ite_true, ite_false, s_in, bZ_eq0, r_g h, s_done, e]
    · refine ⟨.inl 2, ok_e (e := 2) (by decide), fun w h => ?_, fun w h => ?_⟩
      · refine ⟨jI (-3), w, ?_, CO.err (Sm.refl w) rfl h⟩
        unfold f_X1_addDrops
        simp (disch := omega) only [l32_0, l32_1, l32_2, l32_3, l32_4, l32_5, l32_6, l32_7, l32_8, l32_9, l32_10, l32_11, l32_12, l32_13, l32_14, l32_15, l32_16, l32_17, l32_18, l32_19, l32_20, l32_21, l32_22, l32_23, l32_24, l32_25, l32_26, l32_27, l32_28, l32_29, l32_30, l32_31, l32_32, l32_33, l32_34, l32_35, l32_36, l32_37, l32_38, l32_39, l32_40, l32_41, l32_42, l32_43, l32_44, l32_45, l32_46, l32_47, l32_48, l32_49, l32_50, l32_51, l32_52, l32_53, l32_54, l32_55, l32_56, l32_57, l32_58, l32_59, l32_60, l32_61, l32_62, l32_63, l32_64, l32_65, l32_66, l32_76, l32_86, l32_90, l32_92, l32_97, l32_98, l32_99, l32_100, l32_101, l32_102, l32_103, l32_104, l32_105, l32_106, l32_107, l32_108, l32_109, l32_110, l32_111, l32_112, l32_113, l32_114, l32_115, l32_116, l32_117, l32_118, l32_119, l32_120, l32_121, l32_122, l32_123, l32_124, l32_125, l32_126, l32_192, l32_200, l32_255, l32_999, l32_1000, l32_1344, l32_2147483639, l32_2147483647, l64_0, l64_1, l64_99, l64_999, l64_24883200000, l64_746496000000, jI_add, jI_sub, jI_mul, jI_neg, jL_add, jL_sub, jL_mul, jL_neg, jL_toI, jI_toL, jI_lt, jI_le, jI_eq, jL_lt, jL_le, jL_eq, inR_j, jI_clamp, nI_j, Option.bind_some, zc, u2, u3, u4, u5, wl, mo, if_pos, if_neg, ite_true, ite_false, c_d h]
      · refine ⟨jI 0, uI w 141 12 (jI 2), ?_, RO.err (Sm.refl w) rfl rfl⟩
        unfold f_X11_buys
        simp (disch := omega) only [l32_0, l32_1, l32_2, l32_3, l32_4, l32_5, l32_6, l32_7, l32_8, l32_9, l32_10, l32_11, l32_12, l32_13, l32_14, l32_15, l32_16, l32_17, l32_18, l32_19, l32_20, l32_21, l32_22, l32_23, l32_24, l32_25, l32_26, l32_27, l32_28, l32_29, l32_30, l32_31, l32_32, l32_33, l32_34, l32_35, l32_36, l32_37, l32_38, l32_39, l32_40, l32_41, l32_42, l32_43, l32_44, l32_45, l32_46, l32_47, l32_48, l32_49, l32_50, l32_51, l32_52, l32_53, l32_54, l32_55, l32_56, l32_57, l32_58, l32_59, l32_60, l32_61, l32_62, l32_63, l32_64, l32_65, l32_66, l32_76, l32_86, l32_90, l32_92, l32_97, l32_98, l32_99, l32_100, l32_101, l32_102, l32_103, l32_104, l32_105, l32_106, l32_107, l32_108, l32_109, l32_110, l32_111, l32_112, l32_113, l32_114, l32_115, l32_116, l32_117, l32_118, l32_119, l32_120, l32_121, l32_122, l32_123, l32_124, l32_125, l32_126, l32_192, l32_200, l32_255, l32_999, l32_1000, l32_1344, l32_2147483639, l32_2147483647, l64_0, l64_1, l64_99, l64_999, l64_24883200000, l64_746496000000, jI_add, jI_sub, jI_mul, jI_neg, jL_add, jL_sub, jL_mul, jL_neg, jL_toI, jI_toL, jI_lt, jI_le, jI_eq, jL_lt, jL_le, jL_eq, inR_j, jI_clamp, nI_j, Option.bind_some, zc, u2, u3, u4, u5, wl, mo, if_pos, if_neg, ite_true, ite_false, s_in, bZ_eq0, r_g h, s_fails]
  · refine ⟨.inl 1, ok_e (e := 1) (by decide), fun w h => ?_, fun w h => ?_⟩
    · refine ⟨jI (-2), w, ?_, CO.err (Sm.refl w) rfl h⟩
      unfold f_X1_addDrops
      by_cases q2 : x < 1
      · simp (disch := omega) only [l32_0, l32_1, l32_2, l32_3, l32_4, l32_5, l32_6, l32_7, l32_8, l32_9, l32_10, l32_11, l32_12, l32_13, l32_14, l32_15, l32_16, l32_17, l32_18, l32_19, l32_20, l32_21, l32_22, l32_23, l32_24, l32_25, l32_26, l32_27, l32_28, l32_29, l32_30, l32_31, l32_32, l32_33, l32_34, l32_35, l32_36, l32_37, l32_38, l32_39, l32_40, l32_41, l32_42, l32_43, l32_44, l32_45, l32_46, l32_47, l32_48, l32_49, l32_50, l32_51, l32_52, l32_53, l32_54, l32_55, l32_56, l32_57, l32_58, l32_59, l32_60, l32_61, l32_62, l32_63, l32_64, l32_65, l32_66, l32_76, l32_86, l32_90, l32_92, l32_97, l32_98, l32_99, l32_100, l32_101, l32_102, l32_103, l32_104, l32_105, l32_106, l32_107, l32_108, l32_109, l32_110, l32_111, l32_112, l32_113, l32_114, l32_115, l32_116, l32_117, l32_118, l32_119, l32_120, l32_121, l32_122, l32_123, l32_124, l32_125, l32_126, l32_192, l32_200, l32_255, l32_999, l32_1000, l32_1344, l32_2147483639, l32_2147483647, l64_0, l64_1, l64_99, l64_999, l64_24883200000, l64_746496000000, jI_add, jI_sub, jI_mul, jI_neg, jL_add, jL_sub, jL_mul, jL_neg, jL_toI, jI_toL, jI_lt, jI_le, jI_eq, jL_lt, jL_le, jL_eq, inR_j, jI_clamp, nI_j, Option.bind_some, zc, u2, u3, u4, u5, wl, mo, if_pos, if_neg, ite_true, ite_false]
      · simp (disch := omega) only [l32_0, l32_1, l32_2, l32_3, l32_4, l32_5, l32_6, l32_7, l32_8, l32_9, l32_10, l32_11, l32_12, l32_13, l32_14, l32_15, l32_16, l32_17, l32_18, l32_19, l32_20, l32_21, l32_22, l32_23, l32_24, l32_25, l32_26, l32_27, l32_28, l32_29, l32_30, l32_31, l32_32, l32_33, l32_34, l32_35, l32_36, l32_37, l32_38, l32_39, l32_40, l32_41, l32_42, l32_43, l32_44, l32_45, l32_46, l32_47, l32_48, l32_49, l32_50, l32_51, l32_52, l32_53, l32_54, l32_55, l32_56, l32_57, l32_58, l32_59, l32_60, l32_61, l32_62, l32_63, l32_64, l32_65, l32_66, l32_76, l32_86, l32_90, l32_92, l32_97, l32_98, l32_99, l32_100, l32_101, l32_102, l32_103, l32_104, l32_105, l32_106, l32_107, l32_108, l32_109, l32_110, l32_111, l32_112, l32_113, l32_114, l32_115, l32_116, l32_117, l32_118, l32_119, l32_120, l32_121, l32_122, l32_123, l32_124, l32_125, l32_126, l32_192, l32_200, l32_255, l32_999, l32_1000, l32_1344, l32_2147483639, l32_2147483647, l64_0, l64_1, l64_99, l64_999, l64_24883200000, l64_746496000000, jI_add, jI_sub, jI_mul, jI_neg, jL_add, jL_sub, jL_mul, jL_neg, jL_toI, jI_toL, jI_lt, jI_le, jI_eq, jL_lt, jL_le, jL_eq, inR_j, jI_clamp, nI_j, Option.bind_some, zc, u2, u3, u4, u5, wl, mo, if_pos, if_neg, ite_true, ite_false]
    · refine ⟨jI 0, uI w 141 12 (jI 1), ?_, RO.err (Sm.refl w) rfl rfl⟩
      unfold f_X11_buys
      simp (disch := omega) only [l32_0, l32_1, l32_2, l32_3, l32_4, l32_5, l32_6, l32_7, l32_8, l32_9, l32_10, l32_11, l32_12, l32_13, l32_14, l32_15, l32_16, l32_17, l32_18, l32_19, l32_20, l32_21, l32_22, l32_23, l32_24, l32_25, l32_26, l32_27, l32_28, l32_29, l32_30, l32_31, l32_32, l32_33, l32_34, l32_35, l32_36, l32_37, l32_38, l32_39, l32_40, l32_41, l32_42, l32_43, l32_44, l32_45, l32_46, l32_47, l32_48, l32_49, l32_50, l32_51, l32_52, l32_53, l32_54, l32_55, l32_56, l32_57, l32_58, l32_59, l32_60, l32_61, l32_62, l32_63, l32_64, l32_65, l32_66, l32_76, l32_86, l32_90, l32_92, l32_97, l32_98, l32_99, l32_100, l32_101, l32_102, l32_103, l32_104, l32_105, l32_106, l32_107, l32_108, l32_109, l32_110, l32_111, l32_112, l32_113, l32_114, l32_115, l32_116, l32_117, l32_118, l32_119, l32_120, l32_121, l32_122, l32_123, l32_124, l32_125, l32_126, l32_192, l32_200, l32_255, l32_999, l32_1000, l32_1344, l32_2147483639, l32_2147483647, l64_0, l64_1, l64_99, l64_999, l64_24883200000, l64_746496000000, jI_add, jI_sub, jI_mul, jI_neg, jL_add, jL_sub, jL_mul, jL_neg, jL_toI, jI_toL, jI_lt, jI_le, jI_eq, jL_lt, jL_le, jL_eq, inR_j, jI_clamp, nI_j, Option.bind_some, zc, u2, u3, u4, u5, wl, mo, if_pos, if_neg, ite_true, ite_false, s_in, bZ_eq0, s_fails]
/-- a change of one gear's own numbers -/
theorem Good.fld {S : Ab} (hG : Good S) {z v i : Int} (hi : 0 ≤ i ∧ i < 10) (hz : z = 16 + i ∨ z = 26 + i ∨ z = 36 + i ∨ z = 46 + i ∨ z = 56 + i ∨ z = 66 + i ∨ z = 76 + i) (hg : Gg (up S z v) i) (hs : sm (fun j => up S z v (36 + j)) 10 = S 3 - S 4) : Good (up S z v) := by
  have d := hG.1
  refine hG.of (up_ne (by omega)) (up_ne (by omega)) (by rw [up_ne (by omega)]; omega) (fun i i0 i1 => up_ne (by omega)) (fun i i0 i1 => up_ne (by omega)) (fun i i0 i1 => up_ne (by omega)) (fun j j0 j1 => ?_) ?_
  · by_cases q : j = i
    · rw [q]; exact hg
    · unfold Gg
      rw [up_ne (x := 0) (by omega), up_ne (x := 6 + j) (by omega), up_ne (x := 16 + j) (by omega), up_ne (x := 26 + j) (by omega), up_ne (x := 36 + j) (by omega), up_ne (x := 46 + j) (by omega), up_ne (x := 56 + j) (by omega), up_ne (x := 66 + j) (by omega), up_ne (x := 76 + j) (by omega)]
      exact hG.2.1 j j0 j1
  · rw [up_ne (x := 3) (by omega), up_ne (x := 4) (by omega)]
    exact hs
theorem Good.fld' {S : Ab} (hG : Good S) {z v i : Int} (hi : 0 ≤ i ∧ i < 10) (hz : z = 16 + i ∨ z = 26 + i ∨ z = 46 + i ∨ z = 56 + i ∨ z = 66 + i ∨ z = 76 + i) (hg : Gg (up S z v) i) : Good (up S z v) :=
  hG.fld hi (by omega) hg (by
    rw [← hG.2.2.2.2.2.1]
    exact sm_congr (fun i h0 h1 => up_ne (by omega)))
theorem op_ratchet {S : Ab} (hG : Good S) {x b : Int} (x1 : -2147483648 ≤ x) (x2 : x < 2147483648) (hb : b = 0 ∨ b = 1) : Op S [0] (fun e => (e : Int) + 1) (fun w => f_X1_putRatchet w (jI x) (jI b)) (fun w => f_X11_ratchets w (jI x) (jI b)) := by
  have hg := hG.1
  by_cases q : 0 ≤ x ∧ x < S 0
  · have k := hG.2.1 x q.1 (by omega)
    have k6 := k.2.2.2.2.2.1
    refine ⟨.inr (S (56 + x), up S (56 + x) b), ⟨by omega, by omega, hG.fld' ⟨q.1, by omega⟩ (by omega) ?_⟩, fun w h => ?_, fun w h => ?_⟩
    · unfold Gg
      rw [up_eq, up_ne (x := 0) (by omega), up_ne (x := 6 + x) (by omega), up_ne (x := 16 + x) (by omega), up_ne (x := 26 + x) (by omega), up_ne (x := 36 + x) (by omega), up_ne (x := 46 + x) (by omega), up_ne (x := 66 + x) (by omega), up_ne (x := 76 + x) (by omega)]
      exact ⟨k.1, k.2.1, k.2.2.1, k.2.2.2.1, k.2.2.2.2.1, hb, k.2.2.2.2.2.2⟩
    · refine ⟨jI (S (56 + x)), uI w 6 x.toNat (jI b), ?_, CO.val (Sm.wI w (by unfold KC; omega)) rfl (h.put_r (by omega) (by omega))⟩
      have e : vp_nar .boolean (jI b) = jI b := z_bool (by omega) (by omega) hb
      unfold f_X1_putRatchet
      rcases k6 with k6 | k6 <;> (simp (disch := omega) only [l32_0, l32_1, l32_2, l32_3, l32_4, l32_5, l32_6, l32_7, l32_8, l32_9, l32_10, l32_11, l32_12, l32_13, l32_14, l32_15, l32_16, l32_17, l32_18, l32_19, l32_20, l32_21, l32_22, l32_23, l32_24, l32_25, l32_26, l32_27, l32_28, l32_29, l32_30, l32_31, l32_32, l32_33, l32_34, l32_35, l32_36, l32_37, l32_38, l32_39, l32_40, l32_41, l32_42, l32_43, l32_44, l32_45, l32_46, l32_47, l32_48, l32_49, l32_50, l32_51, l32_52, l32_53, l32_54, l32_55, l32_56, l32_57, l32_58, l32_59, l32_60, l32_61, l32_62, l32_63, l32_64, l32_65, l32_66, l32_76, l32_86, l32_90, l32_92, l32_97, l32_98, l32_99, l32_100, l32_101, l32_102, l32_103, l32_104, l32_105, l32_106, l32_107, l32_108, l32_109, l32_110, l32_111, l32_112, l32_113, l32_114, l32_115, l32_116, l32_117, l32_118, l32_119, l32_120, l32_121, l32_122, l32_123, l32_124, l32_125, l32_126, l32_192, l32_200, l32_255, l32_999, l32_1000, l32_1344, l32_2147483639, l32_2147483647, l64_0, l64_1, l64_99, l64_999, l64_24883200000, l64_746496000000, jI_add, jI_sub, jI_mul, jI_neg, jL_add, jL_sub, jL_mul, jL_neg, jL_toI, jI_toL, jI_lt, jI_le, jI_eq, jL_lt, jL_le, jL_eq, inR_j, jI_clamp, nI_j, Option.bind_some, zc, u2, u3, u4, u5, wl, mo, if_pos, if_neg, ite_true, ite_false, s_isGear h hG, bZ_eq0, c_r h, e, k6])
    · refine ⟨jI (S (56 + x)), uI (uL w 142 (56 + x).toNat (jL b)) 141 12 (jI 0), ?_, RO.val (Sm.wL w (by unfold KM; omega)) rfl (h.put (by omega) (by omega))⟩
      unfold f_X11_ratchets
      rcases hb with rfl | rfl <;> (simp (disch := omega) only [l32_0, l32_1, l32_2, l32_3, l32_4, l32_5, l32_6, l32_7, l32_8, l32_9, l32_10, l32_11, l32_12, l32_13, l32_14, l32_15, l32_16, l32_17, l32_18, l32_19, l32_20, l32_21, l32_22, l32_23, l32_24, l32_25, l32_26, l32_27, l32_28, l32_29, l32_30, l32_31, l32_32, l32_33, l32_34, l32_35, l32_36, l32_37, l32_38, l32_39, l32_40, l32_41, l32_42, l32_43, l32_44, l32_45, l32_46, l32_47, l32_48, l32_49, l32_50, l32_51, l32_52, l32_53, l32_54, l32_55, l32_56, l32_57, l32_58, l32_59, l32_60, l32_61, l32_62, l32_63, l32_64, l32_65, l32_66, l32_76, l32_86, l32_90, l32_92, l32_97, l32_98, l32_99, l32_100, l32_101, l32_102, l32_103, l32_104, l32_105, l32_106, l32_107, l32_108, l32_109, l32_110, l32_111, l32_112, l32_113, l32_114, l32_115, l32_116, l32_117, l32_118, l32_119, l32_120, l32_121, l32_122, l32_123, l32_124, l32_125, l32_126, l32_192, l32_200, l32_255, l32_999, l32_1000, l32_1344, l32_2147483639, l32_2147483647, l64_0, l64_1, l64_99, l64_999, l64_24883200000, l64_746496000000, jI_add, jI_sub, jI_mul, jI_neg, jL_add, jL_sub, jL_mul, jL_neg, jL_toI, jI_toL, jI_lt, jI_le, jI_eq, jL_lt, jL_le, jL_eq, inR_j, jI_clamp, nI_j, Option.bind_some, zc, u2, u3, u4, u5, wl, mo, if_pos, if_neg, ite_true, ite_false, s_rIsGear h hG, bZ_eq0, s_at h, s_done])
  · refine ⟨.inl 0, ok_e (e := 0) (by decide), fun w h => ?_, fun w h => ?_⟩
    · refine ⟨jI (-1), w, ?_, CO.err (Sm.refl w) rfl h⟩
      unfold f_X1_putRatchet
      simp (disch := omega) only [l32_0, l32_1, l32_2, l32_3, l32_4, l32_5, l32_6, l32_7, l32_8, l32_9, l32_10, l32_11, l32_12, l32_13, l32_14, l32_15, l32_16, l32_17, l32_18, l32_19, l32_20, l32_21, l32_22, l32_23, l32_24, l32_25, l32_26, l32_27, l32_28, l32_29, l32_30, l32_31, l32_32, l32_33, l32_34, l32_35, l32_36, l32_37, l32_38, l32_39, l32_40, l32_41, l32_42, l32_43, l32_44, l32_45, l32_46, l32_47, l32_48, l32_49, l32_50, l32_51, l32_52, l32_53, l32_54, l32_55, l32_56, l32_57, l32_58, l32_59, l32_60, l32_61, l32_62, l32_63, l32_64, l32_65, l32_66, l32_76, l32_86, l32_90, l32_92, l32_97, l32_98, l32_99, l32_100, l32_101, l32_102, l32_103, l32_104, l32_105, l32_106, l32_107, l32_108, l32_109, l32_110, l32_111, l32_112, l32_113, l32_114, l32_115, l32_116, l32_117, l32_118, l32_119, l32_120, l32_121, l32_122, l32_123, l32_124, l32_125, l32_126, l32_192, l32_200, l32_255, l32_999, l32_1000, l32_1344, l32_2147483639, l32_2147483647, l64_0, l64_1, l64_99, l64_999, l64_24883200000, l64_746496000000, jI_add, jI_sub, jI_mul, jI_neg, jL_add, jL_sub, jL_mul, jL_neg, jL_toI, jI_toL, jI_lt, jI_le, jI_eq, jL_lt, jL_le, jL_eq, inR_j, jI_clamp, nI_j, Option.bind_some, zc, u2, u3, u4, u5, wl, mo, if_pos, if_neg, ite_true, ite_false, s_isGear h hG, bZ_eq0]
    · refine ⟨jI 0, uI w 141 12 (jI 1), ?_, RO.err (Sm.refl w) rfl rfl⟩
      unfold f_X11_ratchets
      simp (disch := omega) only [l32_0, l32_1, l32_2, l32_3, l32_4, l32_5, l32_6, l32_7, l32_8, l32_9, l32_10, l32_11, l32_12, l32_13, l32_14, l32_15, l32_16, l32_17, l32_18, l32_19, l32_20, l32_21, l32_22, l32_23, l32_24, l32_25, l32_26, l32_27, l32_28, l32_29, l32_30, l32_31, l32_32, l32_33, l32_34, l32_35, l32_36, l32_37, l32_38, l32_39, l32_40, l32_41, l32_42, l32_43, l32_44, l32_45, l32_46, l32_47, l32_48, l32_49, l32_50, l32_51, l32_52, l32_53, l32_54, l32_55, l32_56, l32_57, l32_58, l32_59, l32_60, l32_61, l32_62, l32_63, l32_64, l32_65, l32_66, l32_76, l32_86, l32_90, l32_92, l32_97, l32_98, l32_99, l32_100, l32_101, l32_102, l32_103, l32_104, l32_105, l32_106, l32_107, l32_108, l32_109, l32_110, l32_111, l32_112, l32_113, l32_114, l32_115, l32_116, l32_117, l32_118, l32_119, l32_120, l32_121, l32_122, l32_123, l32_124, l32_125, l32_126, l32_192, l32_200, l32_255, l32_999, l32_1000, l32_1344, l32_2147483639, l32_2147483647, l64_0, l64_1, l64_99, l64_999, l64_24883200000, l64_746496000000, jI_add, jI_sub, jI_mul, jI_neg, jL_add, jL_sub, jL_mul, jL_neg, jL_toI, jI_toL, jI_lt, jI_le, jI_eq, jL_lt, jL_le, jL_eq, inR_j, jI_clamp, nI_j, Option.bind_some, zc, u2, u3, u4, u5, wl, mo, if_pos, if_neg, ite_true, ite_false, s_rIsGear h hG, bZ_eq0, s_fails]
theorem op_reverse {S : Ab} (hG : Good S) {x : Int} (x1 : -2147483648 ≤ x) (x2 : x < 2147483648) : Op S [0, 4] (fun e => if e = 0 then 1 else 2) (fun w => f_X1_turnRound w (jI x)) (fun w => f_X11_reverses w (jI x)) := by
  have hg := hG.1
  by_cases q : 0 ≤ x ∧ x < S 0
  · have k := hG.2.1 x q.1 (by omega)
    have k7 := k.2.2.2.2.2.2.1
    by_cases q2 : 0 < S (26 + x)
    · refine ⟨.inr (1 - S (46 + x), up S (46 + x) (1 - S (46 + x))), ⟨by omega, by omega, hG.fld' ⟨q.1, by omega⟩ (by omega) ?_⟩, fun w h => ?_, fun w h => ?_⟩
      · unfold Gg
        rw [up_eq, up_ne (x := 0) (by omega), up_ne (x := 6 + x) (by omega), up_ne (x := 16 + x) (by omega), up_ne (x := 26 + x) (by omega), up_ne (x := 36 + x) (by omega), up_ne (x := 56 + x) (by omega), up_ne (x := 66 + x) (by omega), up_ne (x := 76 + x) (by omega)]
        exact ⟨k.1, k.2.1, k.2.2.1, k.2.2.2.1, k.2.2.2.2.1, k.2.2.2.2.2.1, by omega, k.2.2.2.2.2.2.2⟩
      · refine ⟨jI (1 - S (46 + x)), uI w 9 x.toNat (jI (1 - S (46 + x))), ?_, CO.val (Sm.wI w (by unfold KC; omega)) rfl (h.put_v (by omega) (by omega))⟩
        unfold f_X1_turnRound
        rcases k7 with k7 | k7
        · simp (disch := omega) only [l32_0, l32_1, l32_2, l32_3, l32_4, l32_5, l32_6, l32_7, l32_8, l32_9, l32_10, l32_11, l32_12, l32_13, l32_14, l32_15, l32_16, l32_17, l32_18, l32_19, l32_20, l32_21, l32_22, l32_23, l32_24, l32_25, l32_26, l32_27, l32_28, l32_29, l32_30, l32_31, l32_32, l32_33, l32_34, l32_35, l32_36, l32_37, l32_38, l32_39, l32_40, l32_41, l32_42, l32_43, l32_44, l32_45, l32_46, l32_47, l32_48, l32_49, l32_50, l32_51, l32_52, l32_53, l32_54, l32_55, l32_56, l32_57, l32_58, l32_59, l32_60, l32_61, l32_62, l32_63, l32_64, l32_65, l32_66, l32_76, l32_86, l32_90, l32_92, l32_97, l32_98, l32_99, l32_100, l32_101, l32_102, l32_103, l32_104, l32_105, l32_106, l32_107, l32_108, l32_109, l32_110, l32_111, l32_112, l32_113, l32_114, l32_115, l32_116, l32_117, l32_118, l32_119, l32_120, l32_121, l32_122, l32_123, l32_124, l32_125, l32_126, l32_192, l32_200, l32_255, l32_999, l32_1000, l32_1344, l32_2147483639, l32_2147483647, l64_0, l64_1, l64_99, l64_999, l64_24883200000, l64_746496000000, jI_add, jI_sub, jI_mul, jI_neg, jL_add, jL_sub, jL_mul, jL_neg, jL_toI, jI_toL, jI_lt, jI_le, jI_eq, jL_lt, jL_le, jL_eq, inR_j, jI_clamp, nI_j, Option.bind_some, zc, u2, u3, u4, u5, wl, mo, if_pos, if_neg, ite_true, ite_false, s_isGear h hG, s_hasSpring h hG, bZ_eq0, c_v h, k7, gI_uI, nar_b0, nar_b1, and_self] <;> rfl
        · simp (disch := omega) only [l32_0, l32_1, l32_2, l32_3, l32_4, l32_5, l32_6, l32_7, l32_8, l32_9, l32_10, l32_11, l32_12, l32_13, l32_14, l32_15, l32_16, l32_17, l32_18, l32_19, l32_20, l32_21, l32_22, l32_23, l32_24, l32_25, l32_26, l32_27, l32_28, l32_29, l32_30, l32_31, l32_32, l32_33, l32_34, l32_35, l32_36, l32_37, l32_38, l32_39, l32_40, l32_41, l32_42, l32_43, l32_44, l32_45, l32_46, l32_47, l32_48, l32_49, l32_50, l32_51, l32_52, l32_53, l32_54, l32_55, l32_56, l32_57, l32_58, l32_59, l32_60, l32_61, l32_62, l32_63, l32_64, l32_65, l32_66, l32_76, l32_86, l32_90, l32_92, l32_97, l32_98, l32_99, l32_100, l32_101, l32_102, l32_103, l32_104, l32_105, l32_106, l32_107, l32_108, l32_109, l32_110, l32_111, l32_112, l32_113, l32_114, l32_115, l32_116, l32_117, l32_118, l32_119, l32_120, l32_121, l32_122, l32_123, l32_124, l32_125, l32_126, l32_192, l32_200, l32_255, l32_999, l32_1000, l32_1344, l32_2147483639, l32_2147483647, l64_0, l64_1, l64_99, l64_999, l64_24883200000, l64_746496000000, jI_add, jI_sub, jI_mul, jI_neg, jL_add, jL_sub, jL_mul, jL_neg, jL_toI, jI_toL, jI_lt, jI_le, jI_eq, jL_lt, jL_le, jL_eq, inR_j, jI_clamp, nI_j, Option.bind_some, zc, u2, u3, u4, u5, wl, mo, if_pos, if_neg, ite_true, ite_false, s_isGear h hG, s_hasSpring h hG, bZ_eq0, c_v h, k7, gI_uI, nar_b0, nar_b1, and_self] <;> rfl
      · refine ⟨jI (1 - S (46 + x)), uI (uL w 142 (46 + x).toNat (jL (1 - S (46 + x)))) 141 12 (jI 0), ?_, RO.val (Sm.wL w (by unfold KM; omega)) rfl (h.put (by omega) (by omega))⟩
        have h' : RSt (uL w 142 (46 + x).toNat (jL (1 - S (46 + x)))) 142 0 (up S (46 + x) (1 - S (46 + x))) := h.put (by omega) (by omega)
        have e := s_at h' (z := 46 + x) (by omega) (by omega)
        rw [up_eq] at e
        unfold f_X11_reverses
        simp (disch := omega) only [l32_0, l32_1, l32_2, l32_3, l32_4, l32_5, l32_6, l32_7, l32_8, l32_9, l32_10, l32_11, l32_12, l32_13, l32_14, l32_15, l32_16, l32_17, l32_18, l32_19, l32_20, l32_21, l32_22, l32_23, l32_24, l32_25, l32_26, l32_27, l32_28, l32_29, l32_30, l32_31, l32_32, l32_33, l32_34, l32_35, l32_36, l32_37, l32_38, l32_39, l32_40, l32_41, l32_42, l32_43, l32_44, l32_45, l32_46, l32_47, l32_48, l32_49, l32_50, l32_51, l32_52, l32_53, l32_54, l32_55, l32_56, l32_57, l32_58, l32_59, l32_60, l32_61, l32_62, l32_63, l32_64, l32_65, l32_66, l32_76, l32_86, l32_90, l32_92, l32_97, l32_98, l32_99, l32_100, l32_101, l32_102, l32_103, l32_104, l32_105, l32_106, l32_107, l32_108, l32_109, l32_110, l32_111, l32_112, l32_113, l32_114, l32_115, l32_116, l32_117, l32_118, l32_119, l32_120, l32_121, l32_122, l32_123, l32_124, l32_125, l32_126, l32_192, l32_200, l32_255, l32_999, l32_1000, l32_1344, l32_2147483639, l32_2147483647, l64_0, l64_1, l64_99, l64_999, l64_24883200000, l64_746496000000, jI_add, jI_sub, jI_mul, jI_neg, jL_add, jL_sub, jL_mul, jL_neg, jL_toI, jI_toL, jI_lt, jI_le, jI_eq, jL_lt, jL_le, jL_eq, inR_j, jI_clamp, nI_j, Option.bind_some, zc, u2, u3, u4, u5, wl, mo, if_pos, if_neg, ite_true, ite_false, s_rIsGear h hG, s_rHasSpring h hG, bZ_eq0, r_g h, s_done, e]
    · refine ⟨.inl 4, ok_e (e := 4) (by decide), fun w h => ?_, fun w h => ?_⟩
      · refine ⟨jI (-5), w, ?_, CO.err (Sm.refl w) rfl h⟩
        unfold f_X1_turnRound
        simp (disch := omega) only [l32_0, l32_1, l32_2, l32_3, l32_4, l32_5, l32_6, l32_7, l32_8, l32_9, l32_10, l32_11, l32_12, l32_13, l32_14, l32_15, l32_16, l32_17, l32_18, l32_19, l32_20, l32_21, l32_22, l32_23, l32_24, l32_25, l32_26, l32_27, l32_28, l32_29, l32_30, l32_31, l32_32, l32_33, l32_34, l32_35, l32_36, l32_37, l32_38, l32_39, l32_40, l32_41, l32_42, l32_43, l32_44, l32_45, l32_46, l32_47, l32_48, l32_49, l32_50, l32_51, l32_52, l32_53, l32_54, l32_55, l32_56, l32_57, l32_58, l32_59, l32_60, l32_61, l32_62, l32_63, l32_64, l32_65, l32_66, l32_76, l32_86, l32_90, l32_92, l32_97, l32_98, l32_99, l32_100, l32_101, l32_102, l32_103, l32_104, l32_105, l32_106, l32_107, l32_108, l32_109, l32_110, l32_111, l32_112, l32_113, l32_114, l32_115, l32_116, l32_117, l32_118, l32_119, l32_120, l32_121, l32_122, l32_123, l32_124, l32_125, l32_126, l32_192, l32_200, l32_255, l32_999, l32_1000, l32_1344, l32_2147483639, l32_2147483647, l64_0, l64_1, l64_99, l64_999, l64_24883200000, l64_746496000000, jI_add, jI_sub, jI_mul, jI_neg, jL_add, jL_sub, jL_mul, jL_neg, jL_toI, jI_toL, jI_lt, jI_le, jI_eq, jL_lt, jL_le, jL_eq, inR_j, jI_clamp, nI_j, Option.bind_some, zc, u2, u3, u4, u5, wl, mo, if_pos, if_neg, ite_true, ite_false, s_isGear h hG, s_hasSpring h hG, bZ_eq0]
      · refine ⟨jI 0, uI w 141 12 (jI 2), ?_, RO.err (Sm.refl w) rfl rfl⟩
        unfold f_X11_reverses
        simp (disch := omega) only [l32_0, l32_1, l32_2, l32_3, l32_4, l32_5, l32_6, l32_7, l32_8, l32_9, l32_10, l32_11, l32_12, l32_13, l32_14, l32_15, l32_16, l32_17, l32_18, l32_19, l32_20, l32_21, l32_22, l32_23, l32_24, l32_25, l32_26, l32_27, l32_28, l32_29, l32_30, l32_31, l32_32, l32_33, l32_34, l32_35, l32_36, l32_37, l32_38, l32_39, l32_40, l32_41, l32_42, l32_43, l32_44, l32_45, l32_46, l32_47, l32_48, l32_49, l32_50, l32_51, l32_52, l32_53, l32_54, l32_55, l32_56, l32_57, l32_58, l32_59, l32_60, l32_61, l32_62, l32_63, l32_64, l32_65, l32_66, l32_76, l32_86, l32_90, l32_92, l32_97, l32_98, l32_99, l32_100, l32_101, l32_102, l32_103, l32_104, l32_105, l32_106, l32_107, l32_108, l32_109, l32_110, l32_111, l32_112, l32_113, l32_114, l32_115, l32_116, l32_117, l32_118, l32_119, l32_120, l32_121, l32_122, l32_123, l32_124, l32_125, l32_126, l32_192, l32_200, l32_255, l32_999, l32_1000, l32_1344, l32_2147483639, l32_2147483647, l64_0, l64_1, l64_99, l64_999, l64_24883200000, l64_746496000000, jI_add, jI_sub, jI_mul, jI_neg, jL_add, jL_sub, jL_mul, jL_neg, jL_toI, jI_toL, jI_lt, jI_le, jI_eq, jL_lt, jL_le, jL_eq, inR_j, jI_clamp, nI_j, Option.bind_some, zc, u2, u3, u4, u5, wl, mo, if_pos, if_neg, ite_true, ite_false, s_rIsGear h hG, s_rHasSpring h hG, bZ_eq0, s_fails]
  · refine ⟨.inl 0, ok_e (e := 0) (by decide), fun w h => ?_, fun w h => ?_⟩
    · refine ⟨jI (-1), w, ?_, CO.err (Sm.refl w) rfl h⟩
      unfold f_X1_turnRound
      simp (disch := omega) only [l32_0, l32_1, l32_2, l32_3, l32_4, l32_5, l32_6, l32_7, l32_8, l32_9, l32_10, l32_11, l32_12, l32_13, l32_14, l32_15, l32_16, l32_17, l32_18, l32_19, l32_20, l32_21, l32_22, l32_23, l32_24, l32_25, l32_26, l32_27, l32_28, l32_29, l32_30, l32_31, l32_32, l32_33, l32_34, l32_35, l32_36, l32_37, l32_38, l32_39, l32_40, l32_41, l32_42, l32_43, l32_44, l32_45, l32_46, l32_47, l32_48, l32_49, l32_50, l32_51, l32_52, l32_53, l32_54, l32_55, l32_56, l32_57, l32_58, l32_59, l32_60, l32_61, l32_62, l32_63, l32_64, l32_65, l32_66, l32_76, l32_86, l32_90, l32_92, l32_97, l32_98, l32_99, l32_100, l32_101, l32_102, l32_103, l32_104, l32_105, l32_106, l32_107, l32_108, l32_109, l32_110, l32_111, l32_112, l32_113, l32_114, l32_115, l32_116, l32_117, l32_118, l32_119, l32_120, l32_121, l32_122, l32_123, l32_124, l32_125, l32_126, l32_192, l32_200, l32_255, l32_999, l32_1000, l32_1344, l32_2147483639, l32_2147483647, l64_0, l64_1, l64_99, l64_999, l64_24883200000, l64_746496000000, jI_add, jI_sub, jI_mul, jI_neg, jL_add, jL_sub, jL_mul, jL_neg, jL_toI, jI_toL, jI_lt, jI_le, jI_eq, jL_lt, jL_le, jL_eq, inR_j, jI_clamp, nI_j, Option.bind_some, zc, u2, u3, u4, u5, wl, mo, if_pos, if_neg, ite_true, ite_false, s_isGear h hG, bZ_eq0]
    · refine ⟨jI 0, uI w 141 12 (jI 1), ?_, RO.err (Sm.refl w) rfl rfl⟩
      unfold f_X11_reverses
      simp (disch := omega) only [l32_0, l32_1, l32_2, l32_3, l32_4, l32_5, l32_6, l32_7, l32_8, l32_9, l32_10, l32_11, l32_12, l32_13, l32_14, l32_15, l32_16, l32_17, l32_18, l32_19, l32_20, l32_21, l32_22, l32_23, l32_24, l32_25, l32_26, l32_27, l32_28, l32_29, l32_30, l32_31, l32_32, l32_33, l32_34, l32_35, l32_36, l32_37, l32_38, l32_39, l32_40, l32_41, l32_42, l32_43, l32_44, l32_45, l32_46, l32_47, l32_48, l32_49, l32_50, l32_51, l32_52, l32_53, l32_54, l32_55, l32_56, l32_57, l32_58, l32_59, l32_60, l32_61, l32_62, l32_63, l32_64, l32_65, l32_66, l32_76, l32_86, l32_90, l32_92, l32_97, l32_98, l32_99, l32_100, l32_101, l32_102, l32_103, l32_104, l32_105, l32_106, l32_107, l32_108, l32_109, l32_110, l32_111, l32_112, l32_113, l32_114, l32_115, l32_116, l32_117, l32_118, l32_119, l32_120, l32_121, l32_122, l32_123, l32_124, l32_125, l32_126, l32_192, l32_200, l32_255, l32_999, l32_1000, l32_1344, l32_2147483639, l32_2147483647, l64_0, l64_1, l64_99, l64_999, l64_24883200000, l64_746496000000, jI_add, jI_sub, jI_mul, jI_neg, jL_add, jL_sub, jL_mul, jL_neg, jL_toI, jI_toL, jI_lt, jI_le, jI_eq, jL_lt, jL_le, jL_eq, inR_j, jI_clamp, nI_j, Option.bind_some, zc, u2, u3, u4, u5, wl, mo, if_pos, if_neg, ite_true, ite_false, s_rIsGear h hG, bZ_eq0, s_fails]
theorem op_wind {S : Ab} (hG : Good S) {x a : Int} (x1 : -2147483648 ≤ x) (x2 : x < 2147483648) (a1 : -2147483648 ≤ a) (a2 : a < 2147483648) : Op S [0, 1, 4, 2] (fun e => if e = 0 then 1 else if e = 1 then 2 else if e = 4 then 3 else 4) (fun w => f_X1_tighten w (jI x) (jI a)) (fun w => f_X11_winds w (jI x) (jI a)) := by
  have hg := hG.1
  by_cases q : 0 ≤ x ∧ x < S 0
  · have k := hG.2.1 x q.1 (by omega)
    have k8 := k.2.2.2.2.2.2.2
    by_cases q1 : 1 ≤ a ∧ a ≤ 200
    · by_cases q2 : 0 < S (26 + x)
      · by_cases q3 : S (36 + x) + a ≤ S (26 + x)
        · have hG' : Good (up (up S (36 + x) (S (36 + x) + a)) 3 (S 3 + a)) := by
            refine hG.of (by rw [up_ne (by omega), up_ne (by omega)]) (by rw [up_ne (by omega), up_ne (by omega)]) (by rw [up_ne (by omega), up_ne (by omega)]; omega) (fun i i0 i1 => by rw [up_ne (by omega), up_ne (by omega)]) (fun i i0 i1 => by rw [up_ne (by omega), up_ne (by omega)]) (fun i i0 i1 => by rw [up_ne (by omega), up_ne (by omega)]) (fun i i0 i1 => ?_) ?_
            · have k := hG.2.1 i i0 i1
              unfold Gg
              rw [up_ne (x := 0) (by omega), up_ne (x := 0) (by omega), up_ne (x := 6 + i) (by omega), up_ne (x := 6 + i) (by omega), up_ne (x := 16 + i) (by omega), up_ne (x := 16 + i) (by omega), up_ne (x := 26 + i) (by omega), up_ne (x := 26 + i) (by omega), up_ne (x := 46 + i) (by omega), up_ne (x := 46 + i) (by omega), up_ne (x := 56 + i) (by omega), up_ne (x := 56 + i) (by omega), up_ne (x := 66 + i) (by omega), up_ne (x := 66 + i) (by omega), up_ne (x := 76 + i) (by omega), up_ne (x := 76 + i) (by omega), up_ne (x := 36 + i) (by omega)]
              by_cases z : i = x
              · subst z
                rw [up_eq]
                exact ⟨k.1, k.2.1, k.2.2.1, k.2.2.2.1, k.2.2.2.2.1, k.2.2.2.2.2.1, k.2.2.2.2.2.2.1, k.2.2.2.2.2.2.2.1, by omega⟩
              · rw [up_ne (x := 36 + i) (by omega)]
                exact k
            · rw [up_eq, up_ne (x := 4) (by omega), up_ne (x := 4) (by omega)]
              have e := hG.2.2.2.2.2.1
              rw [sm_up (g := fun i => up (up S (36 + x) (S (36 + x) + a)) 3 (S 3 + a) (36 + i)) (h := fun i => S (36 + i)) (k := x) q.1 (by omega) (fun i i0 i1 i2 => by show up (up S (36 + x) (S (36 + x) + a)) 3 (S 3 + a) (36 + i) = S (36 + i); rw [up_ne (by omega), up_ne (by omega)]), e]
              show S 3 - S 4 + (up (up S (36 + x) (S (36 + x) + a)) 3 (S 3 + a) (36 + x) - S (36 + x)) = _
              rw [up_ne (by omega), up_eq]
              omega
          refine ⟨.inr (S (36 + x) + a, up (up S (36 + x) (S (36 + x) + a)) 3 (S 3 + a)), ⟨by omega, by omega, hG'⟩, fun w h => ?_, fun w h => ?_⟩
          · refine ⟨jI (S (36 + x) + a), uI (uI w 8 x.toNat (jI (S (36 + x) + a))) 1 14 (jI (S 3 + a)), ?_, CO.val ((Sm.wI w (by unfold KC; omega)).tr (Sm.wI _ (by unfold KC; omega))) rfl (h.put_n (by omega) (by omega)).put_wd⟩
            unfold f_X1_tighten
            simp (disch := omega) only [l32_0, l32_1, l32_2, l32_3, l32_4, l32_5, l32_6, l32_7, l32_8, l32_9, l32_10, l32_11, l32_12, l32_13, l32_14, l32_15, l32_16, l32_17, l32_18, l32_19, l32_20, l32_21, l32_22, l32_23, l32_24, l32_25, l32_26, l32_27, l32_28, l32_29, l32_30, l32_31, l32_32, l32_33, l32_34, l32_35, l32_36, l32_37, l32_38, l32_39, l32_40, l32_41, l32_42, l32_43, l32_44, l32_45, l32_46, l32_47, l32_48, l32_49, l32_50, l32_51, l32_52, l32_53, l32_54, l32_55, l32_56, l32_57, l32_58, l32_59, l32_60, l32_61, l32_62, l32_63, l32_64, l32_65, l32_66, l32_76, l32_86, l32_90, l32_92, l32_97, l32_98, l32_99, l32_100, l32_101, l32_102, l32_103, l32_104, l32_105, l32_106, l32_107, l32_108, l32_109, l32_110, l32_111, l32_112, l32_113, l32_114, l32_115, l32_116, l32_117, l32_118, l32_119, l32_120, l32_121, l32_122, l32_123, l32_124, l32_125, l32_126, l32_192, l32_200, l32_255, l32_999, l32_1000, l32_1344, l32_2147483639, l32_2147483647, l64_0, l64_1, l64_99, l64_999, l64_24883200000, l64_746496000000, jI_add, jI_sub, jI_mul, jI_neg, jL_add, jL_sub, jL_mul, jL_neg, jL_toI, jI_toL, jI_lt, jI_le, jI_eq, jL_lt, jL_le, jL_eq, inR_j, jI_clamp, nI_j, Option.bind_some, zc, u2, u3, u4, u5, wl, mo, if_pos, if_neg, ite_true, ite_false, s_isGear h hG, s_hasSpring h hG, bZ_eq0, c_n h, c_s h, gI_uI, c_wd h]
          · have h' : RSt (uL w 142 (36 + x).toNat (jL (S (36 + x) + a))) 142 0 (up S (36 + x) (S (36 + x) + a)) := h.put (by omega) (by omega)
            have h2 : RSt (uL (uL w 142 (36 + x).toNat (jL (S (36 + x) + a))) 142 (3 : Int).toNat (jL (S 3 + a))) 142 0 (up (up S (36 + x) (S (36 + x) + a)) 3 (S 3 + a)) := h'.put (by omega) (by omega)
            have e := s_at h2 (z := 36 + x) (by omega) (by omega)
            rw [up_ne (by omega), up_eq] at e
            refine ⟨jI (S (36 + x) + a), uI (uL (uL w 142 (36 + x).toNat (jL (S (36 + x) + a))) 142 (3 : Int).toNat (jL (S 3 + a))) 141 12 (jI 0), ?_, RO.val ((Sm.wL w (by unfold KM; omega)).tr (Sm.wL _ (by unfold KM; omega))) rfl h2⟩
            unfold f_X11_winds
            simp (disch := omega) only [l32_0, l32_1, l32_2, l32_3, l32_4, l32_5, l32_6, l32_7, l32_8, l32_9, l32_10, l32_11, l32_12, l32_13, l32_14, l32_15, l32_16, l32_17, l32_18, l32_19, l32_20, l32_21, l32_22, l32_23, l32_24, l32_25, l32_26, l32_27, l32_28, l32_29, l32_30, l32_31, l32_32, l32_33, l32_34, l32_35, l32_36, l32_37, l32_38, l32_39, l32_40, l32_41, l32_42, l32_43, l32_44, l32_45, l32_46, l32_47, l32_48, l32_49, l32_50, l32_51, l32_52, l32_53, l32_54, l32_55, l32_56, l32_57, l32_58, l32_59, l32_60, l32_61, l32_62, l32_63, l32_64, l32_65, l32_66, l32_76, l32_86, l32_90, l32_92, l32_97, l32_98, l32_99, l32_100, l32_101, l32_102, l32_103, l32_104, l32_105, l32_106, l32_107, l32_108, l32_109, l32_110, l32_111, l32_112, l32_113, l32_114, l32_115, l32_116, l32_117, l32_118, l32_119, l32_120, l32_121, l32_122, l32_123, l32_124, l32_125, l32_126, l32_192, l32_200, l32_255, l32_999, l32_1000, l32_1344, l32_2147483639, l32_2147483647, l64_0, l64_1, l64_99, l64_999, l64_24883200000, l64_746496000000, jI_add, jI_sub, jI_mul, jI_neg, jL_add, jL_sub, jL_mul, jL_neg, jL_toI, jI_toL, jI_lt, jI_le, jI_eq, jL_lt, jL_le, jL_eq, inR_j, jI_clamp, nI_j, Option.bind_some, zc, u2, u3, u4, u5, wl, mo, if_pos, if_neg, ite_true, ite_false, s_rIsGear h hG, s_rHasSpring h hG, s_in, bZ_eq0, r_g h, s_done, e, gL_uL]
        · refine ⟨.inl 2, ok_e (e := 2) (by decide), fun w h => ?_, fun w h => ?_⟩
          · refine ⟨jI (-3), w, ?_, CO.err (Sm.refl w) rfl h⟩
            unfold f_X1_tighten
            simp (disch := omega) only [l32_0, l32_1, l32_2, l32_3, l32_4, l32_5, l32_6, l32_7, l32_8, l32_9, l32_10, l32_11, l32_12, l32_13, l32_14, l32_15, l32_16, l32_17, l32_18, l32_19, l32_20, l32_21, l32_22, l32_23, l32_24, l32_25, l32_26, l32_27, l32_28, l32_29, l32_30, l32_31, l32_32, l32_33, l32_34, l32_35, l32_36, l32_37, l32_38, l32_39, l32_40, l32_41, l32_42, l32_43, l32_44, l32_45, l32_46, l32_47, l32_48, l32_49, l32_50, l32_51, l32_52, l32_53, l32_54, l32_55, l32_56, l32_57, l32_58, l32_59, l32_60, l32_61, l32_62, l32_63, l32_64, l32_65, l32_66, l32_76, l32_86, l32_90, l32_92, l32_97, l32_98, l32_99, l32_100, l32_101, l32_102, l32_103, l32_104, l32_105, l32_106, l32_107, l32_108, l32_109, l32_110, l32_111, l32_112, l32_113, l32_114, l32_115, l32_116, l32_117, l32_118, l32_119, l32_120, l32_121, l32_122, l32_123, l32_124, l32_125, l32_126, l32_192, l32_200, l32_255, l32_999, l32_1000, l32_1344, l32_2147483639, l32_2147483647, l64_0, l64_1, l64_99, l64_999, l64_24883200000, l64_746496000000, jI_add, jI_sub, jI_mul, jI_neg, jL_add, jL_sub, jL_mul, jL_neg, jL_toI, jI_toL, jI_lt, jI_le, jI_eq, jL_lt, jL_le, jL_eq, inR_j, jI_clamp, nI_j, Option.bind_some, zc, u2, u3, u4, u5, wl, mo, if_pos, if_neg, ite_true, ite_false, s_isGear h hG, s_hasSpring h hG, bZ_eq0, c_n h, c_s h]
          · refine ⟨jI 0, uI w 141 12 (jI 4), ?_, RO.err (Sm.refl w) rfl rfl⟩
            unfold f_X11_winds
            simp (disch := omega) only [l32_0, l32_1, l32_2, l32_3, l32_4, l32_5, l32_6, l32_7, l32_8, l32_9, l32_10, l32_11, l32_12, l32_13, l32_14, l32_15, l32_16, l32_17, l32_18, l32_19, l32_20, l32_21, l32_22, l32_23, l32_24, l32_25, l32_26, l32_27, l32_28, l32_29, l32_30, l32_31, l32_32, l32_33, l32_34, l32_35, l32_36, l32_37, l32_38, l32_39, l32_40, l32_41, l32_42, l32_43, l32_44, l32_45, l32_46, l32_47, l32_48, l32_49, l32_50, l32_51, l32_52, l32_53, l32_54, l32_55, l32_56, l32_57, l32_58, l32_59, l32_60, l32_61, l32_62, l32_63, l32_64, l32_65, l32_66, l32_76, l32_86, l32_90, l32_92, l32_97, l32_98, l32_99, l32_100, l32_101, l32_102, l32_103, l32_104, l32_105, l32_106, l32_107, l32_108, l32_109, l32_110, l32_111, l32_112, l32_113, l32_114, l32_115, l32_116, l32_117, l32_118, l32_119, l32_120, l32_121, l32_122, l32_123, l32_124, l32_125, l32_126, l32_192, l32_200, l32_255, l32_999, l32_1000, l32_1344, l32_2147483639, l32_2147483647, l64_0, l64_1, l64_99, l64_999, l64_24883200000, l64_746496000000, jI_add, jI_sub, jI_mul, jI_neg, jL_add, jL_sub, jL_mul, jL_neg, jL_toI, jI_toL, jI_lt, jI_le, jI_eq, jL_lt, jL_le, jL_eq, inR_j, jI_clamp, nI_j, Option.bind_some, zc, u2, u3, u4, u5, wl, mo, if_pos, if_neg, ite_true, ite_false, s_rIsGear h hG, s_rHasSpring h hG, s_in, bZ_eq0, r_g h, s_fails]
      · refine ⟨.inl 4, ok_e (e := 4) (by decide), fun w h => ?_, fun w h => ?_⟩
        · refine ⟨jI (-5), w, ?_, CO.err (Sm.refl w) rfl h⟩
          unfold f_X1_tighten
          simp (disch := omega) only [l32_0, l32_1, l32_2, l32_3, l32_4, l32_5, l32_6, l32_7, l32_8, l32_9, l32_10, l32_11, l32_12, l32_13, l32_14, l32_15, l32_16, l32_17, l32_18, l32_19, l32_20, l32_21, l32_22, l32_23, l32_24, l32_25, l32_26, l32_27, l32_28, l32_29, l32_30, l32_31, l32_32, l32_33, l32_34, l32_35, l32_36, l32_37, l32_38, l32_39, l32_40, l32_41, l32_42, l32_43, l32_44, l32_45, l32_46, l32_47, l32_48, l32_49, l32_50, l32_51, l32_52, l32_53, l32_54, l32_55, l32_56, l32_57, l32_58, l32_59, l32_60, l32_61, l32_62, l32_63, l32_64, l32_65, l32_66, l32_76, l32_86, l32_90, l32_92, l32_97, l32_98, l32_99, l32_100, l32_101, l32_102, l32_103, l32_104, l32_105, l32_106, l32_107, l32_108, l32_109, l32_110, l32_111, l32_112, l32_113, l32_114, l32_115, l32_116, l32_117, l32_118, l32_119, l32_120, l32_121, l32_122, l32_123, l32_124, l32_125, l32_126, l32_192, l32_200, l32_255, l32_999, l32_1000, l32_1344, l32_2147483639, l32_2147483647, l64_0, l64_1, l64_99, l64_999, l64_24883200000, l64_746496000000, jI_add, jI_sub, jI_mul, jI_neg, jL_add, jL_sub, jL_mul, jL_neg, jL_toI, jI_toL, jI_lt, jI_le, jI_eq, jL_lt, jL_le, jL_eq, inR_j, jI_clamp, nI_j, Option.bind_some, zc, u2, u3, u4, u5, wl, mo, if_pos, if_neg, ite_true, ite_false, s_isGear h hG, s_hasSpring h hG, bZ_eq0]
        · refine ⟨jI 0, uI w 141 12 (jI 3), ?_, RO.err (Sm.refl w) rfl rfl⟩
          unfold f_X11_winds
          simp (disch := omega) only [l32_0, l32_1, l32_2, l32_3, l32_4, l32_5, l32_6, l32_7, l32_8, l32_9, l32_10, l32_11, l32_12, l32_13, l32_14, l32_15, l32_16, l32_17, l32_18, l32_19, l32_20, l32_21, l32_22, l32_23, l32_24, l32_25, l32_26, l32_27, l32_28, l32_29, l32_30, l32_31, l32_32, l32_33, l32_34, l32_35, l32_36, l32_37, l32_38, l32_39, l32_40, l32_41, l32_42, l32_43, l32_44, l32_45, l32_46, l32_47, l32_48, l32_49, l32_50, l32_51, l32_52, l32_53, l32_54, l32_55, l32_56, l32_57, l32_58, l32_59, l32_60, l32_61, l32_62, l32_63, l32_64, l32_65, l32_66, l32_76, l32_86, l32_90, l32_92, l32_97, l32_98, l32_99, l32_100, l32_101, l32_102, l32_103, l32_104, l32_105, l32_106, l32_107, l32_108, l32_109, l32_110, l32_111, l32_112, l32_113, l32_114, l32_115, l32_116, l32_117, l32_118, l32_119, l32_120, l32_121, l32_122, l32_123, l32_124, l32_125, l32_126, l32_192, l32_200, l32_255, l32_999, l32_1000, l32_1344, l32_2147483639, l32_2147483647, l64_0, l64_1, l64_99, l64_999, l64_24883200000, l64_746496000000, jI_add, jI_sub, jI_mul, jI_neg, jL_add, jL_sub, jL_mul, jL_neg, jL_toI, jI_toL, jI_lt, jI_le, jI_eq, jL_lt, jL_le, jL_eq, inR_j, jI_clamp, nI_j, Option.bind_some, zc, u2, u3, u4, u5, wl, mo, if_pos, if_neg, ite_true, ite_false, s_rIsGear h hG, s_rHasSpring h hG, s_in, bZ_eq0, s_fails]
    · refine ⟨.inl 1, ok_e (e := 1) (by decide), fun w h => ?_, fun w h => ?_⟩
      · refine ⟨jI (-2), w, ?_, CO.err (Sm.refl w) rfl h⟩
        unfold f_X1_tighten
        by_cases q2 : a < 1
        · simp (disch := omega) only [l32_0, l32_1, l32_2, l32_3, l32_4, l32_5, l32_6, l32_7, l32_8, l32_9, l32_10, l32_11, l32_12, l32_13, l32_14, l32_15, l32_16, l32_17, l32_18, l32_19, l32_20, l32_21, l32_22, l32_23, l32_24, l32_25, l32_26, l32_27, l32_28, l32_29, l32_30, l32_31, l32_32, l32_33, l32_34, l32_35, l32_36, l32_37, l32_38, l32_39, l32_40, l32_41, l32_42, l32_43, l32_44, l32_45, l32_46, l32_47, l32_48, l32_49, l32_50, l32_51, l32_52, l32_53, l32_54, l32_55, l32_56, l32_57, l32_58, l32_59, l32_60, l32_61, l32_62, l32_63, l32_64, l32_65, l32_66, l32_76, l32_86, l32_90, l32_92, l32_97, l32_98, l32_99, l32_100, l32_101, l32_102, l32_103, l32_104, l32_105, l32_106, l32_107, l32_108, l32_109, l32_110, l32_111, l32_112, l32_113, l32_114, l32_115, l32_116, l32_117, l32_118, l32_119, l32_120, l32_121, l32_122, l32_123, l32_124, l32_125, l32_126, l32_192, l32_200, l32_255, l32_999, l32_1000, l32_1344, l32_2147483639, l32_2147483647, l64_0, l64_1, l64_99, l64_999, l64_24883200000, l64_746496000000, jI_add, jI_sub, jI_mul, jI_neg, jL_add, jL_sub, jL_mul, jL_neg, jL_toI, jI_toL, jI_lt, jI_le, jI_eq, jL_lt, jL_le, jL_eq, inR_j, jI_clamp, nI_j, Option.bind_some, zc, u2, u3, u4, u5, wl, mo, if_pos, if_neg, ite_true, ite_false, s_isGear h hG, bZ_eq0]
        · simp (disch := omega) only [l32_0, l32_1, l32_2, l32_3, l32_4, l32_5, l32_6, l32_7, l32_8, l32_9, l32_10, l32_11, l32_12, l32_13, l32_14, l32_15, l32_16, l32_17, l32_18, l32_19, l32_20, l32_21, l32_22, l32_23, l32_24, l32_25, l32_26, l32_27, l32_28, l32_29, l32_30, l32_31, l32_32, l32_33, l32_34, l32_35, l32_36, l32_37, l32_38, l32_39, l32_40, l32_41, l32_42, l32_43, l32_44, l32_45, l32_46, l32_47, l32_48, l32_49, l32_50, l32_51, l32_52, l32_53, l32_54, l32_55, l32_56, l32_57, l32_58, l32_59, l32_60, l32_61, l32_62, l32_63, l32_64, l32_65, l32_66, l32_76, l32_86, l32_90, l32_92, l32_97, l32_98, l32_99, l32_100, l32_101, l32_102, l32_103, l32_104, l32_105, l32_106, l32_107, l32_108, l32_109, l32_110, l32_111, l32_112, l32_113, l32_114, l32_115, l32_116, l32_117, l32_118, l32_119, l32_120, l32_121, l32_122, l32_123, l32_124, l32_125, l32_126, l32_192, l32_200, l32_255, l32_999, l32_1000, l32_1344, l32_2147483639, l32_2147483647, l64_0, l64_1, l64_99, l64_999, l64_24883200000, l64_746496000000, jI_add, jI_sub, jI_mul, jI_neg, jL_add, jL_sub, jL_mul, jL_neg, jL_toI, jI_toL, jI_lt, jI_le, jI_eq, jL_lt, jL_le, jL_eq, inR_j, jI_clamp, nI_j, Option.bind_some, zc, u2, u3, u4, u5, wl, mo, if_pos, if_neg, ite_true, ite_false, s_isGear h hG, bZ_eq0]
      · refine ⟨jI 0, uI w 141 12 (jI 2), ?_, RO.err (Sm.refl w) rfl rfl⟩
        unfold f_X11_winds
        simp (disch := omega) only [l32_0, l32_1, l32_2, l32_3, l32_4, l32_5, l32_6, l32_7, l32_8, l32_9, l32_10, l32_11, l32_12, l32_13, l32_14, l32_15, l32_16, l32_17, l32_18, l32_19, l32_20, l32_21, l32_22, l32_23, l32_24, l32_25, l32_26, l32_27, l32_28, l32_29, l32_30, l32_31, l32_32, l32_33, l32_34, l32_35, l32_36, l32_37, l32_38, l32_39, l32_40, l32_41, l32_42, l32_43, l32_44, l32_45, l32_46, l32_47, l32_48, l32_49, l32_50, l32_51, l32_52, l32_53, l32_54, l32_55, l32_56, l32_57, l32_58, l32_59, l32_60, l32_61, l32_62, l32_63, l32_64, l32_65, l32_66, l32_76, l32_86, l32_90, l32_92, l32_97, l32_98, l32_99, l32_100, l32_101, l32_102, l32_103, l32_104, l32_105, l32_106, l32_107, l32_108, l32_109, l32_110, l32_111, l32_112, l32_113, l32_114, l32_115, l32_116, l32_117, l32_118, l32_119, l32_120, l32_121, l32_122, l32_123, l32_124, l32_125, l32_126, l32_192, l32_200, l32_255, l32_999, l32_1000, l32_1344, l32_2147483639, l32_2147483647, l64_0, l64_1, l64_99, l64_999, l64_24883200000, l64_746496000000, jI_add, jI_sub, jI_mul, jI_neg, jL_add, jL_sub, jL_mul, jL_neg, jL_toI, jI_toL, jI_lt, jI_le, jI_eq, jL_lt, jL_le, jL_eq, inR_j, jI_clamp, nI_j, Option.bind_some, zc, u2, u3, u4, u5, wl, mo, if_pos, if_neg, ite_true, ite_false, s_rIsGear h hG, s_in, bZ_eq0, s_fails]
  · refine ⟨.inl 0, ok_e (e := 0) (by decide), fun w h => ?_, fun w h => ?_⟩
    · refine ⟨jI (-1), w, ?_, CO.err (Sm.refl w) rfl h⟩
      unfold f_X1_tighten
      simp (disch := omega) only [l32_0, l32_1, l32_2, l32_3, l32_4, l32_5, l32_6, l32_7, l32_8, l32_9, l32_10, l32_11, l32_12, l32_13, l32_14, l32_15, l32_16, l32_17, l32_18, l32_19, l32_20, l32_21, l32_22, l32_23, l32_24, l32_25, l32_26, l32_27, l32_28, l32_29, l32_30, l32_31, l32_32, l32_33, l32_34, l32_35, l32_36, l32_37, l32_38, l32_39, l32_40, l32_41, l32_42, l32_43, l32_44, l32_45, l32_46, l32_47, l32_48, l32_49, l32_50, l32_51, l32_52, l32_53, l32_54, l32_55, l32_56, l32_57, l32_58, l32_59, l32_60, l32_61, l32_62, l32_63, l32_64, l32_65, l32_66, l32_76, l32_86, l32_90, l32_92, l32_97, l32_98, l32_99, l32_100, l32_101, l32_102, l32_103, l32_104, l32_105, l32_106, l32_107, l32_108, l32_109, l32_110, l32_111, l32_112, l32_113, l32_114, l32_115, l32_116, l32_117, l32_118, l32_119, l32_120, l32_121, l32_122, l32_123, l32_124, l32_125, l32_126, l32_192, l32_200, l32_255, l32_999, l32_1000, l32_1344, l32_2147483639, l32_2147483647, l64_0, l64_1, l64_99, l64_999, l64_24883200000, l64_746496000000, jI_add, jI_sub, jI_mul, jI_neg, jL_add, jL_sub, jL_mul, jL_neg, jL_toI, jI_toL, jI_lt, jI_le, jI_eq, jL_lt, jL_le, jL_eq, inR_j, jI_clamp, nI_j, Option.bind_some, zc, u2, u3, u4, u5, wl, mo, if_pos, if_neg, ite_true, ite_false, s_isGear h hG, bZ_eq0]
    · refine ⟨jI 0, uI w 141 12 (jI 1), ?_, RO.err (Sm.refl w) rfl rfl⟩
      unfold f_X11_winds
      simp (disch := omega) only [l32_0, l32_1, l32_2, l32_3, l32_4, l32_5, l32_6, l32_7, l32_8, l32_9, l32_10, l32_11, l32_12, l32_13, l32_14, l32_15, l32_16, l32_17, l32_18, l32_19, l32_20, l32_21, l32_22, l32_23, l32_24, l32_25, l32_26, l32_27, l32_28, l32_29, l32_30, l32_31, l32_32, l32_33, l32_34, l32_35, l32_36, l32_37, l32_38, l32_39, l32_40, l32_41, l32_42, l32_43, l32_44, l32_45, l32_46, l32_47, l32_48, l32_49, l32_50, l32_51, l32_52, l32_53, l32_54, l32_55, l32_56, l32_57, l32_58, l32_59, l32_60, l32_61, l32_62, l32_63, l32_64, l32_65, l32_66, l32_76, l32_86, l32_90, l32_92, l32_97, l32_98, l32_99, l32_100, l32_101, l32_102, l32_103, l32_104, l32_105, l32_106, l32_107, l32_108, l32_109, l32_110, l32_111, l32_112, l32_113, l32_114, l32_115, l32_116, l32_117, l32_118, l32_119, l32_120, l32_121, l32_122, l32_123, l32_124, l32_125, l32_126, l32_192, l32_200, l32_255, l32_999, l32_1000, l32_1344, l32_2147483639, l32_2147483647, l64_0, l64_1, l64_99, l64_999, l64_24883200000, l64_746496000000, jI_add, jI_sub, jI_mul, jI_neg, jL_add, jL_sub, jL_mul, jL_neg, jL_toI, jI_toL, jI_lt, jI_le, jI_eq, jL_lt, jL_le, jL_eq, inR_j, jI_clamp, nI_j, Option.bind_some, zc, u2, u3, u4, u5, wl, mo, if_pos, if_neg, ite_true, ite_false, s_rIsGear h hG, bZ_eq0, s_fails]
theorem op_spring {S : Ab} (hG : Good S) {x a : Int} (x1 : -2147483648 ≤ x) (x2 : x < 2147483648) (a1 : -2147483648 ≤ a) (a2 : a < 2147483648) : Op S [0, 1, 2] (fun e => (e : Int) + 1) (fun w => f_X1_putSpring w (jI x) (jI a)) (fun w => f_X11_sets w (jI x) (jI a)) := by
  have hg := hG.1
  by_cases q : 0 ≤ x ∧ x < S 0
  · have k := hG.2.1 x q.1 (by omega)
    by_cases q1 : 10 ≤ a ∧ a ≤ 200
    · by_cases q2 : ∃ i, 0 ≤ i ∧ i < 10 ∧ TU S x i ≠ 0 ∧ 0 < S (26 + i)
      · refine ⟨.inl 2, ok_e (e := 2) (by decide), fun w h => ?_, fun w h => ?_⟩
        · obtain ⟨w', m, hr, hs, hC, h'⟩ := s_trace hG h q.1 q.2
          obtain ⟨r, hr2, hF⟩ := s_springGear h' hG hC (tu_b hG q.1 q.2)
          have hb := hF.b
          have hne : r ≠ -1 := by
            rcases hF with hF | hF
            · omega
            · obtain ⟨i, i0, i1, i2⟩ := q2; exact absurd i2 (hF.2 i i0 i1)
          refine ⟨jI (-3), w', ?_, CO.err (hs.mono (fun k => KT_C)) rfl h'⟩
          unfold f_X1_putSpring
          simp (disch := omega) only [l32_0, l32_1, l32_2, l32_3, l32_4, l32_5, l32_6, l32_7, l32_8, l32_9, l32_10, l32_11, l32_12, l32_13, l32_14, l32_15, l32_16, l32_17, l32_18, l32_19, l32_20, l32_21, l32_22, l32_23, l32_24, l32_25, l32_26, l32_27, l32_28, l32_29, l32_30, l32_31, l32_32, l32_33, l32_34, l32_35, l32_36, l32_37, l32_38, l32_39, l32_40, l32_41, l32_42, l32_43, l32_44, l32_45, l32_46, l32_47, l32_48, l32_49, l32_50, l32_51, l32_52, l32_53, l32_54, l32_55, l32_56, l32_57, l32_58, l32_59, l32_60, l32_61, l32_62, l32_63, l32_64, l32_65, l32_66, l32_76, l32_86, l32_90, l32_92, l32_97, l32_98, l32_99, l32_100, l32_101, l32_102, l32_103, l32_104, l32_105, l32_106, l32_107, l32_108, l32_109, l32_110, l32_111, l32_112, l32_113, l32_114, l32_115, l32_116, l32_117, l32_118, l32_119, l32_120, l32_121, l32_122, l32_123, l32_124, l32_125, l32_126, l32_192, l32_200, l32_255, l32_999, l32_1000, l32_1344, l32_2147483639, l32_2147483647, l64_0, l64_1, l64_99, l64_999, l64_24883200000, l64_746496000000, jI_add, jI_sub, jI_mul, jI_neg, jL_add, jL_sub, jL_mul, jL_neg, jL_toI, jI_toL, jI_lt, jI_le, jI_eq, jL_lt, jL_le, jL_eq, inR_j, jI_clamp, nI_j, Option.bind_some, zc, u2, u3, u4, u5, wl, mo, if_pos, if_neg, ite_true, ite_false, s_isGear h hG, bZ_eq0, hr, hr2]
        · obtain ⟨w', hr, hs, hR, h'⟩ := s_rTurns hG h q.1 q.2
          obtain ⟨r, hr2, hF⟩ := s_rSpringIn h' hG hR
          have hb := hF.b
          have hne : r ≠ -1 := by
            rcases hF with hF | hF
            · omega
            · obtain ⟨i, i0, i1, i2⟩ := q2; exact absurd i2 (hF.2 i i0 i1)
          refine ⟨jI 0, uI w' 141 12 (jI 3), ?_, RO.err (hs.mono (fun k => KU_M)) (hs.1 141 (by unfold KU; omega)).1 rfl⟩
          unfold f_X11_sets
          simp (disch := omega) only [l32_0, l32_1, l32_2, l32_3, l32_4, l32_5, l32_6, l32_7, l32_8, l32_9, l32_10, l32_11, l32_12, l32_13, l32_14, l32_15, l32_16, l32_17, l32_18, l32_19, l32_20, l32_21, l32_22, l32_23, l32_24, l32_25, l32_26, l32_27, l32_28, l32_29, l32_30, l32_31, l32_32, l32_33, l32_34, l32_35, l32_36, l32_37, l32_38, l32_39, l32_40, l32_41, l32_42, l32_43, l32_44, l32_45, l32_46, l32_47, l32_48, l32_49, l32_50, l32_51, l32_52, l32_53, l32_54, l32_55, l32_56, l32_57, l32_58, l32_59, l32_60, l32_61, l32_62, l32_63, l32_64, l32_65, l32_66, l32_76, l32_86, l32_90, l32_92, l32_97, l32_98, l32_99, l32_100, l32_101, l32_102, l32_103, l32_104, l32_105, l32_106, l32_107, l32_108, l32_109, l32_110, l32_111, l32_112, l32_113, l32_114, l32_115, l32_116, l32_117, l32_118, l32_119, l32_120, l32_121, l32_122, l32_123, l32_124, l32_125, l32_126, l32_192, l32_200, l32_255, l32_999, l32_1000, l32_1344, l32_2147483639, l32_2147483647, l64_0, l64_1, l64_99, l64_999, l64_24883200000, l64_746496000000, jI_add, jI_sub, jI_mul, jI_neg, jL_add, jL_sub, jL_mul, jL_neg, jL_toI, jI_toL, jI_lt, jI_le, jI_eq, jL_lt, jL_le, jL_eq, inR_j, jI_clamp, nI_j, Option.bind_some, zc, u2, u3, u4, u5, wl, mo, if_pos, if_neg, ite_true, ite_false, s_rIsGear h hG, s_in, bZ_eq0, hr, hr2, s_fails]
      · have hz : S (26 + x) = 0 := by
          have h1 := k.2.2.2.2.2.2.2.1
          by_cases z : 0 < S (26 + x)
          · exact absurd ⟨x, q.1, by omega, by rw [tu_d hG q.1 q.2]; decide, z⟩ q2
          · omega
        have hG' : Good (up S (26 + x) a) := hG.fld' ⟨q.1, by omega⟩ (by omega) (by
          unfold Gg
          rw [up_eq, up_ne (x := 0) (by omega), up_ne (x := 6 + x) (by omega), up_ne (x := 16 + x) (by omega), up_ne (x := 36 + x) (by omega), up_ne (x := 46 + x) (by omega), up_ne (x := 56 + x) (by omega), up_ne (x := 66 + x) (by omega), up_ne (x := 76 + x) (by omega)]
          exact ⟨k.1, fun z => by omega, k.2.2.1, k.2.2.2.1, k.2.2.2.2.1, k.2.2.2.2.2.1, k.2.2.2.2.2.2.1, by omega, by have := k.2.2.2.2.2.2.2.2; omega⟩)
        have hsp : 0 ≤ spr (up S (26 + x) a) ∧ spr (up S (26 + x) a) ≤ 10 := by
          have h3 := sm_lo (g := fun i => if 0 < up S (26 + x) a (26 + i) then 1 else 0) (c := 0) (n := 10) (fun i _ _ => by split <;> decide)
          have h4 := sm_hi (g := fun i => if 0 < up S (26 + x) a (26 + i) then 1 else 0) (c := 1) (n := 10) (fun i _ _ => by split <;> decide)
          unfold spr
          omega
        refine ⟨.inr (spr (up S (26 + x) a), up S (26 + x) a), ⟨hsp.1, by omega, hG'⟩, fun w h => ?_, fun w h => ?_⟩
        · obtain ⟨w', m, hr, hs, hC, h'⟩ := s_trace hG h q.1 q.2
          obtain ⟨r, hr2, hF⟩ := s_springGear h' hG hC (tu_b hG q.1 q.2)
          have hne : r = -1 := by
            rcases hF with hF | hF
            · exact absurd ⟨r, hF.1, hF.2.1, hF.2.2.1⟩ q2
            · exact hF.1
          subst hne
          have h2 : CSt (uI w' 7 x.toNat (jI a)) 1 (up S (26 + x) a) := h'.put_s (by omega) (by omega)
          refine ⟨jI (spr (up S (26 + x) a)), uI w' 7 x.toNat (jI a), ?_, CO.val ((hs.mono (fun k => KT_C)).tr (Sm.wI _ (by unfold KC; omega))) rfl h2⟩
          unfold f_X1_putSpring
          simp (disch := omega) only [l32_0, l32_1, l32_2, l32_3, l32_4, l32_5, l32_6, l32_7, l32_8, l32_9, l32_10, l32_11, l32_12, l32_13, l32_14, l32_15, l32_16, l32_17, l32_18, l32_19, l32_20, l32_21, l32_22, l32_23, l32_24, l32_25, l32_26, l32_27, l32_28, l32_29, l32_30, l32_31, l32_32, l32_33, l32_34, l32_35, l32_36, l32_37, l32_38, l32_39, l32_40, l32_41, l32_42, l32_43, l32_44, l32_45, l32_46, l32_47, l32_48, l32_49, l32_50, l32_51, l32_52, l32_53, l32_54, l32_55, l32_56, l32_57, l32_58, l32_59, l32_60, l32_61, l32_62, l32_63, l32_64, l32_65, l32_66, l32_76, l32_86, l32_90, l32_92, l32_97, l32_98, l32_99, l32_100, l32_101, l32_102, l32_103, l32_104, l32_105, l32_106, l32_107, l32_108, l32_109, l32_110, l32_111, l32_112, l32_113, l32_114, l32_115, l32_116, l32_117, l32_118, l32_119, l32_120, l32_121, l32_122, l32_123, l32_124, l32_125, l32_126, l32_192, l32_200, l32_255, l32_999, l32_1000, l32_1344, l32_2147483639, l32_2147483647, l64_0, l64_1, l64_99, l64_999, l64_24883200000, l64_746496000000, jI_add, jI_sub, jI_mul, jI_neg, jL_add, jL_sub, jL_mul, jL_neg, jL_toI, jI_toL, jI_lt, jI_le, jI_eq, jL_lt, jL_le, jL_eq, inR_j, jI_clamp, nI_j, Option.bind_some, zc, u2, u3, u4, u5, wl, mo, if_pos, if_neg, ite_true, ite_false, s_isGear h hG, bZ_eq0, hr, hr2, s_springs h2 hG']
        · obtain ⟨w', hr, hs, hR, h'⟩ := s_rTurns hG h q.1 q.2
          obtain ⟨r, hr2, hF⟩ := s_rSpringIn h' hG hR
          have hne : r = -1 := by
            rcases hF with hF | hF
            · exact absurd ⟨r, hF.1, hF.2.1, hF.2.2.1⟩ q2
            · exact hF.1
          subst hne
          have h2 : RSt (uL w' 142 (26 + x).toNat (jL a)) 142 0 (up S (26 + x) a) := h'.put (by omega) (by omega)
          have e := lpSum (p_X11_sets_67 (uL w' 142 (26 + x).toNat (jL a))) (fun i => if 0 < up S (26 + x) a (26 + i) then 1 else 0) 10 0
            (fun i n a' hi => by
              by_cases z : 0 < up S (26 + x) a (26 + (i : Int))
              · rw [p_X11_sets_67, if_pos z]
                simp (disch := omega) only [l32_0, l32_1, l32_2, l32_3, l32_4, l32_5, l32_6, l32_7, l32_8, l32_9, l32_10, l32_11, l32_12, l32_13, l32_14, l32_15, l32_16, l32_17, l32_18, l32_19, l32_20, l32_21, l32_22, l32_23, l32_24, l32_25, l32_26, l32_27, l32_28, l32_29, l32_30, l32_31, l32_32, l32_33, l32_34, l32_35, l32_36, l32_37, l32_38, l32_39, l32_40, l32_41, l32_42, l32_43, l32_44, l32_45, l32_46, l32_47, l32_48, l32_49, l32_50, l32_51, l32_52, l32_53, l32_54, l32_55, l32_56, l32_57, l32_58, l32_59, l32_60, l32_61, l32_62, l32_63, l32_64, l32_65, l32_66, l32_76, l32_86, l32_90, l32_92, l32_97, l32_98, l32_99, l32_100, l32_101, l32_102, l32_103, l32_104, l32_105, l32_106, l32_107, l32_108, l32_109, l32_110, l32_111, l32_112, l32_113, l32_114, l32_115, l32_116, l32_117, l32_118, l32_119, l32_120, l32_121, l32_122, l32_123, l32_124, l32_125, l32_126, l32_192, l32_200, l32_255, l32_999, l32_1000, l32_1344, l32_2147483639, l32_2147483647, l64_0, l64_1, l64_99, l64_999, l64_24883200000, l64_746496000000, jI_add, jI_sub, jI_mul, jI_neg, jL_add, jL_sub, jL_mul, jL_neg, jL_toI, jI_toL, jI_lt, jI_le, jI_eq, jL_lt, jL_le, jL_eq, inR_j, jI_clamp, nI_j, Option.bind_some, zc, u2, u3, u4, u5, wl, mo, if_pos, if_neg, ite_true, ite_false, s_rHasSpring h2 hG', bZ_eq0] <;> rfl
              · rw [p_X11_sets_67, if_neg z]
                simp (disch := omega) only [l32_0, l32_1, l32_2, l32_3, l32_4, l32_5, l32_6, l32_7, l32_8, l32_9, l32_10, l32_11, l32_12, l32_13, l32_14, l32_15, l32_16, l32_17, l32_18, l32_19, l32_20, l32_21, l32_22, l32_23, l32_24, l32_25, l32_26, l32_27, l32_28, l32_29, l32_30, l32_31, l32_32, l32_33, l32_34, l32_35, l32_36, l32_37, l32_38, l32_39, l32_40, l32_41, l32_42, l32_43, l32_44, l32_45, l32_46, l32_47, l32_48, l32_49, l32_50, l32_51, l32_52, l32_53, l32_54, l32_55, l32_56, l32_57, l32_58, l32_59, l32_60, l32_61, l32_62, l32_63, l32_64, l32_65, l32_66, l32_76, l32_86, l32_90, l32_92, l32_97, l32_98, l32_99, l32_100, l32_101, l32_102, l32_103, l32_104, l32_105, l32_106, l32_107, l32_108, l32_109, l32_110, l32_111, l32_112, l32_113, l32_114, l32_115, l32_116, l32_117, l32_118, l32_119, l32_120, l32_121, l32_122, l32_123, l32_124, l32_125, l32_126, l32_192, l32_200, l32_255, l32_999, l32_1000, l32_1344, l32_2147483639, l32_2147483647, l64_0, l64_1, l64_99, l64_999, l64_24883200000, l64_746496000000, jI_add, jI_sub, jI_mul, jI_neg, jL_add, jL_sub, jL_mul, jL_neg, jL_toI, jI_toL, jI_lt, jI_le, jI_eq, jL_lt, jL_le, jL_eq, inR_j, jI_clamp, nI_j, Option.bind_some, zc, u2, u3, u4, u5, wl, mo, if_pos, if_neg, ite_true, ite_false, s_rHasSpring h2 hG', bZ_eq0] <;> rfl)
            (fun n a' => by
              rw [p_X11_sets_67, show ((10 : Nat) : Int) = 10 from rfl]
              simp (disch := omega) only [l32_0, l32_1, l32_2, l32_3, l32_4, l32_5, l32_6, l32_7, l32_8, l32_9, l32_10, l32_11, l32_12, l32_13, l32_14, l32_15, l32_16, l32_17, l32_18, l32_19, l32_20, l32_21, l32_22, l32_23, l32_24, l32_25, l32_26, l32_27, l32_28, l32_29, l32_30, l32_31, l32_32, l32_33, l32_34, l32_35, l32_36, l32_37, l32_38, l32_39, l32_40, l32_41, l32_42, l32_43, l32_44, l32_45, l32_46, l32_47, l32_48, l32_49, l32_50, l32_51, l32_52, l32_53, l32_54, l32_55, l32_56, l32_57, l32_58, l32_59, l32_60, l32_61, l32_62, l32_63, l32_64, l32_65, l32_66, l32_76, l32_86, l32_90, l32_92, l32_97, l32_98, l32_99, l32_100, l32_101, l32_102, l32_103, l32_104, l32_105, l32_106, l32_107, l32_108, l32_109, l32_110, l32_111, l32_112, l32_113, l32_114, l32_115, l32_116, l32_117, l32_118, l32_119, l32_120, l32_121, l32_122, l32_123, l32_124, l32_125, l32_126, l32_192, l32_200, l32_255, l32_999, l32_1000, l32_1344, l32_2147483639, l32_2147483647, l64_0, l64_1, l64_99, l64_999, l64_24883200000, l64_746496000000, jI_add, jI_sub, jI_mul, jI_neg, jL_add, jL_sub, jL_mul, jL_neg, jL_toI, jI_toL, jI_lt, jI_le, jI_eq, jL_lt, jL_le, jL_eq, inR_j, jI_clamp, nI_j, Option.bind_some, zc, u2, u3, u4, u5, wl, mo, if_pos, if_neg, ite_true, ite_false]) 2000 (by omega)
          rw [Int.zero_add] at e
          have e : p_X11_sets_67 (uL w' 142 (26 + x).toNat (jL a)) 2000 (jI 0) (jI 0) = some (.inl (jI (spr (up S (26 + x) a)), jI 10)) := e
          refine ⟨jI (spr (up S (26 + x) a)), uI (uL w' 142 (26 + x).toNat (jL a)) 141 12 (jI 0), ?_, RO.val ((hs.mono (fun k => KU_M)).tr (Sm.wL _ (by unfold KM; omega))) (hs.1 141 (by unfold KU; omega)).1 h2⟩
          unfold f_X11_sets
          simp (disch := omega) only [l32_0, l32_1, l32_2, l32_3, l32_4, l32_5, l32_6, l32_7, l32_8, l32_9, l32_10, l32_11, l32_12, l32_13, l32_14, l32_15, l32_16, l32_17, l32_18, l32_19, l32_20, l32_21, l32_22, l32_23, l32_24, l32_25, l32_26, l32_27, l32_28, l32_29, l32_30, l32_31, l32_32, l32_33, l32_34, l32_35, l32_36, l32_37, l32_38, l32_39, l32_40, l32_41, l32_42, l32_43, l32_44, l32_45, l32_46, l32_47, l32_48, l32_49, l32_50, l32_51, l32_52, l32_53, l32_54, l32_55, l32_56, l32_57, l32_58, l32_59, l32_60, l32_61, l32_62, l32_63, l32_64, l32_65, l32_66, l32_76, l32_86, l32_90, l32_92, l32_97, l32_98, l32_99, l32_100, l32_101, l32_102, l32_103, l32_104, l32_105, l32_106, l32_107, l32_108, l32_109, l32_110, l32_111, l32_112, l32_113, l32_114, l32_115, l32_116, l32_117, l32_118, l32_119, l32_120, l32_121, l32_122, l32_123, l32_124, l32_125, l32_126, l32_192, l32_200, l32_255, l32_999, l32_1000, l32_1344, l32_2147483639, l32_2147483647, l64_0, l64_1, l64_99, l64_999, l64_24883200000, l64_746496000000, jI_add, jI_sub, jI_mul, jI_neg, jL_add, jL_sub, jL_mul, jL_neg, jL_toI, jI_toL, jI_lt, jI_le, jI_eq, jL_lt, jL_le, jL_eq, inR_j, jI_clamp, nI_j, Option.bind_some, zc, u2, u3, u4, u5, wl, mo, if_pos, if_neg, ite_true, ite_false, s_rIsGear h hG, s_in, bZ_eq0, hr, hr2, s_done, e]
    · refine ⟨.inl 1, ok_e (e := 1) (by decide), fun w h => ?_, fun w h => ?_⟩
      · refine ⟨jI (-2), w, ?_, CO.err (Sm.refl w) rfl h⟩
        unfold f_X1_putSpring
        by_cases q2 : a < 10
        · simp (disch := omega) only [l32_0, l32_1, l32_2, l32_3, l32_4, l32_5, l32_6, l32_7, l32_8, l32_9, l32_10, l32_11, l32_12, l32_13, l32_14, l32_15, l32_16, l32_17, l32_18, l32_19, l32_20, l32_21, l32_22, l32_23, l32_24, l32_25, l32_26, l32_27, l32_28, l32_29, l32_30, l32_31, l32_32, l32_33, l32_34, l32_35, l32_36, l32_37, l32_38, l32_39, l32_40, l32_41, l32_42, l32_43, l32_44, l32_45, l32_46, l32_47, l32_48, l32_49, l32_50, l32_51, l32_52, l32_53, l32_54, l32_55, l32_56, l32_57, l32_58, l32_59, l32_60, l32_61, l32_62, l32_63, l32_64, l32_65, l32_66, l32_76, l32_86, l32_90, l32_92, l32_97, l32_98, l32_99, l32_100, l32_101, l32_102, l32_103, l32_104, l32_105, l32_106, l32_107, l32_108, l32_109, l32_110, l32_111, l32_112, l32_113, l32_114, l32_115, l32_116, l32_117, l32_118, l32_119, l32_120, l32_121, l32_122, l32_123, l32_124, l32_125, l32_126, l32_192, l32_200, l32_255, l32_999, l32_1000, l32_1344, l32_2147483639, l32_2147483647, l64_0, l64_1, l64_99, l64_999, l64_24883200000, l64_746496000000, jI_add, jI_sub, jI_mul, jI_neg, jL_add, jL_sub, jL_mul, jL_neg, jL_toI, jI_toL, jI_lt, jI_le, jI_eq, jL_lt, jL_le, jL_eq, inR_j, jI_clamp, nI_j, Option.bind_some, zc, u2, u3, u4, u5, wl, mo, if_pos, if_neg, ite_true, ite_false, s_isGear h hG, bZ_eq0]
        · simp (disch := omega) only [l32_0, l32_1, l32_2, l32_3, l32_4, l32_5, l32_6, l32_7, l32_8, l32_9, l32_10, l32_11, l32_12, l32_13, l32_14, l32_15, l32_16, l32_17, l32_18, l32_19, l32_20, l32_21, l32_22, l32_23, l32_24, l32_25, l32_26, l32_27, l32_28, l32_29, l32_30, l32_31, l32_32, l32_33, l32_34, l32_35, l32_36, l32_37, l32_38, l32_39, l32_40, l32_41, l32_42, l32_43, l32_44, l32_45, l32_46, l32_47, l32_48, l32_49, l32_50, l32_51, l32_52, l32_53, l32_54, l32_55, l32_56, l32_57, l32_58, l32_59, l32_60, l32_61, l32_62, l32_63, l32_64, l32_65, l32_66, l32_76, l32_86, l32_90, l32_92, l32_97, l32_98, l32_99, l32_100, l32_101, l32_102, l32_103, l32_104, l32_105, l32_106, l32_107, l32_108, l32_109, l32_110, l32_111, l32_112, l32_113, l32_114, l32_115, l32_116, l32_117, l32_118, l32_119, l32_120, l32_121, l32_122, l32_123, l32_124, l32_125, l32_126, l32_192, l32_200, l32_255, l32_999, l32_1000, l32_1344, l32_2147483639, l32_2147483647, l64_0, l64_1, l64_99, l64_999, l64_24883200000, l64_746496000000, jI_add, jI_sub, jI_mul, jI_neg, jL_add, jL_sub, jL_mul, jL_neg, jL_toI, jI_toL, jI_lt, jI_le, jI_eq, jL_lt, jL_le, jL_eq, inR_j, jI_clamp, nI_j, Option.bind_some, zc, u2, u3, u4, u5, wl, mo, if_pos, if_neg, ite_true, ite_false, s_isGear h hG, bZ_eq0]
      · refine ⟨jI 0, uI w 141 12 (jI 2), ?_, RO.err (Sm.refl w) rfl rfl⟩
        unfold f_X11_sets
        simp (disch := omega) only [l32_0, l32_1, l32_2, l32_3, l32_4, l32_5, l32_6, l32_7, l32_8, l32_9, l32_10, l32_11, l32_12, l32_13, l32_14, l32_15, l32_16, l32_17, l32_18, l32_19, l32_20, l32_21, l32_22, l32_23, l32_24, l32_25, l32_26, l32_27, l32_28, l32_29, l32_30, l32_31, l32_32, l32_33, l32_34, l32_35, l32_36, l32_37, l32_38, l32_39, l32_40, l32_41, l32_42, l32_43, l32_44, l32_45, l32_46, l32_47, l32_48, l32_49, l32_50, l32_51, l32_52, l32_53, l32_54, l32_55, l32_56, l32_57, l32_58, l32_59, l32_60, l32_61, l32_62, l32_63, l32_64, l32_65, l32_66, l32_76, l32_86, l32_90, l32_92, l32_97, l32_98, l32_99, l32_100, l32_101, l32_102, l32_103, l32_104, l32_105, l32_106, l32_107, l32_108, l32_109, l32_110, l32_111, l32_112, l32_113, l32_114, l32_115, l32_116, l32_117, l32_118, l32_119, l32_120, l32_121, l32_122, l32_123, l32_124, l32_125, l32_126, l32_192, l32_200, l32_255, l32_999, l32_1000, l32_1344, l32_2147483639, l32_2147483647, l64_0, l64_1, l64_99, l64_999, l64_24883200000, l64_746496000000, jI_add, jI_sub, jI_mul, jI_neg, jL_add, jL_sub, jL_mul, jL_neg, jL_toI, jI_toL, jI_lt, jI_le, jI_eq, jL_lt, jL_le, jL_eq, inR_j, jI_clamp, nI_j, Option.bind_some, zc, u2, u3, u4, u5, wl, mo, if_pos, if_neg, ite_true, ite_false, s_rIsGear h hG, s_in, bZ_eq0, s_fails]
  · refine ⟨.inl 0, ok_e (e := 0) (by decide), fun w h => ?_, fun w h => ?_⟩
    · refine ⟨jI (-1), w, ?_, CO.err (Sm.refl w) rfl h⟩
      unfold f_X1_putSpring
      simp (disch := omega) only [l32_0, l32_1, l32_2, l32_3, l32_4, l32_5, l32_6, l32_7, l32_8, l32_9, l32_10, l32_11, l32_12, l32_13, l32_14, l32_15, l32_16, l32_17, l32_18, l32_19, l32_20, l32_21, l32_22, l32_23, l32_24, l32_25, l32_26, l32_27, l32_28, l32_29, l32_30, l32_31, l32_32, l32_33, l32_34, l32_35, l32_36, l32_37, l32_38, l32_39, l32_40, l32_41, l32_42, l32_43, l32_44, l32_45, l32_46, l32_47, l32_48, l32_49, l32_50, l32_51, l32_52, l32_53, l32_54, l32_55, l32_56, l32_57, l32_58, l32_59, l32_60, l32_61, l32_62, l32_63, l32_64, l32_65, l32_66, l32_76, l32_86, l32_90, l32_92, l32_97, l32_98, l32_99, l32_100, l32_101, l32_102, l32_103, l32_104, l32_105, l32_106, l32_107, l32_108, l32_109, l32_110, l32_111, l32_112, l32_113, l32_114, l32_115, l32_116, l32_117, l32_118, l32_119, l32_120, l32_121, l32_122, l32_123, l32_124, l32_125, l32_126, l32_192, l32_200, l32_255, l32_999, l32_1000, l32_1344, l32_2147483639, l32_2147483647, l64_0, l64_1, l64_99, l64_999, l64_24883200000, l64_746496000000, jI_add, jI_sub, jI_mul, jI_neg, jL_add, jL_sub, jL_mul, jL_neg, jL_toI, jI_toL, jI_lt, jI_le, jI_eq, jL_lt, jL_le, jL_eq, inR_j, jI_clamp, nI_j, Option.bind_some, zc, u2, u3, u4, u5, wl, mo, if_pos, if_neg, ite_true, ite_false, s_isGear h hG, bZ_eq0]
    · refine ⟨jI 0, uI w 141 12 (jI 1), ?_, RO.err (Sm.refl w) rfl rfl⟩
      unfold f_X11_sets
      simp (disch := omega) only [l32_0, l32_1, l32_2, l32_3, l32_4, l32_5, l32_6, l32_7, l32_8, l32_9, l32_10, l32_11, l32_12, l32_13, l32_14, l32_15, l32_16, l32_17, l32_18, l32_19, l32_20, l32_21, l32_22, l32_23, l32_24, l32_25, l32_26, l32_27, l32_28, l32_29, l32_30, l32_31, l32_32, l32_33, l32_34, l32_35, l32_36, l32_37, l32_38, l32_39, l32_40, l32_41, l32_42, l32_43, l32_44, l32_45, l32_46, l32_47, l32_48, l32_49, l32_50, l32_51, l32_52, l32_53, l32_54, l32_55, l32_56, l32_57, l32_58, l32_59, l32_60, l32_61, l32_62, l32_63, l32_64, l32_65, l32_66, l32_76, l32_86, l32_90, l32_92, l32_97, l32_98, l32_99, l32_100, l32_101, l32_102, l32_103, l32_104, l32_105, l32_106, l32_107, l32_108, l32_109, l32_110, l32_111, l32_112, l32_113, l32_114, l32_115, l32_116, l32_117, l32_118, l32_119, l32_120, l32_121, l32_122, l32_123, l32_124, l32_125, l32_126, l32_192, l32_200, l32_255, l32_999, l32_1000, l32_1344, l32_2147483639, l32_2147483647, l64_0, l64_1, l64_99, l64_999, l64_24883200000, l64_746496000000, jI_add, jI_sub, jI_mul, jI_neg, jL_add, jL_sub, jL_mul, jL_neg, jL_toI, jI_toL, jI_lt, jI_le, jI_eq, jL_lt, jL_le, jL_eq, inR_j, jI_clamp, nI_j, Option.bind_some, zc, u2, u3, u4, u5, wl, mo, if_pos, if_neg, ite_true, ite_false, s_rIsGear h hG, bZ_eq0, s_fails]
end
section
/-! COMPARISONS decided at once (so that what is not taken is not walked) -/
theorem jI_eqT {a b : Int} (h : a = b) : (jI a = jI b) = True := by rw [h]; exact eq_true rfl
theorem jI_eqF {a b : Int} (h : a ≠ b) (h1 : -2147483648 ≤ a) (h2 : a < 2147483648) (h3 : -2147483648 ≤ b) (h4 : b < 2147483648) : (jI a = jI b) = False := by rw [jI_eq h1 h2 h3 h4]; exact eq_false h
theorem jI_ltT {a b : Int} (h : a < b) (h1 : -2147483648 ≤ a) (h2 : a < 2147483648) (h3 : -2147483648 ≤ b) (h4 : b < 2147483648) : (jI a < jI b) = True := by rw [jI_lt h1 h2 h3 h4]; exact eq_true h
theorem jI_ltF {a b : Int} (h : ¬ a < b) (h1 : -2147483648 ≤ a) (h2 : a < 2147483648) (h3 : -2147483648 ≤ b) (h4 : b < 2147483648) : (jI a < jI b) = False := by rw [jI_lt h1 h2 h3 h4]; exact eq_false h
theorem jI_leT {a b : Int} (h : a ≤ b) (h1 : -2147483648 ≤ a) (h2 : a < 2147483648) (h3 : -2147483648 ≤ b) (h4 : b < 2147483648) : (jI a ≤ jI b) = True := by rw [jI_le h1 h2 h3 h4]; exact eq_true h
theorem jI_leF {a b : Int} (h : ¬ a ≤ b) (h1 : -2147483648 ≤ a) (h2 : a < 2147483648) (h3 : -2147483648 ≤ b) (h4 : b < 2147483648) : (jI a ≤ jI b) = False := by rw [jI_le h1 h2 h3 h4]; exact eq_false h
theorem jL_eqT {a b : Int} (h : a = b) : (jL a = jL b) = True := by rw [h]; exact eq_true rfl
theorem jL_eqF {a b : Int} (h : a ≠ b) (h1 : -9223372036854775808 ≤ a) (h2 : a < 9223372036854775808) (h3 : -9223372036854775808 ≤ b) (h4 : b < 9223372036854775808) : (jL a = jL b) = False := by rw [jL_eq h1 h2 h3 h4]; exact eq_false h
theorem jL_ltT {a b : Int} (h : a < b) (h1 : -9223372036854775808 ≤ a) (h2 : a < 9223372036854775808) (h3 : -9223372036854775808 ≤ b) (h4 : b < 9223372036854775808) : (jL a < jL b) = True := by rw [jL_lt h1 h2 h3 h4]; exact eq_true h
theorem jL_ltF {a b : Int} (h : ¬ a < b) (h1 : -9223372036854775808 ≤ a) (h2 : a < 9223372036854775808) (h3 : -9223372036854775808 ≤ b) (h4 : b < 9223372036854775808) : (jL a < jL b) = False := by rw [jL_lt h1 h2 h3 h4]; exact eq_false h
theorem jL_leT {a b : Int} (h : a ≤ b) (h1 : -9223372036854775808 ≤ a) (h2 : a < 9223372036854775808) (h3 : -9223372036854775808 ≤ b) (h4 : b < 9223372036854775808) : (jL a ≤ jL b) = True := by rw [jL_le h1 h2 h3 h4]; exact eq_true h
theorem jL_leF {a b : Int} (h : ¬ a ≤ b) (h1 : -9223372036854775808 ≤ a) (h2 : a < 9223372036854775808) (h3 : -9223372036854775808 ≤ b) (h4 : b < 9223372036854775808) : (jL a ≤ jL b) = False := by rw [jL_le h1 h2 h3 h4]; exact eq_false h
theorem inR_T {z : Int} {n : Nat} (h : 0 ≤ z ∧ z < n) (h1 : -2147483648 ≤ z) (h2 : z < 2147483648) : (inR (jI z) n = true) = True := by rw [inR_j h1 h2]; exact eq_true h
theorem inR_F {z : Int} {n : Nat} (h : ¬ (0 ≤ z ∧ z < n)) (h1 : -2147483648 ≤ z) (h2 : z < 2147483648) : (inR (jI z) n = true) = False := by rw [inR_j h1 h2]; exact eq_false h
theorem bZ_T {c : Prop} [Decidable c] (h : ¬ c) : (jI (bZ c) = jI 0) = True := by rw [bZ_eq0]; exact eq_true h
theorem bZ_F {c : Prop} [Decidable c] (h : c) : (jI (bZ c) = jI 0) = False := by rw [bZ_eq0]; exact eq_false (fun z => z h)
/-! the runs' words, opened step by step -/
theorem wl_p {α : Type} (x : Wd) (f : Wd → α) : wl x f = f x := (fun (y : α) (hy : y = wl x f) => (show y = f x from hy)) _ rfl
theorem bs_p {α β : Type} (x : α) (f : α → Option β) : (some x).bind f = f x := (fun (y : Option β) (hy : y = (some x).bind f) => (show y = f x from hy)) _ rfl
theorem u2_p {a b r : Type} (x : a) (y : b) (f : a → b → r) : u2 (x, y) f = f x y := (fun (z : r) (hy : z = u2 (x, y) f) => (show z = f x y from hy)) _ rfl
theorem u3_p {a b c r : Type} (x : a) (y : b) (v : c) (f : a → b → c → r) : u3 (x, y, v) f = f x y v := (fun (z : r) (hy : z = u3 (x, y, v) f) => (show z = f x y v from hy)) _ rfl
theorem u4_p {a b c d r : Type} (x : a) (y : b) (v : c) (w : d) (f : a → b → c → d → r) : u4 (x, y, v, w) f = f x y v w := (fun (z : r) (hy : z = u4 (x, y, v, w) f) => (show z = f x y v w from hy)) _ rfl
theorem u5_p {a b c d e r : Type} (x : a) (y : b) (v : c) (w : d) (t : e) (f : a → b → c → d → e → r) : u5 (x, y, v, w, t) f = f x y v w t := (fun (z : r) (hy : z = u5 (x, y, v, w, t) f) => (show z = f x y v w t from hy)) _ rfl
theorem zl_p {α β γ : Type} (x : α) (f : α → γ) (g : β → γ) : zc (.inl x) f g = f x := (fun (z : γ) (hy : z = zc (.inl x) f g) => (show z = f x from hy)) _ rfl
theorem zr_p {α β γ : Type} (x : β) (f : α → γ) (g : β → γ) : zc (.inr x) f g = g x := (fun (z : γ) (hy : z = zc (.inr x) f g) => (show z = g x from hy)) _ rfl
theorem mn_p {α β : Type} (n : β) (f : α → β) : mo none n f = n := (fun (z : β) (hy : z = mo none n f) => (show z = n from hy)) _ rfl
theorem ms_p {α β : Type} (x : α) (n : β) (f : α → β) : mo (some x) n f = f x := (fun (z : β) (hy : z = mo (some x) n f) => (show z = f x from hy)) _ rfl
end
section
theorem uL_uI (w : Wd) (k i a b : Nat) (v : Int32) (c : Int64) : uL (uI w k i v) a b c = uI (uL w a b c) k i v := rfl
theorem z30 : (0 : Int) ≤ 0 ∧ (0 : Int) < 746496000000 := ⟨Int.le_refl 0, by decide +kernel⟩
theorem Good.oil {S : Ab} (hG : Good S) {x : Int} (q : 0 ≤ x ∧ x < S 0) (q2 : ¬ S 2 = 0) : Good (up (up (up S (76 + x) 0) (66 + x) 1) 2 (S 2 - 1)) := by
  have hg := hG.1
  have k := hG.2.1 x q.1 (by omega)
  refine Good.scal (Good.fld' (Good.fld' hG ⟨q.1, by omega⟩ (by omega) ?_) ⟨q.1, by omega⟩ (by omega) ?_) (by omega) (by omega)
  · unfold Gg
    rw [up_eq, up_ne (x := 0) (by omega), up_ne (x := 6 + x) (by omega), up_ne (x := 16 + x) (by omega), up_ne (x := 26 + x) (by omega), up_ne (x := 36 + x) (by omega), up_ne (x := 46 + x) (by omega), up_ne (x := 56 + x) (by omega), up_ne (x := 66 + x) (by omega)]
    exact ⟨k.1, k.2.1, k.2.2.1, k.2.2.2.1, fun _ => z30, k.2.2.2.2.2⟩
  · unfold Gg
    rw [up_eq, up_ne (x := 0) (by omega), up_ne (x := 0) (by omega), up_ne (x := 6 + x) (by omega), up_ne (x := 6 + x) (by omega), up_ne (x := 16 + x) (by omega), up_ne (x := 16 + x) (by omega), up_ne (x := 26 + x) (by omega), up_ne (x := 26 + x) (by omega), up_ne (x := 36 + x) (by omega), up_ne (x := 36 + x) (by omega), up_ne (x := 46 + x) (by omega), up_ne (x := 46 + x) (by omega), up_ne (x := 56 + x) (by omega), up_ne (x := 56 + x) (by omega), up_ne (x := 76 + x) (by omega), up_eq]
    exact ⟨k.1, k.2.1, k.2.2.1, Or.inr rfl, fun _ => z30, k.2.2.2.2.2⟩
theorem RSt.oil {w : Wd} {S : Ab} {x : Int} (h : RSt w 142 0 S) (x0 : 0 ≤ x) (x1 : x < 10) : RSt (uL (uL w 142 (66 + x).toNat (jL 1)) 142 (76 + x).toNat (jL 0)) 142 0 (up (up S (76 + x) 0) (66 + x) 1) := by
  have h1 : RSt (uL (uL w 142 (76 + x).toNat (jL 0)) 142 (66 + x).toNat (jL 1)) 142 0 (up (up S (76 + x) 0) (66 + x) 1) := (h.put (by omega) (by omega)).put (by omega) (by omega)
  intro z z0 z1
  have h2 := h1 z z0 z1
  rw [gL_uL, gL_uL] at h2 ⊢
  by_cases y1 : z = 66 + x
  · rw [if_pos (by omega)] at h2
    rw [if_neg (by omega), if_pos (by omega)]
    exact h2
  · rw [if_neg (by omega)] at h2
    by_cases y2 : z = 76 + x
    · rw [if_pos (by omega)] at h2
      rw [if_pos (by omega)]
      exact h2
    · rw [if_neg (by omega)] at h2
      rw [if_neg (by omega), if_neg (by omega)]
      exact h2
theorem CSt.oil {w : Wd} {S : Ab} {x : Int} (h : CSt w 1 S) (x0 : 0 ≤ x) (x1 : x < 10) : CSt (uL (uI w 4 x.toNat (jI 1)) 5 x.toNat (jL 0)) 1 (up (up S (76 + x) 0) (66 + x) 1) := by
  rw [uL_uI]
  refine (h.put_w (v := 0) (y := jL 0) x0 x1 (fun _ => rfl)).put_o (i := x) (v := 1) x0 x1 (fun _ => ?_)
  rw [gL_uL, if_pos ⟨rfl, rfl⟩, up_eq]
theorem op_oil {S : Ab} (hG : Good S) {x : Int} (x1 : -2147483648 ≤ x) (x2 : x < 2147483648) : Op S [0, 2, 3] (fun e => if e = 0 then 1 else if e = 2 then 2 else 3) (fun w => f_X1_putOil w (jI x)) (fun w => f_X11_oils w (jI x)) := by
  have hg := hG.1
  by_cases q : 0 ≤ x ∧ x < S 0
  · have k := hG.2.1 x q.1 (by omega)
    have k4 := k.2.2.2.1
    by_cases q1 : S (66 + x) = 1
    · refine ⟨.inl 2, ok_e (e := 2) (by decide), fun w h => ?_, fun w h => ?_⟩
      · refine ⟨jI (-3), w, ?_, CO.err (Sm.refl w) rfl h⟩
        unfold f_X1_putOil
        simp (disch := omega) only [l32_0, l32_1, l32_2, l32_3, l32_4, l32_5, l32_6, l32_7, l32_8, l32_9, l32_10, l32_11, l32_12, l32_13, l32_14, l32_15, l32_16, l32_17, l32_18, l32_19, l32_20, l32_21, l32_22, l32_23, l32_24, l32_25, l32_26, l32_27, l32_28, l32_29, l32_30, l32_31, l32_32, l32_33, l32_34, l32_35, l32_36, l32_37, l32_38, l32_39, l32_40, l32_41, l32_42, l32_43, l32_44, l32_45, l32_46, l32_47, l32_48, l32_49, l32_50, l32_51, l32_52, l32_53, l32_54, l32_55, l32_56, l32_57, l32_58, l32_59, l32_60, l32_61, l32_62, l32_63, l32_64, l32_65, l32_66, l32_76, l32_86, l32_90, l32_92, l32_97, l32_98, l32_99, l32_100, l32_101, l32_102, l32_103, l32_104, l32_105, l32_106, l32_107, l32_108, l32_109, l32_110, l32_111, l32_112, l32_113, l32_114, l32_115, l32_116, l32_117, l32_118, l32_119, l32_120, l32_121, l32_122, l32_123, l32_124, l32_125, l32_126, l32_192, l32_200, l32_255, l32_999, l32_1000, l32_1344, l32_2147483639, l32_2147483647, l64_0, l64_1, l64_99, l64_999, l64_24883200000, l64_746496000000, jI_add, jI_sub, jI_mul, jI_neg, jL_add, jL_sub, jL_mul, jL_neg, jL_toI, jI_toL, jI_eqT, jI_eqF, jI_ltT, jI_ltF, jI_leT, jI_leF, jL_eqT, jL_eqF, jL_ltT, jL_ltF, jL_leT, jL_leF, inR_T, inR_F, bZ_T, bZ_F, not_true_eq_false, not_false_eq_true, jI_clamp, nI_j, bs_p, wl_p, u2_p, u3_p, u4_p, u5_p, zl_p, zr_p, mn_p, ms_p, if_pos, if_neg, ite_true, ite_false, s_isGear h hG, c_o h]
      · refine ⟨jI 0, uI w 141 12 (jI 2), ?_, RO.err (Sm.refl w) rfl rfl⟩
        unfold f_X11_oils
        simp (disch := omega) only [l32_0, l32_1, l32_2, l32_3, l32_4, l32_5, l32_6, l32_7, l32_8, l32_9, l32_10, l32_11, l32_12, l32_13, l32_14, l32_15, l32_16, l32_17, l32_18, l32_19, l32_20, l32_21, l32_22, l32_23, l32_24, l32_25, l32_26, l32_27, l32_28, l32_29, l32_30, l32_31, l32_32, l32_33, l32_34, l32_35, l32_36, l32_37, l32_38, l32_39, l32_40, l32_41, l32_42, l32_43, l32_44, l32_45, l32_46, l32_47, l32_48, l32_49, l32_50, l32_51, l32_52, l32_53, l32_54, l32_55, l32_56, l32_57, l32_58, l32_59, l32_60, l32_61, l32_62, l32_63, l32_64, l32_65, l32_66, l32_76, l32_86, l32_90, l32_92, l32_97, l32_98, l32_99, l32_100, l32_101, l32_102, l32_103, l32_104, l32_105, l32_106, l32_107, l32_108, l32_109, l32_110, l32_111, l32_112, l32_113, l32_114, l32_115, l32_116, l32_117, l32_118, l32_119, l32_120, l32_121, l32_122, l32_123, l32_124, l32_125, l32_126, l32_192, l32_200, l32_255, l32_999, l32_1000, l32_1344, l32_2147483639, l32_2147483647, l64_0, l64_1, l64_99, l64_999, l64_24883200000, l64_746496000000, jI_add, jI_sub, jI_mul, jI_neg, jL_add, jL_sub, jL_mul, jL_neg, jL_toI, jI_toL, jI_eqT, jI_eqF, jI_ltT, jI_ltF, jI_leT, jI_leF, jL_eqT, jL_eqF, jL_ltT, jL_ltF, jL_leT, jL_leF, inR_T, inR_F, bZ_T, bZ_F, not_true_eq_false, not_false_eq_true, jI_clamp, nI_j, bs_p, wl_p, u2_p, u3_p, u4_p, u5_p, zl_p, zr_p, mn_p, ms_p, if_pos, if_neg, ite_true, ite_false, s_rIsGear h hG, r_g h, s_fails]
    · by_cases q2 : S 2 = 0
      · refine ⟨.inl 3, ok_e (e := 3) (by decide), fun w h => ?_, fun w h => ?_⟩
        · refine ⟨jI (-4), w, ?_, CO.err (Sm.refl w) rfl h⟩
          unfold f_X1_putOil
          simp (disch := omega) only [l32_0, l32_1, l32_2, l32_3, l32_4, l32_5, l32_6, l32_7, l32_8, l32_9, l32_10, l32_11, l32_12, l32_13, l32_14, l32_15, l32_16, l32_17, l32_18, l32_19, l32_20, l32_21, l32_22, l32_23, l32_24, l32_25, l32_26, l32_27, l32_28, l32_29, l32_30, l32_31, l32_32, l32_33, l32_34, l32_35, l32_36, l32_37, l32_38, l32_39, l32_40, l32_41, l32_42, l32_43, l32_44, l32_45, l32_46, l32_47, l32_48, l32_49, l32_50, l32_51, l32_52, l32_53, l32_54, l32_55, l32_56, l32_57, l32_58, l32_59, l32_60, l32_61, l32_62, l32_63, l32_64, l32_65, l32_66, l32_76, l32_86, l32_90, l32_92, l32_97, l32_98, l32_99, l32_100, l32_101, l32_102, l32_103, l32_104, l32_105, l32_106, l32_107, l32_108, l32_109, l32_110, l32_111, l32_112, l32_113, l32_114, l32_115, l32_116, l32_117, l32_118, l32_119, l32_120, l32_121, l32_122, l32_123, l32_124, l32_125, l32_126, l32_192, l32_200, l32_255, l32_999, l32_1000, l32_1344, l32_2147483639, l32_2147483647, l64_0, l64_1, l64_99, l64_999, l64_24883200000, l64_746496000000, jI_add, jI_sub, jI_mul, jI_neg, jL_add, jL_sub, jL_mul, jL_neg, jL_toI, jI_toL, jI_eqT, jI_eqF, jI_ltT, jI_ltF, jI_leT, jI_leF, jL_eqT, jL_eqF, jL_ltT, jL_ltF, jL_leT, jL_leF, inR_T, inR_F, bZ_T, bZ_F, not_true_eq_false, not_false_eq_true, jI_clamp, nI_j, bs_p, wl_p, u2_p, u3_p, u4_p, u5_p, zl_p, zr_p, mn_p, ms_p, if_pos, if_neg, ite_true, ite_false, s_isGear h hG, c_o h, c_d h]
        · refine ⟨jI 0, uI w 141 12 (jI 3), ?_, RO.err (Sm.refl w) rfl rfl⟩
          unfold f_X11_oils
          simp (disch := omega) only [l32_0, l32_1, l32_2, l32_3, l32_4, l32_5, l32_6, l32_7, l32_8, l32_9, l32_10, l32_11, l32_12, l32_13, l32_14, l32_15, l32_16, l32_17, l32_18, l32_19, l32_20, l32_21, l32_22, l32_23, l32_24, l32_25, l32_26, l32_27, l32_28, l32_29, l32_30, l32_31, l32_32, l32_33, l32_34, l32_35, l32_36, l32_37, l32_38, l32_39, l32_40, l32_41, l32_42, l32_43, l32_44, l32_45, l32_46, l32_47, l32_48, l32_49, l32_50, l32_51, l32_52, l32_53, l32_54, l32_55, l32_56, l32_57, l32_58, l32_59, l32_60, l32_61, l32_62, l32_63, l32_64, l32_65, l32_66, l32_76, l32_86, l32_90, l32_92, l32_97, l32_98, l32_99, l32_100, l32_101, l32_102, l32_103, l32_104, l32_105, l32_106, l32_107, l32_108, l32_109, l32_110, l32_111, l32_112, l32_113, l32_114, l32_115, l32_116, l32_117, l32_118, l32_119, l32_120, l32_121, l32_122, l32_123, l32_124, l32_125, l32_126, l32_192, l32_200, l32_255, l32_999, l32_1000, l32_1344, l32_2147483639, l32_2147483647, l64_0, l64_1, l64_99, l64_999, l64_24883200000, l64_746496000000, jI_add, jI_sub, jI_mul, jI_neg, jL_add, jL_sub, jL_mul, jL_neg, jL_toI, jI_toL, jI_eqT, jI_eqF, jI_ltT, jI_ltF, jI_leT, jI_leF, jL_eqT, jL_eqF, jL_ltT, jL_ltF, jL_leT, jL_leF, inR_T, inR_F, bZ_T, bZ_F, not_true_eq_false, not_false_eq_true, jI_clamp, nI_j, bs_p, wl_p, u2_p, u3_p, u4_p, u5_p, zl_p, zr_p, mn_p, ms_p, if_pos, if_neg, ite_true, ite_false, s_rIsGear h hG, r_g h, s_fails]
      · have hG' : Good (up (up (up S (76 + x) 0) (66 + x) 1) 2 (S 2 - 1)) := hG.oil q q2
        refine ⟨.inr (S 2 - 1, up (up (up S (76 + x) 0) (66 + x) 1) 2 (S 2 - 1)), ⟨by omega, by omega, hG'⟩, fun w h => ?_, fun w h => ?_⟩
        · refine ⟨jI (S 2 - 1), uI (uL (uI w 4 x.toNat (jI 1)) 5 x.toNat (jL 0)) 1 13 (jI (S 2 - 1)), ?_, CO.val (((Sm.wI w (by unfold KC; omega)).tr (Sm.wL _ (by unfold KC; omega))).tr (Sm.wI _ (by unfold KC; omega))) rfl ?_⟩
          · unfold f_X1_putOil
            simp (disch := omega) only [l32_0, l32_1, l32_2, l32_3, l32_4, l32_5, l32_6, l32_7, l32_8, l32_9, l32_10, l32_11, l32_12, l32_13, l32_14, l32_15, l32_16, l32_17, l32_18, l32_19, l32_20, l32_21, l32_22, l32_23, l32_24, l32_25, l32_26, l32_27, l32_28, l32_29, l32_30, l32_31, l32_32, l32_33, l32_34, l32_35, l32_36, l32_37, l32_38, l32_39, l32_40, l32_41, l32_42, l32_43, l32_44, l32_45, l32_46, l32_47, l32_48, l32_49, l32_50, l32_51, l32_52, l32_53, l32_54, l32_55, l32_56, l32_57, l32_58, l32_59, l32_60, l32_61, l32_62, l32_63, l32_64, l32_65, l32_66, l32_76, l32_86, l32_90, l32_92, l32_97, l32_98, l32_99, l32_100, l32_101, l32_102, l32_103, l32_104, l32_105, l32_106, l32_107, l32_108, l32_109, l32_110, l32_111, l32_112, l32_113, l32_114, l32_115, l32_116, l32_117, l32_118, l32_119, l32_120, l32_121, l32_122, l32_123, l32_124, l32_125, l32_126, l32_192, l32_200, l32_255, l32_999, l32_1000, l32_1344, l32_2147483639, l32_2147483647, l64_0, l64_1, l64_99, l64_999, l64_24883200000, l64_746496000000, jI_add, jI_sub, jI_mul, jI_neg, jL_add, jL_sub, jL_mul, jL_neg, jL_toI, jI_toL, jI_eqT, jI_eqF, jI_ltT, jI_ltF, jI_leT, jI_leF, jL_eqT, jL_eqF, jL_ltT, jL_ltF, jL_leT, jL_leF, inR_T, inR_F, bZ_T, bZ_F, not_true_eq_false, not_false_eq_true, jI_clamp, nI_j, bs_p, wl_p, u2_p, u3_p, u4_p, u5_p, zl_p, zr_p, mn_p, ms_p, if_pos, if_neg, ite_true, ite_false, s_isGear h hG, c_o h, c_d h, nar_b1, gI_uI, gI_uL, and_self]
          · exact (h.oil q.1 (by omega)).put_d
        · have h1 := h.oil q.1 (show x < 10 by omega)
          have h2 : RSt (uL (uL (uL w 142 (66 + x).toNat (jL 1)) 142 (76 + x).toNat (jL 0)) 142 (2 : Int).toNat (jL (S 2 - 1))) 142 0 (up (up (up S (76 + x) 0) (66 + x) 1) 2 (S 2 - 1)) := h1.put (by omega) (by omega)
          have e := s_at h2 (z := 2) (by omega) (by omega)
          rw [up_eq] at e
          refine ⟨jI (S 2 - 1), uI (uL (uL (uL w 142 (66 + x).toNat (jL 1)) 142 (76 + x).toNat (jL 0)) 142 (2 : Int).toNat (jL (S 2 - 1))) 141 12 (jI 0), ?_, RO.val (((Sm.wL w (by unfold KM; omega)).tr (Sm.wL _ (by unfold KM; omega))).tr (Sm.wL _ (by unfold KM; omega))) rfl h2⟩
          unfold f_X11_oils
          simp (disch := omega) only [l32_0, l32_1, l32_2, l32_3, l32_4, l32_5, l32_6, l32_7, l32_8, l32_9, l32_10, l32_11, l32_12, l32_13, l32_14, l32_15, l32_16, l32_17, l32_18, l32_19, l32_20, l32_21, l32_22, l32_23, l32_24, l32_25, l32_26, l32_27, l32_28, l32_29, l32_30, l32_31, l32_32, l32_33, l32_34, l32_35, l32_36, l32_37, l32_38, l32_39, l32_40, l32_41, l32_42, l32_43, l32_44, l32_45, l32_46, l32_47, l32_48, l32_49, l32_50, l32_51, l32_52, l32_53, l32_54, l32_55, l32_56, l32_57, l32_58, l32_59, l32_60, l32_61, l32_62, l32_63, l32_64, l32_65, l32_66, l32_76, l32_86, l32_90, l32_92, l32_97, l32_98, l32_99, l32_100, l32_101, l32_102, l32_103, l32_104, l32_105, l32_106, l32_107, l32_108, l32_109, l32_110, l32_111, l32_112, l32_113, l32_114, l32_115, l32_116, l32_117, l32_118, l32_119, l32_120, l32_121, l32_122, l32_123, l32_124, l32_125, l32_126, l32_192, l32_200, l32_255, l32_999, l32_1000, l32_1344, l32_2147483639, l32_2147483647, l64_0, l64_1, l64_99, l64_999, l64_24883200000, l64_746496000000, jI_add, jI_sub, jI_mul, jI_neg, jL_add, jL_sub, jL_mul, jL_neg, jL_toI, jI_toL, jI_eqT, jI_eqF, jI_ltT, jI_ltF, jI_leT, jI_leF, jL_eqT, jL_eqF, jL_ltT, jL_ltF, jL_leT, jL_leF, inR_T, inR_F, bZ_T, bZ_F, not_true_eq_false, not_false_eq_true, jI_clamp, nI_j, bs_p, wl_p, u2_p, u3_p, u4_p, u5_p, zl_p, zr_p, mn_p, ms_p, if_pos, if_neg, ite_true, ite_false, s_rIsGear h hG, r_g h, gL_uL, s_done, e]
  · refine ⟨.inl 0, ok_e (e := 0) (by decide), fun w h => ?_, fun w h => ?_⟩
    · refine ⟨jI (-1), w, ?_, CO.err (Sm.refl w) rfl h⟩
      unfold f_X1_putOil
      simp (disch := omega) only [l32_0, l32_1, l32_2, l32_3, l32_4, l32_5, l32_6, l32_7, l32_8, l32_9, l32_10, l32_11, l32_12, l32_13, l32_14, l32_15, l32_16, l32_17, l32_18, l32_19, l32_20, l32_21, l32_22, l32_23, l32_24, l32_25, l32_26, l32_27, l32_28, l32_29, l32_30, l32_31, l32_32, l32_33, l32_34, l32_35, l32_36, l32_37, l32_38, l32_39, l32_40, l32_41, l32_42, l32_43, l32_44, l32_45, l32_46, l32_47, l32_48, l32_49, l32_50, l32_51, l32_52, l32_53, l32_54, l32_55, l32_56, l32_57, l32_58, l32_59, l32_60, l32_61, l32_62, l32_63, l32_64, l32_65, l32_66, l32_76, l32_86, l32_90, l32_92, l32_97, l32_98, l32_99, l32_100, l32_101, l32_102, l32_103, l32_104, l32_105, l32_106, l32_107, l32_108, l32_109, l32_110, l32_111, l32_112, l32_113, l32_114, l32_115, l32_116, l32_117, l32_118, l32_119, l32_120, l32_121, l32_122, l32_123, l32_124, l32_125, l32_126, l32_192, l32_200, l32_255, l32_999, l32_1000, l32_1344, l32_2147483639, l32_2147483647, l64_0, l64_1, l64_99, l64_999, l64_24883200000, l64_746496000000, jI_add, jI_sub, jI_mul, jI_neg, jL_add, jL_sub, jL_mul, jL_neg, jL_toI, jI_toL, jI_eqT, jI_eqF, jI_ltT, jI_ltF, jI_leT, jI_leF, jL_eqT, jL_eqF, jL_ltT, jL_ltF, jL_leT, jL_leF, inR_T, inR_F, bZ_T, bZ_F, not_true_eq_false, not_false_eq_true, jI_clamp, nI_j, bs_p, wl_p, u2_p, u3_p, u4_p, u5_p, zl_p, zr_p, mn_p, ms_p, if_pos, if_neg, ite_true, ite_false, s_isGear h hG]
    · refine ⟨jI 0, uI w 141 12 (jI 1), ?_, RO.err (Sm.refl w) rfl rfl⟩
      unfold f_X11_oils
      simp (disch := omega) only [l32_0, l32_1, l32_2, l32_3, l32_4, l32_5, l32_6, l32_7, l32_8, l32_9, l32_10, l32_11, l32_12, l32_13, l32_14, l32_15, l32_16, l32_17, l32_18, l32_19, l32_20, l32_21, l32_22, l32_23, l32_24, l32_25, l32_26, l32_27, l32_28, l32_29, l32_30, l32_31, l32_32, l32_33, l32_34, l32_35, l32_36, l32_37, l32_38, l32_39, l32_40, l32_41, l32_42, l32_43, l32_44, l32_45, l32_46, l32_47, l32_48, l32_49, l32_50, l32_51, l32_52, l32_53, l32_54, l32_55, l32_56, l32_57, l32_58, l32_59, l32_60, l32_61, l32_62, l32_63, l32_64, l32_65, l32_66, l32_76, l32_86, l32_90, l32_92, l32_97, l32_98, l32_99, l32_100, l32_101, l32_102, l32_103, l32_104, l32_105, l32_106, l32_107, l32_108, l32_109, l32_110, l32_111, l32_112, l32_113, l32_114, l32_115, l32_116, l32_117, l32_118, l32_119, l32_120, l32_121, l32_122, l32_123, l32_124, l32_125, l32_126, l32_192, l32_200, l32_255, l32_999, l32_1000, l32_1344, l32_2147483639, l32_2147483647, l64_0, l64_1, l64_99, l64_999, l64_24883200000, l64_746496000000, jI_add, jI_sub, jI_mul, jI_neg, jL_add, jL_sub, jL_mul, jL_neg, jL_toI, jI_toL, jI_eqT, jI_eqF, jI_ltT, jI_ltF, jI_leT, jI_leF, jL_eqT, jL_eqF, jL_ltT, jL_ltF, jL_leT, jL_leF, inR_T, inR_F, bZ_T, bZ_F, not_true_eq_false, not_false_eq_true, jI_clamp, nI_j, bs_p, wl_p, u2_p, u3_p, u4_p, u5_p, zl_p, zr_p, mn_p, ms_p, if_pos, if_neg, ite_true, ite_false, s_rIsGear h hG, s_fails]
end
section
/-! PLANETS AND JOINTS -/
theorem Good.plan {S : Ab} {g : Int} (hG : Good S) (g0 : 0 ≤ g) (g1 : g < S 0) (h : S 1 < 6) : Good (up (up S (86 + S 1) g) 1 (S 1 + 1)) := by
  obtain ⟨d1, g2, g3, g4, g5, g6, P, hP⟩ := hG
  have e : ∀ z, 0 ≤ z → z ≠ 1 → z ≠ 86 + S 1 → (up (up S (86 + S 1) g) 1 (S 1 + 1)) z = S z := fun z z0 z1 z2 => by rw [up_ne z1, up_ne z2]
  have ej2 : ∀ a b, 0 ≤ a → a < 10 → 0 ≤ b → b < 10 → (up (up S (86 + S 1) g) 1 (S 1 + 1)) (92 + 10 * a + b) = S (92 + 10 * a + b) := fun a b a0 a1 b0 b1 => e _ (by omega) (by omega) (by omega)
  refine ⟨?_, fun i i0 i1 => ?_, fun p p0 p1 => ?_, fun a b a0 a1 b0 b1 => ?_, ?_, ?_, P, fun a a0 a1 => ⟨(hP a a0 a1).1, fun b b0 b1 => ?_⟩⟩
  · rw [e 0 (by omega) (by omega) (by omega), up_eq, e 2 (by omega) (by omega) (by omega)]; omega
  · unfold Gg
    rw [e 0 (by omega) (by omega) (by omega), e (6 + i) (by omega) (by omega) (by omega), e (16 + i) (by omega) (by omega) (by omega), e (26 + i) (by omega) (by omega) (by omega), e (36 + i) (by omega) (by omega) (by omega), e (46 + i) (by omega) (by omega) (by omega), e (56 + i) (by omega) (by omega) (by omega), e (66 + i) (by omega) (by omega) (by omega), e (76 + i) (by omega) (by omega) (by omega)]
    exact g2 i i0 i1
  · rw [up_eq] at p1
    rw [e 0 (by omega) (by omega) (by omega)]
    by_cases z : p = S 1
    · rw [z, up_ne (by omega), up_eq]; exact ⟨g0, g1⟩
    · rw [e (86 + p) (by omega) (by omega) (by omega)]
      exact g3 p p0 (by omega)
  · unfold Gj
    rw [ej2 a b a0 a1 b0 b1, ej2 b a b0 b1 a0 a1, e 0 (by omega) (by omega) (by omega)]
    exact g4 a b a0 a1 b0 b1
  · rw [show jc (up (up S (86 + S 1) g) 1 (S 1 + 1)) = jc S from sm_congr (fun i h0 h1 => by rw [e _ (by omega) (by omega) (by omega)])]
    exact g5
  · rw [e 3 (by omega) (by omega) (by omega), e 4 (by omega) (by omega) (by omega), ← g6]
    exact sm_congr (fun i h0 h1 => e _ (by omega) (by omega) (by omega))
  · unfold Rl
    rw [ej2 a b a0 a1 b0 b1, e (6 + a) (by omega) (by omega) (by omega), e (6 + b) (by omega) (by omega) (by omega)]
    exact (hP a a0 a1).2 b b0 b1
theorem op_planet {S : Ab} (hG : Good S) {x : Int} (x1 : -2147483648 ≤ x) (x2 : x < 2147483648) : Op S [0, 2] (fun e => if e = 0 then 1 else 2) (fun w => f_X1_putPlanet w (jI x)) (fun w => f_X11_addsPlanet w (jI x)) := by
  have hg := hG.1
  by_cases q : 0 ≤ x ∧ x < S 0
  · by_cases q1 : S 1 = 6
    · refine ⟨.inl 2, ok_e (e := 2) (by decide), fun w h => ?_, fun w h => ?_⟩
      · refine ⟨jI (-3), w, ?_, CO.err (Sm.refl w) rfl h⟩
        unfold f_X1_putPlanet
        simp (disch := omega) only [l32_0, l32_1, l32_2, l32_3, l32_4, l32_5, l32_6, l32_7, l32_8, l32_9, l32_10, l32_11, l32_12, l32_13, l32_14, l32_15, l32_16, l32_17, l32_18, l32_19, l32_20, l32_21, l32_22, l32_23, l32_24, l32_25, l32_26, l32_27, l32_28, l32_29, l32_30, l32_31, l32_32, l32_33, l32_34, l32_35, l32_36, l32_37, l32_38, l32_39, l32_40, l32_41, l32_42, l32_43, l32_44, l32_45, l32_46, l32_47, l32_48, l32_49, l32_50, l32_51, l32_52, l32_53, l32_54, l32_55, l32_56, l32_57, l32_58, l32_59, l32_60, l32_61, l32_62, l32_63, l32_64, l32_65, l32_66, l32_76, l32_86, l32_90, l32_92, l32_97, l32_98, l32_99, l32_100, l32_101, l32_102, l32_103, l32_104, l32_105, l32_106, l32_107, l32_108, l32_109, l32_110, l32_111, l32_112, l32_113, l32_114, l32_115, l32_116, l32_117, l32_118, l32_119, l32_120, l32_121, l32_122, l32_123, l32_124, l32_125, l32_126, l32_192, l32_200, l32_255, l32_999, l32_1000, l32_1344, l32_2147483639, l32_2147483647, l64_0, l64_1, l64_99, l64_999, l64_24883200000, l64_746496000000, jI_add, jI_sub, jI_mul, jI_neg, jL_add, jL_sub, jL_mul, jL_neg, jL_toI, jI_toL, jI_eqT, jI_eqF, jI_ltT, jI_ltF, jI_leT, jI_leF, jL_eqT, jL_eqF, jL_ltT, jL_ltF, jL_leT, jL_leF, inR_T, inR_F, bZ_T, bZ_F, not_true_eq_false, not_false_eq_true, jI_clamp, nI_j, bs_p, wl_p, u2_p, u3_p, u4_p, u5_p, zl_p, zr_p, mn_p, ms_p, if_pos, if_neg, ite_true, ite_false, s_isGear h hG, c_p h]
      · refine ⟨jI 0, uI w 141 12 (jI 2), ?_, RO.err (Sm.refl w) rfl rfl⟩
        unfold f_X11_addsPlanet
        simp (disch := omega) only [l32_0, l32_1, l32_2, l32_3, l32_4, l32_5, l32_6, l32_7, l32_8, l32_9, l32_10, l32_11, l32_12, l32_13, l32_14, l32_15, l32_16, l32_17, l32_18, l32_19, l32_20, l32_21, l32_22, l32_23, l32_24, l32_25, l32_26, l32_27, l32_28, l32_29, l32_30, l32_31, l32_32, l32_33, l32_34, l32_35, l32_36, l32_37, l32_38, l32_39, l32_40, l32_41, l32_42, l32_43, l32_44, l32_45, l32_46, l32_47, l32_48, l32_49, l32_50, l32_51, l32_52, l32_53, l32_54, l32_55, l32_56, l32_57, l32_58, l32_59, l32_60, l32_61, l32_62, l32_63, l32_64, l32_65, l32_66, l32_76, l32_86, l32_90, l32_92, l32_97, l32_98, l32_99, l32_100, l32_101, l32_102, l32_103, l32_104, l32_105, l32_106, l32_107, l32_108, l32_109, l32_110, l32_111, l32_112, l32_113, l32_114, l32_115, l32_116, l32_117, l32_118, l32_119, l32_120, l32_121, l32_122, l32_123, l32_124, l32_125, l32_126, l32_192, l32_200, l32_255, l32_999, l32_1000, l32_1344, l32_2147483639, l32_2147483647, l64_0, l64_1, l64_99, l64_999, l64_24883200000, l64_746496000000, jI_add, jI_sub, jI_mul, jI_neg, jL_add, jL_sub, jL_mul, jL_neg, jL_toI, jI_toL, jI_eqT, jI_eqF, jI_ltT, jI_ltF, jI_leT, jI_leF, jL_eqT, jL_eqF, jL_ltT, jL_ltF, jL_leT, jL_leF, inR_T, inR_F, bZ_T, bZ_F, not_true_eq_false, not_false_eq_true, jI_clamp, nI_j, bs_p, wl_p, u2_p, u3_p, u4_p, u5_p, zl_p, zr_p, mn_p, ms_p, if_pos, if_neg, ite_true, ite_false, s_rIsGear h hG, s_at h, s_fails]
    · by_cases q2 : ∃ p, 0 ≤ p ∧ p < S 1 ∧ S (86 + p) = x
      · refine ⟨.inl 2, ok_e (e := 2) (by decide), fun w h => ?_, fun w h => ?_⟩
        · obtain ⟨r, hr, ⟨rfl, hx⟩ | ⟨rfl, hx⟩⟩ := s_carriesPlanet h hG q.1 (show x < 10 by omega)
          · exact absurd q2 hx
          · refine ⟨jI (-3), w, ?_, CO.err (Sm.refl w) rfl h⟩
            unfold f_X1_putPlanet
            simp (disch := omega) only [l32_0, l32_1, l32_2, l32_3, l32_4, l32_5, l32_6, l32_7, l32_8, l32_9, l32_10, l32_11, l32_12, l32_13, l32_14, l32_15, l32_16, l32_17, l32_18, l32_19, l32_20, l32_21, l32_22, l32_23, l32_24, l32_25, l32_26, l32_27, l32_28, l32_29, l32_30, l32_31, l32_32, l32_33, l32_34, l32_35, l32_36, l32_37, l32_38, l32_39, l32_40, l32_41, l32_42, l32_43, l32_44, l32_45, l32_46, l32_47, l32_48, l32_49, l32_50, l32_51, l32_52, l32_53, l32_54, l32_55, l32_56, l32_57, l32_58, l32_59, l32_60, l32_61, l32_62, l32_63, l32_64, l32_65, l32_66, l32_76, l32_86, l32_90, l32_92, l32_97, l32_98, l32_99, l32_100, l32_101, l32_102, l32_103, l32_104, l32_105, l32_106, l32_107, l32_108, l32_109, l32_110, l32_111, l32_112, l32_113, l32_114, l32_115, l32_116, l32_117, l32_118, l32_119, l32_120, l32_121, l32_122, l32_123, l32_124, l32_125, l32_126, l32_192, l32_200, l32_255, l32_999, l32_1000, l32_1344, l32_2147483639, l32_2147483647, l64_0, l64_1, l64_99, l64_999, l64_24883200000, l64_746496000000, jI_add, jI_sub, jI_mul, jI_neg, jL_add, jL_sub, jL_mul, jL_neg, jL_toI, jI_toL, jI_eqT, jI_eqF, jI_ltT, jI_ltF, jI_leT, jI_leF, jL_eqT, jL_eqF, jL_ltT, jL_ltF, jL_leT, jL_leF, inR_T, inR_F, bZ_T, bZ_F, not_true_eq_false, not_false_eq_true, jI_clamp, nI_j, bs_p, wl_p, u2_p, u3_p, u4_p, u5_p, zl_p, zr_p, mn_p, ms_p, if_pos, if_neg, ite_true, ite_false, s_isGear h hG, c_p h, hr]
        · obtain ⟨r, hr, hF⟩ := s_rPlanetOn h hG q.1 (show x < 10 by omega)
          have hb := hF.b
          have hne : r ≠ -1 := by
            rcases hF with hF | hF
            · omega
            · obtain ⟨i, i0, i1, i2⟩ := q2; exact absurd i2 (hF.2 i i0 i1)
          refine ⟨jI 0, uI w 141 12 (jI 2), ?_, RO.err (Sm.refl w) rfl rfl⟩
          unfold f_X11_addsPlanet
          simp (disch := omega) only [l32_0, l32_1, l32_2, l32_3, l32_4, l32_5, l32_6, l32_7, l32_8, l32_9, l32_10, l32_11, l32_12, l32_13, l32_14, l32_15, l32_16, l32_17, l32_18, l32_19, l32_20, l32_21, l32_22, l32_23, l32_24, l32_25, l32_26, l32_27, l32_28, l32_29, l32_30, l32_31, l32_32, l32_33, l32_34, l32_35, l32_36, l32_37, l32_38, l32_39, l32_40, l32_41, l32_42, l32_43, l32_44, l32_45, l32_46, l32_47, l32_48, l32_49, l32_50, l32_51, l32_52, l32_53, l32_54, l32_55, l32_56, l32_57, l32_58, l32_59, l32_60, l32_61, l32_62, l32_63, l32_64, l32_65, l32_66, l32_76, l32_86, l32_90, l32_92, l32_97, l32_98, l32_99, l32_100, l32_101, l32_102, l32_103, l32_104, l32_105, l32_106, l32_107, l32_108, l32_109, l32_110, l32_111, l32_112, l32_113, l32_114, l32_115, l32_116, l32_117, l32_118, l32_119, l32_120, l32_121, l32_122, l32_123, l32_124, l32_125, l32_126, l32_192, l32_200, l32_255, l32_999, l32_1000, l32_1344, l32_2147483639, l32_2147483647, l64_0, l64_1, l64_99, l64_999, l64_24883200000, l64_746496000000, jI_add, jI_sub, jI_mul, jI_neg, jL_add, jL_sub, jL_mul, jL_neg, jL_toI, jI_toL, jI_eqT, jI_eqF, jI_ltT, jI_ltF, jI_leT, jI_leF, jL_eqT, jL_eqF, jL_ltT, jL_ltF, jL_leT, jL_leF, inR_T, inR_F, bZ_T, bZ_F, not_true_eq_false, not_false_eq_true, jI_clamp, nI_j, bs_p, wl_p, u2_p, u3_p, u4_p, u5_p, zl_p, zr_p, mn_p, ms_p, if_pos, if_neg, ite_true, ite_false, s_rIsGear h hG, s_at h, hr, s_fails]
      · refine ⟨.inr (S 1, up (up S (86 + S 1) x) 1 (S 1 + 1)), ⟨by omega, by omega, hG.plan q.1 q.2 (by omega)⟩, fun w h => ?_, fun w h => ?_⟩
        · obtain ⟨r, hr, ⟨rfl, hx⟩ | ⟨rfl, hx⟩⟩ := s_carriesPlanet h hG q.1 (show x < 10 by omega)
          · refine ⟨jI (S 1), uI (uI w 11 (S 1).toNat (jI x)) 1 12 (jI (S 1 + 1)), ?_, CO.val ((Sm.wI w (by unfold KC; omega)).tr (Sm.wI _ (by unfold KC; omega))) rfl (h.put_c (by omega) (by omega)).put_p⟩
            unfold f_X1_putPlanet
            simp (disch := omega) only [l32_0, l32_1, l32_2, l32_3, l32_4, l32_5, l32_6, l32_7, l32_8, l32_9, l32_10, l32_11, l32_12, l32_13, l32_14, l32_15, l32_16, l32_17, l32_18, l32_19, l32_20, l32_21, l32_22, l32_23, l32_24, l32_25, l32_26, l32_27, l32_28, l32_29, l32_30, l32_31, l32_32, l32_33, l32_34, l32_35, l32_36, l32_37, l32_38, l32_39, l32_40, l32_41, l32_42, l32_43, l32_44, l32_45, l32_46, l32_47, l32_48, l32_49, l32_50, l32_51, l32_52, l32_53, l32_54, l32_55, l32_56, l32_57, l32_58, l32_59, l32_60, l32_61, l32_62, l32_63, l32_64, l32_65, l32_66, l32_76, l32_86, l32_90, l32_92, l32_97, l32_98, l32_99, l32_100, l32_101, l32_102, l32_103, l32_104, l32_105, l32_106, l32_107, l32_108, l32_109, l32_110, l32_111, l32_112, l32_113, l32_114, l32_115, l32_116, l32_117, l32_118, l32_119, l32_120, l32_121, l32_122, l32_123, l32_124, l32_125, l32_126, l32_192, l32_200, l32_255, l32_999, l32_1000, l32_1344, l32_2147483639, l32_2147483647, l64_0, l64_1, l64_99, l64_999, l64_24883200000, l64_746496000000, jI_add, jI_sub, jI_mul, jI_neg, jL_add, jL_sub, jL_mul, jL_neg, jL_toI, jI_toL, jI_eqT, jI_eqF, jI_ltT, jI_ltF, jI_leT, jI_leF, jL_eqT, jL_eqF, jL_ltT, jL_ltF, jL_leT, jL_leF, inR_T, inR_F, bZ_T, bZ_F, not_true_eq_false, not_false_eq_true, jI_clamp, nI_j, bs_p, wl_p, u2_p, u3_p, u4_p, u5_p, zl_p, zr_p, mn_p, ms_p, if_pos, if_neg, ite_true, ite_false, s_isGear h hG, c_p h, hr, gI_uI]
          · exact absurd hx q2
        · obtain ⟨r, hr, hF⟩ := s_rPlanetOn h hG q.1 (show x < 10 by omega)
          have hne : r = -1 := by
            rcases hF with hF | hF
            · exact absurd ⟨r, hF.1, hF.2.1, hF.2.2.1⟩ q2
            · exact hF.1
          subst hne
          refine ⟨jI (S 1), uI (uL (uL w 142 (86 + S 1).toNat (jL x)) 142 (1 : Int).toNat (jL (S 1 + 1))) 141 12 (jI 0), ?_, RO.val ((Sm.wL w (by unfold KM; omega)).tr (Sm.wL _ (by unfold KM; omega))) rfl ((h.put (by omega) (by omega)).put (by omega) (by omega))⟩
          unfold f_X11_addsPlanet
          simp (disch := omega) only [l32_0, l32_1, l32_2, l32_3, l32_4, l32_5, l32_6, l32_7, l32_8, l32_9, l32_10, l32_11, l32_12, l32_13, l32_14, l32_15, l32_16, l32_17, l32_18, l32_19, l32_20, l32_21, l32_22, l32_23, l32_24, l32_25, l32_26, l32_27, l32_28, l32_29, l32_30, l32_31, l32_32, l32_33, l32_34, l32_35, l32_36, l32_37, l32_38, l32_39, l32_40, l32_41, l32_42, l32_43, l32_44, l32_45, l32_46, l32_47, l32_48, l32_49, l32_50, l32_51, l32_52, l32_53, l32_54, l32_55, l32_56, l32_57, l32_58, l32_59, l32_60, l32_61, l32_62, l32_63, l32_64, l32_65, l32_66, l32_76, l32_86, l32_90, l32_92, l32_97, l32_98, l32_99, l32_100, l32_101, l32_102, l32_103, l32_104, l32_105, l32_106, l32_107, l32_108, l32_109, l32_110, l32_111, l32_112, l32_113, l32_114, l32_115, l32_116, l32_117, l32_118, l32_119, l32_120, l32_121, l32_122, l32_123, l32_124, l32_125, l32_126, l32_192, l32_200, l32_255, l32_999, l32_1000, l32_1344, l32_2147483639, l32_2147483647, l64_0, l64_1, l64_99, l64_999, l64_24883200000, l64_746496000000, jI_add, jI_sub, jI_mul, jI_neg, jL_add, jL_sub, jL_mul, jL_neg, jL_toI, jI_toL, jI_eqT, jI_eqF, jI_ltT, jI_ltF, jI_leT, jI_leF, jL_eqT, jL_eqF, jL_ltT, jL_ltF, jL_leT, jL_leF, inR_T, inR_F, bZ_T, bZ_F, not_true_eq_false, not_false_eq_true, jI_clamp, nI_j, bs_p, wl_p, u2_p, u3_p, u4_p, u5_p, zl_p, zr_p, mn_p, ms_p, if_pos, if_neg, ite_true, ite_false, s_rIsGear h hG, s_at h, hr, s_done, gL_uL, r_g h]
  · refine ⟨.inl 0, ok_e (e := 0) (by decide), fun w h => ?_, fun w h => ?_⟩
    · refine ⟨jI (-1), w, ?_, CO.err (Sm.refl w) rfl h⟩
      unfold f_X1_putPlanet
      simp (disch := omega) only [l32_0, l32_1, l32_2, l32_3, l32_4, l32_5, l32_6, l32_7, l32_8, l32_9, l32_10, l32_11, l32_12, l32_13, l32_14, l32_15, l32_16, l32_17, l32_18, l32_19, l32_20, l32_21, l32_22, l32_23, l32_24, l32_25, l32_26, l32_27, l32_28, l32_29, l32_30, l32_31, l32_32, l32_33, l32_34, l32_35, l32_36, l32_37, l32_38, l32_39, l32_40, l32_41, l32_42, l32_43, l32_44, l32_45, l32_46, l32_47, l32_48, l32_49, l32_50, l32_51, l32_52, l32_53, l32_54, l32_55, l32_56, l32_57, l32_58, l32_59, l32_60, l32_61, l32_62, l32_63, l32_64, l32_65, l32_66, l32_76, l32_86, l32_90, l32_92, l32_97, l32_98, l32_99, l32_100, l32_101, l32_102, l32_103, l32_104, l32_105, l32_106, l32_107, l32_108, l32_109, l32_110, l32_111, l32_112, l32_113, l32_114, l32_115, l32_116, l32_117, l32_118, l32_119, l32_120, l32_121, l32_122, l32_123, l32_124, l32_125, l32_126, l32_192, l32_200, l32_255, l32_999, l32_1000, l32_1344, l32_2147483639, l32_2147483647, l64_0, l64_1, l64_99, l64_999, l64_24883200000, l64_746496000000, jI_add, jI_sub, jI_mul, jI_neg, jL_add, jL_sub, jL_mul, jL_neg, jL_toI, jI_toL, jI_eqT, jI_eqF, jI_ltT, jI_ltF, jI_leT, jI_leF, jL_eqT, jL_eqF, jL_ltT, jL_ltF, jL_leT, jL_leF, inR_T, inR_F, bZ_T, bZ_F, not_true_eq_false, not_false_eq_true, jI_clamp, nI_j, bs_p, wl_p, u2_p, u3_p, u4_p, u5_p, zl_p, zr_p, mn_p, ms_p, if_pos, if_neg, ite_true, ite_false, s_isGear h hG]
    · refine ⟨jI 0, uI w 141 12 (jI 1), ?_, RO.err (Sm.refl w) rfl rfl⟩
      unfold f_X11_addsPlanet
      simp (disch := omega) only [l32_0, l32_1, l32_2, l32_3, l32_4, l32_5, l32_6, l32_7, l32_8, l32_9, l32_10, l32_11, l32_12, l32_13, l32_14, l32_15, l32_16, l32_17, l32_18, l32_19, l32_20, l32_21, l32_22, l32_23, l32_24, l32_25, l32_26, l32_27, l32_28, l32_29, l32_30, l32_31, l32_32, l32_33, l32_34, l32_35, l32_36, l32_37, l32_38, l32_39, l32_40, l32_41, l32_42, l32_43, l32_44, l32_45, l32_46, l32_47, l32_48, l32_49, l32_50, l32_51, l32_52, l32_53, l32_54, l32_55, l32_56, l32_57, l32_58, l32_59, l32_60, l32_61, l32_62, l32_63, l32_64, l32_65, l32_66, l32_76, l32_86, l32_90, l32_92, l32_97, l32_98, l32_99, l32_100, l32_101, l32_102, l32_103, l32_104, l32_105, l32_106, l32_107, l32_108, l32_109, l32_110, l32_111, l32_112, l32_113, l32_114, l32_115, l32_116, l32_117, l32_118, l32_119, l32_120, l32_121, l32_122, l32_123, l32_124, l32_125, l32_126, l32_192, l32_200, l32_255, l32_999, l32_1000, l32_1344, l32_2147483639, l32_2147483647, l64_0, l64_1, l64_99, l64_999, l64_24883200000, l64_746496000000, jI_add, jI_sub, jI_mul, jI_neg, jL_add, jL_sub, jL_mul, jL_neg, jL_toI, jI_toL, jI_eqT, jI_eqF, jI_ltT, jI_ltF, jI_leT, jI_leF, jL_eqT, jL_eqF, jL_ltT, jL_ltF, jL_leT, jL_leF, inR_T, inR_F, bZ_T, bZ_F, not_true_eq_false, not_false_eq_true, jI_clamp, nI_j, bs_p, wl_p, u2_p, u3_p, u4_p, u5_p, zl_p, zr_p, mn_p, ms_p, if_pos, if_neg, ite_true, ite_false, s_rIsGear h hG, s_fails]
/-- a joint's kind, put for both orders -/
def pj (S : Ab) (a b v : Int) : Ab := up (up S (92 + 10 * a + b) v) (92 + 10 * b + a) v
theorem pj_lo {S : Ab} {a b v z : Int} (a0 : 0 ≤ a) (b0 : 0 ≤ b) (hz : z < 92) : pj S a b v z = S z := by
  unfold pj; rw [up_ne (by omega), up_ne (by omega)]
theorem pj_j {S : Ab} {a b v x y : Int} (a0 : 0 ≤ a) (a1 : a < 10) (b0 : 0 ≤ b) (b1 : b < 10) (x0 : 0 ≤ x) (x1 : x < 10) (y0 : 0 ≤ y) (y1 : y < 10) : pj S a b v (92 + 10 * x + y) = if (x = a ∧ y = b) ∨ (x = b ∧ y = a) then v else S (92 + 10 * x + y) := by
  unfold pj up
  by_cases q1 : x = b ∧ y = a
  · rw [if_pos (by omega), if_pos (Or.inr q1)]
  · rw [if_neg (by omega)]
    by_cases q2 : x = a ∧ y = b
    · rw [if_pos (by omega), if_pos (Or.inl q2)]
    · rw [if_neg (by omega), if_neg (by omega)]
theorem jc_j {S : Ab} {k v : Int} (k0 : 0 ≤ k) (k1 : k < 100) : jc (up S (92 + k) v) = jc S + ((if v = 0 then 0 else 1) - (if S (92 + k) = 0 then 0 else 1)) := by
  unfold jc
  rw [sm_up (g := fun i => if up S (92 + k) v (92 + i) = 0 then 0 else 1) (h := fun i => if S (92 + i) = 0 then 0 else 1) (k := k) k0 k1 (fun i _ _ q => by show (if up S (92 + k) v (92 + i) = 0 then _ else _) = _; rw [up_ne (by omega)])]
  show _ + ((if up S (92 + k) v (92 + k) = 0 then 0 else 1) - _) = _
  rw [up_eq]
theorem jc_pj {S : Ab} {a b v : Int} (a0 : 0 ≤ a) (a1 : a < 10) (b0 : 0 ≤ b) (b1 : b < 10) (hab : a ≠ b) (hs : S (92 + 10 * a + b) = S (92 + 10 * b + a)) : jc (pj S a b v) = jc S + 2 * ((if v = 0 then 0 else 1) - (if S (92 + 10 * a + b) = 0 then 0 else 1)) := by
  unfold pj
  rw [show 92 + 10 * b + a = 92 + (10 * b + a) by omega, jc_j (by omega) (by omega), show 92 + 10 * a + b = 92 + (10 * a + b) by omega, jc_j (by omega) (by omega), up_ne (by omega)]
  rw [show 92 + 10 * a + b = 92 + (10 * a + b) by omega, show 92 + 10 * b + a = 92 + (10 * b + a) by omega] at hs
  rw [← hs]
  omega
theorem Good.joint {S : Ab} {a b v : Int} (hG : Good S) (a0 : 0 ≤ a) (a1 : a < S 0) (b0 : 0 ≤ b) (b1 : b < S 0) (hab : a ≠ b) (hv : v = 0 ∨ v = 1 ∨ v = 2) (hc : jc (pj S a b v) ≤ 30) (hP' : ∃ P, Pot (pj S a b v) P) : Good (pj S a b v) := by
  have hs := hG.1
  have hj := jc_pj (v := v) a0 (by omega) b0 (by omega) hab (hG.2.2.2.1 a b a0 (by omega) b0 (by omega)).1
  obtain ⟨d1, g2, g3, g4, g5, g6, -⟩ := hG
  have e : ∀ z, z < 92 → pj S a b v z = S z := fun z hz => pj_lo a0 b0 hz
  refine ⟨?_, fun i i0 i1 => ?_, fun p p0 p1 => ?_, fun x y x0 x1 y0 y1 => ?_, ⟨hc, ?_⟩, ?_, hP'⟩
  · rw [e 0 (by omega), e 1 (by omega), e 2 (by omega)]; exact d1
  · unfold Gg
    rw [e 0 (by omega), e (6 + i) (by omega), e (16 + i) (by omega), e (26 + i) (by omega), e (36 + i) (by omega), e (46 + i) (by omega), e (56 + i) (by omega), e (66 + i) (by omega), e (76 + i) (by omega)]
    exact g2 i i0 i1
  · rw [e 1 (by omega)] at p1
    rw [e 0 (by omega), e (86 + p) (by omega)]; exact g3 p p0 p1
  · unfold Gj
    rw [pj_j a0 (by omega) b0 (by omega) x0 x1 y0 y1, pj_j a0 (by omega) b0 (by omega) y0 y1 x0 x1, e 0 (by omega)]
    by_cases q : (x = a ∧ y = b) ∨ (x = b ∧ y = a)
    · rw [if_pos q, if_pos (by omega)]
      exact ⟨rfl, hv, fun _ => by omega⟩
    · rw [if_neg q, if_neg (by omega)]
      exact g4 x y x0 x1 y0 y1
  · rw [hj]; omega
  · rw [e 3 (by omega), e 4 (by omega), ← g6]
    exact sm_congr (fun i h0 h1 => e _ (by omega))
theorem s_putJoint {w : Wd} {a b v : Int} (a0 : 0 ≤ a) (a1 : a < 10) (b0 : 0 ≤ b) (b1 : b < 10) : f_X7_putJoint w (jI a) (jI b) (jI (jk v)) = some (uI (uI w 10 (a * 10 + b).toNat (jI (jk v))) 10 (b * 10 + a).toNat (jI (jk v))) := by
  unfold f_X7_putJoint
  simp (disch := omega) only [l32_0, l32_1, l32_2, l32_3, l32_4, l32_5, l32_6, l32_7, l32_8, l32_9, l32_10, l32_11, l32_12, l32_13, l32_14, l32_15, l32_16, l32_17, l32_18, l32_19, l32_20, l32_21, l32_22, l32_23, l32_24, l32_25, l32_26, l32_27, l32_28, l32_29, l32_30, l32_31, l32_32, l32_33, l32_34, l32_35, l32_36, l32_37, l32_38, l32_39, l32_40, l32_41, l32_42, l32_43, l32_44, l32_45, l32_46, l32_47, l32_48, l32_49, l32_50, l32_51, l32_52, l32_53, l32_54, l32_55, l32_56, l32_57, l32_58, l32_59, l32_60, l32_61, l32_62, l32_63, l32_64, l32_65, l32_66, l32_76, l32_86, l32_90, l32_92, l32_97, l32_98, l32_99, l32_100, l32_101, l32_102, l32_103, l32_104, l32_105, l32_106, l32_107, l32_108, l32_109, l32_110, l32_111, l32_112, l32_113, l32_114, l32_115, l32_116, l32_117, l32_118, l32_119, l32_120, l32_121, l32_122, l32_123, l32_124, l32_125, l32_126, l32_192, l32_200, l32_255, l32_999, l32_1000, l32_1344, l32_2147483639, l32_2147483647, l64_0, l64_1, l64_99, l64_999, l64_24883200000, l64_746496000000, jI_add, jI_sub, jI_mul, jI_neg, jL_add, jL_sub, jL_mul, jL_neg, jL_toI, jI_toL, jI_eqT, jI_eqF, jI_ltT, jI_ltF, jI_leT, jI_leF, jL_eqT, jL_eqF, jL_ltT, jL_ltF, jL_leT, jL_leF, inR_T, inR_F, bZ_T, bZ_F, not_true_eq_false, not_false_eq_true, jI_clamp, nI_j, bs_p, wl_p, u2_p, u3_p, u4_p, u5_p, zl_p, zr_p, mn_p, ms_p, if_pos, if_neg, ite_true, ite_false, jk_nar]
theorem RSt.joint {w : Wd} {S : Ab} {a b v : Int} (h : RSt w 142 0 S) (a0 : 0 ≤ a) (a1 : a < 10) (b0 : 0 ≤ b) (b1 : b < 10) : RSt (uL (uL w 142 (92 + 10 * a + b).toNat (jL v)) 142 (92 + 10 * b + a).toNat (jL v)) 142 0 (pj S a b v) :=
  (h.put (by omega) (by omega)).put (by omega) (by omega)
theorem op_cut {S : Ab} (hG : Good S) {x y : Int} (x1 : -2147483648 ≤ x) (x2 : x < 2147483648) (y1 : -2147483648 ≤ y) (y2 : y < 2147483648) : Op S [0, 4] (fun e => if e = 0 then 1 else 2) (fun w => f_X1_cut w (jI x) (jI y)) (fun w => f_X11_parts w (jI x) (jI y)) := by
  have hg := hG.1
  by_cases q : (0 ≤ x ∧ x < S 0) ∧ 0 ≤ y ∧ y < S 0
  · obtain ⟨qx, qy⟩ := q
    have hj := hG.2.2.2.1 x y qx.1 (by omega) qy.1 (by omega)
    have hj2 := hj.2.1
    have hk := jk_b (S (92 + 10 * x + y))
    by_cases q1 : S (92 + 10 * x + y) = 0
    · refine ⟨.inl 4, ok_e (e := 4) (by decide), fun w h => ?_, fun w h => ?_⟩
      · refine ⟨jI (-5), w, ?_, CO.err (Sm.refl w) rfl h⟩
        have hz : jk (S (92 + 10 * x + y)) = 0 := jk_0.mpr q1
        unfold f_X1_cut
        simp (disch := omega) only [l32_0, l32_1, l32_2, l32_3, l32_4, l32_5, l32_6, l32_7, l32_8, l32_9, l32_10, l32_11, l32_12, l32_13, l32_14, l32_15, l32_16, l32_17, l32_18, l32_19, l32_20, l32_21, l32_22, l32_23, l32_24, l32_25, l32_26, l32_27, l32_28, l32_29, l32_30, l32_31, l32_32, l32_33, l32_34, l32_35, l32_36, l32_37, l32_38, l32_39, l32_40, l32_41, l32_42, l32_43, l32_44, l32_45, l32_46, l32_47, l32_48, l32_49, l32_50, l32_51, l32_52, l32_53, l32_54, l32_55, l32_56, l32_57, l32_58, l32_59, l32_60, l32_61, l32_62, l32_63, l32_64, l32_65, l32_66, l32_76, l32_86, l32_90, l32_92, l32_97, l32_98, l32_99, l32_100, l32_101, l32_102, l32_103, l32_104, l32_105, l32_106, l32_107, l32_108, l32_109, l32_110, l32_111, l32_112, l32_113, l32_114, l32_115, l32_116, l32_117, l32_118, l32_119, l32_120, l32_121, l32_122, l32_123, l32_124, l32_125, l32_126, l32_192, l32_200, l32_255, l32_999, l32_1000, l32_1344, l32_2147483639, l32_2147483647, l64_0, l64_1, l64_99, l64_999, l64_24883200000, l64_746496000000, jI_add, jI_sub, jI_mul, jI_neg, jL_add, jL_sub, jL_mul, jL_neg, jL_toI, jI_toL, jI_eqT, jI_eqF, jI_ltT, jI_ltF, jI_leT, jI_leF, jL_eqT, jL_eqF, jL_ltT, jL_ltF, jL_leT, jL_leF, inR_T, inR_F, bZ_T, bZ_F, not_true_eq_false, not_false_eq_true, jI_clamp, nI_j, bs_p, wl_p, u2_p, u3_p, u4_p, u5_p, zl_p, zr_p, mn_p, ms_p, if_pos, if_neg, ite_true, ite_false, s_isGear h hG, s_jointOf h]
      · refine ⟨jI 0, uI w 141 12 (jI 2), ?_, RO.err (Sm.refl w) rfl rfl⟩
        unfold f_X11_parts
        simp (disch := omega) only [l32_0, l32_1, l32_2, l32_3, l32_4, l32_5, l32_6, l32_7, l32_8, l32_9, l32_10, l32_11, l32_12, l32_13, l32_14, l32_15, l32_16, l32_17, l32_18, l32_19, l32_20, l32_21, l32_22, l32_23, l32_24, l32_25, l32_26, l32_27, l32_28, l32_29, l32_30, l32_31, l32_32, l32_33, l32_34, l32_35, l32_36, l32_37, l32_38, l32_39, l32_40, l32_41, l32_42, l32_43, l32_44, l32_45, l32_46, l32_47, l32_48, l32_49, l32_50, l32_51, l32_52, l32_53, l32_54, l32_55, l32_56, l32_57, l32_58, l32_59, l32_60, l32_61, l32_62, l32_63, l32_64, l32_65, l32_66, l32_76, l32_86, l32_90, l32_92, l32_97, l32_98, l32_99, l32_100, l32_101, l32_102, l32_103, l32_104, l32_105, l32_106, l32_107, l32_108, l32_109, l32_110, l32_111, l32_112, l32_113, l32_114, l32_115, l32_116, l32_117, l32_118, l32_119, l32_120, l32_121, l32_122, l32_123, l32_124, l32_125, l32_126, l32_192, l32_200, l32_255, l32_999, l32_1000, l32_1344, l32_2147483639, l32_2147483647, l64_0, l64_1, l64_99, l64_999, l64_24883200000, l64_746496000000, jI_add, jI_sub, jI_mul, jI_neg, jL_add, jL_sub, jL_mul, jL_neg, jL_toI, jI_toL, jI_eqT, jI_eqF, jI_ltT, jI_ltF, jI_leT, jI_leF, jL_eqT, jL_eqF, jL_ltT, jL_ltF, jL_leT, jL_leF, inR_T, inR_F, bZ_T, bZ_F, not_true_eq_false, not_false_eq_true, jI_clamp, nI_j, bs_p, wl_p, u2_p, u3_p, u4_p, u5_p, zl_p, zr_p, mn_p, ms_p, if_pos, if_neg, ite_true, ite_false, s_rAreGears h hG, s_rJoint h, s_fails]
    · have hz : jk (S (92 + 10 * x + y)) ≠ 0 := fun z => q1 (jk_0.mp z)
      have hab := (hj.2.2 q1).1
      have hc := jc_pj (v := 0) qx.1 (by omega) qy.1 (by omega) hab hj.1
      rw [if_pos rfl, if_neg q1] at hc
      have hc0 := jc_lo (pj S x y 0)
      have h30 := hG.2.2.2.2.1
      have hG' : Good (pj S x y 0) := hG.joint qx.1 qx.2 qy.1 qy.2 hab (Or.inl rfl) (by omega) (by
        obtain ⟨P, hP⟩ := hG.2.2.2.2.2.2
        refine ⟨P, fun a a0 a1 => ⟨(hP a a0 a1).1, fun b b0 b1 => ?_⟩⟩
        unfold Rl
        rw [pj_j qx.1 (by omega) qy.1 (by omega) a0 a1 b0 b1, pj_lo (z := 6 + a) qx.1 qy.1 (by omega), pj_lo (z := 6 + b) qx.1 qy.1 (by omega)]
        split
        · exact ⟨fun z => absurd z (by decide), fun z => absurd z (by decide)⟩
        · exact (hP a a0 a1).2 b b0 b1)
      refine ⟨.inr (jc (pj S x y 0) / 2, pj S x y 0), ⟨by omega, by omega, hG'⟩, fun w h => ?_, fun w h => ?_⟩
      · have h2 := h.put_j (v := 0) qx.1 (show x < 10 by omega) qy.1 (show y < 10 by omega)
        have hp := s_putJoint (w := w) (v := 0) qx.1 (show x < 10 by omega) qy.1 (show y < 10 by omega)
        have hp : f_X7_putJoint w (jI x) (jI y) (jI 0) = _ := hp
        refine ⟨jI (jc (pj S x y 0) / 2), _, ?_, CO.val (((Sm.wI w (by unfold KC; omega)).tr (Sm.wI _ (by unfold KC; omega))).tr (Sm.wI _ (by unfold KC; omega))) rfl h2⟩
        unfold f_X1_cut
        simp (disch := omega) only [l32_0, l32_1, l32_2, l32_3, l32_4, l32_5, l32_6, l32_7, l32_8, l32_9, l32_10, l32_11, l32_12, l32_13, l32_14, l32_15, l32_16, l32_17, l32_18, l32_19, l32_20, l32_21, l32_22, l32_23, l32_24, l32_25, l32_26, l32_27, l32_28, l32_29, l32_30, l32_31, l32_32, l32_33, l32_34, l32_35, l32_36, l32_37, l32_38, l32_39, l32_40, l32_41, l32_42, l32_43, l32_44, l32_45, l32_46, l32_47, l32_48, l32_49, l32_50, l32_51, l32_52, l32_53, l32_54, l32_55, l32_56, l32_57, l32_58, l32_59, l32_60, l32_61, l32_62, l32_63, l32_64, l32_65, l32_66, l32_76, l32_86, l32_90, l32_92, l32_97, l32_98, l32_99, l32_100, l32_101, l32_102, l32_103, l32_104, l32_105, l32_106, l32_107, l32_108, l32_109, l32_110, l32_111, l32_112, l32_113, l32_114, l32_115, l32_116, l32_117, l32_118, l32_119, l32_120, l32_121, l32_122, l32_123, l32_124, l32_125, l32_126, l32_192, l32_200, l32_255, l32_999, l32_1000, l32_1344, l32_2147483639, l32_2147483647, l64_0, l64_1, l64_99, l64_999, l64_24883200000, l64_746496000000, jI_add, jI_sub, jI_mul, jI_neg, jL_add, jL_sub, jL_mul, jL_neg, jL_toI, jI_toL, jI_eqT, jI_eqF, jI_ltT, jI_ltF, jI_leT, jI_leF, jL_eqT, jL_eqF, jL_ltT, jL_ltF, jL_leT, jL_leF, inR_T, inR_F, bZ_T, bZ_F, not_true_eq_false, not_false_eq_true, jI_clamp, nI_j, bs_p, wl_p, u2_p, u3_p, u4_p, u5_p, zl_p, zr_p, mn_p, ms_p, if_pos, if_neg, ite_true, ite_false, s_isGear h hG, s_jointOf h, hp, gI_uI, c_m h, and_self]
        rw [show jc (up (up S (92 + 10 * x + y) 0) (92 + 10 * y + x) 0) / 2 = jc S / 2 - 1 by show jc (pj S x y 0) / 2 = _; omega, show jc (pj S x y 0) / 2 = jc S / 2 - 1 by omega]
      · have h2 := h.joint (v := 0) qx.1 (show x < 10 by omega) qy.1 (show y < 10 by omega)
        have e := s_rJoints h2 (fun k k0 k1 => hG'.j2 k k0 k1)
        refine ⟨jI (jc (pj S x y 0) / 2), _, ?_, RO.val ((Sm.wL w (by unfold KM; omega)).tr (Sm.wL _ (by unfold KM; omega))) rfl h2⟩
        unfold f_X11_parts
        simp (disch := omega) only [l32_0, l32_1, l32_2, l32_3, l32_4, l32_5, l32_6, l32_7, l32_8, l32_9, l32_10, l32_11, l32_12, l32_13, l32_14, l32_15, l32_16, l32_17, l32_18, l32_19, l32_20, l32_21, l32_22, l32_23, l32_24, l32_25, l32_26, l32_27, l32_28, l32_29, l32_30, l32_31, l32_32, l32_33, l32_34, l32_35, l32_36, l32_37, l32_38, l32_39, l32_40, l32_41, l32_42, l32_43, l32_44, l32_45, l32_46, l32_47, l32_48, l32_49, l32_50, l32_51, l32_52, l32_53, l32_54, l32_55, l32_56, l32_57, l32_58, l32_59, l32_60, l32_61, l32_62, l32_63, l32_64, l32_65, l32_66, l32_76, l32_86, l32_90, l32_92, l32_97, l32_98, l32_99, l32_100, l32_101, l32_102, l32_103, l32_104, l32_105, l32_106, l32_107, l32_108, l32_109, l32_110, l32_111, l32_112, l32_113, l32_114, l32_115, l32_116, l32_117, l32_118, l32_119, l32_120, l32_121, l32_122, l32_123, l32_124, l32_125, l32_126, l32_192, l32_200, l32_255, l32_999, l32_1000, l32_1344, l32_2147483639, l32_2147483647, l64_0, l64_1, l64_99, l64_999, l64_24883200000, l64_746496000000, jI_add, jI_sub, jI_mul, jI_neg, jL_add, jL_sub, jL_mul, jL_neg, jL_toI, jI_toL, jI_eqT, jI_eqF, jI_ltT, jI_ltF, jI_leT, jI_leF, jL_eqT, jL_eqF, jL_ltT, jL_ltF, jL_leT, jL_leF, inR_T, inR_F, bZ_T, bZ_F, not_true_eq_false, not_false_eq_true, jI_clamp, nI_j, bs_p, wl_p, u2_p, u3_p, u4_p, u5_p, zl_p, zr_p, mn_p, ms_p, if_pos, if_neg, ite_true, ite_false, s_rAreGears h hG, s_rJoint h, s_done, e]
  · refine ⟨.inl 0, ok_e (e := 0) (by decide), fun w h => ?_, fun w h => ?_⟩
    · refine ⟨jI (-1), w, ?_, CO.err (Sm.refl w) rfl h⟩
      unfold f_X1_cut
      by_cases qx : 0 ≤ x ∧ x < S 0
      · have qy : ¬ (0 ≤ y ∧ y < S 0) := fun z => q ⟨qx, z⟩
        simp (disch := omega) only [l32_0, l32_1, l32_2, l32_3, l32_4, l32_5, l32_6, l32_7, l32_8, l32_9, l32_10, l32_11, l32_12, l32_13, l32_14, l32_15, l32_16, l32_17, l32_18, l32_19, l32_20, l32_21, l32_22, l32_23, l32_24, l32_25, l32_26, l32_27, l32_28, l32_29, l32_30, l32_31, l32_32, l32_33, l32_34, l32_35, l32_36, l32_37, l32_38, l32_39, l32_40, l32_41, l32_42, l32_43, l32_44, l32_45, l32_46, l32_47, l32_48, l32_49, l32_50, l32_51, l32_52, l32_53, l32_54, l32_55, l32_56, l32_57, l32_58, l32_59, l32_60, l32_61, l32_62, l32_63, l32_64, l32_65, l32_66, l32_76, l32_86, l32_90, l32_92, l32_97, l32_98, l32_99, l32_100, l32_101, l32_102, l32_103, l32_104, l32_105, l32_106, l32_107, l32_108, l32_109, l32_110, l32_111, l32_112, l32_113, l32_114, l32_115, l32_116, l32_117, l32_118, l32_119, l32_120, l32_121, l32_122, l32_123, l32_124, l32_125, l32_126, l32_192, l32_200, l32_255, l32_999, l32_1000, l32_1344, l32_2147483639, l32_2147483647, l64_0, l64_1, l64_99, l64_999, l64_24883200000, l64_746496000000, jI_add, jI_sub, jI_mul, jI_neg, jL_add, jL_sub, jL_mul, jL_neg, jL_toI, jI_toL, jI_eqT, jI_eqF, jI_ltT, jI_ltF, jI_leT, jI_leF, jL_eqT, jL_eqF, jL_ltT, jL_ltF, jL_leT, jL_leF, inR_T, inR_F, bZ_T, bZ_F, not_true_eq_false, not_false_eq_true, jI_clamp, nI_j, bs_p, wl_p, u2_p, u3_p, u4_p, u5_p, zl_p, zr_p, mn_p, ms_p, if_pos, if_neg, ite_true, ite_false, s_isGear h hG]
      · simp (disch := omega) only [l32_0, l32_1, l32_2, l32_3, l32_4, l32_5, l32_6, l32_7, l32_8, l32_9, l32_10, l32_11, l32_12, l32_13, l32_14, l32_15, l32_16, l32_17, l32_18, l32_19, l32_20, l32_21, l32_22, l32_23, l32_24, l32_25, l32_26, l32_27, l32_28, l32_29, l32_30, l32_31, l32_32, l32_33, l32_34, l32_35, l32_36, l32_37, l32_38, l32_39, l32_40, l32_41, l32_42, l32_43, l32_44, l32_45, l32_46, l32_47, l32_48, l32_49, l32_50, l32_51, l32_52, l32_53, l32_54, l32_55, l32_56, l32_57, l32_58, l32_59, l32_60, l32_61, l32_62, l32_63, l32_64, l32_65, l32_66, l32_76, l32_86, l32_90, l32_92, l32_97, l32_98, l32_99, l32_100, l32_101, l32_102, l32_103, l32_104, l32_105, l32_106, l32_107, l32_108, l32_109, l32_110, l32_111, l32_112, l32_113, l32_114, l32_115, l32_116, l32_117, l32_118, l32_119, l32_120, l32_121, l32_122, l32_123, l32_124, l32_125, l32_126, l32_192, l32_200, l32_255, l32_999, l32_1000, l32_1344, l32_2147483639, l32_2147483647, l64_0, l64_1, l64_99, l64_999, l64_24883200000, l64_746496000000, jI_add, jI_sub, jI_mul, jI_neg, jL_add, jL_sub, jL_mul, jL_neg, jL_toI, jI_toL, jI_eqT, jI_eqF, jI_ltT, jI_ltF, jI_leT, jI_leF, jL_eqT, jL_eqF, jL_ltT, jL_ltF, jL_leT, jL_leF, inR_T, inR_F, bZ_T, bZ_F, not_true_eq_false, not_false_eq_true, jI_clamp, nI_j, bs_p, wl_p, u2_p, u3_p, u4_p, u5_p, zl_p, zr_p, mn_p, ms_p, if_pos, if_neg, ite_true, ite_false, s_isGear h hG]
    · refine ⟨jI 0, uI w 141 12 (jI 1), ?_, RO.err (Sm.refl w) rfl rfl⟩
      unfold f_X11_parts
      simp (disch := omega) only [l32_0, l32_1, l32_2, l32_3, l32_4, l32_5, l32_6, l32_7, l32_8, l32_9, l32_10, l32_11, l32_12, l32_13, l32_14, l32_15, l32_16, l32_17, l32_18, l32_19, l32_20, l32_21, l32_22, l32_23, l32_24, l32_25, l32_26, l32_27, l32_28, l32_29, l32_30, l32_31, l32_32, l32_33, l32_34, l32_35, l32_36, l32_37, l32_38, l32_39, l32_40, l32_41, l32_42, l32_43, l32_44, l32_45, l32_46, l32_47, l32_48, l32_49, l32_50, l32_51, l32_52, l32_53, l32_54, l32_55, l32_56, l32_57, l32_58, l32_59, l32_60, l32_61, l32_62, l32_63, l32_64, l32_65, l32_66, l32_76, l32_86, l32_90, l32_92, l32_97, l32_98, l32_99, l32_100, l32_101, l32_102, l32_103, l32_104, l32_105, l32_106, l32_107, l32_108, l32_109, l32_110, l32_111, l32_112, l32_113, l32_114, l32_115, l32_116, l32_117, l32_118, l32_119, l32_120, l32_121, l32_122, l32_123, l32_124, l32_125, l32_126, l32_192, l32_200, l32_255, l32_999, l32_1000, l32_1344, l32_2147483639, l32_2147483647, l64_0, l64_1, l64_99, l64_999, l64_24883200000, l64_746496000000, jI_add, jI_sub, jI_mul, jI_neg, jL_add, jL_sub, jL_mul, jL_neg, jL_toI, jI_toL, jI_eqT, jI_eqF, jI_ltT, jI_ltF, jI_leT, jI_leF, jL_eqT, jL_eqF, jL_ltT, jL_ltF, jL_leT, jL_leF, inR_T, inR_F, bZ_T, bZ_F, not_true_eq_false, not_false_eq_true, jI_clamp, nI_j, bs_p, wl_p, u2_p, u3_p, u4_p, u5_p, zl_p, zr_p, mn_p, ms_p, if_pos, if_neg, ite_true, ite_false, s_rAreGears h hG, s_fails]
end
section
/-! A NEW JOINT -/
def Sp (S : Ab) (x : Int) : Prop := ∃ i, 0 ≤ i ∧ i < 10 ∧ TU S x i ≠ 0 ∧ 0 < S (26 + i)
def HS (S : Ab) (x y : Int) : Prop := TU S x y = 0 ∧ Sp S y ∧ Sp S x
theorem IsF.none {p : Int → Prop} {n r : Int} (h : IsF p n r) : r = -1 ↔ ¬ ∃ i, 0 ≤ i ∧ i < n ∧ p i := by
  rcases h with h | h
  · exact ⟨fun z => by omega, fun z => absurd ⟨r, h.1, h.2.1, h.2.2.1⟩ z⟩
  · exact ⟨fun _ ⟨i, i0, i1, i2⟩ => h.2 i i0 i1 i2, fun _ => h.1⟩
theorem s_haveSprings {w : Wd} {S : Ab} (hG : Good S) (h : RSt w 142 0 S) {x y : Int} (x0 : 0 ≤ x) (x1 : x < S 0) (y0 : 0 ≤ y) (y1 : y < S 0) : ∃ r w', f_X11_haveSprings w (jI x) (jI y) = some (jI r, w') ∧ Sm KU w w' ∧ RSt w' 142 0 S ∧ ((r = 0 ∧ ¬ HS S x y) ∨ (r = 1 ∧ HS S x y)) := by
  have hg := hG.1
  obtain ⟨w1, hr1, hs1, hR1, h1⟩ := s_rTurns hG h y0 y1
  obtain ⟨r1, hq1, hF1⟩ := s_rSpringIn h1 hG hR1
  obtain ⟨w2, hr2, hs2, hR2, h2⟩ := s_rTurns hG h1 x0 x1
  obtain ⟨r2, hq2, hF2⟩ := s_rSpringIn h2 hG hR2
  have b1 := hF1.b
  have b2 := hF2.b
  have n1 : r1 = -1 ↔ ¬ Sp S y := hF1.none
  have n2 : r2 = -1 ↔ ¬ Sp S x := hF2.none
  by_cases q1 : r1 = -1
  · refine ⟨0, w2, ?_, hs1.tr hs2, h2, Or.inl ⟨rfl, fun z => n1.mp q1 z.2.1⟩⟩
    unfold f_X11_haveSprings
    by_cases q3 : TU S x y = 0
    · simp (disch := omega) only [l32_0, l32_1, l32_2, l32_3, l32_4, l32_5, l32_6, l32_7, l32_8, l32_9, l32_10, l32_11, l32_12, l32_13, l32_14, l32_15, l32_16, l32_17, l32_18, l32_19, l32_20, l32_21, l32_22, l32_23, l32_24, l32_25, l32_26, l32_27, l32_28, l32_29, l32_30, l32_31, l32_32, l32_33, l32_34, l32_35, l32_36, l32_37, l32_38, l32_39, l32_40, l32_41, l32_42, l32_43, l32_44, l32_45, l32_46, l32_47, l32_48, l32_49, l32_50, l32_51, l32_52, l32_53, l32_54, l32_55, l32_56, l32_57, l32_58, l32_59, l32_60, l32_61, l32_62, l32_63, l32_64, l32_65, l32_66, l32_76, l32_86, l32_90, l32_92, l32_97, l32_98, l32_99, l32_100, l32_101, l32_102, l32_103, l32_104, l32_105, l32_106, l32_107, l32_108, l32_109, l32_110, l32_111, l32_112, l32_113, l32_114, l32_115, l32_116, l32_117, l32_118, l32_119, l32_120, l32_121, l32_122, l32_123, l32_124, l32_125, l32_126, l32_192, l32_200, l32_255, l32_999, l32_1000, l32_1344, l32_2147483639, l32_2147483647, l64_0, l64_1, l64_99, l64_999, l64_24883200000, l64_746496000000, jI_add, jI_sub, jI_mul, jI_neg, jL_add, jL_sub, jL_mul, jL_neg, jL_toI, jI_toL, jI_eqT, jI_eqF, jI_ltT, jI_ltF, jI_leT, jI_leF, jL_eqT, jL_eqF, jL_ltT, jL_ltF, jL_leT, jL_leF, inR_T, inR_F, bZ_T, bZ_F, not_true_eq_false, not_false_eq_true, jI_clamp, nI_j, bs_p, wl_p, u2_p, u3_p, u4_p, u5_p, zl_p, zr_p, mn_p, ms_p, if_pos, if_neg, ite_true, ite_false, hr1, hq1, hr2, rt_k hR2]
    · simp (disch := omega) only [l32_0, l32_1, l32_2, l32_3, l32_4, l32_5, l32_6, l32_7, l32_8, l32_9, l32_10, l32_11, l32_12, l32_13, l32_14, l32_15, l32_16, l32_17, l32_18, l32_19, l32_20, l32_21, l32_22, l32_23, l32_24, l32_25, l32_26, l32_27, l32_28, l32_29, l32_30, l32_31, l32_32, l32_33, l32_34, l32_35, l32_36, l32_37, l32_38, l32_39, l32_40, l32_41, l32_42, l32_43, l32_44, l32_45, l32_46, l32_47, l32_48, l32_49, l32_50, l32_51, l32_52, l32_53, l32_54, l32_55, l32_56, l32_57, l32_58, l32_59, l32_60, l32_61, l32_62, l32_63, l32_64, l32_65, l32_66, l32_76, l32_86, l32_90, l32_92, l32_97, l32_98, l32_99, l32_100, l32_101, l32_102, l32_103, l32_104, l32_105, l32_106, l32_107, l32_108, l32_109, l32_110, l32_111, l32_112, l32_113, l32_114, l32_115, l32_116, l32_117, l32_118, l32_119, l32_120, l32_121, l32_122, l32_123, l32_124, l32_125, l32_126, l32_192, l32_200, l32_255, l32_999, l32_1000, l32_1344, l32_2147483639, l32_2147483647, l64_0, l64_1, l64_99, l64_999, l64_24883200000, l64_746496000000, jI_add, jI_sub, jI_mul, jI_neg, jL_add, jL_sub, jL_mul, jL_neg, jL_toI, jI_toL, jI_eqT, jI_eqF, jI_ltT, jI_ltF, jI_leT, jI_leF, jL_eqT, jL_eqF, jL_ltT, jL_ltF, jL_leT, jL_leF, inR_T, inR_F, bZ_T, bZ_F, not_true_eq_false, not_false_eq_true, jI_clamp, nI_j, bs_p, wl_p, u2_p, u3_p, u4_p, u5_p, zl_p, zr_p, mn_p, ms_p, if_pos, if_neg, ite_true, ite_false, hr1, hq1, hr2, rt_k hR2]
  · have e1 : Sp S y := Classical.byContradiction (fun z => q1 (n1.mpr z))
    have f1 : (jI r1 = jI (-1)) = False := jI_eqF q1 (by omega) (by omega) (by omega) (by omega)
    by_cases q3 : TU S x y = 0
    · by_cases q2 : r2 = -1
      · refine ⟨0, w2, ?_, hs1.tr hs2, h2, Or.inl ⟨rfl, fun z => n2.mp q2 z.2.2⟩⟩
        unfold f_X11_haveSprings
        simp (disch := omega) only [l32_0, l32_1, l32_2, l32_3, l32_4, l32_5, l32_6, l32_7, l32_8, l32_9, l32_10, l32_11, l32_12, l32_13, l32_14, l32_15, l32_16, l32_17, l32_18, l32_19, l32_20, l32_21, l32_22, l32_23, l32_24, l32_25, l32_26, l32_27, l32_28, l32_29, l32_30, l32_31, l32_32, l32_33, l32_34, l32_35, l32_36, l32_37, l32_38, l32_39, l32_40, l32_41, l32_42, l32_43, l32_44, l32_45, l32_46, l32_47, l32_48, l32_49, l32_50, l32_51, l32_52, l32_53, l32_54, l32_55, l32_56, l32_57, l32_58, l32_59, l32_60, l32_61, l32_62, l32_63, l32_64, l32_65, l32_66, l32_76, l32_86, l32_90, l32_92, l32_97, l32_98, l32_99, l32_100, l32_101, l32_102, l32_103, l32_104, l32_105, l32_106, l32_107, l32_108, l32_109, l32_110, l32_111, l32_112, l32_113, l32_114, l32_115, l32_116, l32_117, l32_118, l32_119, l32_120, l32_121, l32_122, l32_123, l32_124, l32_125, l32_126, l32_192, l32_200, l32_255, l32_999, l32_1000, l32_1344, l32_2147483639, l32_2147483647, l64_0, l64_1, l64_99, l64_999, l64_24883200000, l64_746496000000, jI_add, jI_sub, jI_mul, jI_neg, jL_add, jL_sub, jL_mul, jL_neg, jL_toI, jI_toL, jI_eqT, jI_eqF, jI_ltT, jI_ltF, jI_leT, jI_leF, jL_eqT, jL_eqF, jL_ltT, jL_ltF, jL_leT, jL_leF, inR_T, inR_F, bZ_T, bZ_F, not_true_eq_false, not_false_eq_true, jI_clamp, nI_j, bs_p, wl_p, u2_p, u3_p, u4_p, u5_p, zl_p, zr_p, mn_p, ms_p, if_pos, if_neg, ite_true, ite_false, hr1, hq1, hr2, rt_k hR2, hq2, f1]
      · have e2 : Sp S x := Classical.byContradiction (fun z => q2 (n2.mpr z))
        refine ⟨1, w2, ?_, hs1.tr hs2, h2, Or.inr ⟨rfl, q3, e1, e2⟩⟩
        unfold f_X11_haveSprings
        simp (disch := omega) only [l32_0, l32_1, l32_2, l32_3, l32_4, l32_5, l32_6, l32_7, l32_8, l32_9, l32_10, l32_11, l32_12, l32_13, l32_14, l32_15, l32_16, l32_17, l32_18, l32_19, l32_20, l32_21, l32_22, l32_23, l32_24, l32_25, l32_26, l32_27, l32_28, l32_29, l32_30, l32_31, l32_32, l32_33, l32_34, l32_35, l32_36, l32_37, l32_38, l32_39, l32_40, l32_41, l32_42, l32_43, l32_44, l32_45, l32_46, l32_47, l32_48, l32_49, l32_50, l32_51, l32_52, l32_53, l32_54, l32_55, l32_56, l32_57, l32_58, l32_59, l32_60, l32_61, l32_62, l32_63, l32_64, l32_65, l32_66, l32_76, l32_86, l32_90, l32_92, l32_97, l32_98, l32_99, l32_100, l32_101, l32_102, l32_103, l32_104, l32_105, l32_106, l32_107, l32_108, l32_109, l32_110, l32_111, l32_112, l32_113, l32_114, l32_115, l32_116, l32_117, l32_118, l32_119, l32_120, l32_121, l32_122, l32_123, l32_124, l32_125, l32_126, l32_192, l32_200, l32_255, l32_999, l32_1000, l32_1344, l32_2147483639, l32_2147483647, l64_0, l64_1, l64_99, l64_999, l64_24883200000, l64_746496000000, jI_add, jI_sub, jI_mul, jI_neg, jL_add, jL_sub, jL_mul, jL_neg, jL_toI, jI_toL, jI_eqT, jI_eqF, jI_ltT, jI_ltF, jI_leT, jI_leF, jL_eqT, jL_eqF, jL_ltT, jL_ltF, jL_leT, jL_leF, inR_T, inR_F, bZ_T, bZ_F, not_true_eq_false, not_false_eq_true, jI_clamp, nI_j, bs_p, wl_p, u2_p, u3_p, u4_p, u5_p, zl_p, zr_p, mn_p, ms_p, if_pos, if_neg, ite_true, ite_false, hr1, hq1, hr2, rt_k hR2, hq2]
    · refine ⟨0, w2, ?_, hs1.tr hs2, h2, Or.inl ⟨rfl, fun z => q3 z.1⟩⟩
      unfold f_X11_haveSprings
      simp (disch := omega) only [l32_0, l32_1, l32_2, l32_3, l32_4, l32_5, l32_6, l32_7, l32_8, l32_9, l32_10, l32_11, l32_12, l32_13, l32_14, l32_15, l32_16, l32_17, l32_18, l32_19, l32_20, l32_21, l32_22, l32_23, l32_24, l32_25, l32_26, l32_27, l32_28, l32_29, l32_30, l32_31, l32_32, l32_33, l32_34, l32_35, l32_36, l32_37, l32_38, l32_39, l32_40, l32_41, l32_42, l32_43, l32_44, l32_45, l32_46, l32_47, l32_48, l32_49, l32_50, l32_51, l32_52, l32_53, l32_54, l32_55, l32_56, l32_57, l32_58, l32_59, l32_60, l32_61, l32_62, l32_63, l32_64, l32_65, l32_66, l32_76, l32_86, l32_90, l32_92, l32_97, l32_98, l32_99, l32_100, l32_101, l32_102, l32_103, l32_104, l32_105, l32_106, l32_107, l32_108, l32_109, l32_110, l32_111, l32_112, l32_113, l32_114, l32_115, l32_116, l32_117, l32_118, l32_119, l32_120, l32_121, l32_122, l32_123, l32_124, l32_125, l32_126, l32_192, l32_200, l32_255, l32_999, l32_1000, l32_1344, l32_2147483639, l32_2147483647, l64_0, l64_1, l64_99, l64_999, l64_24883200000, l64_746496000000, jI_add, jI_sub, jI_mul, jI_neg, jL_add, jL_sub, jL_mul, jL_neg, jL_toI, jI_toL, jI_eqT, jI_eqF, jI_ltT, jI_ltF, jI_leT, jI_leF, jL_eqT, jL_eqF, jL_ltT, jL_ltF, jL_leT, jL_leF, inR_T, inR_F, bZ_T, bZ_F, not_true_eq_false, not_false_eq_true, jI_clamp, nI_j, bs_p, wl_p, u2_p, u3_p, u4_p, u5_p, zl_p, zr_p, mn_p, ms_p, if_pos, if_neg, ite_true, ite_false, hr1, hq1, hr2, rt_k hR2, f1]
/-- the units that the new joint asks for -/
def due (S : Ab) (x y k : Int) : Int := if k = 2 then 24883200000 else -(24883200000 * S (6 + x) / S (6 + y))
theorem due_m {S : Ab} {x y : Int} (ty : tooth (S (6 + y))) : ∃ q, 24883200000 * S (6 + x) = S (6 + y) * q ∧ 24883200000 * S (6 + x) / S (6 + y) = q := by
  obtain ⟨s, hs⟩ := tooth_d ty
  have hb := tooth_b ty
  refine ⟨s * 207360000 * S (6 + x), ?_, ?_⟩
  · rw [← Int.mul_assoc, ← Int.mul_assoc, hs]; rfl
  · rw [show (24883200000 : Int) * S (6 + x) = S (6 + y) * (s * 207360000 * S (6 + x)) by rw [← Int.mul_assoc, ← Int.mul_assoc, hs]; rfl]
    exact Int.mul_ediv_cancel_left _ (by omega)
theorem Pot.join {S : Ab} {x y k : Int} (hG : Good S) (x0 : 0 ≤ x) (x1 : x < S 0) (y0 : 0 ≤ y) (y1 : y < S 0) (hxy : x ≠ y) (hk : k = 1 ∨ k = 2) (hd : TU S x y = 0 ∨ TU S x y = due S x y k) : ∃ P, Pot (pj S x y k) P := by
  have hg := hG.1
  obtain ⟨P, hP⟩ := hG.2.2.2.2.2.2
  have tx := (hG.2.1 x x0 (by omega)).1 x1
  have ty := (hG.2.1 y y0 (by omega)).1 y1
  have bx := tooth_b tx
  have byy := tooth_b ty
  have hI := tu_is hG x0 x1
  have px := (hP x x0 (by omega)).1
  have py := (hP y y0 (by omega)).1
  obtain ⟨q, hq, hq2⟩ := due_m (S := S) (x := x) ty
  have fin : ∀ P', (∀ a, 0 ≤ a → a < 10 → P' a ≠ 0) → (∀ a b, 0 ≤ a → a < 10 → 0 ≤ b → b < 10 → S (92 + 10 * a + b) ≠ 0 → Rl S P' a b) → (k = 2 → P' y = P' x) → (k = 1 → P' y * S (6 + y) = -(P' x * S (6 + x))) → ∃ P, Pot (pj S x y k) P := by
    intro P' f1 f2 f3 f4
    refine ⟨P', fun a a0 a1 => ⟨f1 a a0 a1, fun b b0 b1 => ?_⟩⟩
    unfold Rl
    rw [pj_j x0 (by omega) y0 (by omega) a0 a1 b0 b1, pj_lo (z := 6 + a) x0 y0 (by omega), pj_lo (z := 6 + b) x0 y0 (by omega)]
    by_cases z : (a = x ∧ b = y) ∨ (a = y ∧ b = x)
    · rw [if_pos z]
      rcases z with ⟨rfl, rfl⟩ | ⟨rfl, rfl⟩
      · exact ⟨f3, f4⟩
      · exact ⟨fun z => (f3 z).symm, fun z => by have := f4 z; omega⟩
    · rw [if_neg z]
      by_cases z2 : S (92 + 10 * a + b) = 0
      · rw [z2]; exact ⟨fun z => absurd z (by decide), fun z => absurd z (by decide)⟩
      · exact f2 a b a0 a1 b0 b1 z2
  by_cases hu : TU S x y = 0
  · have side : ∀ a b, 0 ≤ a → a < 10 → 0 ≤ b → b < 10 → S (92 + 10 * a + b) ≠ 0 → (TU S x a = 0 ↔ TU S x b = 0) := by
      intro a b a0 a1 b0 b1 hj
      have hs := (hG.2.2.2.1 a b a0 a1 b0 b1).1
      have ia := hI.iff a0 a1
      have ib := hI.iff b0 b1
      constructor
      · intro z
        refine Classical.byContradiction (fun z2 => ?_)
        exact (ia.mpr ((ib.mp z2).step b0 b1 a0 a1 (by rw [← hs]; exact hj))) z
      · intro z
        refine Classical.byContradiction (fun z2 => ?_)
        exact (ib.mpr ((ia.mp z2).step a0 a1 b0 b1 hj)) z
    have hd0 : TU S x x ≠ 0 := by rw [tu_d hG x0 x1]; decide
    have go : ∀ α β : Int, α ≠ 0 → β ≠ 0 → (k = 2 → P y * β = P x * α) → (k = 1 → P y * β * S (6 + y) = -(P x * α * S (6 + x))) → ∃ P, Pot (pj S x y k) P := by
      intro α β ha hb g1 g2
      refine fin (fun z => if TU S x z = 0 then P z * β else P z * α) (fun a a0 a1 => ?_) (fun a b a0 a1 b0 b1 hj => ?_) (fun z => ?_) (fun z => ?_)
      · show (if TU S x a = 0 then P a * β else P a * α) ≠ 0
        have := (hP a a0 a1).1
        split
        · exact Int.mul_ne_zero this hb
        · exact Int.mul_ne_zero this ha
      · have r := (hP a a0 a1).2 b b0 b1
        have hs := side a b a0 a1 b0 b1 hj
        show (_ → (if TU S x b = 0 then P b * β else P b * α) = (if TU S x a = 0 then P a * β else P a * α)) ∧ (_ → (if TU S x b = 0 then P b * β else P b * α) * S (6 + b) = -((if TU S x a = 0 then P a * β else P a * α) * S (6 + a)))
        by_cases z : TU S x a = 0
        · rw [if_pos z, if_pos (hs.mp z)]
          refine ⟨fun z => by rw [r.1 z], fun z => ?_⟩
          have r2 := r.2 z
          rw [Int.mul_right_comm, r2, Int.neg_mul, Int.mul_right_comm]
        · rw [if_neg z, if_neg (fun y => z (hs.mpr y))]
          refine ⟨fun z => by rw [r.1 z], fun z => ?_⟩
          have r2 := r.2 z
          rw [Int.mul_right_comm, r2, Int.neg_mul, Int.mul_right_comm]
      · show (if TU S x y = 0 then P y * β else P y * α) = (if TU S x x = 0 then P x * β else P x * α)
        rw [if_pos hu, if_neg hd0]; exact g1 z
      · show (if TU S x y = 0 then P y * β else P y * α) * _ = -((if TU S x x = 0 then P x * β else P x * α) * _)
        rw [if_pos hu, if_neg hd0]; exact g2 z
    rcases hk with rfl | rfl
    · refine go (-(P y * S (6 + y))) (P x * S (6 + x)) ?_ (Int.mul_ne_zero px (by omega)) (fun z => absurd z (by decide)) (fun _ => ?_)
      · have := Int.mul_ne_zero py (show S (6 + y) ≠ 0 by omega)
        omega
      · simp only [Int.mul_neg, Int.neg_mul, Int.neg_neg, Int.mul_assoc, Int.mul_comm, Int.mul_left_comm]
    · exact go (P y) (P x) py px (fun _ => Int.mul_comm _ _) (fun z => absurd z (by decide))
  · have hd := hd.resolve_left hu
    have hr : Reach S x y := (hI.iff y0 (by omega)).mp hu
    have hm := ((hI y y0 (by omega)).1 hr).2 P hP
    refine fin P (fun a a0 a1 => (hP a a0 a1).1) (fun a b a0 a1 b0 b1 _ => (hP a a0 a1).2 b b0 b1) (fun z => ?_) (fun z => ?_)
    · rw [hd] at hm
      unfold due at hm
      rw [if_pos z] at hm
      exact (Int.eq_of_mul_eq_mul_left (by decide) hm).symm
    · rw [hd] at hm
      unfold due at hm
      rw [if_neg (by omega), hq2] at hm
      refine Int.eq_of_mul_eq_mul_left (a := 24883200000) (by decide) ?_
      calc 24883200000 * (P y * S (6 + y)) = (24883200000 * P y) * S (6 + y) := (Int.mul_assoc _ _ _).symm
        _ = (-q * P x) * S (6 + y) := by rw [hm]
        _ = -((S (6 + y) * q) * P x) := by rw [Int.neg_mul, Int.neg_mul, Int.mul_right_comm, Int.mul_comm q]
        _ = -((24883200000 * S (6 + x)) * P x) := by rw [hq]
        _ = 24883200000 * -(P x * S (6 + x)) := by rw [Int.mul_neg, Int.mul_assoc, Int.mul_comm (S (6 + x))]
end
section
/-! THE ROADS through the class's join -/
theorem m32_1 : (-1 : Int32) = jI (-1) := rfl
theorem i10 : (jI 1 = (0 : Int32)) = False := eq_false (by decide +kernel)
section
variable {w w1 w2 w3 w5 : Wd} {X Y K r12 r17 r67 j : Int32} {uu : Int64}
theorem j_bad (A : f_X7_isGear w X = some (jI 1)) (B : f_X7_isGear w Y = some (jI 1)) (N : ¬ X = Y) (T1 : f_X8_trace w Y = some w1) (G1 : f_X8_springGear w1 = some r12) (T2 : f_X8_trace w1 X = some w2) (H : f_X8_holds w2 Y = some r17) (G2 : f_X8_springGear w2 = some r67) (J : f_X7_jointOf w2 X Y = some j) (h : ¬ j = 0 ∨ (15 : Int32) ≤ gI w2 1 11 ∨ (r17 = 0 ∧ ¬ r12 = (-1 : Int32) ∧ ¬ r67 = (-1 : Int32))) : f_X1_join w X Y K = some ((-3 : Int32), w2) := by
  unfold f_X1_join
  simp only [A, B, N, T1, G1, T2, H, bs_p, i10, ite_false]
  by_cases c1 : r17 = 0
  · by_cases c2 : r12 = (-1 : Int32)
    · by_cases c4 : j = 0
      · by_cases c5 : (15 : Int32) ≤ gI w2 1 11
        · simp only [c1, c2, J, bs_p, c4, c5, ite_true]
        · exact absurd h (fun z => z.elim (fun y => y c4) (fun y => y.elim c5 (fun x => x.2.1 c2)))
      · simp only [c1, c2, J, bs_p, c4, ite_true, ite_false]
    · by_cases c3 : r67 = (-1 : Int32)
      · by_cases c4 : j = 0
        · by_cases c5 : (15 : Int32) ≤ gI w2 1 11
          · simp only [c1, c2, G2, c3, J, bs_p, c4, c5, ite_true, ite_false]
          · exact absurd h (fun z => z.elim (fun y => y c4) (fun y => y.elim c5 (fun x => x.2.2 c3)))
        · simp only [c1, c2, G2, c3, J, bs_p, c4, ite_true, ite_false]
      · by_cases c4 : j = 0
        · by_cases c5 : (15 : Int32) ≤ gI w2 1 11
          · simp only [c1, c2, G2, c3, J, bs_p, c4, c5, ite_true, ite_false]
          · simp only [c1, c2, G2, c3, J, bs_p, c4, c5, ite_true, ite_false]
        · simp only [c1, c2, G2, c3, J, bs_p, c4, ite_true, ite_false]
  · by_cases c4 : j = 0
    · by_cases c5 : (15 : Int32) ≤ gI w2 1 11
      · simp only [c1, J, bs_p, c4, c5, ite_true, ite_false]
      · exact absurd h (fun z => z.elim (fun y => y c4) (fun y => y.elim c5 (fun x => c1 x.1)))
    · simp only [c1, J, bs_p, c4, ite_false]
theorem j_put (A : f_X7_isGear w X = some (jI 1)) (B : f_X7_isGear w Y = some (jI 1)) (N : ¬ X = Y) (T1 : f_X8_trace w Y = some w1) (G1 : f_X8_springGear w1 = some r12) (T2 : f_X8_trace w1 X = some w2) (H : f_X8_holds w2 Y = some r17) (G2 : f_X8_springGear w2 = some r67) (J : f_X7_jointOf w2 X Y = some j) (c4 : j = 0) (c5 : ¬ (15 : Int32) ≤ gI w2 1 11) (c1 : r17 = 0) (c2 : r12 = (-1 : Int32) ∨ r67 = (-1 : Int32)) (P : f_X7_putJoint w2 X Y K = some w3) (T3 : f_X8_trace (uI w3 1 11 (gI w3 1 11 + (1 : Int32))) X = some w5) : f_X1_join w X Y K = some (gI w5 124 2, w5) := by
  unfold f_X1_join
  simp only [A, B, N, T1, G1, T2, H, bs_p, i10, ite_false]
  by_cases c3 : r12 = (-1 : Int32)
  · simp only [c1, c3, J, bs_p, c4, c5, P, wl_p, T3, ite_true, ite_false]
  · have c6 := c2.resolve_left c3
    simp only [c1, c3, G2, c6, J, bs_p, c4, c5, P, wl_p, T3, ite_true, ite_false]
theorem j_put2 (A : f_X7_isGear w X = some (jI 1)) (B : f_X7_isGear w Y = some (jI 1)) (N : ¬ X = Y) (T1 : f_X8_trace w Y = some w1) (G1 : f_X8_springGear w1 = some r12) (T2 : f_X8_trace w1 X = some w2) (H : f_X8_holds w2 Y = some r17) (J : f_X7_jointOf w2 X Y = some j) (c4 : j = 0) (c5 : ¬ (15 : Int32) ≤ gI w2 1 11) (c1 : ¬ r17 = 0) (c6 : inR Y 10 = true) (U : f_X7_unitsBehind w2 (24883200000 : Int64) X Y K = some uu) (c7 : gL w2 125 (Y).toNatClampNeg = uu) (P : f_X7_putJoint w2 X Y K = some w3) (T3 : f_X8_trace (uI w3 1 11 (gI w3 1 11 + (1 : Int32))) X = some w5) : f_X1_join w X Y K = some (gI w5 124 2, w5) := by
  unfold f_X1_join
  simp only [A, B, N, T1, G1, T2, H, bs_p, i10, ite_false, c1, J, c4, c5, c6, U, c7, P, wl_p, T3, ite_true]
theorem j_no (A : f_X7_isGear w X = some (jI 1)) (B : f_X7_isGear w Y = some (jI 1)) (N : ¬ X = Y) (T1 : f_X8_trace w Y = some w1) (G1 : f_X8_springGear w1 = some r12) (T2 : f_X8_trace w1 X = some w2) (H : f_X8_holds w2 Y = some r17) (J : f_X7_jointOf w2 X Y = some j) (c4 : j = 0) (c5 : ¬ (15 : Int32) ≤ gI w2 1 11) (c1 : ¬ r17 = 0) (c6 : inR Y 10 = true) (U : f_X7_unitsBehind w2 (24883200000 : Int64) X Y K = some uu) (c7 : ¬ gL w2 125 (Y).toNatClampNeg = uu) : f_X1_join w X Y K = some ((-4 : Int32), w2) := by
  unfold f_X1_join
  simp only [A, B, N, T1, G1, T2, H, bs_p, i10, ite_false, c1, J, c4, c5, c6, U, c7, ite_true]
end
/-! THE ROADS through the reference's join -/
section
variable {w w2 w3 w5 : Wd} {X Y K j q r m : Int32}
theorem jr_b1 (A : f_X11_areGears w X Y = some (jI 1)) (N : ¬ X = Y) (J : f_X11_jointOf w X Y = some j) (c4 : ¬ j = 0) : f_X11_joins w X Y K = some (jI 0, uI w 141 12 (3 : Int32)) := by
  unfold f_X11_joins
  simp only [A, N, J, bs_p, i10, ite_false, c4, s_fails, u2_p]
theorem jr_b2 (A : f_X11_areGears w X Y = some (jI 1)) (N : ¬ X = Y) (J : f_X11_jointOf w X Y = some j) (c4 : j = 0) (Q : f_X11_joints w = some q) (c5 : q = (15 : Int32)) : f_X11_joins w X Y K = some (jI 0, uI w 141 12 (3 : Int32)) := by
  unfold f_X11_joins
  simp only [A, N, J, Q, bs_p, i10, ite_false, ite_true, c4, c5, s_fails, u2_p]
theorem jr_b3 (A : f_X11_areGears w X Y = some (jI 1)) (N : ¬ X = Y) (J : f_X11_jointOf w X Y = some j) (c4 : j = 0) (Q : f_X11_joints w = some q) (c5 : ¬ q = (15 : Int32)) (V : f_X11_haveSprings w X Y = some (r, w2)) (c6 : ¬ r = 0) : f_X11_joins w X Y K = some (jI 0, uI w2 141 12 (3 : Int32)) := by
  unfold f_X11_joins
  simp only [A, N, J, Q, V, bs_p, i10, ite_false, ite_true, c4, c5, c6, s_fails, u2_p]
theorem jr_a (A : f_X11_areGears w X Y = some (jI 1)) (N : ¬ X = Y) (J : f_X11_jointOf w X Y = some j) (c4 : j = 0) (Q : f_X11_joints w = some q) (c5 : ¬ q = (15 : Int32)) (V : f_X11_haveSprings w X Y = some (r, w2)) (c6 : r = 0) (k2 : K = (2 : Int32)) (T1 : f_X11_turns w2 X = some w3) (I : inR Y 10 = true) (c1 : gI w3 149 (Y).toNatClampNeg = 0 ∨ gL w3 148 (Y).toNatClampNeg = (24883200000 : Int64)) (I1 : inR (((92 : Int32) + ((10 : Int32) * X)) + Y) 192 = true) (I2 : inR (((92 : Int32) + ((10 : Int32) * Y)) + X) 192 = true) (T2 : f_X11_turns (uL (uL w3 142 ((((92 : Int32) + ((10 : Int32) * X)) + Y)).toNatClampNeg (K).toInt64) 142 ((((92 : Int32) + ((10 : Int32) * Y)) + X)).toNatClampNeg (K).toInt64) X = some w5) (M : f_X11_members w5 = some m) : f_X11_joins w X Y K = some (m, uI w5 141 12 (jI 0)) := by
  unfold f_X11_joins
  rw [k2] at T2
  by_cases c2 : gI w3 149 (Y).toNatClampNeg = 0
  · simp only [A, N, J, Q, V, bs_p, i10, ite_false, ite_true, c4, c5, c6, k2, T1, I, c2, I1, I2, wl_p, T2, M, s_done, u2_p]
  · have c3 := c1.resolve_left c2
    simp only [A, N, J, Q, V, bs_p, i10, ite_false, ite_true, c4, c5, c6, k2, T1, I, c2, c3, I1, I2, wl_p, T2, M, s_done, u2_p]
theorem jr_an (A : f_X11_areGears w X Y = some (jI 1)) (N : ¬ X = Y) (J : f_X11_jointOf w X Y = some j) (c4 : j = 0) (Q : f_X11_joints w = some q) (c5 : ¬ q = (15 : Int32)) (V : f_X11_haveSprings w X Y = some (r, w2)) (c6 : r = 0) (k2 : K = (2 : Int32)) (T1 : f_X11_turns w2 X = some w3) (I : inR Y 10 = true) (c1 : ¬ gI w3 149 (Y).toNatClampNeg = 0) (c2 : ¬ gL w3 148 (Y).toNatClampNeg = (24883200000 : Int64)) : f_X11_joins w X Y K = some (jI 0, uI w3 141 12 (4 : Int32)) := by
  unfold f_X11_joins
  simp only [A, N, J, Q, V, bs_p, i10, ite_false, ite_true, c4, c5, c6, k2, T1, I, c1, c2, s_fails, u2_p]
theorem jr_m (A : f_X11_areGears w X Y = some (jI 1)) (N : ¬ X = Y) (J : f_X11_jointOf w X Y = some j) (c4 : j = 0) (Q : f_X11_joints w = some q) (c5 : ¬ q = (15 : Int32)) (V : f_X11_haveSprings w X Y = some (r, w2)) (c6 : r = 0) (k2 : ¬ K = (2 : Int32)) (I3 : inR ((6 : Int32) + X) 192 = true) (I4 : inR ((6 : Int32) + Y) 192 = true) (c7 : ¬ gL w2 142 (((6 : Int32) + Y)).toNatClampNeg = 0) (T1 : f_X11_turns w2 X = some w3) (I : inR Y 10 = true) (c1 : gI w3 149 (Y).toNatClampNeg = 0 ∨ gL w3 148 (Y).toNatClampNeg = (((-24883200000 : Int64) * (gL w2 142 (((6 : Int32) + X)).toNatClampNeg)) / (gL w2 142 (((6 : Int32) + Y)).toNatClampNeg))) (I1 : inR (((92 : Int32) + ((10 : Int32) * X)) + Y) 192 = true) (I2 : inR (((92 : Int32) + ((10 : Int32) * Y)) + X) 192 = true) (T2 : f_X11_turns (uL (uL w3 142 ((((92 : Int32) + ((10 : Int32) * X)) + Y)).toNatClampNeg (K).toInt64) 142 ((((92 : Int32) + ((10 : Int32) * Y)) + X)).toNatClampNeg (K).toInt64) X = some w5) (M : f_X11_members w5 = some m) : f_X11_joins w X Y K = some (m, uI w5 141 12 (jI 0)) := by
  unfold f_X11_joins
  by_cases c2 : gI w3 149 (Y).toNatClampNeg = 0
  · simp only [A, N, J, Q, V, bs_p, i10, ite_false, ite_true, c4, c5, c6, k2, I3, I4, c7, not_false_eq_true, T1, I, c2, I1, I2, wl_p, T2, M, s_done, u2_p]
  · have c3 := c1.resolve_left c2
    simp only [A, N, J, Q, V, bs_p, i10, ite_false, ite_true, c4, c5, c6, k2, I3, I4, c7, not_false_eq_true, T1, I, c2, c3, I1, I2, wl_p, T2, M, s_done, u2_p]
theorem jr_mn (A : f_X11_areGears w X Y = some (jI 1)) (N : ¬ X = Y) (J : f_X11_jointOf w X Y = some j) (c4 : j = 0) (Q : f_X11_joints w = some q) (c5 : ¬ q = (15 : Int32)) (V : f_X11_haveSprings w X Y = some (r, w2)) (c6 : r = 0) (k2 : ¬ K = (2 : Int32)) (I3 : inR ((6 : Int32) + X) 192 = true) (I4 : inR ((6 : Int32) + Y) 192 = true) (c7 : ¬ gL w2 142 (((6 : Int32) + Y)).toNatClampNeg = 0) (T1 : f_X11_turns w2 X = some w3) (I : inR Y 10 = true) (c1 : ¬ gI w3 149 (Y).toNatClampNeg = 0) (c2 : ¬ gL w3 148 (Y).toNatClampNeg = (((-24883200000 : Int64) * (gL w2 142 (((6 : Int32) + X)).toNatClampNeg)) / (gL w2 142 (((6 : Int32) + Y)).toNatClampNeg))) : f_X11_joins w X Y K = some (jI 0, uI w3 141 12 (4 : Int32)) := by
  unfold f_X11_joins
  simp only [A, N, J, Q, V, bs_p, i10, ite_false, ite_true, c4, c5, c6, k2, I3, I4, c7, not_false_eq_true, T1, I, c1, c2, s_fails, u2_p]
end
section
variable {w : Wd} {X Y K : Int32}
theorem j_g1 (A : f_X7_isGear w X = some (jI 0)) : f_X1_join w X Y K = some ((-1 : Int32), w) := by
  unfold f_X1_join
  rw [A]
  rfl
theorem j_g2 (A : f_X7_isGear w X = some (jI 1)) (B : f_X7_isGear w Y = some (jI 0)) : f_X1_join w X Y K = some ((-1 : Int32), w) := by
  unfold f_X1_join
  rw [A]
  rw [bs_p, if_neg (show ¬ jI 1 = (0 : Int32) by decide +kernel), B]
  rfl
theorem jr_g (A : f_X11_areGears w X Y = some (jI 0)) : f_X11_joins w X Y K = some (jI 0, uI w 141 12 (1 : Int32)) := by
  unfold f_X11_joins
  rw [A]
  rfl
end
end
section
set_option maxHeartbeats 16000000 in
theorem op_join {S : Ab} (hG : Good S) {x y k : Int} (x1 : -2147483648 ≤ x) (x2 : x < 2147483648) (y1 : -2147483648 ≤ y) (y2 : y < 2147483648) (hk : k = 1 ∨ k = 2) : Op S [0, 1, 2, 3] (fun e => (e : Int) + 1) (fun w => f_X1_join w (jI x) (jI y) (jI (jk k))) (fun w => f_X11_joins w (jI x) (jI y) (jI k)) := by
  have hg := hG.1
  by_cases q : (0 ≤ x ∧ x < S 0) ∧ 0 ≤ y ∧ y < S 0
  · obtain ⟨qx, qy⟩ := q
    by_cases hxy : x = y
    · refine ⟨.inl 1, ok_e (e := 1) (by decide), fun w h => ?_, fun w h => ?_⟩
      · refine ⟨jI (-2), w, ?_, CO.err (Sm.refl w) rfl h⟩
        unfold f_X1_join
        simp (disch := omega) only [l32_0, l32_1, l32_2, l32_3, l32_4, l32_5, l32_6, l32_7, l32_8, l32_9, l32_10, l32_11, l32_12, l32_13, l32_14, l32_15, l32_16, l32_17, l32_18, l32_19, l32_20, l32_21, l32_22, l32_23, l32_24, l32_25, l32_26, l32_27, l32_28, l32_29, l32_30, l32_31, l32_32, l32_33, l32_34, l32_35, l32_36, l32_37, l32_38, l32_39, l32_40, l32_41, l32_42, l32_43, l32_44, l32_45, l32_46, l32_47, l32_48, l32_49, l32_50, l32_51, l32_52, l32_53, l32_54, l32_55, l32_56, l32_57, l32_58, l32_59, l32_60, l32_61, l32_62, l32_63, l32_64, l32_65, l32_66, l32_76, l32_86, l32_90, l32_92, l32_97, l32_98, l32_99, l32_100, l32_101, l32_102, l32_103, l32_104, l32_105, l32_106, l32_107, l32_108, l32_109, l32_110, l32_111, l32_112, l32_113, l32_114, l32_115, l32_116, l32_117, l32_118, l32_119, l32_120, l32_121, l32_122, l32_123, l32_124, l32_125, l32_126, l32_192, l32_200, l32_255, l32_999, l32_1000, l32_1344, l32_2147483639, l32_2147483647, l64_0, l64_1, l64_99, l64_999, l64_24883200000, l64_746496000000, jI_add, jI_sub, jI_mul, jI_neg, jL_add, jL_sub, jL_mul, jL_neg, jL_toI, jI_toL, jI_eqT, jI_eqF, jI_ltT, jI_ltF, jI_leT, jI_leF, jL_eqT, jL_eqF, jL_ltT, jL_ltF, jL_leT, jL_leF, inR_T, inR_F, bZ_T, bZ_F, not_true_eq_false, not_false_eq_true, jI_clamp, nI_j, bs_p, wl_p, u2_p, u3_p, u4_p, u5_p, zl_p, zr_p, mn_p, ms_p, if_pos, if_neg, ite_true, ite_false, s_isGear h hG]
      · refine ⟨jI 0, uI w 141 12 (jI 2), ?_, RO.err (Sm.refl w) rfl rfl⟩
        unfold f_X11_joins
        simp (disch := omega) only [l32_0, l32_1, l32_2, l32_3, l32_4, l32_5, l32_6, l32_7, l32_8, l32_9, l32_10, l32_11, l32_12, l32_13, l32_14, l32_15, l32_16, l32_17, l32_18, l32_19, l32_20, l32_21, l32_22, l32_23, l32_24, l32_25, l32_26, l32_27, l32_28, l32_29, l32_30, l32_31, l32_32, l32_33, l32_34, l32_35, l32_36, l32_37, l32_38, l32_39, l32_40, l32_41, l32_42, l32_43, l32_44, l32_45, l32_46, l32_47, l32_48, l32_49, l32_50, l32_51, l32_52, l32_53, l32_54, l32_55, l32_56, l32_57, l32_58, l32_59, l32_60, l32_61, l32_62, l32_63, l32_64, l32_65, l32_66, l32_76, l32_86, l32_90, l32_92, l32_97, l32_98, l32_99, l32_100, l32_101, l32_102, l32_103, l32_104, l32_105, l32_106, l32_107, l32_108, l32_109, l32_110, l32_111, l32_112, l32_113, l32_114, l32_115, l32_116, l32_117, l32_118, l32_119, l32_120, l32_121, l32_122, l32_123, l32_124, l32_125, l32_126, l32_192, l32_200, l32_255, l32_999, l32_1000, l32_1344, l32_2147483639, l32_2147483647, l64_0, l64_1, l64_99, l64_999, l64_24883200000, l64_746496000000, jI_add, jI_sub, jI_mul, jI_neg, jL_add, jL_sub, jL_mul, jL_neg, jL_toI, jI_toL, jI_eqT, jI_eqF, jI_ltT, jI_ltF, jI_leT, jI_leF, jL_eqT, jL_eqF, jL_ltT, jL_ltF, jL_leT, jL_leF, inR_T, inR_F, bZ_T, bZ_F, not_true_eq_false, not_false_eq_true, jI_clamp, nI_j, bs_p, wl_p, u2_p, u3_p, u4_p, u5_p, zl_p, zr_p, mn_p, ms_p, if_pos, if_neg, ite_true, ite_false, s_rAreGears h hG, s_fails]
    · have hj := hG.2.2.2.1 x y qx.1 (by omega) qy.1 (by omega)
      have hj2 := hj.2.1
      have hkk := jk_b (S (92 + 10 * x + y))
      have h30 := hG.2.2.2.2.1
      have j0 := jc_lo S
      have tx := tooth_b ((hG.2.1 x qx.1 (by omega)).1 qx.2)
      have ty' := (hG.2.1 y qy.1 (by omega)).1 qy.2
      have ty := tooth_b ty'
      have ub := tu_b hG qx.1 qx.2 y qy.1 (by omega)
      obtain ⟨qd, hqd, hqd2⟩ := due_m (S := S) (x := x) ty'
      have due2 : ∀ k, due S x y k = if k = 2 then 24883200000 else -qd := fun k => by unfold due; rw [hqd2]
      have dueb : -14929920000000000 ≤ due S x y k ∧ due S x y k ≤ 14929920000000000 := by
        rw [due2]
        have h1 : S (6 + y) * qd ≤ 24883200000 * 60 := by rw [← hqd]; omega
        have h2 : 0 ≤ S (6 + y) * qd := by rw [← hqd]; omega
        have h3 : 0 ≤ qd := Int.nonneg_of_mul_nonneg_right h2 (by omega)
        have h4 : 1 * qd ≤ S (6 + y) * qd := Int.mul_le_mul_of_nonneg_right (by omega) h3
        split <;> omega
      have gx : ∀ w, CSt w 1 S → f_X7_isGear w (jI x) = some (jI 1) := fun w h => by rw [s_isGear h hG x1 x2, bZ_pos qx]
      have gy : ∀ w, CSt w 1 S → f_X7_isGear w (jI y) = some (jI 1) := fun w h => by rw [s_isGear h hG y1 y2, bZ_pos qy]
      have ax : ∀ w, RSt w 142 0 S → f_X11_areGears w (jI x) (jI y) = some (jI 1) := fun w h => by rw [s_rAreGears h hG x1 x2 y1 y2, bZ_pos ⟨qx, qy⟩]
      have nxy : ¬ jI x = jI y := fun z => hxy ((iff_of_eq (jI_eq (by omega) (by omega) (by omega) (by omega))).mp z)
      -- what the class finds
      have cls : ∀ w, CSt w 1 S → ∃ w1 w2 m1 m2 r1 r2, f_X8_trace w (jI y) = some w1 ∧ f_X8_springGear w1 = some (jI r1) ∧ f_X8_trace w1 (jI x) = some w2 ∧ f_X8_springGear w2 = some (jI r2) ∧ Sm KC w w2 ∧ CSt w2 1 S ∧ CT w1 (TU S y) (ct (TU S y)) m1 ∧ CT w2 (TU S x) (ct (TU S x)) m2 ∧ (r1 = -1 ↔ ¬ Sp S y) ∧ (r2 = -1 ↔ ¬ Sp S x) ∧ (jI r1 = (-1 : Int32) ↔ r1 = -1) ∧ (jI r2 = (-1 : Int32) ↔ r2 = -1) := by
        intro w h
        obtain ⟨w1, m1, hr1, hs1, hC1, h1⟩ := s_trace hG h qy.1 qy.2
        obtain ⟨r1, hq1, hF1⟩ := s_springGear h1 hG hC1 (tu_b hG qy.1 qy.2)
        obtain ⟨w2, m2, hr2, hs2, hC2, h2⟩ := s_trace hG h1 qx.1 qx.2
        obtain ⟨r2, hq2, hF2⟩ := s_springGear h2 hG hC2 (tu_b hG qx.1 qx.2)
        have b1 := hF1.b
        have b2 := hF2.b
        exact ⟨w1, w2, m1, m2, r1, r2, hr1, hq1, hr2, hq2, (hs1.tr hs2).mono (fun k => KT_C), h2, hC1, hC2, hF1.none, hF2.none, by rw [m32_1]; exact iff_of_eq (jI_eq (by omega) (by omega) (by omega) (by omega)), by rw [m32_1]; exact iff_of_eq (jI_eq (by omega) (by omega) (by omega) (by omega))⟩
      by_cases c3 : S (92 + 10 * x + y) ≠ 0 ∨ 15 ≤ jc S / 2 ∨ HS S x y
      · refine ⟨.inl 2, ok_e (e := 2) (by decide), fun w h => ?_, fun w h => ?_⟩
        · obtain ⟨w1, w2, m1, m2, r1, r2, hr1, hq1, hr2, hq2, hs, h2, hC1, hC2, n1, n2, e1, e2⟩ := cls w h
          have sh := s_holds hC2 (tu_b hG qx.1 qx.2) (i := y) qy.1 (by omega)
          have sj := s_jointOf h2 (a := x) (b := y) qx.1 (by omega) qy.1 (by omega)
          refine ⟨(-3 : Int32), w2, j_bad (gx w h) (gy w h) nxy hr1 hq1 hr2 sh hq2 sj ?_, CO.err hs rfl h2⟩
          rcases c3 with c3 | c3 | c3
          · exact Or.inl (fun z => c3 (jk_0.mp ((iff_of_eq (jI_eq (by omega) (by omega) (by omega) (by omega))).mp z)))
          · refine Or.inr (Or.inl ?_)
            rw [c_m h2, l32_15, jI_le (by omega) (by omega) (by omega) (by omega)]; exact c3
          · refine Or.inr (Or.inr ⟨?_, fun z => n1.mp (e1.mp z) c3.2.1, fun z => n2.mp (e2.mp z) c3.2.2⟩)
            rw [bZ_neg (fun z => z c3.1)]; rfl
        · have J := s_rJoint h (a := x) (b := y) qx.1 (by omega) qy.1 (by omega)
          by_cases z0 : S (92 + 10 * x + y) = 0
          · have sj := s_rJoints h (fun k k0 k1 => hG.j2 k k0 k1)
            have c4 : jI (S (92 + 10 * x + y)) = 0 := by rw [z0]; rfl
            by_cases z2 : 15 ≤ jc S / 2
            · exact ⟨jI 0, uI w 141 12 (jI 3), jr_b2 (ax w h) nxy J c4 sj (by rw [show jc S / 2 = 15 by omega]; rfl), RO.err (Sm.refl w) rfl rfl⟩
            · have hs3 : HS S x y := by
                rcases c3 with c3 | c3 | c3
                · exact absurd z0 c3
                · exact absurd c3 z2
                · exact c3
              obtain ⟨r, w2, hr, hs, h2, ⟨rfl, hx⟩ | ⟨rfl, hx⟩⟩ := s_haveSprings hG h qx.1 qx.2 qy.1 qy.2
              · exact absurd hs3 hx
              · exact ⟨jI 0, uI w2 141 12 (jI 3), jr_b3 (ax w h) nxy J c4 sj (by rw [l32_15, jI_eq (by omega) (by omega) (by omega) (by omega)]; omega) hr (by decide +kernel), RO.err (hs.mono (fun k => KU_M)) (hs.1 141 (by unfold KU; omega)).1 rfl⟩
          · exact ⟨jI 0, uI w 141 12 (jI 3), jr_b1 (ax w h) nxy J (by rw [l32_0, jI_eq (by omega) (by omega) (by omega) (by omega)]; exact z0), RO.err (Sm.refl w) rfl rfl⟩
      · have z0 : S (92 + 10 * x + y) = 0 := Classical.byContradiction (fun z => c3 (Or.inl z))
        have z1 : jk (S (92 + 10 * x + y)) = 0 := jk_0.mpr z0
        have z2 : jc S / 2 < 15 := by
          have : ¬ 15 ≤ jc S / 2 := fun z => c3 (Or.inr (Or.inl z))
          omega
        have nh : ¬ HS S x y := fun z => c3 (Or.inr (Or.inr z))
        have kb := jk_b k
        by_cases c4 : TU S x y = 0 ∨ TU S x y = due S x y k
        · -- it is put
          have hc := jc_pj (v := k) qx.1 (by omega) qy.1 (by omega) hxy hj.1
          rw [if_neg (show k ≠ 0 by omega), if_pos z0] at hc
          have hG' : Good (pj S x y k) := hG.joint qx.1 qx.2 qy.1 qy.2 hxy (by omega) (by omega) (Pot.join hG qx.1 qx.2 qy.1 qy.2 hxy hk c4)
          have g0 : pj S x y k 0 = S 0 := pj_lo qx.1 qy.1 (by omega)
          have cl := ct_lo (TU (pj S x y k) x)
          have ch := ct_hi (TU (pj S x y k) x)
          refine ⟨.inr (ct (TU (pj S x y k) x), pj S x y k), ⟨cl, by omega, hG'⟩, fun w h => ?_, fun w h => ?_⟩
          · obtain ⟨w1, w2, m1, m2, r1, r2, hr1, hq1, hr2, hq2, hs, h2, hC1, hC2, n1, n2, e1, e2⟩ := cls w h
            have sh := s_holds hC2 (tu_b hG qx.1 qx.2) (i := y) qy.1 (by omega)
            have sj := s_jointOf h2 (a := x) (b := y) qx.1 (by omega) qy.1 (by omega)
            have sp := s_putJoint (w := w2) (v := k) qx.1 (show x < 10 by omega) qy.1 (show y < 10 by omega)
            have su := s_unitsBehind hG h2 (c := 24883200000) (k := k) qx.1 qx.2 qy.1 qy.2 (by omega) (by omega) (by omega)
            have su : f_X7_unitsBehind w2 (jL 24883200000) (jI x) (jI y) (jI (jk k)) = some (jL (due S x y k)) := su
            have h3 := h2.put_j (v := k) qx.1 (show x < 10 by omega) qy.1 (show y < 10 by omega)
            have h3 : CSt (uI (uI (uI w2 10 (x * 10 + y).toNat (jI (jk k))) 10 (y * 10 + x).toNat (jI (jk k))) 1 11 (jI (jc (pj S x y k) / 2))) 1 (pj S x y k) := h3
            rw [show jc (pj S x y k) / 2 = jc S / 2 + 1 by omega] at h3
            obtain ⟨w5, m5, hr5, hs5, hC5, h5⟩ := s_trace hG' h3 qx.1 (by rw [g0]; exact qx.2)
            refine ⟨jI (ct (TU (pj S x y k) x)), w5, ?_, CO.val ((((hs.tr (Sm.wI _ (by unfold KC; omega))).tr (Sm.wI _ (by unfold KC; omega))).tr (Sm.wI _ (by unfold KC; omega))).tr (hs5.mono (fun k => KT_C))) rfl h5⟩
            have e5 := hC5.2.1
            have e3 := hC2.1 y qy.1 (by omega)
            have k4 : jI (jk (S (92 + 10 * x + y))) = 0 := by rw [z1]; rfl
            have k5 : ¬ (15 : Int32) ≤ gI w2 1 11 := by rw [c_m h2, l32_15, jI_le (by omega) (by omega) (by omega) (by omega)]; omega
            have hr5' : f_X8_trace (uI (uI (uI w2 10 (x * 10 + y).toNat (jI (jk k))) 10 (y * 10 + x).toNat (jI (jk k))) 1 11 (gI (uI (uI w2 10 (x * 10 + y).toNat (jI (jk k))) 10 (y * 10 + x).toNat (jI (jk k))) 1 11 + (1 : Int32))) (jI x) = some w5 := by
              rw [gI_uI, if_neg (by omega), gI_uI, if_neg (by omega), c_m h2, l32_1, jI_add]; exact hr5
            rw [← e5]
            by_cases z3 : TU S x y = 0
            · refine j_put (gx w h) (gy w h) nxy hr1 hq1 hr2 sh hq2 sj k4 k5 (by rw [bZ_neg (fun z => z z3)]; rfl) ?_ sp hr5'
              by_cases z4 : r1 = -1
              · exact Or.inl (e1.mpr z4)
              · exact Or.inr (e2.mpr (n2.mpr (fun z => nh ⟨z3, Classical.byContradiction (fun z6 => z4 (n1.mpr z6)), z⟩)))
            · refine j_put2 (gx w h) (gy w h) nxy hr1 hq1 hr2 sh sj k4 k5 (by rw [bZ_pos z3]; decide +kernel) ?_ su ?_ sp hr5'
              · rw [inR_j (by omega) (by omega)]; omega
              · rw [jI_clamp (by omega) (by omega), e3, c4.resolve_left z3]
          · have sj := s_rJoints h (fun k k0 k1 => hG.j2 k k0 k1)
            obtain ⟨r, w2, hr, hs, h2, ⟨rfl, hx⟩ | ⟨rfl, hx⟩⟩ := s_haveSprings hG h qx.1 qx.2 qy.1 qy.2
            · obtain ⟨w3, hr3, hs3, hR3, h3⟩ := s_rTurns hG h2 qx.1 qx.2
              have h4 := h3.joint (v := k) qx.1 (show x < 10 by omega) qy.1 (show y < 10 by omega)
              obtain ⟨w5, hr5, hs5, hR5, h5⟩ := s_rTurns hG' h4 qx.1 (by rw [g0]; exact qx.2)
              have em := s_rMembers hR5
              have hs6 : Sm KM w w5 := ((((hs.tr hs3).mono (fun k => KU_M)).tr (Sm.wL _ (by unfold KM; omega))).tr (Sm.wL _ (by unfold KM; omega))).tr (hs5.mono (fun k => KU_M))
              have h141 : gI w5 141 = gI w 141 := ((hs5.1 141 (by unfold KU; omega)).1.trans (hs3.1 141 (by unfold KU; omega)).1).trans (hs.1 141 (by unfold KU; omega)).1
              refine ⟨jI (ct (TU (pj S x y k) x)), uI w5 141 12 (jI 0), ?_, RO.val hs6 h141 h5⟩
              have J := s_rJoint h (a := x) (b := y) qx.1 (by omega) qy.1 (by omega)
              have k4 : jI (S (92 + 10 * x + y)) = 0 := by rw [z0]; rfl
              have k5 : ¬ jI (jc S / 2) = (15 : Int32) := by rw [l32_15, jI_eq (by omega) (by omega) (by omega) (by omega)]; omega
              have iy : inR (jI y) 10 = true := by rw [inR_j (by omega) (by omega)]; omega
              have e1 : (jI y).toNatClampNeg = y.toNat := jI_clamp (by omega) (by omega)
              have i3 : inR ((6 : Int32) + jI x) 192 = true := by rw [l32_6, jI_add, inR_j (by omega) (by omega)]; omega
              have i4 : inR ((6 : Int32) + jI y) 192 = true := by rw [l32_6, jI_add, inR_j (by omega) (by omega)]; omega
              have g3 : gL w2 142 ((6 : Int32) + jI x).toNatClampNeg = jL (S (6 + x)) := by rw [l32_6, jI_add, jI_clamp (by omega) (by omega), r_g h2 _ (by omega) (by omega)]
              have g4 : gL w2 142 ((6 : Int32) + jI y).toNatClampNeg = jL (S (6 + y)) := by rw [l32_6, jI_add, jI_clamp (by omega) (by omega), r_g h2 _ (by omega) (by omega)]
              have g5 : ¬ gL w2 142 ((6 : Int32) + jI y).toNatClampNeg = 0 := by rw [g4, l64_0, jL_eq (by omega) (by omega) (by omega) (by omega)]; omega
              have e6 : ((-24883200000 : Int64) * gL w2 142 ((6 : Int32) + jI x).toNatClampNeg) / gL w2 142 ((6 : Int32) + jI y).toNatClampNeg = jL (due S x y 1) := by
                rw [g3, g4, show (-24883200000 : Int64) = jL (-24883200000) from rfl, jL_mul, jL_div (by omega) (by omega) (by omega) (by omega), due2, if_neg (by decide), Int.neg_mul, hqd, ← Int.mul_neg, Int.mul_tdiv_cancel_left _ (by omega)]
              have ixy : ((92 : Int32) + (10 : Int32) * jI x) + jI y = jI (92 + 10 * x + y) := by rw [l32_92, l32_10, jI_mul, jI_add, jI_add]
              have iyx : ((92 : Int32) + (10 : Int32) * jI y) + jI x = jI (92 + 10 * y + x) := by rw [l32_92, l32_10, jI_mul, jI_add, jI_add]
              have i1 : inR (((92 : Int32) + (10 : Int32) * jI x) + jI y) 192 = true := by rw [ixy, inR_j (by omega) (by omega)]; omega
              have i2 : inR (((92 : Int32) + (10 : Int32) * jI y) + jI x) 192 = true := by rw [iyx, inR_j (by omega) (by omega)]; omega
              have hr5' : f_X11_turns (uL (uL w3 142 (((92 : Int32) + (10 : Int32) * jI x) + jI y).toNatClampNeg (jI k).toInt64) 142 (((92 : Int32) + (10 : Int32) * jI y) + jI x).toNatClampNeg (jI k).toInt64) (jI x) = some w5 := by
                rw [ixy, iyx, jI_clamp (by omega) (by omega), jI_clamp (by omega) (by omega), jI_toL (by omega) (by omega)]; exact hr5
              have kn : gI w3 149 (jI y).toNatClampNeg = jI (bZ (TU S x y ≠ 0)) := by rw [e1]; exact rt_k hR3 y qy.1 (by omega)
              have un : gL w3 148 (jI y).toNatClampNeg = jL (TU S x y) := by rw [e1]; exact rt_u hR3 y qy.1 (by omega)
              rcases hk with rfl | rfl
              · refine jr_m (ax w h) nxy J k4 sj k5 hr rfl (by decide +kernel) i3 i4 g5 hr3 iy ?_ i1 i2 hr5' em
                rcases c4 with c4 | c4
                · exact Or.inl (by rw [kn, bZ_neg (fun z => z c4)]; rfl)
                · exact Or.inr (by rw [un, e6, c4])
              · refine jr_a (ax w h) nxy J k4 sj k5 hr rfl rfl hr3 iy ?_ i1 i2 hr5' em
                rcases c4 with c4 | c4
                · exact Or.inl (by rw [kn, bZ_neg (fun z => z c4)]; rfl)
                · exact Or.inr (by rw [un, c4, due2, if_pos rfl]; rfl)
            · exact absurd hx nh
        · -- it would not turn
          have z3 : TU S x y ≠ 0 := fun z => c4 (Or.inl z)
          have z6 : TU S x y ≠ due S x y k := fun z => c4 (Or.inr z)
          refine ⟨.inl 3, ok_e (e := 3) (by decide), fun w h => ?_, fun w h => ?_⟩
          · obtain ⟨w1, w2, m1, m2, r1, r2, hr1, hq1, hr2, hq2, hs, h2, hC1, hC2, n1, n2, e1, e2⟩ := cls w h
            have sh := s_holds hC2 (tu_b hG qx.1 qx.2) (i := y) qy.1 (by omega)
            have sj := s_jointOf h2 (a := x) (b := y) qx.1 (by omega) qy.1 (by omega)
            have su := s_unitsBehind hG h2 (c := 24883200000) (k := k) qx.1 qx.2 qy.1 qy.2 (by omega) (by omega) (by omega)
            have su : f_X7_unitsBehind w2 (jL 24883200000) (jI x) (jI y) (jI (jk k)) = some (jL (due S x y k)) := su
            have e3 := hC2.1 y qy.1 (by omega)
            have k4 : jI (jk (S (92 + 10 * x + y))) = 0 := by rw [z1]; rfl
            have k5 : ¬ (15 : Int32) ≤ gI w2 1 11 := by rw [c_m h2, l32_15, jI_le (by omega) (by omega) (by omega) (by omega)]; omega
            refine ⟨(-4 : Int32), w2, j_no (gx w h) (gy w h) nxy hr1 hq1 hr2 sh sj k4 k5 (by rw [bZ_pos z3]; decide +kernel) ?_ su ?_, CO.err hs rfl h2⟩
            · rw [inR_j (by omega) (by omega)]; omega
            · rw [jI_clamp (by omega) (by omega), e3, jL_eq (by omega) (by omega) (by omega) (by omega)]; exact z6
          · have sj := s_rJoints h (fun k k0 k1 => hG.j2 k k0 k1)
            obtain ⟨r, w2, hr, hs, h2, ⟨rfl, hx⟩ | ⟨rfl, hx⟩⟩ := s_haveSprings hG h qx.1 qx.2 qy.1 qy.2
            · obtain ⟨w3, hr3, hs3, hR3, h3⟩ := s_rTurns hG h2 qx.1 qx.2
              refine ⟨jI 0, uI w3 141 12 (jI 4), ?_, RO.err ((hs.tr hs3).mono (fun k => KU_M)) ((hs3.1 141 (by unfold KU; omega)).1.trans (hs.1 141 (by unfold KU; omega)).1) rfl⟩
              have J := s_rJoint h (a := x) (b := y) qx.1 (by omega) qy.1 (by omega)
              have k4 : jI (S (92 + 10 * x + y)) = 0 := by rw [z0]; rfl
              have k5 : ¬ jI (jc S / 2) = (15 : Int32) := by rw [l32_15, jI_eq (by omega) (by omega) (by omega) (by omega)]; omega
              have iy : inR (jI y) 10 = true := by rw [inR_j (by omega) (by omega)]; omega
              have e1 : (jI y).toNatClampNeg = y.toNat := jI_clamp (by omega) (by omega)
              have i3 : inR ((6 : Int32) + jI x) 192 = true := by rw [l32_6, jI_add, inR_j (by omega) (by omega)]; omega
              have i4 : inR ((6 : Int32) + jI y) 192 = true := by rw [l32_6, jI_add, inR_j (by omega) (by omega)]; omega
              have g3 : gL w2 142 ((6 : Int32) + jI x).toNatClampNeg = jL (S (6 + x)) := by rw [l32_6, jI_add, jI_clamp (by omega) (by omega), r_g h2 _ (by omega) (by omega)]
              have g4 : gL w2 142 ((6 : Int32) + jI y).toNatClampNeg = jL (S (6 + y)) := by rw [l32_6, jI_add, jI_clamp (by omega) (by omega), r_g h2 _ (by omega) (by omega)]
              have g5 : ¬ gL w2 142 ((6 : Int32) + jI y).toNatClampNeg = 0 := by rw [g4, l64_0, jL_eq (by omega) (by omega) (by omega) (by omega)]; omega
              have e6 : ((-24883200000 : Int64) * gL w2 142 ((6 : Int32) + jI x).toNatClampNeg) / gL w2 142 ((6 : Int32) + jI y).toNatClampNeg = jL (due S x y 1) := by
                rw [g3, g4, show (-24883200000 : Int64) = jL (-24883200000) from rfl, jL_mul, jL_div (by omega) (by omega) (by omega) (by omega), due2, if_neg (by decide), Int.neg_mul, hqd, ← Int.mul_neg, Int.mul_tdiv_cancel_left _ (by omega)]
              have kn : ¬ gI w3 149 (jI y).toNatClampNeg = 0 := by rw [e1, rt_k hR3 y qy.1 (by omega), bZ_pos z3]; decide +kernel
              have un : gL w3 148 (jI y).toNatClampNeg = jL (TU S x y) := by rw [e1]; exact rt_u hR3 y qy.1 (by omega)
              rcases hk with rfl | rfl
              · refine jr_mn (ax w h) nxy J k4 sj k5 hr rfl (by decide +kernel) i3 i4 g5 hr3 iy kn ?_
                rw [un, e6, jL_eq (by omega) (by omega) (by omega) (by omega)]; exact z6
              · refine jr_an (ax w h) nxy J k4 sj k5 hr rfl rfl hr3 iy kn ?_
                rw [un, show (24883200000 : Int64) = jL (due S x y 2) by rw [due2, if_pos rfl]; rfl, jL_eq (by omega) (by omega) (by omega) (by omega)]; exact z6
            · exact absurd hx nh
  · refine ⟨.inl 0, ok_e (e := 0) (by decide), fun w h => ?_, fun w h => ?_⟩
    · refine ⟨(-1 : Int32), w, ?_, CO.err (Sm.refl w) rfl h⟩
      by_cases qx : 0 ≤ x ∧ x < S 0
      · have qy : ¬ (0 ≤ y ∧ y < S 0) := fun z => q ⟨qx, z⟩
        exact j_g2 (by rw [s_isGear h hG x1 x2, bZ_pos qx]) (by rw [s_isGear h hG y1 y2, bZ_neg qy])
      · exact j_g1 (by rw [s_isGear h hG x1 x2, bZ_neg qx])
    · exact ⟨jI 0, uI w 141 12 (jI 1), jr_g (by rw [s_rAreGears h hG x1 x2 y1 y2, bZ_neg q]), RO.err (Sm.refl w) rfl rfl⟩
end
section
/-! A RELEASE -/
theorem ct_pos {u : Ab} {x : Int} (h0 : 0 ≤ x) (h1 : x < 10) (hu : u x ≠ 0) : 1 ≤ ct u := by
  have e := ct_up (u := up u x 0) (x := x) (v := u x) h0 h1 (up_eq _ _ _) hu
  have e2 : ct (up (up u x 0) x (u x)) = ct u := ct_congr (fun y y0 y1 => by
    by_cases z : y = x
    · rw [z, up_eq]
    · rw [up_ne z, up_ne z])
  have := ct_lo (up u x 0)
  omega
theorem CSt.wfree {w : Wd} {S : Ab} {i v : Int} (h : CSt w 1 S) (i0 : 0 ≤ i) (i1 : i < 10) (hv : S (66 + i) ≠ 1) : CSt w 1 (up S (76 + i) v) := by
  have hj : jc (up S (76 + i) v) = jc S := jc_up (by omega)
  obtain ⟨h1, h2, h3, h4, h5, h6, h7, h8, h9, h10⟩ := h
  refine ⟨fun x x0 x1 => ?_, fun x x0 x1 => ?_, fun x x0 x1 => ?_, ?_, ?_, ?_, ?_, ?_, ?_, ?_⟩
  · rw [up_ne (x := 6 + x) (by omega), up_ne (x := 16 + x) (by omega), up_ne (x := 66 + x) (by omega), up_ne (x := 56 + x) (by omega), up_ne (x := 26 + x) (by omega), up_ne (x := 36 + x) (by omega), up_ne (x := 46 + x) (by omega)]
    obtain ⟨k1, k2, k3, k4, k5⟩ := h1 x x0 x1
    refine ⟨k1, k2, k3, fun q => ?_, k5⟩
    by_cases z : x = i
    · rw [z] at q; exact absurd q hv
    · rw [up_ne (by omega)]; exact k4 q
  · rw [up_ne (by omega)]; exact h2 x x0 x1
  · rw [up_ne (by omega)]; exact h3 x x0 x1
  · rw [up_ne (by omega)]; exact h4
  · rw [hj]; exact h5
  · rw [up_ne (by omega)]; exact h6
  · rw [up_ne (by omega)]; exact h7
  · rw [up_ne (by omega)]; exact h8
  · rw [up_ne (by omega)]; exact h9
  · rw [up_ne (by omega)]; exact h10
def t1 (S u : Ab) (c e : Int) : Ab := fun z => if 16 ≤ z ∧ z < 26 then (if u (z - 16) = 0 then S z else (S z + u (z - 16) * e) % 24883200000) else if 76 ≤ z ∧ z < 86 then (if u (z - 76) ≠ 0 ∧ S (z - 10) = 1 then S z + (u (z - 76)).natAbs * c else S z) else S z
def t3 (S : Ab) : Ab := fun z => if 66 ≤ z ∧ z < 76 then (if S z = 1 ∧ 746496000000 ≤ S (z + 10) then 0 else S z) else if 76 ≤ z ∧ z < 86 then (if S (z - 10) = 1 ∧ 746496000000 ≤ S z then 0 else S z) else S z
theorem t1_a {S u : Ab} {c e i : Int} (h0 : 0 ≤ i) (h1 : i < 10) : t1 S u c e (16 + i) = if u i = 0 then S (16 + i) else (S (16 + i) + u i * e) % 24883200000 := by
  unfold t1
  rw [if_pos (by omega), show 16 + i - 16 = i by omega]
theorem t1_w {S u : Ab} {c e i : Int} (h0 : 0 ≤ i) (h1 : i < 10) : t1 S u c e (76 + i) = if u i ≠ 0 ∧ S (66 + i) = 1 then S (76 + i) + (u i).natAbs * c else S (76 + i) := by
  unfold t1
  rw [if_neg (by omega), if_pos (by omega), show 76 + i - 76 = i by omega, show 76 + i - 10 = 66 + i by omega]
theorem t1_o {S u : Ab} {c e z : Int} (h : ¬ (16 ≤ z ∧ z < 26)) (h2 : ¬ (76 ≤ z ∧ z < 86)) : t1 S u c e z = S z := by
  unfold t1
  rw [if_neg h, if_neg h2]
theorem t3_o {S : Ab} {i : Int} (h0 : 0 ≤ i) (h1 : i < 10) : t3 S (66 + i) = if S (66 + i) = 1 ∧ 746496000000 ≤ S (76 + i) then 0 else S (66 + i) := by
  unfold t3
  rw [if_pos (by omega), show 66 + i + 10 = 76 + i by omega]
theorem t3_w {S : Ab} {i : Int} (h0 : 0 ≤ i) (h1 : i < 10) : t3 S (76 + i) = if S (66 + i) = 1 ∧ 746496000000 ≤ S (76 + i) then 0 else S (76 + i) := by
  unfold t3
  rw [if_neg (by omega), if_pos (by omega), show 76 + i - 10 = 66 + i by omega]
theorem t3_r {S : Ab} {z : Int} (h : ¬ (66 ≤ z ∧ z < 86)) : t3 S z = S z := by
  unfold t3
  rw [if_neg (by omega), if_neg (by omega)]
theorem u_mul {u e : Int} (h1 : -14929920000000000 ≤ u) (h2 : u ≤ 14929920000000000) (e1 : -50 ≤ e) (e2 : e ≤ 50) : -746496000000000000 ≤ u * e ∧ u * e ≤ 746496000000000000 ∧ ((u * e).natAbs : Int) = u.natAbs * e.natAbs ∧ (u.natAbs : Int) * e.natAbs ≤ 746496000000000000 := by
  have h3 : ((u * e).natAbs : Int) = u.natAbs * e.natAbs := by rw [Int.natAbs_mul, Int.natCast_mul]
  have h4 : (u.natAbs : Int) * (e.natAbs : Int) ≤ 14929920000000000 * 50 := Int.mul_le_mul (by omega) (by omega) (by omega) (by omega)
  omega
/-- a part of the turning -/
def tq (S T : Ab) (i : Int) : Ab := fun z => if (16 ≤ z ∧ z < 16 + i) ∨ (76 ≤ z ∧ z < 76 + i) then T z else S z
theorem tq_step {S T : Ab} {i : Int} (h0 : 0 ≤ i) (h1 : i < 10) : up (up (tq S T i) (16 + i) (T (16 + i))) (76 + i) (T (76 + i)) = tq S T (i + 1) := by
  funext z
  unfold tq up
  by_cases q1 : z = 76 + i
  · rw [if_pos q1, if_pos (by omega), q1]
  · rw [if_neg q1]
    by_cases q2 : z = 16 + i
    · rw [if_pos q2, if_pos (by omega), q2]
    · rw [if_neg q2]
      dsimp only
      by_cases q3 : (16 ≤ z ∧ z < 16 + i) ∨ (76 ≤ z ∧ z < 76 + i)
      · rw [if_pos q3, if_pos (by omega)]
      · rw [if_neg q3, if_neg (by omega)]
def KA (k : Nat) : Prop := k = 3 ∨ k = 5
theorem s_turnTrain {w : Wd} {S u m : Ab} {sz c e : Int} (hG : ∀ i, 0 ≤ i → i < 10 → (0 ≤ S (16 + i) ∧ S (16 + i) < 24883200000) ∧ (S (66 + i) = 0 ∨ S (66 + i) = 1) ∧ (S (66 + i) = 1 → 0 ≤ S (76 + i) ∧ S (76 + i) < 746496000000)) (g0 : 0 ≤ S 0 ∧ S 0 ≤ 10) (h : CSt w 1 S) (hT : CT w u sz m) (hb : ∀ x, 0 ≤ x → x < 10 → -14929920000000000 ≤ u x ∧ u x ≤ 14929920000000000) (ho : ∀ x, 0 ≤ x → x < 10 → S 0 ≤ x → u x = 0) (c0 : 0 ≤ c) (c1 : c ≤ 50) (he : e = c ∨ e = -c) :
    ∃ w', f_X1_turnTrain w (jI e) = some w' ∧ Sm KA w w' ∧ CSt w' 1 (t1 S u c e) := by
  obtain ⟨r, hr, hP⟩ := lp (fun n (s : Int32 × Wd) => p_X1_turnTrain_2 (jI e) n s.1 s.2)
    (fun i s => s.1 = jI i ∧ Sm KA w s.2 ∧ CSt s.2 1 (tq S (t1 S u c e) i)) (S 0).toNat
    (fun r => ∃ q, r = .inl q ∧ Sm KA w q.2 ∧ CSt q.2 1 (tq S (t1 S u c e) (S 0)))
    (fun i n s hi hI => by
      obtain ⟨y, v⟩ := s
      obtain ⟨rfl, hs, hc⟩ := hI
      have hs : Sm KA w v := hs
      have hc : CSt v 1 (tq S (t1 S u c e) i) := hc
      obtain ⟨g1, g2, g3⟩ := hG i (by omega) (by omega)
      have ub := hb i (by omega) (by omega)
      have um := u_mul ub.1 ub.2 (e := e) (by omega) (by omega)
      have ea : (e.natAbs : Int) = c := by omega
      have eu : gL v 125 i = jL (u i) := by
        have := hT.1 i (by omega) (by omega)
        rw [Int.toNat_natCast] at this
        rw [hs.lK (by unfold KA; omega)]; exact this
      have q0 : tq S (t1 S u c e) i 0 = S 0 := by unfold tq; rw [if_neg (by omega)]
      have q1 : tq S (t1 S u c e) i (16 + i) = S (16 + i) := by unfold tq; rw [if_neg (by omega)]
      have q2 : tq S (t1 S u c e) i (66 + i) = S (66 + i) := by unfold tq; rw [if_neg (by omega)]
      have q3 : tq S (t1 S u c e) i (76 + i) = S (76 + i) := by unfold tq; rw [if_neg (by omega)]
      have va : gL v 3 i = jL (S (16 + i)) := by
        have := c_a hc i (by omega) (by omega); rw [Int.toNat_natCast, q1] at this; exact this
      have vo : gI v 4 i = jI (S (66 + i)) := by
        have := c_o hc i (by omega) (by omega); rw [Int.toNat_natCast, q2] at this; exact this
      have vw : S (66 + (i : Int)) = 1 → gL v 5 i = jL (S (76 + i)) := by
        intro z
        have := c_w hc i (by omega) (by omega) (by rw [q2]; exact z); rw [Int.toNat_natCast, q3] at this; exact this
      have vg : gI v 1 10 = jI (S 0) := by rw [c_g hc, q0]
      have an : t1 S u c e (16 + i) = (S (16 + i) + u i * e) % 24883200000 := by
        rw [t1_a (by omega) (by omega)]
        by_cases z : u i = 0
        · rw [if_pos z, z, Int.zero_mul, Int.add_zero, Int.emod_eq_of_lt g1.1 g1.2]
        · rw [if_neg z]
      have hc2 : CSt (uL v 3 (i : Int).toNat (jL (t1 S u c e (16 + i)))) 1 (up (tq S (t1 S u c e) i) (16 + i) (t1 S u c e (16 + i))) := hc.put_a (by omega) (by omega)
      by_cases z : S (66 + (i : Int)) = 1
      · have wn : t1 S u c e (76 + i) = S (76 + i) + (u i * e).natAbs := by
          rw [t1_w (by omega) (by omega), um.2.2.1, ea]
          by_cases z2 : u i = 0
          · rw [if_neg (fun q => q.1 z2), z2]; simp
          · rw [if_pos ⟨z2, z⟩]
        have ab : (if 0 < jL (u i * e) then jL (u i * e) else -jL (u i * e)) = jL ((u i * e).natAbs : Int) := by
          rw [show (0 : Int64) = jL 0 from rfl]
          by_cases z2 : 0 < u i * e
          · rw [if_pos (by rw [jL_lt (by omega) (by omega) (by omega) (by omega)]; exact z2)]; congr 1; omega
          · rw [if_neg (by rw [jL_lt (by omega) (by omega) (by omega) (by omega)]; exact z2), jL_neg]; congr 1; omega
        have ab : (if jL 0 < jL (u i * e) then jL (u i * e) else jL (-(u i * e))) = jL ((u i * e).natAbs : Int) := by rw [← ab, jL_neg]; rfl
        have hc3 := hc2.put_w (i := i) (v := t1 S u c e (76 + i)) (y := jL (t1 S u c e (76 + i))) (by omega) (by omega) (fun _ => rfl)
        rw [tq_step (by omega) (by omega)] at hc3
        refine Or.inl ⟨(jI ((i + 1 : Nat) : Int), uL (uL v 3 i (jL (t1 S u c e (16 + i)))) 5 i (jL (t1 S u c e (76 + i)))), ⟨rfl, (hs.tr (Sm.wL v (Or.inl rfl))).tr (Sm.wL _ (Or.inr rfl)), ?_⟩, ?_⟩
        · rw [Int.toNat_natCast] at hc3
          exact hc3
        · show p_X1_turnTrain_2 (jI e) (n + 1) (jI i) v = p_X1_turnTrain_2 (jI e) n (jI ((i + 1 : Nat) : Int)) (uL (uL v 3 i (jL (t1 S u c e (16 + i)))) 5 i (jL (t1 S u c e (76 + i))))
          rw [p_X1_turnTrain_2, an, wn]
          simp (disch := omega) only [l32_0, l32_1, l32_2, l32_3, l32_4, l32_5, l32_6, l32_7, l32_8, l32_9, l32_10, l32_11, l32_12, l32_13, l32_14, l32_15, l32_16, l32_17, l32_18, l32_19, l32_20, l32_21, l32_22, l32_23, l32_24, l32_25, l32_26, l32_27, l32_28, l32_29, l32_30, l32_31, l32_32, l32_33, l32_34, l32_35, l32_36, l32_37, l32_38, l32_39, l32_40, l32_41, l32_42, l32_43, l32_44, l32_45, l32_46, l32_47, l32_48, l32_49, l32_50, l32_51, l32_52, l32_53, l32_54, l32_55, l32_56, l32_57, l32_58, l32_59, l32_60, l32_61, l32_62, l32_63, l32_64, l32_65, l32_66, l32_76, l32_86, l32_90, l32_92, l32_97, l32_98, l32_99, l32_100, l32_101, l32_102, l32_103, l32_104, l32_105, l32_106, l32_107, l32_108, l32_109, l32_110, l32_111, l32_112, l32_113, l32_114, l32_115, l32_116, l32_117, l32_118, l32_119, l32_120, l32_121, l32_122, l32_123, l32_124, l32_125, l32_126, l32_192, l32_200, l32_255, l32_999, l32_1000, l32_1344, l32_2147483639, l32_2147483647, l64_0, l64_1, l64_99, l64_999, l64_24883200000, l64_746496000000, jI_add, jI_sub, jI_mul, jI_neg, jL_add, jL_sub, jL_mul, jL_neg, jL_toI, jI_toL, jI_eqT, jI_eqF, jI_ltT, jI_ltF, jI_leT, jI_leF, jL_eqT, jL_eqF, jL_ltT, jL_ltF, jL_leT, jL_leF, inR_T, inR_F, bZ_T, bZ_F, not_true_eq_false, not_false_eq_true, jI_clamp, nI_j, bs_p, wl_p, u2_p, u3_p, u4_p, u5_p, zl_p, zr_p, mn_p, ms_p, if_pos, if_neg, ite_true, ite_false, Int.toNat_natCast, vg, va, vo, eu, s_rem, gI_uL, gL_uL, vw z, ab] <;> rfl
      · have z0 : S (66 + (i : Int)) = 0 := by omega
        have wn : t1 S u c e (76 + i) = S (76 + i) := by
          rw [t1_w (by omega) (by omega), if_neg (fun q => z q.2)]
        have hc3 := hc2.wfree (i := i) (v := t1 S u c e (76 + i)) (by omega) (by omega) (by rw [up_ne (by omega), q2]; exact z)
        rw [tq_step (by omega) (by omega)] at hc3
        refine Or.inl ⟨(jI ((i + 1 : Nat) : Int), uL v 3 i (jL (t1 S u c e (16 + i)))), ⟨rfl, hs.tr (Sm.wL v (Or.inl rfl)), ?_⟩, ?_⟩
        · rw [Int.toNat_natCast] at hc3
          exact hc3
        · show p_X1_turnTrain_2 (jI e) (n + 1) (jI i) v = p_X1_turnTrain_2 (jI e) n (jI ((i + 1 : Nat) : Int)) (uL v 3 i (jL (t1 S u c e (16 + i))))
          rw [p_X1_turnTrain_2, an]
          simp (disch := omega) only [l32_0, l32_1, l32_2, l32_3, l32_4, l32_5, l32_6, l32_7, l32_8, l32_9, l32_10, l32_11, l32_12, l32_13, l32_14, l32_15, l32_16, l32_17, l32_18, l32_19, l32_20, l32_21, l32_22, l32_23, l32_24, l32_25, l32_26, l32_27, l32_28, l32_29, l32_30, l32_31, l32_32, l32_33, l32_34, l32_35, l32_36, l32_37, l32_38, l32_39, l32_40, l32_41, l32_42, l32_43, l32_44, l32_45, l32_46, l32_47, l32_48, l32_49, l32_50, l32_51, l32_52, l32_53, l32_54, l32_55, l32_56, l32_57, l32_58, l32_59, l32_60, l32_61, l32_62, l32_63, l32_64, l32_65, l32_66, l32_76, l32_86, l32_90, l32_92, l32_97, l32_98, l32_99, l32_100, l32_101, l32_102, l32_103, l32_104, l32_105, l32_106, l32_107, l32_108, l32_109, l32_110, l32_111, l32_112, l32_113, l32_114, l32_115, l32_116, l32_117, l32_118, l32_119, l32_120, l32_121, l32_122, l32_123, l32_124, l32_125, l32_126, l32_192, l32_200, l32_255, l32_999, l32_1000, l32_1344, l32_2147483639, l32_2147483647, l64_0, l64_1, l64_99, l64_999, l64_24883200000, l64_746496000000, jI_add, jI_sub, jI_mul, jI_neg, jL_add, jL_sub, jL_mul, jL_neg, jL_toI, jI_toL, jI_eqT, jI_eqF, jI_ltT, jI_ltF, jI_leT, jI_leF, jL_eqT, jL_eqF, jL_ltT, jL_ltF, jL_leT, jL_leF, inR_T, inR_F, bZ_T, bZ_F, not_true_eq_false, not_false_eq_true, jI_clamp, nI_j, bs_p, wl_p, u2_p, u3_p, u4_p, u5_p, zl_p, zr_p, mn_p, ms_p, if_pos, if_neg, ite_true, ite_false, Int.toNat_natCast, vg, va, vo, eu, s_rem, gI_uL] <;> rfl)
    (fun n s hI => by
      obtain ⟨y, v⟩ := s
      obtain ⟨rfl, hs, hc⟩ := hI
      have e1 : ((S 0).toNat : Int) = S 0 := by omega
      rw [e1] at hc
      have hc : CSt v 1 (tq S (t1 S u c e) (S 0)) := hc
      have q0 : tq S (t1 S u c e) (S 0) 0 = S 0 := by unfold tq; rw [if_neg (by omega)]
      have vg : gI v 1 10 = jI (S 0) := by rw [c_g hc, q0]
      refine ⟨.inl (jI (S 0), v), ?_, _, rfl, hs, hc⟩
      show p_X1_turnTrain_2 (jI e) (n + 1) (jI ((S 0).toNat : Int)) v = _
      rw [p_X1_turnTrain_2, e1]
      simp (disch := omega) only [l32_0, l32_1, l32_2, l32_3, l32_4, l32_5, l32_6, l32_7, l32_8, l32_9, l32_10, l32_11, l32_12, l32_13, l32_14, l32_15, l32_16, l32_17, l32_18, l32_19, l32_20, l32_21, l32_22, l32_23, l32_24, l32_25, l32_26, l32_27, l32_28, l32_29, l32_30, l32_31, l32_32, l32_33, l32_34, l32_35, l32_36, l32_37, l32_38, l32_39, l32_40, l32_41, l32_42, l32_43, l32_44, l32_45, l32_46, l32_47, l32_48, l32_49, l32_50, l32_51, l32_52, l32_53, l32_54, l32_55, l32_56, l32_57, l32_58, l32_59, l32_60, l32_61, l32_62, l32_63, l32_64, l32_65, l32_66, l32_76, l32_86, l32_90, l32_92, l32_97, l32_98, l32_99, l32_100, l32_101, l32_102, l32_103, l32_104, l32_105, l32_106, l32_107, l32_108, l32_109, l32_110, l32_111, l32_112, l32_113, l32_114, l32_115, l32_116, l32_117, l32_118, l32_119, l32_120, l32_121, l32_122, l32_123, l32_124, l32_125, l32_126, l32_192, l32_200, l32_255, l32_999, l32_1000, l32_1344, l32_2147483639, l32_2147483647, l64_0, l64_1, l64_99, l64_999, l64_24883200000, l64_746496000000, jI_add, jI_sub, jI_mul, jI_neg, jL_add, jL_sub, jL_mul, jL_neg, jL_toI, jI_toL, jI_eqT, jI_eqF, jI_ltT, jI_ltF, jI_leT, jI_leF, jL_eqT, jL_eqF, jL_ltT, jL_ltF, jL_leT, jL_leF, inR_T, inR_F, bZ_T, bZ_F, not_true_eq_false, not_false_eq_true, jI_clamp, nI_j, bs_p, wl_p, u2_p, u3_p, u4_p, u5_p, zl_p, zr_p, mn_p, ms_p, if_pos, if_neg, ite_true, ite_false, vg]) 2000 0 (jI 0, w) (by omega) (by omega) ⟨rfl, Sm.refl w, h.congr (fun z _ _ => by unfold tq; rw [if_neg (by omega)])⟩
  obtain ⟨q, rfl, hs, hc⟩ := hP
  have hr : p_X1_turnTrain_2 (jI e) 2000 (jI 0) w = some (.inl q) := hr
  obtain ⟨y, v⟩ := q
  refine ⟨v, ?_, hs, hc.congr (fun z z0 z1 => ?_)⟩
  · unfold f_X1_turnTrain
    simp (disch := omega) only [l32_0, l32_1, l32_2, l32_3, l32_4, l32_5, l32_6, l32_7, l32_8, l32_9, l32_10, l32_11, l32_12, l32_13, l32_14, l32_15, l32_16, l32_17, l32_18, l32_19, l32_20, l32_21, l32_22, l32_23, l32_24, l32_25, l32_26, l32_27, l32_28, l32_29, l32_30, l32_31, l32_32, l32_33, l32_34, l32_35, l32_36, l32_37, l32_38, l32_39, l32_40, l32_41, l32_42, l32_43, l32_44, l32_45, l32_46, l32_47, l32_48, l32_49, l32_50, l32_51, l32_52, l32_53, l32_54, l32_55, l32_56, l32_57, l32_58, l32_59, l32_60, l32_61, l32_62, l32_63, l32_64, l32_65, l32_66, l32_76, l32_86, l32_90, l32_92, l32_97, l32_98, l32_99, l32_100, l32_101, l32_102, l32_103, l32_104, l32_105, l32_106, l32_107, l32_108, l32_109, l32_110, l32_111, l32_112, l32_113, l32_114, l32_115, l32_116, l32_117, l32_118, l32_119, l32_120, l32_121, l32_122, l32_123, l32_124, l32_125, l32_126, l32_192, l32_200, l32_255, l32_999, l32_1000, l32_1344, l32_2147483639, l32_2147483647, l64_0, l64_1, l64_99, l64_999, l64_24883200000, l64_746496000000, jI_add, jI_sub, jI_mul, jI_neg, jL_add, jL_sub, jL_mul, jL_neg, jL_toI, jI_toL, jI_eqT, jI_eqF, jI_ltT, jI_ltF, jI_leT, jI_leF, jL_eqT, jL_eqF, jL_ltT, jL_ltF, jL_leT, jL_leF, inR_T, inR_F, bZ_T, bZ_F, not_true_eq_false, not_false_eq_true, jI_clamp, nI_j, bs_p, wl_p, u2_p, u3_p, u4_p, u5_p, zl_p, zr_p, mn_p, ms_p, if_pos, if_neg, ite_true, ite_false, hr]
  · unfold tq
    by_cases q3 : (16 ≤ z ∧ z < 16 + S 0) ∨ (76 ≤ z ∧ z < 76 + S 0)
    · rw [if_pos q3]
    · rw [if_neg q3]
      by_cases q4 : 16 ≤ z ∧ z < 26
      · rw [show z = 16 + (z - 16) by omega, t1_a (by omega) (by omega), if_pos (ho _ (by omega) (by omega) (by omega))]
      · by_cases q5 : 76 ≤ z ∧ z < 86
        · rw [show z = 76 + (z - 76) by omega, t1_w (by omega) (by omega), if_neg (fun q => q.1 (ho _ (by omega) (by omega) (by omega)))]
        · rw [t1_o q4 q5]
/-- a part of the drying -/
def tr (S T : Ab) (i : Int) : Ab := fun z => if (66 ≤ z ∧ z < 66 + i) ∨ (76 ≤ z ∧ z < 76 + i) then T z else S z
theorem tr_step {S T : Ab} {i : Int} (h0 : 0 ≤ i) (h1 : i < 10) : up (up (tr S T i) (66 + i) (T (66 + i))) (76 + i) (T (76 + i)) = tr S T (i + 1) := by
  funext z
  unfold tr up
  by_cases q1 : z = 76 + i
  · rw [if_pos q1, if_pos (by omega), q1]
  · rw [if_neg q1]
    by_cases q2 : z = 66 + i
    · rw [if_pos q2, if_pos (by omega), q2]
    · rw [if_neg q2]
      dsimp only
      by_cases q3 : (66 ≤ z ∧ z < 66 + i) ∨ (76 ≤ z ∧ z < 76 + i)
      · rw [if_pos q3, if_pos (by omega)]
      · rw [if_neg q3, if_neg (by omega)]
theorem tr_same {S T : Ab} {i : Int} (h0 : 0 ≤ i) (h1 : i < 10) (e1 : T (66 + i) = S (66 + i)) (e2 : T (76 + i) = S (76 + i)) : tr S T i = tr S T (i + 1) := by
  rw [← tr_step h0 h1]
  funext z
  unfold up
  by_cases q1 : z = 76 + i
  · rw [if_pos q1, q1, e2]; unfold tr; rw [if_neg (by omega)]
  · rw [if_neg q1]
    by_cases q2 : z = 66 + i
    · rw [if_pos q2, q2, e1]; unfold tr; rw [if_neg (by omega)]
    · rw [if_neg q2]
def KD (k : Nat) : Prop := k = 4
theorem s_dry {w : Wd} {S : Ab} (hG : ∀ i, 0 ≤ i → i < 10 → (S (66 + i) = 0 ∨ S (66 + i) = 1) ∧ (S (66 + i) = 1 → 0 ≤ S (76 + i) ∧ S (76 + i) < 4000000000000000000)) (hH : ∀ i, S 0 ≤ i → i < 10 → S (66 + i) = 1 → S (76 + i) < 746496000000) (g0 : 0 ≤ S 0 ∧ S 0 ≤ 10) (h : CSt w 1 S) :
    ∃ w', f_X1_dryWornGears w = some w' ∧ Sm KD w w' ∧ CSt w' 1 (t3 S) := by
  obtain ⟨r, hr, hP⟩ := lp (fun n (s : Int32 × Wd) => p_X1_dryWornGears_2 n s.1 s.2)
    (fun i s => s.1 = jI i ∧ Sm KD w s.2 ∧ CSt s.2 1 (tr S (t3 S) i)) (S 0).toNat
    (fun r => ∃ q, r = .inl q ∧ Sm KD w q.2 ∧ CSt q.2 1 (tr S (t3 S) (S 0)))
    (fun i n s hi hI => by
      obtain ⟨y, v⟩ := s
      obtain ⟨rfl, hs, hc⟩ := hI
      have hs : Sm KD w v := hs
      have hc : CSt v 1 (tr S (t3 S) i) := hc
      obtain ⟨g2, g3⟩ := hG i (by omega) (by omega)
      have q0 : tr S (t3 S) i 0 = S 0 := by unfold tr; rw [if_neg (by omega)]
      have q2 : tr S (t3 S) i (66 + i) = S (66 + i) := by unfold tr; rw [if_neg (by omega)]
      have q3 : tr S (t3 S) i (76 + i) = S (76 + i) := by unfold tr; rw [if_neg (by omega)]
      have vo : gI v 4 i = jI (S (66 + i)) := by
        have := c_o hc i (by omega) (by omega); rw [Int.toNat_natCast, q2] at this; exact this
      have vw : S (66 + (i : Int)) = 1 → gL v 5 i = jL (S (76 + i)) := by
        intro z
        have := c_w hc i (by omega) (by omega) (by rw [q2]; exact z); rw [Int.toNat_natCast, q3] at this; exact this
      have vg : gI v 1 10 = jI (S 0) := by rw [c_g hc, q0]
      by_cases z : S (66 + (i : Int)) = 1 ∧ 746496000000 ≤ S (76 + (i : Int))
      · have e1 : t3 S (66 + i) = 0 := by rw [t3_o (by omega) (by omega), if_pos z]
        have hc2 : CSt (uI v 4 (i : Int).toNat (jI (t3 S (66 + i)))) 1 (up (tr S (t3 S) i) (66 + i) (t3 S (66 + i))) := hc.put_o (by omega) (by omega) (fun y => by rw [e1] at y; exact absurd y (by decide))
        have hc3 := hc2.wfree (i := i) (v := t3 S (76 + i)) (by omega) (by omega) (by rw [up_eq, e1]; decide)
        rw [tr_step (by omega) (by omega), Int.toNat_natCast] at hc3
        have g3 := g3 z.1
        refine Or.inl ⟨(jI ((i + 1 : Nat) : Int), uI v 4 i (jI (t3 S (66 + i)))), ⟨rfl, hs.tr (Sm.wI v rfl), hc3⟩, ?_⟩
        show p_X1_dryWornGears_2 (n + 1) (jI i) v = p_X1_dryWornGears_2 n (jI ((i + 1 : Nat) : Int)) (uI v 4 i (jI (t3 S (66 + i))))
        rw [p_X1_dryWornGears_2, e1]
        simp (disch := omega) only [l32_0, l32_1, l32_2, l32_3, l32_4, l32_5, l32_6, l32_7, l32_8, l32_9, l32_10, l32_11, l32_12, l32_13, l32_14, l32_15, l32_16, l32_17, l32_18, l32_19, l32_20, l32_21, l32_22, l32_23, l32_24, l32_25, l32_26, l32_27, l32_28, l32_29, l32_30, l32_31, l32_32, l32_33, l32_34, l32_35, l32_36, l32_37, l32_38, l32_39, l32_40, l32_41, l32_42, l32_43, l32_44, l32_45, l32_46, l32_47, l32_48, l32_49, l32_50, l32_51, l32_52, l32_53, l32_54, l32_55, l32_56, l32_57, l32_58, l32_59, l32_60, l32_61, l32_62, l32_63, l32_64, l32_65, l32_66, l32_76, l32_86, l32_90, l32_92, l32_97, l32_98, l32_99, l32_100, l32_101, l32_102, l32_103, l32_104, l32_105, l32_106, l32_107, l32_108, l32_109, l32_110, l32_111, l32_112, l32_113, l32_114, l32_115, l32_116, l32_117, l32_118, l32_119, l32_120, l32_121, l32_122, l32_123, l32_124, l32_125, l32_126, l32_192, l32_200, l32_255, l32_999, l32_1000, l32_1344, l32_2147483639, l32_2147483647, l64_0, l64_1, l64_99, l64_999, l64_24883200000, l64_746496000000, jI_add, jI_sub, jI_mul, jI_neg, jL_add, jL_sub, jL_mul, jL_neg, jL_toI, jI_toL, jI_eqT, jI_eqF, jI_ltT, jI_ltF, jI_leT, jI_leF, jL_eqT, jL_eqF, jL_ltT, jL_ltF, jL_leT, jL_leF, inR_T, inR_F, bZ_T, bZ_F, not_true_eq_false, not_false_eq_true, jI_clamp, nI_j, bs_p, wl_p, u2_p, u3_p, u4_p, u5_p, zl_p, zr_p, mn_p, ms_p, if_pos, if_neg, ite_true, ite_false, Int.toNat_natCast, vg, vo, vw z.1, nar_b0] <;> rfl
      · have e1 : t3 S (66 + i) = S (66 + i) := by rw [t3_o (by omega) (by omega), if_neg z]
        have e2 : t3 S (76 + i) = S (76 + i) := by rw [t3_w (by omega) (by omega), if_neg z]
        refine Or.inl ⟨(jI ((i + 1 : Nat) : Int), v), ⟨rfl, hs, ?_⟩, ?_⟩
        · have := tr_same (S := S) (T := t3 S) (i := i) (by omega) (by omega) e1 e2
          show CSt v 1 (tr S (t3 S) ((i : Int) + 1))
          rw [← this]; exact hc
        · show p_X1_dryWornGears_2 (n + 1) (jI i) v = p_X1_dryWornGears_2 n (jI ((i + 1 : Nat) : Int)) v
          rw [p_X1_dryWornGears_2]
          by_cases z2 : S (66 + (i : Int)) = 1
          · have g3 := g3 z2
            simp (disch := omega) only [l32_0, l32_1, l32_2, l32_3, l32_4, l32_5, l32_6, l32_7, l32_8, l32_9, l32_10, l32_11, l32_12, l32_13, l32_14, l32_15, l32_16, l32_17, l32_18, l32_19, l32_20, l32_21, l32_22, l32_23, l32_24, l32_25, l32_26, l32_27, l32_28, l32_29, l32_30, l32_31, l32_32, l32_33, l32_34, l32_35, l32_36, l32_37, l32_38, l32_39, l32_40, l32_41, l32_42, l32_43, l32_44, l32_45, l32_46, l32_47, l32_48, l32_49, l32_50, l32_51, l32_52, l32_53, l32_54, l32_55, l32_56, l32_57, l32_58, l32_59, l32_60, l32_61, l32_62, l32_63, l32_64, l32_65, l32_66, l32_76, l32_86, l32_90, l32_92, l32_97, l32_98, l32_99, l32_100, l32_101, l32_102, l32_103, l32_104, l32_105, l32_106, l32_107, l32_108, l32_109, l32_110, l32_111, l32_112, l32_113, l32_114, l32_115, l32_116, l32_117, l32_118, l32_119, l32_120, l32_121, l32_122, l32_123, l32_124, l32_125, l32_126, l32_192, l32_200, l32_255, l32_999, l32_1000, l32_1344, l32_2147483639, l32_2147483647, l64_0, l64_1, l64_99, l64_999, l64_24883200000, l64_746496000000, jI_add, jI_sub, jI_mul, jI_neg, jL_add, jL_sub, jL_mul, jL_neg, jL_toI, jI_toL, jI_eqT, jI_eqF, jI_ltT, jI_ltF, jI_leT, jI_leF, jL_eqT, jL_eqF, jL_ltT, jL_ltF, jL_leT, jL_leF, inR_T, inR_F, bZ_T, bZ_F, not_true_eq_false, not_false_eq_true, jI_clamp, nI_j, bs_p, wl_p, u2_p, u3_p, u4_p, u5_p, zl_p, zr_p, mn_p, ms_p, if_pos, if_neg, ite_true, ite_false, Int.toNat_natCast, vg, vo, vw z2] <;> rfl
          · have z3 : S (66 + (i : Int)) = 0 := by omega
            simp (disch := omega) only [l32_0, l32_1, l32_2, l32_3, l32_4, l32_5, l32_6, l32_7, l32_8, l32_9, l32_10, l32_11, l32_12, l32_13, l32_14, l32_15, l32_16, l32_17, l32_18, l32_19, l32_20, l32_21, l32_22, l32_23, l32_24, l32_25, l32_26, l32_27, l32_28, l32_29, l32_30, l32_31, l32_32, l32_33, l32_34, l32_35, l32_36, l32_37, l32_38, l32_39, l32_40, l32_41, l32_42, l32_43, l32_44, l32_45, l32_46, l32_47, l32_48, l32_49, l32_50, l32_51, l32_52, l32_53, l32_54, l32_55, l32_56, l32_57, l32_58, l32_59, l32_60, l32_61, l32_62, l32_63, l32_64, l32_65, l32_66, l32_76, l32_86, l32_90, l32_92, l32_97, l32_98, l32_99, l32_100, l32_101, l32_102, l32_103, l32_104, l32_105, l32_106, l32_107, l32_108, l32_109, l32_110, l32_111, l32_112, l32_113, l32_114, l32_115, l32_116, l32_117, l32_118, l32_119, l32_120, l32_121, l32_122, l32_123, l32_124, l32_125, l32_126, l32_192, l32_200, l32_255, l32_999, l32_1000, l32_1344, l32_2147483639, l32_2147483647, l64_0, l64_1, l64_99, l64_999, l64_24883200000, l64_746496000000, jI_add, jI_sub, jI_mul, jI_neg, jL_add, jL_sub, jL_mul, jL_neg, jL_toI, jI_toL, jI_eqT, jI_eqF, jI_ltT, jI_ltF, jI_leT, jI_leF, jL_eqT, jL_eqF, jL_ltT, jL_ltF, jL_leT, jL_leF, inR_T, inR_F, bZ_T, bZ_F, not_true_eq_false, not_false_eq_true, jI_clamp, nI_j, bs_p, wl_p, u2_p, u3_p, u4_p, u5_p, zl_p, zr_p, mn_p, ms_p, if_pos, if_neg, ite_true, ite_false, Int.toNat_natCast, vg, vo] <;> rfl)
    (fun n s hI => by
      obtain ⟨y, v⟩ := s
      obtain ⟨rfl, hs, hc⟩ := hI
      have e1 : ((S 0).toNat : Int) = S 0 := by omega
      rw [e1] at hc
      have hc : CSt v 1 (tr S (t3 S) (S 0)) := hc
      have q0 : tr S (t3 S) (S 0) 0 = S 0 := by unfold tr; rw [if_neg (by omega)]
      have vg : gI v 1 10 = jI (S 0) := by rw [c_g hc, q0]
      refine ⟨.inl (jI (S 0), v), ?_, _, rfl, hs, hc⟩
      show p_X1_dryWornGears_2 (n + 1) (jI ((S 0).toNat : Int)) v = _
      rw [p_X1_dryWornGears_2, e1]
      simp (disch := omega) only [l32_0, l32_1, l32_2, l32_3, l32_4, l32_5, l32_6, l32_7, l32_8, l32_9, l32_10, l32_11, l32_12, l32_13, l32_14, l32_15, l32_16, l32_17, l32_18, l32_19, l32_20, l32_21, l32_22, l32_23, l32_24, l32_25, l32_26, l32_27, l32_28, l32_29, l32_30, l32_31, l32_32, l32_33, l32_34, l32_35, l32_36, l32_37, l32_38, l32_39, l32_40, l32_41, l32_42, l32_43, l32_44, l32_45, l32_46, l32_47, l32_48, l32_49, l32_50, l32_51, l32_52, l32_53, l32_54, l32_55, l32_56, l32_57, l32_58, l32_59, l32_60, l32_61, l32_62, l32_63, l32_64, l32_65, l32_66, l32_76, l32_86, l32_90, l32_92, l32_97, l32_98, l32_99, l32_100, l32_101, l32_102, l32_103, l32_104, l32_105, l32_106, l32_107, l32_108, l32_109, l32_110, l32_111, l32_112, l32_113, l32_114, l32_115, l32_116, l32_117, l32_118, l32_119, l32_120, l32_121, l32_122, l32_123, l32_124, l32_125, l32_126, l32_192, l32_200, l32_255, l32_999, l32_1000, l32_1344, l32_2147483639, l32_2147483647, l64_0, l64_1, l64_99, l64_999, l64_24883200000, l64_746496000000, jI_add, jI_sub, jI_mul, jI_neg, jL_add, jL_sub, jL_mul, jL_neg, jL_toI, jI_toL, jI_eqT, jI_eqF, jI_ltT, jI_ltF, jI_leT, jI_leF, jL_eqT, jL_eqF, jL_ltT, jL_ltF, jL_leT, jL_leF, inR_T, inR_F, bZ_T, bZ_F, not_true_eq_false, not_false_eq_true, jI_clamp, nI_j, bs_p, wl_p, u2_p, u3_p, u4_p, u5_p, zl_p, zr_p, mn_p, ms_p, if_pos, if_neg, ite_true, ite_false, vg]) 2000 0 (jI 0, w) (by omega) (by omega) ⟨rfl, Sm.refl w, h.congr (fun z _ _ => by unfold tr; rw [if_neg (by omega)])⟩
  obtain ⟨q, rfl, hs, hc⟩ := hP
  have hr : p_X1_dryWornGears_2 2000 (jI 0) w = some (.inl q) := hr
  obtain ⟨y, v⟩ := q
  refine ⟨v, ?_, hs, hc.congr (fun z z0 z1 => ?_)⟩
  · unfold f_X1_dryWornGears
    simp (disch := omega) only [l32_0, l32_1, l32_2, l32_3, l32_4, l32_5, l32_6, l32_7, l32_8, l32_9, l32_10, l32_11, l32_12, l32_13, l32_14, l32_15, l32_16, l32_17, l32_18, l32_19, l32_20, l32_21, l32_22, l32_23, l32_24, l32_25, l32_26, l32_27, l32_28, l32_29, l32_30, l32_31, l32_32, l32_33, l32_34, l32_35, l32_36, l32_37, l32_38, l32_39, l32_40, l32_41, l32_42, l32_43, l32_44, l32_45, l32_46, l32_47, l32_48, l32_49, l32_50, l32_51, l32_52, l32_53, l32_54, l32_55, l32_56, l32_57, l32_58, l32_59, l32_60, l32_61, l32_62, l32_63, l32_64, l32_65, l32_66, l32_76, l32_86, l32_90, l32_92, l32_97, l32_98, l32_99, l32_100, l32_101, l32_102, l32_103, l32_104, l32_105, l32_106, l32_107, l32_108, l32_109, l32_110, l32_111, l32_112, l32_113, l32_114, l32_115, l32_116, l32_117, l32_118, l32_119, l32_120, l32_121, l32_122, l32_123, l32_124, l32_125, l32_126, l32_192, l32_200, l32_255, l32_999, l32_1000, l32_1344, l32_2147483639, l32_2147483647, l64_0, l64_1, l64_99, l64_999, l64_24883200000, l64_746496000000, jI_add, jI_sub, jI_mul, jI_neg, jL_add, jL_sub, jL_mul, jL_neg, jL_toI, jI_toL, jI_eqT, jI_eqF, jI_ltT, jI_ltF, jI_leT, jI_leF, jL_eqT, jL_eqF, jL_ltT, jL_ltF, jL_leT, jL_leF, inR_T, inR_F, bZ_T, bZ_F, not_true_eq_false, not_false_eq_true, jI_clamp, nI_j, bs_p, wl_p, u2_p, u3_p, u4_p, u5_p, zl_p, zr_p, mn_p, ms_p, if_pos, if_neg, ite_true, ite_false, hr]
  · unfold tr
    by_cases q3 : (66 ≤ z ∧ z < 66 + S 0) ∨ (76 ≤ z ∧ z < 76 + S 0)
    · rw [if_pos q3]
    · rw [if_neg q3]
      by_cases q4 : 66 ≤ z ∧ z < 76
      · have hh := hH (z - 66) (by omega) (by omega)
        rw [show z = 66 + (z - 66) by omega, t3_o (by omega) (by omega), if_neg (fun q => by have := hh q.1; omega)]
      · by_cases q5 : 76 ≤ z ∧ z < 86
        · have hh := hH (z - 76) (by omega) (by omega)
          rw [show z = 76 + (z - 76) by omega, t3_w (by omega) (by omega), if_neg (fun q => by have := hh q.1; omega)]
        · rw [t3_r (by omega)]
theorem tb_same (x2 : Int64) : ∀ (n : Nat) (y : Int32) (w : Wd), p_X11_turnsBy_25 x2 n y w = p_X11_turnsBy_25b x2 x2 n y w
  | 0, _, _ => rfl
  | n + 1, y, w => by
    rw [p_X11_turnsBy_25, p_X11_turnsBy_25b]
    simp only [tb_same x2 n]
def KG (k : Nat) : Prop := k = 142
theorem s_rTurnsBy {w : Wd} {S u : Ab} {c e x : Int} (hG : ∀ i, 0 ≤ i → i < 10 → (0 ≤ S (16 + i) ∧ S (16 + i) < 24883200000) ∧ (S (66 + i) = 0 ∨ S (66 + i) = 1)) (h : RSt w 142 0 S) (hT : RT w u) (hb : ∀ x, 0 ≤ x → x < 10 → -14929920000000000 ≤ u x ∧ u x ≤ 14929920000000000) (c0 : 0 ≤ c) (c1 : c ≤ 50) (x0 : 0 ≤ x) (x1 : x < 10) (hv : S (46 + x) = 0 ∨ S (46 + x) = 1) (he : e = if S (46 + x) = 1 then -c else c) :
    ∃ w', f_X11_turnsBy w (jI x) (jL c) = some w' ∧ Sm KG w w' ∧ RSt w' 142 0 (t1 S u c e) := by
  have he2 : -50 ≤ e ∧ e ≤ 50 := by rw [he]; split <;> omega
  obtain ⟨r, hr, hP⟩ := lp (fun n (s : Int32 × Wd) => p_X11_turnsBy_25b (jL e) (jL c) n s.1 s.2)
    (fun i s => s.1 = jI i ∧ Sm KG w s.2 ∧ RSt s.2 142 0 (tq S (t1 S u c e) i)) 10
    (fun r => ∃ q, r = .inl q ∧ Sm KG w q.2 ∧ RSt q.2 142 0 (tq S (t1 S u c e) 10))
    (fun i n s hi hI => by
      obtain ⟨y, v⟩ := s
      obtain ⟨rfl, hs, hc⟩ := hI
      have hs : Sm KG w v := hs
      have hc : RSt v 142 0 (tq S (t1 S u c e) i) := hc
      obtain ⟨g1, g2⟩ := hG i (by omega) (by omega)
      have ub := hb i (by omega) (by omega)
      have um := u_mul ub.1 ub.2 (e := e) (by omega) (by omega)
      have uc := u_mul ub.1 ub.2 (e := c) (by omega) (by omega)
      have eu : gL v 148 i = jL (u i) := by
        have := rt_u hT i (by omega) (by omega)
        rw [Int.toNat_natCast] at this
        rw [hs.lK (by unfold KG; omega)]; exact this
      have ek : gI v 149 i = jI (bZ (u i ≠ 0)) := by
        have := rt_k hT i (by omega) (by omega)
        rw [Int.toNat_natCast] at this
        rw [hs.iK (by unfold KG; omega)]; exact this
      have q1 : tq S (t1 S u c e) i (16 + i) = S (16 + i) := by unfold tq; rw [if_neg (by omega)]
      have q2 : tq S (t1 S u c e) i (66 + i) = S (66 + i) := by unfold tq; rw [if_neg (by omega)]
      have q3 : tq S (t1 S u c e) i (76 + i) = S (76 + i) := by unfold tq; rw [if_neg (by omega)]
      have va : gL v 142 (16 + (i : Int)).toNat = jL (S (16 + i)) := by rw [r_g hc _ (by omega) (by omega), q1]
      have vo : gL v 142 (66 + (i : Int)).toNat = jL (S (66 + i)) := by rw [r_g hc _ (by omega) (by omega), q2]
      have vw : gL v 142 (76 + (i : Int)).toNat = jL (S (76 + i)) := by rw [r_g hc _ (by omega) (by omega), q3]
      by_cases z : u i = 0
      · have a1 : t1 S u c e (16 + i) = S (16 + i) := by rw [t1_a (by omega) (by omega), if_pos z]
        have a2 : t1 S u c e (76 + i) = S (76 + i) := by rw [t1_w (by omega) (by omega), if_neg (fun q => q.1 z)]
        refine Or.inl ⟨(jI ((i + 1 : Nat) : Int), v), ⟨rfl, hs, ?_⟩, ?_⟩
        · have := tq_step (S := S) (T := t1 S u c e) (i := i) (by omega) (by omega)
          show RSt v 142 0 (tq S (t1 S u c e) ((i : Int) + 1))
          rw [← this]
          refine hc.congr (fun y y0 y1 => ?_)
          by_cases p1 : y = 76 + i
          · rw [p1, up_eq, a2, q3]
          · rw [up_ne p1]
            by_cases p2 : y = 16 + i
            · rw [p2, up_eq, a1, q1]
            · rw [up_ne p2]
        · show p_X11_turnsBy_25b (jL e) (jL c) (n + 1) (jI i) v = p_X11_turnsBy_25b (jL e) (jL c) n (jI ((i + 1 : Nat) : Int)) v
          rw [p_X11_turnsBy_25b]
          simp (disch := omega) only [l32_0, l32_1, l32_2, l32_3, l32_4, l32_5, l32_6, l32_7, l32_8, l32_9, l32_10, l32_11, l32_12, l32_13, l32_14, l32_15, l32_16, l32_17, l32_18, l32_19, l32_20, l32_21, l32_22, l32_23, l32_24, l32_25, l32_26, l32_27, l32_28, l32_29, l32_30, l32_31, l32_32, l32_33, l32_34, l32_35, l32_36, l32_37, l32_38, l32_39, l32_40, l32_41, l32_42, l32_43, l32_44, l32_45, l32_46, l32_47, l32_48, l32_49, l32_50, l32_51, l32_52, l32_53, l32_54, l32_55, l32_56, l32_57, l32_58, l32_59, l32_60, l32_61, l32_62, l32_63, l32_64, l32_65, l32_66, l32_76, l32_86, l32_90, l32_92, l32_97, l32_98, l32_99, l32_100, l32_101, l32_102, l32_103, l32_104, l32_105, l32_106, l32_107, l32_108, l32_109, l32_110, l32_111, l32_112, l32_113, l32_114, l32_115, l32_116, l32_117, l32_118, l32_119, l32_120, l32_121, l32_122, l32_123, l32_124, l32_125, l32_126, l32_192, l32_200, l32_255, l32_999, l32_1000, l32_1344, l32_2147483639, l32_2147483647, l64_0, l64_1, l64_99, l64_999, l64_24883200000, l64_746496000000, jI_add, jI_sub, jI_mul, jI_neg, jL_add, jL_sub, jL_mul, jL_neg, jL_toI, jI_toL, jI_eqT, jI_eqF, jI_ltT, jI_ltF, jI_leT, jI_leF, jL_eqT, jL_eqF, jL_ltT, jL_ltF, jL_leT, jL_leF, inR_T, inR_F, bZ_T, bZ_F, not_true_eq_false, not_false_eq_true, jI_clamp, nI_j, bs_p, wl_p, u2_p, u3_p, u4_p, u5_p, zl_p, zr_p, mn_p, ms_p, if_pos, if_neg, ite_true, ite_false, Int.toNat_natCast, ek] <;> rfl
      · have an : t1 S u c e (16 + i) = (S (16 + i) + e * u i) % 24883200000 := by
          rw [t1_a (by omega) (by omega), if_neg z, Int.mul_comm]
        have cm : e * u i = u i * e := Int.mul_comm _ _
        have wn : t1 S u c e (76 + i) = S (76 + i) + (if S (66 + (i : Int)) = 1 then (u i).natAbs * c else 0) := by
          rw [t1_w (by omega) (by omega)]
          by_cases z2 : S (66 + (i : Int)) = 1
          · rw [if_pos ⟨z, z2⟩, if_pos z2]
          · rw [if_neg (fun q => z2 q.2), if_neg z2, Int.add_zero]
        have hc3 := (hc.put (z := 16 + (i : Int)) (v := t1 S u c e (16 + i)) (by omega) (by omega)).put (z := 76 + (i : Int)) (v := t1 S u c e (76 + i)) (by omega) (by omega)
        rw [tq_step (by omega) (by omega)] at hc3
        refine Or.inl ⟨(jI ((i + 1 : Nat) : Int), uL (uL v 142 (16 + (i : Int)).toNat (jL (t1 S u c e (16 + i)))) 142 (76 + (i : Int)).toNat (jL (t1 S u c e (76 + i)))), ⟨rfl, (hs.tr (Sm.wL v rfl)).tr (Sm.wL _ rfl), hc3⟩, ?_⟩
        show p_X11_turnsBy_25b (jL e) (jL c) (n + 1) (jI i) v = p_X11_turnsBy_25b (jL e) (jL c) n (jI ((i + 1 : Nat) : Int)) (uL (uL v 142 (16 + (i : Int)).toNat (jL (t1 S u c e (16 + i)))) 142 (76 + (i : Int)).toNat (jL (t1 S u c e (76 + i))))
        rw [p_X11_turnsBy_25b, an, wn]
        rcases g2 with g2 | g2
        · rw [if_neg (show ¬ S (66 + (i : Int)) = 1 by omega)]
          simp (disch := omega) only [l32_0, l32_1, l32_2, l32_3, l32_4, l32_5, l32_6, l32_7, l32_8, l32_9, l32_10, l32_11, l32_12, l32_13, l32_14, l32_15, l32_16, l32_17, l32_18, l32_19, l32_20, l32_21, l32_22, l32_23, l32_24, l32_25, l32_26, l32_27, l32_28, l32_29, l32_30, l32_31, l32_32, l32_33, l32_34, l32_35, l32_36, l32_37, l32_38, l32_39, l32_40, l32_41, l32_42, l32_43, l32_44, l32_45, l32_46, l32_47, l32_48, l32_49, l32_50, l32_51, l32_52, l32_53, l32_54, l32_55, l32_56, l32_57, l32_58, l32_59, l32_60, l32_61, l32_62, l32_63, l32_64, l32_65, l32_66, l32_76, l32_86, l32_90, l32_92, l32_97, l32_98, l32_99, l32_100, l32_101, l32_102, l32_103, l32_104, l32_105, l32_106, l32_107, l32_108, l32_109, l32_110, l32_111, l32_112, l32_113, l32_114, l32_115, l32_116, l32_117, l32_118, l32_119, l32_120, l32_121, l32_122, l32_123, l32_124, l32_125, l32_126, l32_192, l32_200, l32_255, l32_999, l32_1000, l32_1344, l32_2147483639, l32_2147483647, l64_0, l64_1, l64_99, l64_999, l64_24883200000, l64_746496000000, jI_add, jI_sub, jI_mul, jI_neg, jL_add, jL_sub, jL_mul, jL_neg, jL_toI, jI_toL, jI_eqT, jI_eqF, jI_ltT, jI_ltF, jI_leT, jI_leF, jL_eqT, jL_eqF, jL_ltT, jL_ltF, jL_leT, jL_leF, inR_T, inR_F, bZ_T, bZ_F, not_true_eq_false, not_false_eq_true, jI_clamp, nI_j, bs_p, wl_p, u2_p, u3_p, u4_p, u5_p, zl_p, zr_p, mn_p, ms_p, if_pos, if_neg, ite_true, ite_false, Int.toNat_natCast, ek, eu, va, vo, vw, s_rest, gL_uL] <;> rfl
        · rw [if_pos g2]
          simp (disch := omega) only [l32_0, l32_1, l32_2, l32_3, l32_4, l32_5, l32_6, l32_7, l32_8, l32_9, l32_10, l32_11, l32_12, l32_13, l32_14, l32_15, l32_16, l32_17, l32_18, l32_19, l32_20, l32_21, l32_22, l32_23, l32_24, l32_25, l32_26, l32_27, l32_28, l32_29, l32_30, l32_31, l32_32, l32_33, l32_34, l32_35, l32_36, l32_37, l32_38, l32_39, l32_40, l32_41, l32_42, l32_43, l32_44, l32_45, l32_46, l32_47, l32_48, l32_49, l32_50, l32_51, l32_52, l32_53, l32_54, l32_55, l32_56, l32_57, l32_58, l32_59, l32_60, l32_61, l32_62, l32_63, l32_64, l32_65, l32_66, l32_76, l32_86, l32_90, l32_92, l32_97, l32_98, l32_99, l32_100, l32_101, l32_102, l32_103, l32_104, l32_105, l32_106, l32_107, l32_108, l32_109, l32_110, l32_111, l32_112, l32_113, l32_114, l32_115, l32_116, l32_117, l32_118, l32_119, l32_120, l32_121, l32_122, l32_123, l32_124, l32_125, l32_126, l32_192, l32_200, l32_255, l32_999, l32_1000, l32_1344, l32_2147483639, l32_2147483647, l64_0, l64_1, l64_99, l64_999, l64_24883200000, l64_746496000000, jI_add, jI_sub, jI_mul, jI_neg, jL_add, jL_sub, jL_mul, jL_neg, jL_toI, jI_toL, jI_eqT, jI_eqF, jI_ltT, jI_ltF, jI_leT, jI_leF, jL_eqT, jL_eqF, jL_ltT, jL_ltF, jL_leT, jL_leF, inR_T, inR_F, bZ_T, bZ_F, not_true_eq_false, not_false_eq_true, jI_clamp, nI_j, bs_p, wl_p, u2_p, u3_p, u4_p, u5_p, zl_p, zr_p, mn_p, ms_p, if_pos, if_neg, ite_true, ite_false, Int.toNat_natCast, ek, eu, va, vo, vw, s_rest, s_size, gL_uL] <;> rfl)
    (fun n s hI => by
      obtain ⟨y, v⟩ := s
      obtain ⟨rfl, hs, hc⟩ := hI
      refine ⟨.inl (jI 10, v), ?_, _, rfl, hs, hc⟩
      show p_X11_turnsBy_25b (jL e) (jL c) (n + 1) (jI ((10 : Nat) : Int)) v = _
      rw [p_X11_turnsBy_25b, show ((10 : Nat) : Int) = 10 from rfl]
      simp (disch := omega) only [l32_0, l32_1, l32_2, l32_3, l32_4, l32_5, l32_6, l32_7, l32_8, l32_9, l32_10, l32_11, l32_12, l32_13, l32_14, l32_15, l32_16, l32_17, l32_18, l32_19, l32_20, l32_21, l32_22, l32_23, l32_24, l32_25, l32_26, l32_27, l32_28, l32_29, l32_30, l32_31, l32_32, l32_33, l32_34, l32_35, l32_36, l32_37, l32_38, l32_39, l32_40, l32_41, l32_42, l32_43, l32_44, l32_45, l32_46, l32_47, l32_48, l32_49, l32_50, l32_51, l32_52, l32_53, l32_54, l32_55, l32_56, l32_57, l32_58, l32_59, l32_60, l32_61, l32_62, l32_63, l32_64, l32_65, l32_66, l32_76, l32_86, l32_90, l32_92, l32_97, l32_98, l32_99, l32_100, l32_101, l32_102, l32_103, l32_104, l32_105, l32_106, l32_107, l32_108, l32_109, l32_110, l32_111, l32_112, l32_113, l32_114, l32_115, l32_116, l32_117, l32_118, l32_119, l32_120, l32_121, l32_122, l32_123, l32_124, l32_125, l32_126, l32_192, l32_200, l32_255, l32_999, l32_1000, l32_1344, l32_2147483639, l32_2147483647, l64_0, l64_1, l64_99, l64_999, l64_24883200000, l64_746496000000, jI_add, jI_sub, jI_mul, jI_neg, jL_add, jL_sub, jL_mul, jL_neg, jL_toI, jI_toL, jI_eqT, jI_eqF, jI_ltT, jI_ltF, jI_leT, jI_leF, jL_eqT, jL_eqF, jL_ltT, jL_ltF, jL_leT, jL_leF, inR_T, inR_F, bZ_T, bZ_F, not_true_eq_false, not_false_eq_true, jI_clamp, nI_j, bs_p, wl_p, u2_p, u3_p, u4_p, u5_p, zl_p, zr_p, mn_p, ms_p, if_pos, if_neg, ite_true, ite_false]) 2000 0 (jI 0, w) (by omega) (by omega) ⟨rfl, Sm.refl w, h.congr (fun z _ _ => by unfold tq; rw [if_neg (by omega)])⟩
  obtain ⟨q, rfl, hs, hc⟩ := hP
  have hr : p_X11_turnsBy_25b (jL e) (jL c) 2000 (jI 0) w = some (.inl q) := hr
  obtain ⟨y, v⟩ := q
  refine ⟨v, ?_, hs, hc.congr (fun z z0 z1 => ?_)⟩
  · unfold f_X11_turnsBy
    rcases hv with hv | hv
    · rw [if_neg (by omega)] at he
      rw [he] at hr
      simp (disch := omega) only [l32_0, l32_1, l32_2, l32_3, l32_4, l32_5, l32_6, l32_7, l32_8, l32_9, l32_10, l32_11, l32_12, l32_13, l32_14, l32_15, l32_16, l32_17, l32_18, l32_19, l32_20, l32_21, l32_22, l32_23, l32_24, l32_25, l32_26, l32_27, l32_28, l32_29, l32_30, l32_31, l32_32, l32_33, l32_34, l32_35, l32_36, l32_37, l32_38, l32_39, l32_40, l32_41, l32_42, l32_43, l32_44, l32_45, l32_46, l32_47, l32_48, l32_49, l32_50, l32_51, l32_52, l32_53, l32_54, l32_55, l32_56, l32_57, l32_58, l32_59, l32_60, l32_61, l32_62, l32_63, l32_64, l32_65, l32_66, l32_76, l32_86, l32_90, l32_92, l32_97, l32_98, l32_99, l32_100, l32_101, l32_102, l32_103, l32_104, l32_105, l32_106, l32_107, l32_108, l32_109, l32_110, l32_111, l32_112, l32_113, l32_114, l32_115, l32_116, l32_117, l32_118, l32_119, l32_120, l32_121, l32_122, l32_123, l32_124, l32_125, l32_126, l32_192, l32_200, l32_255, l32_999, l32_1000, l32_1344, l32_2147483639, l32_2147483647, l64_0, l64_1, l64_99, l64_999, l64_24883200000, l64_746496000000, jI_add, jI_sub, jI_mul, jI_neg, jL_add, jL_sub, jL_mul, jL_neg, jL_toI, jI_toL, jI_eqT, jI_eqF, jI_ltT, jI_ltF, jI_leT, jI_leF, jL_eqT, jL_eqF, jL_ltT, jL_ltF, jL_leT, jL_leF, inR_T, inR_F, bZ_T, bZ_F, not_true_eq_false, not_false_eq_true, jI_clamp, nI_j, bs_p, wl_p, u2_p, u3_p, u4_p, u5_p, zl_p, zr_p, mn_p, ms_p, if_pos, if_neg, ite_true, ite_false, r_g h, tb_same, hr]
    · rw [if_pos hv] at he
      rw [he] at hr
      simp (disch := omega) only [l32_0, l32_1, l32_2, l32_3, l32_4, l32_5, l32_6, l32_7, l32_8, l32_9, l32_10, l32_11, l32_12, l32_13, l32_14, l32_15, l32_16, l32_17, l32_18, l32_19, l32_20, l32_21, l32_22, l32_23, l32_24, l32_25, l32_26, l32_27, l32_28, l32_29, l32_30, l32_31, l32_32, l32_33, l32_34, l32_35, l32_36, l32_37, l32_38, l32_39, l32_40, l32_41, l32_42, l32_43, l32_44, l32_45, l32_46, l32_47, l32_48, l32_49, l32_50, l32_51, l32_52, l32_53, l32_54, l32_55, l32_56, l32_57, l32_58, l32_59, l32_60, l32_61, l32_62, l32_63, l32_64, l32_65, l32_66, l32_76, l32_86, l32_90, l32_92, l32_97, l32_98, l32_99, l32_100, l32_101, l32_102, l32_103, l32_104, l32_105, l32_106, l32_107, l32_108, l32_109, l32_110, l32_111, l32_112, l32_113, l32_114, l32_115, l32_116, l32_117, l32_118, l32_119, l32_120, l32_121, l32_122, l32_123, l32_124, l32_125, l32_126, l32_192, l32_200, l32_255, l32_999, l32_1000, l32_1344, l32_2147483639, l32_2147483647, l64_0, l64_1, l64_99, l64_999, l64_24883200000, l64_746496000000, jI_add, jI_sub, jI_mul, jI_neg, jL_add, jL_sub, jL_mul, jL_neg, jL_toI, jI_toL, jI_eqT, jI_eqF, jI_ltT, jI_ltF, jI_leT, jI_leF, jL_eqT, jL_eqF, jL_ltT, jL_ltF, jL_leT, jL_leF, inR_T, inR_F, bZ_T, bZ_F, not_true_eq_false, not_false_eq_true, jI_clamp, nI_j, bs_p, wl_p, u2_p, u3_p, u4_p, u5_p, zl_p, zr_p, mn_p, ms_p, if_pos, if_neg, ite_true, ite_false, r_g h, hr]
  · unfold tq
    by_cases q3 : (16 ≤ z ∧ z < 16 + 10) ∨ (76 ≤ z ∧ z < 76 + 10)
    · rw [if_pos q3]
    · rw [if_neg q3, t1_o (by omega) (by omega)]
theorem s_rDries {w : Wd} {S : Ab} (hG : ∀ i, 0 ≤ i → i < 10 → (S (66 + i) = 0 ∨ S (66 + i) = 1) ∧ (S (66 + i) = 1 → 0 ≤ S (76 + i) ∧ S (76 + i) < 4000000000000000000)) (h : RSt w 142 0 S) :
    ∃ w', f_X11_dries w = some w' ∧ Sm KG w w' ∧ RSt w' 142 0 (t3 S) := by
  obtain ⟨r, hr, hP⟩ := lp (fun n (s : Int32 × Wd) => p_X11_dries_2 n s.1 s.2)
    (fun i s => s.1 = jI i ∧ Sm KG w s.2 ∧ RSt s.2 142 0 (tr S (t3 S) i)) 10
    (fun r => ∃ q, r = .inl q ∧ Sm KG w q.2 ∧ RSt q.2 142 0 (tr S (t3 S) 10))
    (fun i n s hi hI => by
      obtain ⟨y, v⟩ := s
      obtain ⟨rfl, hs, hc⟩ := hI
      have hs : Sm KG w v := hs
      have hc : RSt v 142 0 (tr S (t3 S) i) := hc
      obtain ⟨g2, g3⟩ := hG i (by omega) (by omega)
      have q2 : tr S (t3 S) i (66 + i) = S (66 + i) := by unfold tr; rw [if_neg (by omega)]
      have q3 : tr S (t3 S) i (76 + i) = S (76 + i) := by unfold tr; rw [if_neg (by omega)]
      have vo : gL v 142 (66 + (i : Int)).toNat = jL (S (66 + i)) := by rw [r_g hc _ (by omega) (by omega), q2]
      have vw : gL v 142 (76 + (i : Int)).toNat = jL (S (76 + i)) := by rw [r_g hc _ (by omega) (by omega), q3]
      by_cases z : S (66 + (i : Int)) = 1 ∧ 746496000000 ≤ S (76 + (i : Int))
      · have e1 : t3 S (66 + i) = 0 := by rw [t3_o (by omega) (by omega), if_pos z]
        have e2 : t3 S (76 + i) = 0 := by rw [t3_w (by omega) (by omega), if_pos z]
        have hc3 := (hc.put (z := 66 + (i : Int)) (v := t3 S (66 + i)) (by omega) (by omega)).put (z := 76 + (i : Int)) (v := t3 S (76 + i)) (by omega) (by omega)
        rw [tr_step (by omega) (by omega)] at hc3
        have g3 := g3 z.1
        refine Or.inl ⟨(jI ((i + 1 : Nat) : Int), uL (uL v 142 (66 + (i : Int)).toNat (jL (t3 S (66 + i)))) 142 (76 + (i : Int)).toNat (jL (t3 S (76 + i)))), ⟨rfl, (hs.tr (Sm.wL v rfl)).tr (Sm.wL _ rfl), hc3⟩, ?_⟩
        show p_X11_dries_2 (n + 1) (jI i) v = p_X11_dries_2 n (jI ((i + 1 : Nat) : Int)) (uL (uL v 142 (66 + (i : Int)).toNat (jL (t3 S (66 + i)))) 142 (76 + (i : Int)).toNat (jL (t3 S (76 + i))))
        rw [p_X11_dries_2, e1, e2]
        simp (disch := omega) only [l32_0, l32_1, l32_2, l32_3, l32_4, l32_5, l32_6, l32_7, l32_8, l32_9, l32_10, l32_11, l32_12, l32_13, l32_14, l32_15, l32_16, l32_17, l32_18, l32_19, l32_20, l32_21, l32_22, l32_23, l32_24, l32_25, l32_26, l32_27, l32_28, l32_29, l32_30, l32_31, l32_32, l32_33, l32_34, l32_35, l32_36, l32_37, l32_38, l32_39, l32_40, l32_41, l32_42, l32_43, l32_44, l32_45, l32_46, l32_47, l32_48, l32_49, l32_50, l32_51, l32_52, l32_53, l32_54, l32_55, l32_56, l32_57, l32_58, l32_59, l32_60, l32_61, l32_62, l32_63, l32_64, l32_65, l32_66, l32_76, l32_86, l32_90, l32_92, l32_97, l32_98, l32_99, l32_100, l32_101, l32_102, l32_103, l32_104, l32_105, l32_106, l32_107, l32_108, l32_109, l32_110, l32_111, l32_112, l32_113, l32_114, l32_115, l32_116, l32_117, l32_118, l32_119, l32_120, l32_121, l32_122, l32_123, l32_124, l32_125, l32_126, l32_192, l32_200, l32_255, l32_999, l32_1000, l32_1344, l32_2147483639, l32_2147483647, l64_0, l64_1, l64_99, l64_999, l64_24883200000, l64_746496000000, jI_add, jI_sub, jI_mul, jI_neg, jL_add, jL_sub, jL_mul, jL_neg, jL_toI, jI_toL, jI_eqT, jI_eqF, jI_ltT, jI_ltF, jI_leT, jI_leF, jL_eqT, jL_eqF, jL_ltT, jL_ltF, jL_leT, jL_leF, inR_T, inR_F, bZ_T, bZ_F, not_true_eq_false, not_false_eq_true, jI_clamp, nI_j, bs_p, wl_p, u2_p, u3_p, u4_p, u5_p, zl_p, zr_p, mn_p, ms_p, if_pos, if_neg, ite_true, ite_false, vo, vw] <;> rfl
      · have e1 : t3 S (66 + i) = S (66 + i) := by rw [t3_o (by omega) (by omega), if_neg z]
        have e2 : t3 S (76 + i) = S (76 + i) := by rw [t3_w (by omega) (by omega), if_neg z]
        refine Or.inl ⟨(jI ((i + 1 : Nat) : Int), v), ⟨rfl, hs, ?_⟩, ?_⟩
        · have := tr_same (S := S) (T := t3 S) (i := i) (by omega) (by omega) e1 e2
          show RSt v 142 0 (tr S (t3 S) ((i : Int) + 1))
          rw [← this]; exact hc
        · show p_X11_dries_2 (n + 1) (jI i) v = p_X11_dries_2 n (jI ((i + 1 : Nat) : Int)) v
          rw [p_X11_dries_2]
          by_cases z2 : S (66 + (i : Int)) = 1
          · have g3 := g3 z2
            simp (disch := omega) only [l32_0, l32_1, l32_2, l32_3, l32_4, l32_5, l32_6, l32_7, l32_8, l32_9, l32_10, l32_11, l32_12, l32_13, l32_14, l32_15, l32_16, l32_17, l32_18, l32_19, l32_20, l32_21, l32_22, l32_23, l32_24, l32_25, l32_26, l32_27, l32_28, l32_29, l32_30, l32_31, l32_32, l32_33, l32_34, l32_35, l32_36, l32_37, l32_38, l32_39, l32_40, l32_41, l32_42, l32_43, l32_44, l32_45, l32_46, l32_47, l32_48, l32_49, l32_50, l32_51, l32_52, l32_53, l32_54, l32_55, l32_56, l32_57, l32_58, l32_59, l32_60, l32_61, l32_62, l32_63, l32_64, l32_65, l32_66, l32_76, l32_86, l32_90, l32_92, l32_97, l32_98, l32_99, l32_100, l32_101, l32_102, l32_103, l32_104, l32_105, l32_106, l32_107, l32_108, l32_109, l32_110, l32_111, l32_112, l32_113, l32_114, l32_115, l32_116, l32_117, l32_118, l32_119, l32_120, l32_121, l32_122, l32_123, l32_124, l32_125, l32_126, l32_192, l32_200, l32_255, l32_999, l32_1000, l32_1344, l32_2147483639, l32_2147483647, l64_0, l64_1, l64_99, l64_999, l64_24883200000, l64_746496000000, jI_add, jI_sub, jI_mul, jI_neg, jL_add, jL_sub, jL_mul, jL_neg, jL_toI, jI_toL, jI_eqT, jI_eqF, jI_ltT, jI_ltF, jI_leT, jI_leF, jL_eqT, jL_eqF, jL_ltT, jL_ltF, jL_leT, jL_leF, inR_T, inR_F, bZ_T, bZ_F, not_true_eq_false, not_false_eq_true, jI_clamp, nI_j, bs_p, wl_p, u2_p, u3_p, u4_p, u5_p, zl_p, zr_p, mn_p, ms_p, if_pos, if_neg, ite_true, ite_false, vo, vw] <;> rfl
          · have z3 : S (66 + (i : Int)) = 0 := by omega
            simp (disch := omega) only [l32_0, l32_1, l32_2, l32_3, l32_4, l32_5, l32_6, l32_7, l32_8, l32_9, l32_10, l32_11, l32_12, l32_13, l32_14, l32_15, l32_16, l32_17, l32_18, l32_19, l32_20, l32_21, l32_22, l32_23, l32_24, l32_25, l32_26, l32_27, l32_28, l32_29, l32_30, l32_31, l32_32, l32_33, l32_34, l32_35, l32_36, l32_37, l32_38, l32_39, l32_40, l32_41, l32_42, l32_43, l32_44, l32_45, l32_46, l32_47, l32_48, l32_49, l32_50, l32_51, l32_52, l32_53, l32_54, l32_55, l32_56, l32_57, l32_58, l32_59, l32_60, l32_61, l32_62, l32_63, l32_64, l32_65, l32_66, l32_76, l32_86, l32_90, l32_92, l32_97, l32_98, l32_99, l32_100, l32_101, l32_102, l32_103, l32_104, l32_105, l32_106, l32_107, l32_108, l32_109, l32_110, l32_111, l32_112, l32_113, l32_114, l32_115, l32_116, l32_117, l32_118, l32_119, l32_120, l32_121, l32_122, l32_123, l32_124, l32_125, l32_126, l32_192, l32_200, l32_255, l32_999, l32_1000, l32_1344, l32_2147483639, l32_2147483647, l64_0, l64_1, l64_99, l64_999, l64_24883200000, l64_746496000000, jI_add, jI_sub, jI_mul, jI_neg, jL_add, jL_sub, jL_mul, jL_neg, jL_toI, jI_toL, jI_eqT, jI_eqF, jI_ltT, jI_ltF, jI_leT, jI_leF, jL_eqT, jL_eqF, jL_ltT, jL_ltF, jL_leT, jL_leF, inR_T, inR_F, bZ_T, bZ_F, not_true_eq_false, not_false_eq_true, jI_clamp, nI_j, bs_p, wl_p, u2_p, u3_p, u4_p, u5_p, zl_p, zr_p, mn_p, ms_p, if_pos, if_neg, ite_true, ite_false, vo] <;> rfl)
    (fun n s hI => by
      obtain ⟨y, v⟩ := s
      obtain ⟨rfl, hs, hc⟩ := hI
      refine ⟨.inl (jI 10, v), ?_, _, rfl, hs, hc⟩
      show p_X11_dries_2 (n + 1) (jI ((10 : Nat) : Int)) v = _
      rw [p_X11_dries_2, show ((10 : Nat) : Int) = 10 from rfl]
      simp (disch := omega) only [l32_0, l32_1, l32_2, l32_3, l32_4, l32_5, l32_6, l32_7, l32_8, l32_9, l32_10, l32_11, l32_12, l32_13, l32_14, l32_15, l32_16, l32_17, l32_18, l32_19, l32_20, l32_21, l32_22, l32_23, l32_24, l32_25, l32_26, l32_27, l32_28, l32_29, l32_30, l32_31, l32_32, l32_33, l32_34, l32_35, l32_36, l32_37, l32_38, l32_39, l32_40, l32_41, l32_42, l32_43, l32_44, l32_45, l32_46, l32_47, l32_48, l32_49, l32_50, l32_51, l32_52, l32_53, l32_54, l32_55, l32_56, l32_57, l32_58, l32_59, l32_60, l32_61, l32_62, l32_63, l32_64, l32_65, l32_66, l32_76, l32_86, l32_90, l32_92, l32_97, l32_98, l32_99, l32_100, l32_101, l32_102, l32_103, l32_104, l32_105, l32_106, l32_107, l32_108, l32_109, l32_110, l32_111, l32_112, l32_113, l32_114, l32_115, l32_116, l32_117, l32_118, l32_119, l32_120, l32_121, l32_122, l32_123, l32_124, l32_125, l32_126, l32_192, l32_200, l32_255, l32_999, l32_1000, l32_1344, l32_2147483639, l32_2147483647, l64_0, l64_1, l64_99, l64_999, l64_24883200000, l64_746496000000, jI_add, jI_sub, jI_mul, jI_neg, jL_add, jL_sub, jL_mul, jL_neg, jL_toI, jI_toL, jI_eqT, jI_eqF, jI_ltT, jI_ltF, jI_leT, jI_leF, jL_eqT, jL_eqF, jL_ltT, jL_ltF, jL_leT, jL_leF, inR_T, inR_F, bZ_T, bZ_F, not_true_eq_false, not_false_eq_true, jI_clamp, nI_j, bs_p, wl_p, u2_p, u3_p, u4_p, u5_p, zl_p, zr_p, mn_p, ms_p, if_pos, if_neg, ite_true, ite_false]) 2000 0 (jI 0, w) (by omega) (by omega) ⟨rfl, Sm.refl w, h.congr (fun z _ _ => by unfold tr; rw [if_neg (by omega)])⟩
  obtain ⟨q, rfl, hs, hc⟩ := hP
  have hr : p_X11_dries_2 2000 (jI 0) w = some (.inl q) := hr
  obtain ⟨y, v⟩ := q
  refine ⟨v, ?_, hs, hc.congr (fun z z0 z1 => ?_)⟩
  · unfold f_X11_dries
    simp (disch := omega) only [l32_0, l32_1, l32_2, l32_3, l32_4, l32_5, l32_6, l32_7, l32_8, l32_9, l32_10, l32_11, l32_12, l32_13, l32_14, l32_15, l32_16, l32_17, l32_18, l32_19, l32_20, l32_21, l32_22, l32_23, l32_24, l32_25, l32_26, l32_27, l32_28, l32_29, l32_30, l32_31, l32_32, l32_33, l32_34, l32_35, l32_36, l32_37, l32_38, l32_39, l32_40, l32_41, l32_42, l32_43, l32_44, l32_45, l32_46, l32_47, l32_48, l32_49, l32_50, l32_51, l32_52, l32_53, l32_54, l32_55, l32_56, l32_57, l32_58, l32_59, l32_60, l32_61, l32_62, l32_63, l32_64, l32_65, l32_66, l32_76, l32_86, l32_90, l32_92, l32_97, l32_98, l32_99, l32_100, l32_101, l32_102, l32_103, l32_104, l32_105, l32_106, l32_107, l32_108, l32_109, l32_110, l32_111, l32_112, l32_113, l32_114, l32_115, l32_116, l32_117, l32_118, l32_119, l32_120, l32_121, l32_122, l32_123, l32_124, l32_125, l32_126, l32_192, l32_200, l32_255, l32_999, l32_1000, l32_1344, l32_2147483639, l32_2147483647, l64_0, l64_1, l64_99, l64_999, l64_24883200000, l64_746496000000, jI_add, jI_sub, jI_mul, jI_neg, jL_add, jL_sub, jL_mul, jL_neg, jL_toI, jI_toL, jI_eqT, jI_eqF, jI_ltT, jI_ltF, jI_leT, jI_leF, jL_eqT, jL_eqF, jL_ltT, jL_ltF, jL_leT, jL_leF, inR_T, inR_F, bZ_T, bZ_F, not_true_eq_false, not_false_eq_true, jI_clamp, nI_j, bs_p, wl_p, u2_p, u3_p, u4_p, u5_p, zl_p, zr_p, mn_p, ms_p, if_pos, if_neg, ite_true, ite_false, hr]
  · unfold tr
    by_cases q3 : (66 ≤ z ∧ z < 66 + 10) ∨ (76 ≤ z ∧ z < 76 + 10)
    · rw [if_pos q3]
    · rw [if_neg q3, t3_r (by omega)]
end
section
/-! THE RELEASE, both ways -/
/-- which way -/
def er (S : Ab) (x c : Int) : Int := if S (46 + x) = 1 then -c else c
theorem er_c (S : Ab) (x c : Int) : er S x c = c ∨ er S x c = -c := by unfold er; split <;> simp
noncomputable def rn (S : Ab) (x c : Int) : Ab := t3 (t1 (up (up (up S (36 + x) (S (36 + x) - dg S (TU S x) * c)) 4 (S 4 + dg S (TU S x) * c)) 5 (S 5 + (if 0 < c then 1 else 0))) (TU S x) c (er S x c))
/-- the numbers before the turning, laid in the class's order -/
noncomputable def ru (S : Ab) (x c : Int) : Ab := up (up (up S (36 + x) (S (36 + x) - dg S (TU S x) * c)) 4 (S 4 + dg S (TU S x) * c)) 5 (S 5 + (if 0 < c then 1 else 0))
theorem ru_o {S : Ab} {x c z : Int} (h : z ≠ 36 + x) (h4 : z ≠ 4) (h5 : z ≠ 5) : ru S x c z = S z := by
  unfold ru; rw [up_ne h5, up_ne h4, up_ne h]
theorem rn_lo {S : Ab} {x c z : Int} (h1 : ¬ (16 ≤ z ∧ z < 26)) (h2 : ¬ (66 ≤ z ∧ z < 86)) : rn S x c z = ru S x c z := by
  show t3 (t1 (ru S x c) _ _ _) z = _
  rw [t3_r h2, t1_o h1 (by omega)]
section
variable {S : Ab} {x c : Int}
theorem rg1 (hG : Good S) (x0 : 0 ≤ x) (x1 : x < 10) : ∀ i, 0 ≤ i → i < 10 → (0 ≤ ru S x c (16 + i) ∧ ru S x c (16 + i) < 24883200000) ∧ (ru S x c (66 + i) = 0 ∨ ru S x c (66 + i) = 1) ∧ (ru S x c (66 + i) = 1 → 0 ≤ ru S x c (76 + i) ∧ ru S x c (76 + i) < 746496000000) := by
  intro i i0 i1
  rw [ru_o (z := 16 + i) (by omega) (by omega) (by omega), ru_o (z := 66 + i) (by omega) (by omega) (by omega), ru_o (z := 76 + i) (by omega) (by omega) (by omega)]
  obtain ⟨k1, k2, k3, k4, k5, k6⟩ := hG.2.1 i i0 i1
  exact ⟨k3, k4, k5⟩
theorem rg2 (hG : Good S) (x0 : 0 ≤ x) (x1 : x < S 0) (c0 : 0 ≤ c) (c1 : c ≤ 50) {e : Int} : ∀ i, 0 ≤ i → i < 10 → (t1 (ru S x c) (TU S x) c e (66 + i) = 0 ∨ t1 (ru S x c) (TU S x) c e (66 + i) = 1) ∧ (t1 (ru S x c) (TU S x) c e (66 + i) = 1 → 0 ≤ t1 (ru S x c) (TU S x) c e (76 + i) ∧ t1 (ru S x c) (TU S x) c e (76 + i) < 4000000000000000000) := by
  have hg := hG.1
  intro i i0 i1
  obtain ⟨k1, k2, k3⟩ := rg1 (x := x) (c := c) hG x0 (by omega) i i0 i1
  have ub := tu_b hG x0 x1 i i0 i1
  have um := u_mul ub.1 ub.2 (e := c) (by omega) (by omega)
  have hn : (c.natAbs : Int) = c := by omega
  rw [hn] at um
  have hm : 0 ≤ ((TU S x i).natAbs : Int) * c := Int.mul_nonneg (by omega) c0
  rw [t1_o (z := 66 + i) (by omega) (by omega), t1_w i0 i1]
  refine ⟨k2, fun q => ?_⟩
  have k3 := k3 q
  split <;> omega
theorem Good.rel (hG : Good S) (x0 : 0 ≤ x) (x1 : x < S 0) (c0 : 0 ≤ c) (c1 : c ≤ 50) (hc : dg S (TU S x) * c ≤ S (36 + x)) (hf : 0 ≤ dg S (TU S x)) : Good (rn S x c) := by
  have hg := hG.1
  have hm : 0 ≤ dg S (TU S x) * c := Int.mul_nonneg hf c0
  have r36 : rn S x c (36 + x) = S (36 + x) - dg S (TU S x) * c := by
    rw [rn_lo (by omega) (by omega)]; unfold ru; rw [up_ne (by omega), up_ne (by omega), up_eq]
  refine hG.of ?_ ?_ ?_ (fun i i0 i1 => ?_) (fun i i0 i1 => ?_) (fun i i0 i1 => ?_) (fun i i0 i1 => ?_) ?_
  · rw [rn_lo (by omega) (by omega), ru_o (by omega) (by omega) (by omega)]
  · rw [rn_lo (by omega) (by omega), ru_o (by omega) (by omega) (by omega)]
  · rw [rn_lo (by omega) (by omega), ru_o (by omega) (by omega) (by omega)]; omega
  · rw [rn_lo (by omega) (by omega), ru_o (by omega) (by omega) (by omega)]
  · rw [rn_lo (by omega) (by omega), ru_o (by omega) (by omega) (by omega)]
  · rw [rn_lo (by omega) (by omega), ru_o (by omega) (by omega) (by omega)]
  · obtain ⟨k1, k2, k3, k4, k5, k6, k7, k8, k9⟩ := hG.2.1 i i0 i1
    obtain ⟨m1, m2⟩ := rg2 (c := c) hG x0 x1 c0 c1 (e := er S x c) i i0 i1
    unfold Gg
    rw [rn_lo (z := 0) (by omega) (by omega), ru_o (z := 0) (by omega) (by omega) (by omega), rn_lo (z := 6 + i) (by omega) (by omega), ru_o (z := 6 + i) (by omega) (by omega) (by omega), rn_lo (z := 26 + i) (by omega) (by omega), ru_o (z := 26 + i) (by omega) (by omega) (by omega), rn_lo (z := 46 + i) (by omega) (by omega), ru_o (z := 46 + i) (by omega) (by omega) (by omega), rn_lo (z := 56 + i) (by omega) (by omega), ru_o (z := 56 + i) (by omega) (by omega) (by omega)]
    refine ⟨k1, k2, ?_, ?_, ?_, k6, k7, k8, ?_⟩
    · show 0 ≤ t3 (t1 (ru S x c) _ _ _) (16 + i) ∧ t3 (t1 (ru S x c) _ _ _) (16 + i) < _
      rw [t3_r (by omega), t1_a i0 i1, ru_o (by omega) (by omega) (by omega)]
      split
      · exact k3
      · exact ⟨Int.emod_nonneg _ (by decide), Int.emod_lt_of_pos _ (by decide)⟩
    · show t3 (t1 (ru S x c) _ _ _) (66 + i) = 0 ∨ t3 (t1 (ru S x c) _ _ _) (66 + i) = 1
      rw [t3_o i0 i1]
      split
      · exact Or.inl rfl
      · exact m1
    · show t3 (t1 (ru S x c) _ _ _) (66 + i) = 1 → 0 ≤ t3 (t1 (ru S x c) _ _ _) (76 + i) ∧ t3 (t1 (ru S x c) _ _ _) (76 + i) < _
      rw [t3_o i0 i1, t3_w i0 i1]
      split
      · exact fun z => absurd z (by decide)
      · rename_i z
        intro z2
        have m3 := m2 z2
        exact ⟨m3.1, by
          refine Classical.byContradiction (fun z3 => z ⟨z2, by omega⟩)⟩
    · by_cases z : i = x
      · subst z
        rw [r36]
        omega
      · rw [rn_lo (by omega) (by omega), ru_o (by omega) (by omega) (by omega)]
        exact k9
  · have e3 : rn S x c 3 = S 3 := by rw [rn_lo (by omega) (by omega), ru_o (by omega) (by omega) (by omega)]
    have e4 : rn S x c 4 = S 4 + dg S (TU S x) * c := by rw [rn_lo (by omega) (by omega)]; unfold ru; rw [up_ne (by omega), up_eq]
    rw [e3, e4, sm_up (g := fun i => rn S x c (36 + i)) (h := fun i => S (36 + i)) (k := x) x0 (by omega) (fun i i0 i1 i2 => by show rn S x c (36 + i) = S (36 + i); rw [rn_lo (by omega) (by omega), ru_o (by omega) (by omega) (by omega)]), hG.2.2.2.2.2.1]
    show S 3 - S 4 + (rn S x c (36 + x) - S (36 + x)) = _
    rw [r36]
    omega
theorem rn_0 (hG : Good S) : ∀ z, 0 ≤ z → z < 192 → rn S x 0 z = S z := by
  have e5 : ∀ z, ru S x 0 z = S z := by
    intro z
    unfold ru
    rw [Int.mul_zero, Int.sub_zero, Int.add_zero, if_neg (by decide), Int.add_zero]
    unfold up
    split
    · rename_i q; rw [q]
    · split
      · rename_i q; rw [q]
      · split
        · rename_i q; rw [q]
        · rfl
  have e1 : ∀ z, 0 ≤ z → z < 192 → t1 (ru S x 0) (TU S x) 0 (er S x 0) z = S z := by
    intro z z0 z1
    have e0 : er S x 0 = 0 := by unfold er; split <;> rfl
    rw [e0]
    by_cases q : 16 ≤ z ∧ z < 26
    · have k := (hG.2.1 (z - 16) (by omega) (by omega)).2.2.1
      rw [show 16 + (z - 16) = z by omega] at k
      rw [show z = 16 + (z - 16) by omega, t1_a (by omega) (by omega), e5]
      split
      · rfl
      · rw [Int.mul_zero, Int.add_zero, show 16 + (z - 16) = z by omega, Int.emod_eq_of_lt k.1 k.2]
    · by_cases q2 : 76 ≤ z ∧ z < 86
      · rw [show z = 76 + (z - 76) by omega, t1_w (by omega) (by omega), e5, e5]
        split
        · rw [Int.mul_zero, Int.add_zero]
        · rfl
      · rw [t1_o q q2, e5]
  intro z z0 z1
  show t3 (t1 (ru S x 0) _ _ _) z = S z
  by_cases q : 66 ≤ z ∧ z < 76
  · have k := (hG.2.1 (z - 66) (by omega) (by omega)).2.2.2.2.1
    rw [show z = 66 + (z - 66) by omega, t3_o (by omega) (by omega), e1 (66 + (z - 66)) (by omega) (by omega), e1 (76 + (z - 66)) (by omega) (by omega), if_neg (fun q => by have := k q.1; omega)]
  · by_cases q2 : 76 ≤ z ∧ z < 86
    · have k := (hG.2.1 (z - 76) (by omega) (by omega)).2.2.2.2.1
      rw [show z = 76 + (z - 76) by omega, t3_w (by omega) (by omega), e1 (66 + (z - 76)) (by omega) (by omega), e1 (76 + (z - 76)) (by omega) (by omega), if_neg (fun q => by have := k q.1; omega)]
    · rw [t3_r (by omega), e1 z z0 z1]
end
theorem RSt.rel {w : Wd} {S u : Ab} {x c e f d : Int} (x0 : 0 ≤ x) (x1 : x < 10) (h : RSt w 142 0 (t1 S u c e)) :
    RSt (uL (uL (uL w 142 (36 + x).toNat (jL (S (36 + x) - f))) 142 (4 : Int).toNat (jL (S 4 + f))) 142 (5 : Int).toNat (jL (S 5 + d))) 142 0 (t1 (up (up (up S (36 + x) (S (36 + x) - f)) 4 (S 4 + f)) 5 (S 5 + d)) u c e) := by
  refine (((h.put (z := 36 + x) (v := S (36 + x) - f) (by omega) (by omega)).put (z := 4) (v := S 4 + f) (by omega) (by omega)).put (z := 5) (v := S 5 + d) (by omega) (by omega)).congr (fun z z0 z1 => ?_)
  by_cases p1 : z = 5
  · rw [p1, up_eq, t1_o (by omega) (by omega), up_eq]
  · rw [up_ne p1]
    by_cases p2 : z = 4
    · rw [p2, up_eq, t1_o (by omega) (by omega), up_ne (by omega), up_eq]
    · rw [up_ne p2]
      by_cases p3 : z = 36 + x
      · rw [p3, up_eq, t1_o (by omega) (by omega), up_ne (by omega), up_ne (by omega), up_eq]
      · rw [up_ne p3]
        have o : ∀ y, y ≠ 5 → y ≠ 4 → y ≠ 36 + x → up (up (up S (36 + x) (S (36 + x) - f)) 4 (S 4 + f)) 5 (S 5 + d) y = S y := fun y y1 y2 y3 => by rw [up_ne y1, up_ne y2, up_ne y3]
        by_cases q : 16 ≤ z ∧ z < 26
        · rw [show z = 16 + (z - 16) by omega, t1_a (by omega) (by omega), t1_a (by omega) (by omega), o _ (by omega) (by omega) (by omega)]
        · by_cases q2 : 76 ≤ z ∧ z < 86
          · rw [show z = 76 + (z - 76) by omega, t1_w (by omega) (by omega), t1_w (by omega) (by omega), o _ (by omega) (by omega) (by omega), o _ (by omega) (by omega) (by omega)]
          · rw [t1_o q q2, t1_o q q2, o _ p1 p2 p3]
end
section
/-! THE ROADS through a release -/
section
variable {w w1 w2 w3 w4 : Wd} {X K r r16 k q : Int32} {r19 : Int64}
theorem lg_0 (A : f_X7_isGear w X = some (jI 0)) : f_X1_letGo w X K = some ((-1 : Int32), w) := by
  unfold f_X1_letGo
  rw [A]
  rfl
theorem lg_1 (A : f_X7_isGear w X = some (jI 1)) (h : K < (1 : Int32) ∨ ¬ K ≤ (50 : Int32)) : f_X1_letGo w X K = some ((-2 : Int32), w) := by
  unfold f_X1_letGo
  rw [A]
  rw [bs_p, if_neg (show ¬ jI 1 = (0 : Int32) by decide +kernel)]
  by_cases c : K < (1 : Int32)
  · rw [if_pos c]
  · rw [if_neg c, if_neg (h.resolve_left c)]
theorem lg_5 (A : f_X7_isGear w X = some (jI 1)) (h1 : ¬ K < (1 : Int32)) (h2 : K ≤ (50 : Int32)) (B : f_X7_hasSpring w X = some (jI 0)) : f_X1_letGo w X K = some ((-5 : Int32), w) := by
  unfold f_X1_letGo
  rw [A]
  rw [bs_p, if_neg (show ¬ jI 1 = (0 : Int32) by decide +kernel), if_neg h1, if_pos h2, B]
  rfl
theorem lg_4 (A : f_X7_isGear w X = some (jI 1)) (h1 : ¬ K < (1 : Int32)) (h2 : K ≤ (50 : Int32)) (B : f_X7_hasSpring w X = some (jI 1)) (T : f_X8_trace w X = some w1) (L : f_X8_isBlocked w1 X = some (jI 1)) : f_X1_letGo w X K = some ((-4 : Int32), w1) := by
  unfold f_X1_letGo
  simp only [A, B, T, L, bs_p, i10, h1, h2, ite_true, ite_false]
theorem lg_z (A : f_X7_isGear w X = some (jI 1)) (h1 : ¬ K < (1 : Int32)) (h2 : K ≤ (50 : Int32)) (B : f_X7_hasSpring w X = some (jI 1)) (T : f_X8_trace w X = some w1) (L : f_X8_isBlocked w1 X = some (jI 0)) (D : f_X8_drag w1 = some r16) (I : inR X 10 = true) (Q : f_X4_quotient (gI w1 8 (X).toNatClampNeg).toInt64 (r16).toInt64 = some r19) (M : (if (r19).toInt32 < K then (r19).toInt32 else K) = k) (h : k ≤ 0) : f_X1_letGo w X K = some (k, w1) := by
  unfold f_X1_letGo
  have L0 : (jI 0 = (0 : Int32)) = True := eq_true rfl
  simp only [A, B, T, L, L0, D, I, Q, M, bs_p, i10, h1, h2, h, ite_true, ite_false]
theorem lg_p (A : f_X7_isGear w X = some (jI 1)) (h1 : ¬ K < (1 : Int32)) (h2 : K ≤ (50 : Int32)) (B : f_X7_hasSpring w X = some (jI 1)) (T : f_X8_trace w X = some w1) (L : f_X8_isBlocked w1 X = some (jI 0)) (D : f_X8_drag w1 = some r16) (I : inR X 10 = true) (Q : f_X4_quotient (gI w1 8 (X).toNatClampNeg).toInt64 (r16).toInt64 = some r19) (M : (if (r19).toInt32 < K then (r19).toInt32 else K) = k) (h : ¬ k ≤ 0)
    (W2 : uI (uI (uI w1 8 (X).toNatClampNeg (gI w1 8 (X).toNatClampNeg - r16 * k)) 1 15 (gI (uI w1 8 (X).toNatClampNeg (gI w1 8 (X).toNatClampNeg - r16 * k)) 1 15 + r16 * k)) 1 16 (gI (uI (uI w1 8 (X).toNatClampNeg (gI w1 8 (X).toNatClampNeg - r16 * k)) 1 15 (gI (uI w1 8 (X).toNatClampNeg (gI w1 8 (X).toNatClampNeg - r16 * k)) 1 15 + r16 * k)) 1 16 + (1 : Int32)) = w2)
    (V : (gI w2 9 (X).toNatClampNeg = 0 ∧ f_X1_turnTrain w2 k = some w3) ∨ (¬ gI w2 9 (X).toNatClampNeg = 0 ∧ f_X1_turnTrain w2 (-k) = some w3)) (Y : f_X1_dryWornGears w3 = some w4) : f_X1_letGo w X K = some (k, w4) := by
  unfold f_X1_letGo
  have L0 : (jI 0 = (0 : Int32)) = True := eq_true rfl
  rcases V with ⟨v1, v2⟩ | ⟨v1, v2⟩
  · simp only [A, B, T, L, L0, D, I, Q, M, bs_p, i10, h1, h2, h, ite_true, ite_false, wl_p, W2, v1, v2, Y]
  · simp only [A, B, T, L, L0, D, I, Q, M, bs_p, i10, h1, h2, h, ite_true, ite_false, wl_p, W2, v1, v2, Y]
theorem rl_0 (A : f_X11_isGear w X = some (jI 0)) : f_X11_releases w X K = some (jI 0, uI w 141 12 (1 : Int32)) := by
  unfold f_X11_releases
  rw [A]
  rfl
theorem rl_1 (A : f_X11_isGear w X = some (jI 1)) (B : f_X11_in w K (1 : Int32) (50 : Int32) = some (jI 0)) : f_X11_releases w X K = some (jI 0, uI w 141 12 (2 : Int32)) := by
  unfold f_X11_releases
  rw [A]
  rw [bs_p, if_neg (show ¬ jI 1 = (0 : Int32) by decide +kernel), B]
  rfl
theorem rl_3 (A : f_X11_isGear w X = some (jI 1)) (B : f_X11_in w K (1 : Int32) (50 : Int32) = some (jI 1)) (C : f_X11_hasSpring w X = some (jI 0)) : f_X11_releases w X K = some (jI 0, uI w 141 12 (3 : Int32)) := by
  unfold f_X11_releases
  rw [A]
  rw [bs_p, if_neg (show ¬ jI 1 = (0 : Int32) by decide +kernel), B]
  rw [bs_p, if_neg (show ¬ jI 1 = (0 : Int32) by decide +kernel), C]
  rfl
theorem rl_4 (A : f_X11_isGear w X = some (jI 1)) (B : f_X11_in w K (1 : Int32) (50 : Int32) = some (jI 1)) (C : f_X11_hasSpring w X = some (jI 1)) (D : f_X11_rubs w X = some (r16, w1)) (E : f_X11_isHindered w1 X = some (jI 1)) : f_X11_releases w X K = some (jI 0, uI w1 141 12 (4 : Int32)) := by
  unfold f_X11_releases
  simp only [A, B, C, D, E, bs_p, u2_p, i10, ite_false, s_fails]
theorem rl_p (A : f_X11_isGear w X = some (jI 1)) (B : f_X11_in w K (1 : Int32) (50 : Int32) = some (jI 1)) (C : f_X11_hasSpring w X = some (jI 1)) (D : f_X11_rubs w X = some (r16, w1)) (E : f_X11_isHindered w1 X = some (jI 0)) (F : f_X11_at w1 ((36 : Int32) + X) = some q) (f0 : ¬ r16 = 0) (M : ((q / r16) ≤ K ∧ k = q / r16) ∨ (¬ (q / r16) ≤ K ∧ k = K)) (T : f_X11_turnsBy w1 X (k).toInt64 = some w2) (I : inR ((36 : Int32) + X) 192 = true)
    (W3 : uL (uL w2 142 ((36 : Int32) + X).toNatClampNeg (gL w2 142 ((36 : Int32) + X).toNatClampNeg - (r16 * k).toInt64)) 142 ((4 : Int32)).toNatClampNeg (gL (uL w2 142 ((36 : Int32) + X).toNatClampNeg (gL w2 142 ((36 : Int32) + X).toNatClampNeg - (r16 * k).toInt64)) 142 ((4 : Int32)).toNatClampNeg + (r16 * k).toInt64) = w3) {d : Int64} (dd : (k ≤ 0 ∧ d = 0) ∨ (¬ k ≤ 0 ∧ d = 1)) (Y : f_X11_dries (uL w3 142 ((5 : Int32)).toNatClampNeg (gL w3 142 ((5 : Int32)).toNatClampNeg + d)) = some w4) : f_X11_releases w X K = some (k, uI w4 141 12 (jI 0)) := by
  unfold f_X11_releases
  have L0 : (jI 0 = (0 : Int32)) = True := eq_true rfl
  have I4 : inR (4 : Int32) 192 = true := by decide +kernel
  have I5 : inR (5 : Int32) 192 = true := by decide +kernel
  rcases M with ⟨m1, rfl⟩ | ⟨m1, rfl⟩
  · rcases dd with ⟨d1, rfl⟩ | ⟨d1, rfl⟩
    · simp only [A, B, C, D, E, F, L0, bs_p, u2_p, i10, ite_true, ite_false, f0, not_false_eq_true, m1, T, I, wl_p, W3, I4, I5, d1, Y, s_done]
    · simp only [A, B, C, D, E, F, L0, bs_p, u2_p, i10, ite_true, ite_false, f0, not_false_eq_true, m1, T, I, wl_p, W3, I4, I5, d1, Y, s_done]
  · rcases dd with ⟨d1, rfl⟩ | ⟨d1, rfl⟩
    · simp only [A, B, C, D, E, F, L0, bs_p, u2_p, i10, ite_true, ite_false, f0, not_false_eq_true, m1, T, I, wl_p, W3, I4, I5, d1, Y, s_done]
    · simp only [A, B, C, D, E, F, L0, bs_p, u2_p, i10, ite_true, ite_false, f0, not_false_eq_true, m1, T, I, wl_p, W3, I4, I5, d1, Y, s_done]
end
end
section
set_option maxHeartbeats 16000000 in
theorem op_release {S : Ab} (hG : Good S) {x a : Int} (x1 : -2147483648 ≤ x) (x2 : x < 2147483648) (a1 : -2147483648 ≤ a) (a2 : a < 2147483648) : Op S [0, 1, 4, 3] (fun e => if e = 0 then 1 else if e = 1 then 2 else if e = 4 then 3 else 4) (fun w => f_X1_letGo w (jI x) (jI a)) (fun w => f_X11_releases w (jI x) (jI a)) := by
  have hg := hG.1
  have cg : ∀ w, CSt w 1 S → 0 ≤ x ∧ x < S 0 → f_X7_isGear w (jI x) = some (jI 1) := fun w h q => by rw [s_isGear h hG x1 x2, bZ_pos q]
  have rg : ∀ w, RSt w 142 0 S → 0 ≤ x ∧ x < S 0 → f_X11_isGear w (jI x) = some (jI 1) := fun w h q => by rw [s_rIsGear h hG x1 x2, bZ_pos q]
  have ri : ∀ w, 1 ≤ a ∧ a ≤ 50 → f_X11_in w (jI a) (1 : Int32) (50 : Int32) = some (jI 1) := fun w q => by rw [l32_1, l32_50, s_in w a1 a2 (by omega) (by omega) (by omega) (by omega), bZ_pos q]
  have k1 : 1 ≤ a ∧ a ≤ 50 → ¬ jI a < (1 : Int32) := fun q => by rw [l32_1, jI_lt (by omega) (by omega) (by omega) (by omega)]; omega
  have k2 : 1 ≤ a ∧ a ≤ 50 → jI a ≤ (50 : Int32) := fun q => by rw [l32_50, jI_le (by omega) (by omega) (by omega) (by omega)]; omega
  by_cases q : 0 ≤ x ∧ x < S 0
  · by_cases q1 : 1 ≤ a ∧ a ≤ 50
    · by_cases q2 : 0 < S (26 + x)
      · by_cases q3 : Blk S (TU S x) x
        · refine ⟨.inl 3, ok_e (e := 3) (by decide), fun w h => ?_, fun w h => ?_⟩
          · obtain ⟨w', m, hr, hs, hC, h'⟩ := s_trace hG h q.1 q.2
            obtain ⟨r, hr2, ⟨rfl, hx⟩ | ⟨rfl, hx⟩⟩ := s_isBlocked h' hG hC (tu_b hG q.1 q.2) (tu_out hG q.1 q.2) q.1 (show x < 10 by omega)
            · exact absurd q3 hx
            · exact ⟨(-4 : Int32), w', lg_4 (cg w h q) (k1 q1) (k2 q1) (by rw [s_hasSpring h hG q.1 (by omega), bZ_pos q2]) hr hr2, CO.err (hs.mono (fun k => KT_C)) rfl h'⟩
          · obtain ⟨w', u, hr, hs, hR, hI, hb⟩ := s_rRubs hG h q.1 q.2
            have e := hI.uniq hG.2.2.2.2.2.2 q.1 (show x < 10 by omega) (tu_is hG q.1 q.2)
            have hR := hR.congr e
            have h' := h.kept (hs.1 142 (by unfold KU; omega)).2
            obtain ⟨r, hr2, ⟨rfl, hx⟩ | ⟨rfl, hx⟩⟩ := s_rHindered h' hG hR (tu_b hG q.1 q.2) q.1 (show x < 10 by omega)
            · exact absurd q3 hx
            · exact ⟨jI 0, uI w' 141 12 (jI 4), rl_4 (rg w h q) (ri w q1) (by rw [s_rHasSpring h hG q.1 (by omega), bZ_pos q2]) hr hr2, RO.err (hs.mono (fun k => KU_M)) (hs.1 141 (by unfold KU; omega)).1 rfl⟩
        · have fb := dg_b S (TU S x)
          have fp := ct_pos (u := TU S x) q.1 (show x < 10 by omega) (by rw [tu_d hG q.1 q.2]; decide)
          have kx := hG.2.1 x q.1 (by omega)
          have k7 := kx.2.2.2.2.2.2.1
          have k9 := kx.2.2.2.2.2.2.2
          have dv0 : 0 ≤ S (36 + x) / dg S (TU S x) := Int.ediv_nonneg (by omega) (by omega)
          have dv1 : dg S (TU S x) * (S (36 + x) / dg S (TU S x)) ≤ S (36 + x) := Int.mul_ediv_self_le (by omega)
          have dv2 : S (36 + x) / dg S (TU S x) ≤ S (36 + x) := Int.ediv_le_self _ (by omega)
          generalize hL : S (36 + x) / dg S (TU S x) = L at dv0 dv1 dv2
          obtain ⟨c, hc⟩ : ∃ c, c = if L < a then L else a := ⟨_, rfl⟩
          have cb : 0 ≤ c ∧ c ≤ 50 ∧ c ≤ L := by rw [hc]; split <;> omega
          have cf : dg S (TU S x) * c ≤ S (36 + x) := Int.le_trans (Int.mul_le_mul_of_nonneg_left cb.2.2 (by omega)) dv1
          have cf0 : 0 ≤ dg S (TU S x) * c := Int.mul_nonneg (by omega) cb.1
          have hG' : Good (rn S x c) := hG.rel q.1 q.2 cb.1 cb.2.1 cf fb.1
          refine ⟨.inr (c, rn S x c), ⟨cb.1, by omega, hG'⟩, fun w h => ?_, fun w h => ?_⟩
          · obtain ⟨w', m, hr, hs, hC, h'⟩ := s_trace hG h q.1 q.2
            obtain ⟨r, hr2, ⟨rfl, hx⟩ | ⟨rfl, hx⟩⟩ := s_isBlocked h' hG hC (tu_b hG q.1 q.2) (tu_out hG q.1 q.2) q.1 (show x < 10 by omega)
            · have hd := s_drag h' hG hC (tu_b hG q.1 q.2) (tu_out hG q.1 q.2)
              have hm : (if jI L < jI a then jI L else jI a) = jI c := by
                rw [hc]
                by_cases z : L < a
                · rw [if_pos z, if_pos (by rw [jI_lt (by omega) (by omega) (by omega) (by omega)]; exact z)]
                · rw [if_neg z, if_neg (by rw [jI_lt (by omega) (by omega) (by omega) (by omega)]; exact z)]
              have ix : inR (jI x) 10 = true := by rw [inR_j (by omega) (by omega)]; omega
              have ex : (jI x).toNatClampNeg = x.toNat := jI_clamp (by omega) (by omega)
              have hq : f_X4_quotient (gI w' 8 (jI x).toNatClampNeg).toInt64 (jI (dg S (TU S x))).toInt64 = some (jL L) := by
                rw [ex, c_n h' x q.1 (by omega), jI_toL (by omega) (by omega), jI_toL (by omega) (by omega), s_quot (by omega) (by omega) (by omega) (by omega), hL]
              by_cases z : c = 0
              · subst z
                exact ⟨jI 0, w', lg_z (cg w h q) (k1 q1) (k2 q1) (by rw [s_hasSpring h hG q.1 (by omega), bZ_pos q2]) hr hr2 hd ix hq (by rw [jL_toI]; exact hm) (by decide +kernel), CO.val (hs.mono (fun k => KT_C)) rfl (h'.congr (rn_0 hG))⟩
              · have u0 : CSt (uI (uI (uI w' 8 x.toNat (jI (S (36 + x) - dg S (TU S x) * c))) 1 15 (jI (S 4 + dg S (TU S x) * c))) 1 16 (jI (S 5 + 1))) 1 (ru S x c) := by
                  have := ((h'.put_n (v := S (36 + x) - dg S (TU S x) * c) q.1 (show x < 10 by omega)).put_tk (v := S 4 + dg S (TU S x) * c)).put_rl (v := S 5 + 1)
                  unfold ru
                  rw [if_pos (show 0 < c by omega)]
                  exact this
                obtain ⟨w2, hw2⟩ : ∃ w2, w2 = uI (uI (uI w' 8 x.toNat (jI (S (36 + x) - dg S (TU S x) * c))) 1 15 (jI (S 4 + dg S (TU S x) * c))) 1 16 (jI (S 5 + 1)) := ⟨_, rfl⟩
                rw [← hw2] at u0
                have hC2 : CT w2 (TU S x) (ct (TU S x)) m := by
                  rw [hw2]
                  obtain ⟨c1, c2, c3⟩ := hC
                  exact ⟨fun y y0 y1 => c1 y y0 y1, by rw [gI_uI, if_neg (by omega), gI_uI, if_neg (by omega), gI_uI, if_neg (by omega)]; exact c2, fun k k0 k1 => by rw [gI_uI, if_neg (by omega), gI_uI, if_neg (by omega), gI_uI, if_neg (by omega)]; exact c3 k k0 k1⟩
                have r0 : ru S x c 0 = S 0 := ru_o (by omega) (by omega) (by omega)
                obtain ⟨w3, hr3, hs3, h3⟩ := s_turnTrain (c := c) (e := er S x c) (rg1 (c := c) hG q.1 (show x < 10 by omega)) (by rw [r0]; omega) u0 hC2 (tu_b hG q.1 q.2) (fun y y0 y1 y2 => tu_out hG q.1 q.2 y y0 y1 (by rw [r0] at y2; exact y2)) cb.1 cb.2.1 (er_c S x c)
                have t0 : t1 (ru S x c) (TU S x) c (er S x c) 0 = S 0 := by rw [t1_o (by omega) (by omega), r0]
                obtain ⟨w4, hr4, hs4, h4⟩ := s_dry (rg2 (c := c) hG q.1 q.2 cb.1 cb.2.1) (fun i i0 i1 i2 => by
                  rw [t0] at i0
                  rw [t1_o (z := 66 + i) (by omega) (by omega)] at i2
                  rw [t1_w (by omega) i1, if_neg (fun z => z.1 (tu_out hG q.1 q.2 i (by omega) i1 i0))]
                  exact ((rg1 (x := x) (c := c) hG q.1 (by omega) i (by omega) i1).2.2 i2).2) (by rw [t0]; omega) h3
                have hsa : Sm KC w' w2 := by rw [hw2]; exact ((Sm.wI w' (by unfold KC; omega)).tr (Sm.wI _ (by unfold KC; omega))).tr (Sm.wI _ (by unfold KC; omega))
                refine ⟨jI c, w4, lg_p (cg w h q) (k1 q1) (k2 q1) (by rw [s_hasSpring h hG q.1 (by omega), bZ_pos q2]) hr hr2 hd ix hq (by rw [jL_toI]; exact hm) ?_ (w2 := w2) ?_ ?_ hr4, CO.val ((((hs.mono (fun k => KT_C)).tr hsa).tr (hs3.mono (fun k hk => by unfold KA at hk; unfold KC; omega))).tr (hs4.mono (fun k hk => by unfold KD at hk; unfold KC; omega))) rfl h4⟩
                · rw [l32_0, jI_le (by omega) (by omega) (by omega) (by omega)]; omega
                · rw [hw2, ex, c_n h' x q.1 (by omega), jI_mul, jI_sub, gI_uI, if_neg (by omega), c_tk h', jI_add, gI_uI, if_neg (by omega), gI_uI, if_neg (by omega), c_rl h', l32_1, jI_add]
                · have v9 : gI w2 9 (jI x).toNatClampNeg = jI (S (46 + x)) := by
                    rw [ex, hw2, gI_uI, if_neg (by omega), gI_uI, if_neg (by omega), gI_uI, if_neg (by omega), c_v h' x q.1 (by omega)]
                  rcases k7 with k7 | k7
                  · rw [show er S x c = c by unfold er; rw [k7, if_neg (by decide)]] at hr3
                    exact Or.inl ⟨by rw [v9, k7]; rfl, hr3⟩
                  · rw [show er S x c = -c by unfold er; rw [k7, if_pos rfl], ← jI_neg] at hr3
                    exact Or.inr ⟨by rw [v9, k7]; decide +kernel, hr3⟩
            · exact absurd hx q3
          · obtain ⟨w', u, hr, hs, hR, hI, hb⟩ := s_rRubs hG h q.1 q.2
            have e := hI.uniq hG.2.2.2.2.2.2 q.1 (show x < 10 by omega) (tu_is hG q.1 q.2)
            have hR := hR.congr e
            have h' := h.kept (hs.1 142 (by unfold KU; omega)).2
            have edg : dg S u = dg S (TU S x) := by
              unfold dg
              rw [ct_congr (u := u) (v := TU S x) (fun y y0 y1 => by rw [e y y0 y1]), sm_congr (g := fun i => if u i ≠ 0 ∧ S (66 + i) = 0 then 1 else 0) (h := fun i => if TU S x i ≠ 0 ∧ S (66 + i) = 0 then 1 else 0) (fun i i0 i1 => by show (if u i ≠ 0 ∧ _ then _ else _) = _; rw [e i i0 i1])]
            rw [edg] at hr
            obtain ⟨r, hr2, ⟨rfl, hx⟩ | ⟨rfl, hx⟩⟩ := s_rHindered h' hG hR (tu_b hG q.1 q.2) q.1 (show x < 10 by omega)
            · obtain ⟨w2, hr3, hs3, h3⟩ := s_rTurnsBy (x := x) (c := c) (e := er S x c) (fun i i0 i1 => ⟨(hG.2.1 i i0 i1).2.2.1, (hG.2.1 i i0 i1).2.2.2.1⟩) h' hR (tu_b hG q.1 q.2) cb.1 cb.2.1 q.1 (by omega) k7 rfl
              have e36 : gL w2 142 (36 + x).toNat = jL (S (36 + x)) := by rw [r_g h3 _ (by omega) (by omega), t1_o (by omega) (by omega)]
              have e4 : gL w2 142 (4 : Int).toNat = jL (S 4) := by rw [r_g h3 _ (by omega) (by omega), t1_o (by omega) (by omega)]
              have e5 : gL w2 142 (5 : Int).toNat = jL (S 5) := by rw [r_g h3 _ (by omega) (by omega), t1_o (by omega) (by omega)]
              have h4 := RSt.rel (f := dg S (TU S x) * c) (d := if 0 < c then 1 else 0) q.1 (show x < 10 by omega) h3
              obtain ⟨w4, hr4, hs4, h5⟩ := s_rDries (rg2 (c := c) hG q.1 q.2 cb.1 cb.2.1) h4
              have hs6 : Sm KM w w4 := (((((hs.mono (fun k => KU_M)).tr (hs3.mono (fun k hk => by unfold KG at hk; unfold KM; omega))).tr (Sm.wL _ (by unfold KM; omega))).tr (Sm.wL _ (by unfold KM; omega))).tr (Sm.wL _ (by unfold KM; omega))).tr (hs4.mono (fun k hk => by unfold KG at hk; unfold KM; omega))
              have h141 : gI w4 141 = gI w 141 := ((hs4.1 141 (by unfold KG; omega)).1.trans (hs3.1 141 (by unfold KG; omega)).1).trans (hs.1 141 (by unfold KU; omega)).1
              have et : (S (36 + x)).tdiv (dg S (TU S x)) = L := by rw [Int.tdiv_eq_ediv_of_nonneg (by omega)]; exact hL
              have i36 : ((36 : Int32) + jI x) = jI (36 + x) := by rw [l32_36, jI_add]
              have c36 : ((36 : Int32) + jI x).toNatClampNeg = (36 + x).toNat := by rw [i36, jI_clamp (by omega) (by omega)]
              have ed : jI (S (36 + x)) / jI (dg S (TU S x)) = jI L := by rw [jI_div (by omega) (by omega) (by omega) (by omega), et]
              have c4 : ((4 : Int32)).toNatClampNeg = (4 : Int).toNat := rfl
              have c5 : ((5 : Int32)).toNatClampNeg = (5 : Int).toNat := rfl
              have em : (jI (dg S (TU S x)) * jI c).toInt64 = jL (dg S (TU S x) * c) := by rw [jI_mul, jI_toL (by omega) (by omega)]
              refine ⟨jI c, uI w4 141 12 (jI 0), rl_p (rg w h q) (ri w q1) (by rw [s_rHasSpring h hG q.1 (by omega), bZ_pos q2]) hr hr2 (by rw [i36]; exact s_at h' (by omega) (by omega)) ?_ ?_ (by rw [jI_toL (by omega) (by omega)]; exact hr3) (by rw [i36, inR_j (by omega) (by omega)]; omega) rfl (d := jL (if 0 < c then 1 else 0)) ?_ ?_, RO.val hs6 h141 h5⟩
              · rw [l32_0, jI_eq (by omega) (by omega) (by omega) (by omega)]; omega
              · rw [ed]
                by_cases z : L ≤ a
                · refine Or.inl ⟨by rw [jI_le (by omega) (by omega) (by omega) (by omega)]; exact z, ?_⟩
                  rw [show c = L by rw [hc]; split <;> omega]
                · refine Or.inr ⟨by rw [jI_le (by omega) (by omega) (by omega) (by omega)]; exact z, ?_⟩
                  rw [show c = a by rw [hc]; split <;> omega]
              · rw [l32_0, jI_le (by omega) (by omega) (by omega) (by omega)]
                by_cases z : 0 < c
                · exact Or.inr ⟨by omega, by rw [if_pos z]; rfl⟩
                · exact Or.inl ⟨by omega, by rw [if_neg z]; rfl⟩
              · rw [c36, e36, em, jL_sub, c4, gL_uL, if_neg (by omega), e4, jL_add, c5, gL_uL, if_neg (by omega), gL_uL, if_neg (by omega), e5, jL_add]
                exact hr4
            · exact absurd hx q3
      · refine ⟨.inl 4, ok_e (e := 4) (by decide), fun w h => ?_, fun w h => ?_⟩
        · exact ⟨(-5 : Int32), w, lg_5 (cg w h q) (k1 q1) (k2 q1) (by rw [s_hasSpring h hG q.1 (by omega), bZ_neg q2]), CO.err (Sm.refl w) rfl h⟩
        · exact ⟨jI 0, uI w 141 12 (jI 3), rl_3 (rg w h q) (ri w q1) (by rw [s_rHasSpring h hG q.1 (by omega), bZ_neg q2]), RO.err (Sm.refl w) rfl rfl⟩
    · refine ⟨.inl 1, ok_e (e := 1) (by decide), fun w h => ?_, fun w h => ?_⟩
      · refine ⟨(-2 : Int32), w, lg_1 (cg w h q) ?_, CO.err (Sm.refl w) rfl h⟩
        rw [l32_1, l32_50, jI_lt (by omega) (by omega) (by omega) (by omega), jI_le (by omega) (by omega) (by omega) (by omega)]
        omega
      · exact ⟨jI 0, uI w 141 12 (jI 2), rl_1 (rg w h q) (by rw [l32_1, l32_50, s_in w a1 a2 (by omega) (by omega) (by omega) (by omega), bZ_neg q1]), RO.err (Sm.refl w) rfl rfl⟩
  · refine ⟨.inl 0, ok_e (e := 0) (by decide), fun w h => ?_, fun w h => ?_⟩
    · exact ⟨(-1 : Int32), w, lg_0 (by rw [s_isGear h hG x1 x2, bZ_neg q]), CO.err (Sm.refl w) rfl h⟩
    · exact ⟨jI 0, uI w 141 12 (jI 1), rl_0 (by rw [s_rIsGear h hG x1 x2, bZ_neg q]), RO.err (Sm.refl w) rfl rfl⟩
end
section
/-! COPIES of the state, and the states before the latest changes -/
def Kb (b : Nat) (k : Nat) : Prop := b ≤ k ∧ k < b + 11
theorem Kb.no {b c : Nat} (hd : b + 11 ≤ c ∨ c + 11 ≤ b) {r : Nat} (hr : r < 11) : ¬ Kb b (c + r) := by unfold Kb; omega
theorem CSt.far {w v : Wd} {b c : Nat} {S : Ab} (h : CSt w c S) (hs : Sm (Kb b) w v) (hd : b + 11 ≤ c ∨ c + 11 ≤ b) : CSt v c S :=
  h.kept (fun r hr => hs.1 _ (Kb.no hd hr))
/-- a gear's numbers, copied -/
def cpW (w : Wd) (b0 b1 i : Nat) : Wd := uI (uI (uI (uI (uL (uI (uL (uI w (b0 + 1) i (gI w (b1 + 1) i)) (b0 + 2) i (gL w (b1 + 2) i)) (b0 + 3) i (gI w (b1 + 3) i)) (b0 + 4) i (gL w (b1 + 4) i)) (b0 + 5) i (gI w (b1 + 5) i)) (b0 + 6) i (gI w (b1 + 6) i)) (b0 + 7) i (gI w (b1 + 7) i)) (b0 + 8) i (gI w (b1 + 8) i)
def CP (w : Wd) (b : Nat) (S : Ab) (i : Int) : Prop := gI w (b + 1) i.toNat = jI (S (6 + i)) ∧ gL w (b + 2) i.toNat = jL (S (16 + i)) ∧ gI w (b + 3) i.toNat = jI (S (66 + i)) ∧ (S (66 + i) = 1 → gL w (b + 4) i.toNat = jL (S (76 + i))) ∧ gI w (b + 5) i.toNat = jI (S (56 + i)) ∧ gI w (b + 6) i.toNat = jI (S (26 + i)) ∧ gI w (b + 7) i.toNat = jI (S (36 + i)) ∧ gI w (b + 8) i.toNat = jI (S (46 + i))
theorem cpW_s (w : Wd) (b0 b1 i : Nat) : Sm (Kb b0) w (cpW w b0 b1 i) := by
  unfold cpW
  refine (((((((Sm.wI w ?_).tr (Sm.wL _ ?_)).tr (Sm.wI _ ?_)).tr (Sm.wL _ ?_)).tr (Sm.wI _ ?_)).tr (Sm.wI _ ?_)).tr (Sm.wI _ ?_)).tr (Sm.wI _ ?_) <;> (unfold Kb; omega)
theorem cpW_at {w : Wd} {b0 b1 i : Nat} {S : Ab} (hd : b0 + 11 ≤ b1 ∨ b1 + 11 ≤ b0) (h : CP w b1 S i) : CP (cpW w b0 b1 i) b0 S i := by
  obtain ⟨h1, h2, h3, h4, h5, h6, h7, h8⟩ := h
  rw [Int.toNat_natCast] at h1 h2 h3 h4 h5 h6 h7 h8
  unfold CP cpW
  rw [Int.toNat_natCast]
  refine ⟨?_, ?_, ?_, fun q => ?_, ?_, ?_, ?_, ?_⟩
  · simp (disch := omega) only [gI_uI, gI_uL, if_neg, if_pos, and_self, ite_true]; exact h1
  · simp (disch := omega) only [gL_uI, gL_uL, if_neg, if_pos, and_self, ite_true]; exact h2
  · simp (disch := omega) only [gI_uI, gI_uL, if_neg, if_pos, and_self, ite_true]; exact h3
  · simp (disch := omega) only [gL_uI, gL_uL, if_neg, if_pos, and_self, ite_true]; exact h4 q
  · simp (disch := omega) only [gI_uI, gI_uL, if_neg, if_pos, and_self, ite_true]; exact h5
  · simp (disch := omega) only [gI_uI, gI_uL, if_neg, if_pos, and_self, ite_true]; exact h6
  · simp (disch := omega) only [gI_uI, gI_uL, if_neg, if_pos, and_self, ite_true]; exact h7
  · simp (disch := omega) only [gI_uI, gI_uL, if_neg, if_pos, and_self, ite_true]; exact h8
theorem cpW_ne {w : Wd} {b0 b1 i : Nat} {S : Ab} {x : Int} (h0 : 0 ≤ x) (hx : x ≠ i) (h : CP w b0 S x) : CP (cpW w b0 b1 i) b0 S x := by
  obtain ⟨h1, h2, h3, h4, h5, h6, h7, h8⟩ := h
  unfold CP cpW
  refine ⟨?_, ?_, ?_, fun q => ?_, ?_, ?_, ?_, ?_⟩
  · simp (disch := omega) only [gI_uI, gI_uL, if_neg]; exact h1
  · simp (disch := omega) only [gL_uI, gL_uL, if_neg]; exact h2
  · simp (disch := omega) only [gI_uI, gI_uL, if_neg]; exact h3
  · simp (disch := omega) only [gL_uI, gL_uL, if_neg]; exact h4 q
  · simp (disch := omega) only [gI_uI, gI_uL, if_neg]; exact h5
  · simp (disch := omega) only [gI_uI, gI_uL, if_neg]; exact h6
  · simp (disch := omega) only [gI_uI, gI_uL, if_neg]; exact h7
  · simp (disch := omega) only [gI_uI, gI_uL, if_neg]; exact h8
theorem s_copy {w : Wd} {b0 b1 : Nat} {S : Ab} (hG : Good S) (h : CSt w b1 S) (hd : b0 + 11 ≤ b1 ∨ b1 + 11 ≤ b0) : ∃ w', f_X7_copyFrom w b0 b1 = some w' ∧ Sm (Kb b0) w w' ∧ CSt w' b0 S := by
  have hg := hG.1
  obtain ⟨r, hr, hP⟩ := lp (fun n (s : Int32 × Wd) => p_X7_copyFrom_2 b0 b1 n s.1 s.2)
    (fun i s => s.1 = jI i ∧ Sm (Kb b0) w s.2 ∧ ∀ x : Int, 0 ≤ x → x < i → CP s.2 b0 S x) 10
    (fun r => ∃ q, r = .inl q ∧ Sm (Kb b0) w q.2 ∧ ∀ x : Int, 0 ≤ x → x < 10 → CP q.2 b0 S x)
    (fun i n s hi hI => by
      obtain ⟨y, v⟩ := s
      obtain ⟨rfl, hs, hx⟩ := hI
      have hs : Sm (Kb b0) w v := hs
      have hc : CSt v b1 S := h.far hs hd
      have hp : CP v b1 S i := hc.1 i (by omega) (by omega)
      have k := hG.2.1 i (by omega) (by omega)
      obtain ⟨h1, h2, h3, h4, h5, h6, h7, h8⟩ := hp
      rw [Int.toNat_natCast] at h3 h5 h8
      have ka := k.2.2.2.1
      have kb := k.2.2.2.2.2.1
      have kc := k.2.2.2.2.2.2.1
      have n3 : vp_nar .boolean (gI v (b1 + 3) i) = gI v (b1 + 3) i := by rw [h3]; exact z_bool (by omega) (by omega) k.2.2.2.1
      have n5 : vp_nar .boolean (gI v (b1 + 5) i) = gI v (b1 + 5) i := by rw [h5]; exact z_bool (by omega) (by omega) k.2.2.2.2.2.1
      have n8 : vp_nar .boolean (gI v (b1 + 8) i) = gI v (b1 + 8) i := by rw [h8]; exact z_bool (by omega) (by omega) k.2.2.2.2.2.2.1
      refine Or.inl ⟨(jI ((i + 1 : Nat) : Int), cpW v b0 b1 i), ⟨rfl, hs.tr (cpW_s v b0 b1 i), fun x x0 x1 => ?_⟩, ?_⟩
      · by_cases z : x = i
        · rw [z]; exact cpW_at hd (hc.1 i (by omega) (by omega))
        · exact cpW_ne x0 z (hx x x0 (by omega))
      · show p_X7_copyFrom_2 b0 b1 (n + 1) (jI i) v = p_X7_copyFrom_2 b0 b1 n (jI ((i + 1 : Nat) : Int)) (cpW v b0 b1 i)
        unfold cpW
        rw [p_X7_copyFrom_2]
        simp (disch := omega) only [l32_0, l32_1, l32_2, l32_3, l32_4, l32_5, l32_6, l32_7, l32_8, l32_9, l32_10, l32_11, l32_12, l32_13, l32_14, l32_15, l32_16, l32_17, l32_18, l32_19, l32_20, l32_21, l32_22, l32_23, l32_24, l32_25, l32_26, l32_27, l32_28, l32_29, l32_30, l32_31, l32_32, l32_33, l32_34, l32_35, l32_36, l32_37, l32_38, l32_39, l32_40, l32_41, l32_42, l32_43, l32_44, l32_45, l32_46, l32_47, l32_48, l32_49, l32_50, l32_51, l32_52, l32_53, l32_54, l32_55, l32_56, l32_57, l32_58, l32_59, l32_60, l32_61, l32_62, l32_63, l32_64, l32_65, l32_66, l32_76, l32_86, l32_90, l32_92, l32_97, l32_98, l32_99, l32_100, l32_101, l32_102, l32_103, l32_104, l32_105, l32_106, l32_107, l32_108, l32_109, l32_110, l32_111, l32_112, l32_113, l32_114, l32_115, l32_116, l32_117, l32_118, l32_119, l32_120, l32_121, l32_122, l32_123, l32_124, l32_125, l32_126, l32_192, l32_200, l32_255, l32_999, l32_1000, l32_1344, l32_2147483639, l32_2147483647, l64_0, l64_1, l64_99, l64_999, l64_24883200000, l64_746496000000, jI_add, jI_sub, jI_mul, jI_neg, jL_add, jL_sub, jL_mul, jL_neg, jL_toI, jI_toL, jI_eqT, jI_eqF, jI_ltT, jI_ltF, jI_leT, jI_leF, jL_eqT, jL_eqF, jL_ltT, jL_ltF, jL_leT, jL_leF, inR_T, inR_F, bZ_T, bZ_F, not_true_eq_false, not_false_eq_true, jI_clamp, nI_j, bs_p, wl_p, u2_p, u3_p, u4_p, u5_p, zl_p, zr_p, mn_p, ms_p, if_pos, if_neg, ite_true, ite_false, Int.toNat_natCast, gI_uI, gI_uL, gL_uI, gL_uL, n3, n5, n8] <;> rfl)
    (fun n s hI => by
      obtain ⟨y, v⟩ := s
      obtain ⟨rfl, hs, hx⟩ := hI
      refine ⟨.inl (jI 10, v), ?_, _, rfl, hs, hx⟩
      show p_X7_copyFrom_2 b0 b1 (n + 1) (jI ((10 : Nat) : Int)) v = _
      rw [p_X7_copyFrom_2, show ((10 : Nat) : Int) = 10 from rfl]
      simp (disch := omega) only [l32_0, l32_1, l32_2, l32_3, l32_4, l32_5, l32_6, l32_7, l32_8, l32_9, l32_10, l32_11, l32_12, l32_13, l32_14, l32_15, l32_16, l32_17, l32_18, l32_19, l32_20, l32_21, l32_22, l32_23, l32_24, l32_25, l32_26, l32_27, l32_28, l32_29, l32_30, l32_31, l32_32, l32_33, l32_34, l32_35, l32_36, l32_37, l32_38, l32_39, l32_40, l32_41, l32_42, l32_43, l32_44, l32_45, l32_46, l32_47, l32_48, l32_49, l32_50, l32_51, l32_52, l32_53, l32_54, l32_55, l32_56, l32_57, l32_58, l32_59, l32_60, l32_61, l32_62, l32_63, l32_64, l32_65, l32_66, l32_76, l32_86, l32_90, l32_92, l32_97, l32_98, l32_99, l32_100, l32_101, l32_102, l32_103, l32_104, l32_105, l32_106, l32_107, l32_108, l32_109, l32_110, l32_111, l32_112, l32_113, l32_114, l32_115, l32_116, l32_117, l32_118, l32_119, l32_120, l32_121, l32_122, l32_123, l32_124, l32_125, l32_126, l32_192, l32_200, l32_255, l32_999, l32_1000, l32_1344, l32_2147483639, l32_2147483647, l64_0, l64_1, l64_99, l64_999, l64_24883200000, l64_746496000000, jI_add, jI_sub, jI_mul, jI_neg, jL_add, jL_sub, jL_mul, jL_neg, jL_toI, jI_toL, jI_eqT, jI_eqF, jI_ltT, jI_ltF, jI_leT, jI_leF, jL_eqT, jL_eqF, jL_ltT, jL_ltF, jL_leT, jL_leF, inR_T, inR_F, bZ_T, bZ_F, not_true_eq_false, not_false_eq_true, jI_clamp, nI_j, bs_p, wl_p, u2_p, u3_p, u4_p, u5_p, zl_p, zr_p, mn_p, ms_p, if_pos, if_neg, ite_true, ite_false]) 2000 0 (jI 0, w) (by omega) (by omega) ⟨rfl, Sm.refl w, fun x x0 x1 => by omega⟩
  obtain ⟨⟨y1, w1⟩, rfl, hs1, hx1⟩ := hP
  have hr : p_X7_copyFrom_2 b0 b1 2000 (jI 0) w = some (.inl (y1, w1)) := hr
  obtain ⟨r2, hr2, hP2⟩ := lp (fun n (s : Int32 × Wd) => p_X7_copyFrom_112 b0 b1 n s.1 s.2)
    (fun i s => s.1 = jI i ∧ Sm (Kb b0) w s.2 ∧ (∀ x : Int, 0 ≤ x → x < 10 → CP s.2 b0 S x) ∧ ∀ k : Int, 0 ≤ k → k < i → gI s.2 (b0 + 9) k.toNat = jI (jk (S (92 + k)))) 100
    (fun r => ∃ q, r = .inl q ∧ Sm (Kb b0) w q.2 ∧ (∀ x : Int, 0 ≤ x → x < 10 → CP q.2 b0 S x) ∧ ∀ k : Int, 0 ≤ k → k < 100 → gI q.2 (b0 + 9) k.toNat = jI (jk (S (92 + k))))
    (fun i n s hi hI => by
      obtain ⟨y, v⟩ := s
      obtain ⟨rfl, hs, hx, hk⟩ := hI
      have hs : Sm (Kb b0) w v := hs
      have hc : CSt v b1 S := h.far hs hd
      have e := hc.2.1 i (by omega) (by omega)
      rw [Int.toNat_natCast] at e
      refine Or.inl ⟨(jI ((i + 1 : Nat) : Int), uI v (b0 + 9) i (jI (jk (S (92 + i))))), ⟨rfl, hs.tr (Sm.wI v (by unfold Kb; omega)), fun x x0 x1 => ?_, fun k k0 k1 => ?_⟩, ?_⟩
      · obtain ⟨h1, h2, h3, h4, h5, h6, h7, h8⟩ := hx x x0 x1
        unfold CP
        refine ⟨?_, ?_, ?_, fun q => ?_, ?_, ?_, ?_, ?_⟩
        · rw [gI_uI, if_neg (by omega)]; exact h1
        · exact h2
        · rw [gI_uI, if_neg (by omega)]; exact h3
        · exact h4 q
        · rw [gI_uI, if_neg (by omega)]; exact h5
        · rw [gI_uI, if_neg (by omega)]; exact h6
        · rw [gI_uI, if_neg (by omega)]; exact h7
        · rw [gI_uI, if_neg (by omega)]; exact h8
      · show gI (uI v (b0 + 9) i (jI (jk (S (92 + i))))) (b0 + 9) k.toNat = _
        rw [gI_uI]
        by_cases z : k = i
        · rw [z, if_pos ⟨rfl, Int.toNat_natCast i⟩]
        · rw [if_neg (by omega)]; exact hk k k0 (by omega)
      · show p_X7_copyFrom_112 b0 b1 (n + 1) (jI i) v = p_X7_copyFrom_112 b0 b1 n (jI ((i + 1 : Nat) : Int)) (uI v (b0 + 9) i (jI (jk (S (92 + i)))))
        rw [p_X7_copyFrom_112]
        simp (disch := omega) only [l32_0, l32_1, l32_2, l32_3, l32_4, l32_5, l32_6, l32_7, l32_8, l32_9, l32_10, l32_11, l32_12, l32_13, l32_14, l32_15, l32_16, l32_17, l32_18, l32_19, l32_20, l32_21, l32_22, l32_23, l32_24, l32_25, l32_26, l32_27, l32_28, l32_29, l32_30, l32_31, l32_32, l32_33, l32_34, l32_35, l32_36, l32_37, l32_38, l32_39, l32_40, l32_41, l32_42, l32_43, l32_44, l32_45, l32_46, l32_47, l32_48, l32_49, l32_50, l32_51, l32_52, l32_53, l32_54, l32_55, l32_56, l32_57, l32_58, l32_59, l32_60, l32_61, l32_62, l32_63, l32_64, l32_65, l32_66, l32_76, l32_86, l32_90, l32_92, l32_97, l32_98, l32_99, l32_100, l32_101, l32_102, l32_103, l32_104, l32_105, l32_106, l32_107, l32_108, l32_109, l32_110, l32_111, l32_112, l32_113, l32_114, l32_115, l32_116, l32_117, l32_118, l32_119, l32_120, l32_121, l32_122, l32_123, l32_124, l32_125, l32_126, l32_192, l32_200, l32_255, l32_999, l32_1000, l32_1344, l32_2147483639, l32_2147483647, l64_0, l64_1, l64_99, l64_999, l64_24883200000, l64_746496000000, jI_add, jI_sub, jI_mul, jI_neg, jL_add, jL_sub, jL_mul, jL_neg, jL_toI, jI_toL, jI_eqT, jI_eqF, jI_ltT, jI_ltF, jI_leT, jI_leF, jL_eqT, jL_eqF, jL_ltT, jL_ltF, jL_leT, jL_leF, inR_T, inR_F, bZ_T, bZ_F, not_true_eq_false, not_false_eq_true, jI_clamp, nI_j, bs_p, wl_p, u2_p, u3_p, u4_p, u5_p, zl_p, zr_p, mn_p, ms_p, if_pos, if_neg, ite_true, ite_false, Int.toNat_natCast, e, jk_nar] <;> rfl)
    (fun n s hI => by
      obtain ⟨y, v⟩ := s
      obtain ⟨rfl, hs, hx, hk⟩ := hI
      refine ⟨.inl (jI 100, v), ?_, _, rfl, hs, hx, hk⟩
      show p_X7_copyFrom_112 b0 b1 (n + 1) (jI ((100 : Nat) : Int)) v = _
      rw [p_X7_copyFrom_112, show ((100 : Nat) : Int) = 100 from rfl]
      simp (disch := omega) only [l32_0, l32_1, l32_2, l32_3, l32_4, l32_5, l32_6, l32_7, l32_8, l32_9, l32_10, l32_11, l32_12, l32_13, l32_14, l32_15, l32_16, l32_17, l32_18, l32_19, l32_20, l32_21, l32_22, l32_23, l32_24, l32_25, l32_26, l32_27, l32_28, l32_29, l32_30, l32_31, l32_32, l32_33, l32_34, l32_35, l32_36, l32_37, l32_38, l32_39, l32_40, l32_41, l32_42, l32_43, l32_44, l32_45, l32_46, l32_47, l32_48, l32_49, l32_50, l32_51, l32_52, l32_53, l32_54, l32_55, l32_56, l32_57, l32_58, l32_59, l32_60, l32_61, l32_62, l32_63, l32_64, l32_65, l32_66, l32_76, l32_86, l32_90, l32_92, l32_97, l32_98, l32_99, l32_100, l32_101, l32_102, l32_103, l32_104, l32_105, l32_106, l32_107, l32_108, l32_109, l32_110, l32_111, l32_112, l32_113, l32_114, l32_115, l32_116, l32_117, l32_118, l32_119, l32_120, l32_121, l32_122, l32_123, l32_124, l32_125, l32_126, l32_192, l32_200, l32_255, l32_999, l32_1000, l32_1344, l32_2147483639, l32_2147483647, l64_0, l64_1, l64_99, l64_999, l64_24883200000, l64_746496000000, jI_add, jI_sub, jI_mul, jI_neg, jL_add, jL_sub, jL_mul, jL_neg, jL_toI, jI_toL, jI_eqT, jI_eqF, jI_ltT, jI_ltF, jI_leT, jI_leF, jL_eqT, jL_eqF, jL_ltT, jL_ltF, jL_leT, jL_leF, inR_T, inR_F, bZ_T, bZ_F, not_true_eq_false, not_false_eq_true, jI_clamp, nI_j, bs_p, wl_p, u2_p, u3_p, u4_p, u5_p, zl_p, zr_p, mn_p, ms_p, if_pos, if_neg, ite_true, ite_false]) 2000 0 (jI 0, w1) (by omega) (by omega) ⟨rfl, hs1, hx1, fun x x0 x1 => by omega⟩
  obtain ⟨⟨y2, w2⟩, rfl, hs2, hx2, hk2⟩ := hP2
  have hr2 : p_X7_copyFrom_112 b0 b1 2000 (jI 0) w1 = some (.inl (y2, w2)) := hr2
  obtain ⟨r3, hr3, hP3⟩ := lp (fun n (s : Int32 × Wd) => p_X7_copyFrom_138 b0 b1 n s.1 s.2)
    (fun i s => s.1 = jI i ∧ Sm (Kb b0) w s.2 ∧ (∀ k, k < 10 → gI s.2 (b0 + k) = gI w2 (b0 + k) ∧ gL s.2 (b0 + k) = gL w2 (b0 + k)) ∧ ∀ k : Int, 0 ≤ k → k < i → gI s.2 (b0 + 10) k.toNat = jI (S (86 + k))) 6
    (fun r => ∃ q, r = .inl q ∧ Sm (Kb b0) w q.2 ∧ (∀ k, k < 10 → gI q.2 (b0 + k) = gI w2 (b0 + k) ∧ gL q.2 (b0 + k) = gL w2 (b0 + k)) ∧ ∀ k : Int, 0 ≤ k → k < 6 → gI q.2 (b0 + 10) k.toNat = jI (S (86 + k)))
    (fun i n s hi hI => by
      obtain ⟨y, v⟩ := s
      obtain ⟨rfl, hs, hx, hk⟩ := hI
      have hs : Sm (Kb b0) w v := hs
      have hc : CSt v b1 S := h.far hs hd
      have e := hc.2.2.1 i (by omega) (by omega)
      rw [Int.toNat_natCast] at e
      refine Or.inl ⟨(jI ((i + 1 : Nat) : Int), uI v (b0 + 10) i (jI (S (86 + i)))), ⟨rfl, hs.tr (Sm.wI v (by unfold Kb; omega)), fun k hk9 => ?_, fun k k0 k1 => ?_⟩, ?_⟩
      · have h1 := hx k hk9
        refine ⟨?_, h1.2⟩
        rw [← h1.1]
        funext j
        show gI (uI v (b0 + 10) i (jI (S (86 + i)))) (b0 + k) j = gI v (b0 + k) j
        rw [gI_uI, if_neg (by omega)]
      · show gI (uI v (b0 + 10) i (jI (S (86 + i)))) (b0 + 10) k.toNat = _
        rw [gI_uI]
        by_cases z : k = i
        · rw [z, if_pos ⟨rfl, Int.toNat_natCast i⟩]
        · rw [if_neg (by omega)]; exact hk k k0 (by omega)
      · show p_X7_copyFrom_138 b0 b1 (n + 1) (jI i) v = p_X7_copyFrom_138 b0 b1 n (jI ((i + 1 : Nat) : Int)) (uI v (b0 + 10) i (jI (S (86 + i))))
        rw [p_X7_copyFrom_138]
        simp (disch := omega) only [l32_0, l32_1, l32_2, l32_3, l32_4, l32_5, l32_6, l32_7, l32_8, l32_9, l32_10, l32_11, l32_12, l32_13, l32_14, l32_15, l32_16, l32_17, l32_18, l32_19, l32_20, l32_21, l32_22, l32_23, l32_24, l32_25, l32_26, l32_27, l32_28, l32_29, l32_30, l32_31, l32_32, l32_33, l32_34, l32_35, l32_36, l32_37, l32_38, l32_39, l32_40, l32_41, l32_42, l32_43, l32_44, l32_45, l32_46, l32_47, l32_48, l32_49, l32_50, l32_51, l32_52, l32_53, l32_54, l32_55, l32_56, l32_57, l32_58, l32_59, l32_60, l32_61, l32_62, l32_63, l32_64, l32_65, l32_66, l32_76, l32_86, l32_90, l32_92, l32_97, l32_98, l32_99, l32_100, l32_101, l32_102, l32_103, l32_104, l32_105, l32_106, l32_107, l32_108, l32_109, l32_110, l32_111, l32_112, l32_113, l32_114, l32_115, l32_116, l32_117, l32_118, l32_119, l32_120, l32_121, l32_122, l32_123, l32_124, l32_125, l32_126, l32_192, l32_200, l32_255, l32_999, l32_1000, l32_1344, l32_2147483639, l32_2147483647, l64_0, l64_1, l64_99, l64_999, l64_24883200000, l64_746496000000, jI_add, jI_sub, jI_mul, jI_neg, jL_add, jL_sub, jL_mul, jL_neg, jL_toI, jI_toL, jI_eqT, jI_eqF, jI_ltT, jI_ltF, jI_leT, jI_leF, jL_eqT, jL_eqF, jL_ltT, jL_ltF, jL_leT, jL_leF, inR_T, inR_F, bZ_T, bZ_F, not_true_eq_false, not_false_eq_true, jI_clamp, nI_j, bs_p, wl_p, u2_p, u3_p, u4_p, u5_p, zl_p, zr_p, mn_p, ms_p, if_pos, if_neg, ite_true, ite_false, Int.toNat_natCast, e] <;> rfl)
    (fun n s hI => by
      obtain ⟨y, v⟩ := s
      obtain ⟨rfl, hs, hx, hk⟩ := hI
      refine ⟨.inl (jI 6, v), ?_, _, rfl, hs, hx, hk⟩
      show p_X7_copyFrom_138 b0 b1 (n + 1) (jI ((6 : Nat) : Int)) v = _
      rw [p_X7_copyFrom_138, show ((6 : Nat) : Int) = 6 from rfl]
      simp (disch := omega) only [l32_0, l32_1, l32_2, l32_3, l32_4, l32_5, l32_6, l32_7, l32_8, l32_9, l32_10, l32_11, l32_12, l32_13, l32_14, l32_15, l32_16, l32_17, l32_18, l32_19, l32_20, l32_21, l32_22, l32_23, l32_24, l32_25, l32_26, l32_27, l32_28, l32_29, l32_30, l32_31, l32_32, l32_33, l32_34, l32_35, l32_36, l32_37, l32_38, l32_39, l32_40, l32_41, l32_42, l32_43, l32_44, l32_45, l32_46, l32_47, l32_48, l32_49, l32_50, l32_51, l32_52, l32_53, l32_54, l32_55, l32_56, l32_57, l32_58, l32_59, l32_60, l32_61, l32_62, l32_63, l32_64, l32_65, l32_66, l32_76, l32_86, l32_90, l32_92, l32_97, l32_98, l32_99, l32_100, l32_101, l32_102, l32_103, l32_104, l32_105, l32_106, l32_107, l32_108, l32_109, l32_110, l32_111, l32_112, l32_113, l32_114, l32_115, l32_116, l32_117, l32_118, l32_119, l32_120, l32_121, l32_122, l32_123, l32_124, l32_125, l32_126, l32_192, l32_200, l32_255, l32_999, l32_1000, l32_1344, l32_2147483639, l32_2147483647, l64_0, l64_1, l64_99, l64_999, l64_24883200000, l64_746496000000, jI_add, jI_sub, jI_mul, jI_neg, jL_add, jL_sub, jL_mul, jL_neg, jL_toI, jI_toL, jI_eqT, jI_eqF, jI_ltT, jI_ltF, jI_leT, jI_leF, jL_eqT, jL_eqF, jL_ltT, jL_ltF, jL_leT, jL_leF, inR_T, inR_F, bZ_T, bZ_F, not_true_eq_false, not_false_eq_true, jI_clamp, nI_j, bs_p, wl_p, u2_p, u3_p, u4_p, u5_p, zl_p, zr_p, mn_p, ms_p, if_pos, if_neg, ite_true, ite_false]) 2000 0 (jI 0, w2) (by omega) (by omega) ⟨rfl, hs2, fun _ _ => ⟨rfl, rfl⟩, fun x x0 x1 => by omega⟩
  obtain ⟨⟨y3, w3⟩, rfl, hs3, hx3, hk3⟩ := hP3
  have hr3 : p_X7_copyFrom_138 b0 b1 2000 (jI 0) w2 = some (.inl (y3, w3)) := hr3
  have hs3 : Sm (Kb b0) w w3 := hs3
  have hc : CSt w3 b1 S := h.far hs3 hd
  obtain ⟨-, -, -, s0, s1, s2, s3, s4, s5, s6⟩ := hc
  have hz : (uI (uI (uI (uI (uI (uI (uI w3 b0 10 (jI (S 0))) b0 11 (jI (jc S / 2))) b0 12 (jI (S 1))) b0 13 (jI (S 2))) b0 14 (jI (S 3))) b0 15 (jI (S 4))) b0 16 (jI (S 5))) = (uI (uI (uI (uI (uI (uI (uI w3 b0 10 (jI (S 0))) b0 11 (jI (jc S / 2))) b0 12 (jI (S 1))) b0 13 (jI (S 2))) b0 14 (jI (S 3))) b0 15 (jI (S 4))) b0 16 (jI (S 5))) := rfl
  refine ⟨uI (uI (uI (uI (uI (uI (uI w3 b0 10 (jI (S 0))) b0 11 (jI (jc S / 2))) b0 12 (jI (S 1))) b0 13 (jI (S 2))) b0 14 (jI (S 3))) b0 15 (jI (S 4))) b0 16 (jI (S 5)), ?_, ?_, ?_⟩
  · unfold f_X7_copyFrom
    rw [l32_0, hr]
    simp (disch := omega) only [bs_p, wl_p, u2_p, u3_p, u4_p, u5_p, zl_p, zr_p, mn_p, ms_p, hr2, hr3, gI_uI, if_neg, s0, s1, s2, s3, s4, s5, s6]
  · exact ((((((hs3.tr (Sm.wI _ (by unfold Kb; omega))).tr (Sm.wI _ (by unfold Kb; omega))).tr (Sm.wI _ (by unfold Kb; omega))).tr (Sm.wI _ (by unfold Kb; omega))).tr (Sm.wI _ (by unfold Kb; omega))).tr (Sm.wI _ (by unfold Kb; omega))).tr (Sm.wI _ (by unfold Kb; omega))
  · refine ⟨fun x x0 x1 => ?_, fun k k0 k1 => ?_, fun i i0 i1 => ?_, ?_, ?_, ?_, ?_, ?_, ?_, ?_⟩
    · obtain ⟨h1, h2, h3, h4, h5, h6, h7, h8⟩ := hx2 x x0 x1
      have f := fun r (hr : r < 10) => hx3 r hr
      refine ⟨?_, ?_, ?_, fun q => ?_, ?_, ?_, ?_, ?_⟩
      · simp (disch := omega) only [gI_uI, if_neg]; rw [(f 1 (by decide)).1]; exact h1
      · simp (disch := omega) only [gL_uI]; rw [(f 2 (by decide)).2]; exact h2
      · simp (disch := omega) only [gI_uI, if_neg]; rw [(f 3 (by decide)).1]; exact h3
      · simp (disch := omega) only [gL_uI]; rw [(f 4 (by decide)).2]; exact h4 q
      · simp (disch := omega) only [gI_uI, if_neg]; rw [(f 5 (by decide)).1]; exact h5
      · simp (disch := omega) only [gI_uI, if_neg]; rw [(f 6 (by decide)).1]; exact h6
      · simp (disch := omega) only [gI_uI, if_neg]; rw [(f 7 (by decide)).1]; exact h7
      · simp (disch := omega) only [gI_uI, if_neg]; rw [(f 8 (by decide)).1]; exact h8
    · simp (disch := omega) only [gI_uI, if_neg]; rw [(hx3 9 (by decide)).1]; exact hk2 k k0 k1
    · simp (disch := omega) only [gI_uI, if_neg]; exact hk3 i i0 i1
    all_goals simp (disch := omega) only [gI_uI, if_neg, if_pos, and_self, ite_true]
/-! the reference's rows -/
def K1 (j : Nat) (k : Nat) : Prop := k = j
theorem s_rCopy {w : Wd} {k0 n0 k2 n2 : Nat} {a c : Int} {S : Ab} (h : RSt w k0 a S) (a0 : 0 ≤ a) (c0 : 0 ≤ c) (ha : a + 192 ≤ n0) (hc : c + 192 ≤ n2) (b0 : n0 ≤ 100000) (b2 : n2 ≤ 100000) (hk : k0 ≠ k2) :
    ∃ w', f_X11_copy w k0 n0 k2 n2 (jI a) (jI c) = some w' ∧ Sm (K1 k2) w w' ∧ RSt w' k2 c S ∧ ∀ z : Nat, ((z : Int) < c ∨ c + 192 ≤ z) → gL w' k2 z = gL w k2 z := by
  obtain ⟨r, hr, hP⟩ := lp (fun n (s : Int32 × Wd) => p_X11_copy_3 (jI a) n0 (jI c) n2 k2 k0 n s.1 s.2)
    (fun i s => s.1 = jI i ∧ Sm (K1 k2) w s.2 ∧ (∀ z : Int, 0 ≤ z → z < i → gL s.2 k2 (c + z).toNat = jL (S z)) ∧ ∀ z : Nat, ((z : Int) < c ∨ c + 192 ≤ z) → gL s.2 k2 z = gL w k2 z) 192
    (fun r => ∃ q, r = .inl q ∧ Sm (K1 k2) w q.2 ∧ (∀ z : Int, 0 ≤ z → z < 192 → gL q.2 k2 (c + z).toNat = jL (S z)) ∧ ∀ z : Nat, ((z : Int) < c ∨ c + 192 ≤ z) → gL q.2 k2 z = gL w k2 z)
    (fun i n s hi hI => by
      obtain ⟨y, v⟩ := s
      obtain ⟨rfl, hs, hx, hy⟩ := hI
      have hs : Sm (K1 k2) w v := hs
      have e : gL v k0 (a + i).toNat = jL (S i) := by
        rw [hs.lK (by unfold K1; exact hk)]; exact h i (by omega) (by omega)
      refine Or.inl ⟨(jI ((i + 1 : Nat) : Int), uL v k2 (c + i).toNat (jL (S i))), ⟨rfl, hs.tr (Sm.wL v rfl), fun z z0 z1 => ?_, fun z hz => ?_⟩, ?_⟩
      · show gL (uL v k2 (c + i).toNat (jL (S i))) k2 (c + z).toNat = _
        rw [gL_uL]
        by_cases q : z = i
        · rw [q, if_pos ⟨rfl, rfl⟩]
        · rw [if_neg (by omega)]; exact hx z z0 (by omega)
      · show gL (uL v k2 (c + i).toNat (jL (S i))) k2 z = _
        rw [gL_uL, if_neg (by omega)]; exact hy z hz
      · show p_X11_copy_3 (jI a) n0 (jI c) n2 k2 k0 (n + 1) (jI i) v = p_X11_copy_3 (jI a) n0 (jI c) n2 k2 k0 n (jI ((i + 1 : Nat) : Int)) (uL v k2 (c + i).toNat (jL (S i)))
        rw [p_X11_copy_3]
        simp (disch := omega) only [l32_0, l32_1, l32_2, l32_3, l32_4, l32_5, l32_6, l32_7, l32_8, l32_9, l32_10, l32_11, l32_12, l32_13, l32_14, l32_15, l32_16, l32_17, l32_18, l32_19, l32_20, l32_21, l32_22, l32_23, l32_24, l32_25, l32_26, l32_27, l32_28, l32_29, l32_30, l32_31, l32_32, l32_33, l32_34, l32_35, l32_36, l32_37, l32_38, l32_39, l32_40, l32_41, l32_42, l32_43, l32_44, l32_45, l32_46, l32_47, l32_48, l32_49, l32_50, l32_51, l32_52, l32_53, l32_54, l32_55, l32_56, l32_57, l32_58, l32_59, l32_60, l32_61, l32_62, l32_63, l32_64, l32_65, l32_66, l32_76, l32_86, l32_90, l32_92, l32_97, l32_98, l32_99, l32_100, l32_101, l32_102, l32_103, l32_104, l32_105, l32_106, l32_107, l32_108, l32_109, l32_110, l32_111, l32_112, l32_113, l32_114, l32_115, l32_116, l32_117, l32_118, l32_119, l32_120, l32_121, l32_122, l32_123, l32_124, l32_125, l32_126, l32_192, l32_200, l32_255, l32_999, l32_1000, l32_1344, l32_2147483639, l32_2147483647, l64_0, l64_1, l64_99, l64_999, l64_24883200000, l64_746496000000, jI_add, jI_sub, jI_mul, jI_neg, jL_add, jL_sub, jL_mul, jL_neg, jL_toI, jI_toL, jI_eqT, jI_eqF, jI_ltT, jI_ltF, jI_leT, jI_leF, jL_eqT, jL_eqF, jL_ltT, jL_ltF, jL_leT, jL_leF, inR_T, inR_F, bZ_T, bZ_F, not_true_eq_false, not_false_eq_true, jI_clamp, nI_j, bs_p, wl_p, u2_p, u3_p, u4_p, u5_p, zl_p, zr_p, mn_p, ms_p, if_pos, if_neg, ite_true, ite_false, e] <;> rfl)
    (fun n s hI => by
      obtain ⟨y, v⟩ := s
      obtain ⟨rfl, hs, hx, hy⟩ := hI
      refine ⟨.inl (jI 192, v), ?_, _, rfl, hs, hx, hy⟩
      show p_X11_copy_3 (jI a) n0 (jI c) n2 k2 k0 (n + 1) (jI ((192 : Nat) : Int)) v = _
      rw [p_X11_copy_3, show ((192 : Nat) : Int) = 192 from rfl]
      simp (disch := omega) only [l32_0, l32_1, l32_2, l32_3, l32_4, l32_5, l32_6, l32_7, l32_8, l32_9, l32_10, l32_11, l32_12, l32_13, l32_14, l32_15, l32_16, l32_17, l32_18, l32_19, l32_20, l32_21, l32_22, l32_23, l32_24, l32_25, l32_26, l32_27, l32_28, l32_29, l32_30, l32_31, l32_32, l32_33, l32_34, l32_35, l32_36, l32_37, l32_38, l32_39, l32_40, l32_41, l32_42, l32_43, l32_44, l32_45, l32_46, l32_47, l32_48, l32_49, l32_50, l32_51, l32_52, l32_53, l32_54, l32_55, l32_56, l32_57, l32_58, l32_59, l32_60, l32_61, l32_62, l32_63, l32_64, l32_65, l32_66, l32_76, l32_86, l32_90, l32_92, l32_97, l32_98, l32_99, l32_100, l32_101, l32_102, l32_103, l32_104, l32_105, l32_106, l32_107, l32_108, l32_109, l32_110, l32_111, l32_112, l32_113, l32_114, l32_115, l32_116, l32_117, l32_118, l32_119, l32_120, l32_121, l32_122, l32_123, l32_124, l32_125, l32_126, l32_192, l32_200, l32_255, l32_999, l32_1000, l32_1344, l32_2147483639, l32_2147483647, l64_0, l64_1, l64_99, l64_999, l64_24883200000, l64_746496000000, jI_add, jI_sub, jI_mul, jI_neg, jL_add, jL_sub, jL_mul, jL_neg, jL_toI, jI_toL, jI_eqT, jI_eqF, jI_ltT, jI_ltF, jI_leT, jI_leF, jL_eqT, jL_eqF, jL_ltT, jL_ltF, jL_leT, jL_leF, inR_T, inR_F, bZ_T, bZ_F, not_true_eq_false, not_false_eq_true, jI_clamp, nI_j, bs_p, wl_p, u2_p, u3_p, u4_p, u5_p, zl_p, zr_p, mn_p, ms_p, if_pos, if_neg, ite_true, ite_false]) 2000 0 (jI 0, w) (by omega) (by omega) ⟨rfl, Sm.refl w, fun z z0 z1 => by omega, fun _ _ => rfl⟩
  obtain ⟨⟨y, v⟩, rfl, hs, hx, hy⟩ := hP
  have hr : p_X11_copy_3 (jI a) n0 (jI c) n2 k2 k0 2000 (jI 0) w = some (.inl (y, v)) := hr
  refine ⟨v, ?_, hs, hx, hy⟩
  unfold f_X11_copy
  rw [l32_0, hr]
  rfl
theorem s_begin {w : Wd} {S : Ab} (h : RSt w 142 0 S) : ∃ w', f_X11_begin w = some w' ∧ Sm (K1 143) w w' ∧ RSt w' 143 0 S := by
  obtain ⟨w', h1, h2, h3, -⟩ := s_rCopy (k2 := 143) (n0 := 192) (n2 := 192) (c := 0) h (by decide) (by decide) (by decide) (by decide) (by decide) (by decide) (by decide)
  refine ⟨w', ?_, h2, h3⟩
  unfold f_X11_begin
  rw [l32_0, h1]
  rfl
end
section
/-! THE WHOLE: what both sides hold between calls: 0 the state, 1 whether one is saved, 2 the saved one, 3 how many changes, 4 the states before them, 5 how much is typed, 6 what, 7 the error position, 8 the failed command, 9 the output's length, 10 the output -/
abbrev TS : Type := Ab × Int × Ab × Int × (Int → Ab) × Int × (Int → Int) × Int × Int × Int × (Int → Int)
def tS (T : TS) : Ab := T.1
def tH (T : TS) : Int := T.2.1
def tP (T : TS) : Ab := T.2.2.1
def tN (T : TS) : Int := T.2.2.2.1
def tL (T : TS) : Int → Ab := T.2.2.2.2.1
def tC (T : TS) : Int := T.2.2.2.2.2.1
def tX (T : TS) : Int → Int := T.2.2.2.2.2.2.1
def tE (T : TS) : Int := T.2.2.2.2.2.2.2.1
def tF (T : TS) : Int := T.2.2.2.2.2.2.2.2.1
def tO (T : TS) : Int := T.2.2.2.2.2.2.2.2.2.1
def tY (T : TS) : Int → Int := T.2.2.2.2.2.2.2.2.2.2
def InvG (T : TS) : Prop := Good (tS T) ∧ (tH T = 0 ∨ tH T = 1) ∧ (tH T = 1 → Good (tP T)) ∧ (0 ≤ tN T ∧ tN T ≤ 8) ∧ (∀ i, 0 ≤ i → i < tN T → Good (tL T i)) ∧ (0 ≤ tC T ∧ tC T ≤ 60) ∧ (∀ i, 0 ≤ i → i < tC T → 32 ≤ tX T i ∧ tX T i ≤ 126) ∧ (-1 ≤ tE T ∧ tE T ≤ 60) ∧ (-1 ≤ tF T ∧ tF T ≤ 60) ∧ (0 ≤ tO T ∧ tO T ≤ 100) ∧ ∀ i, 0 ≤ i → i < tO T → 0 ≤ tY T i ∧ tY T i ≤ 127
def HC (w : Wd) (f n : Int) (L : Int → Ab) : Prop := (0 ≤ f ∧ f < 8) ∧ gI w 34 1 = jI f ∧ gI w 34 2 = jI n ∧ ∀ i, 0 ≤ i → i < n → CSt w (36 + 11 * ((f + i) % 8).toNat) (L i)
def OC (w : Wd) (n : Int) (Y : Int → Int) : Prop := gI w 139 1 = jI 0 ∧ gI w 139 3 = jI n ∧ (16 ≤ gC w ∧ gC w ≤ 64) ∧ n ≤ gC w ∧ (∀ i : Int, 0 ≤ i → i < n → gI w 140 i.toNat = jI (Y i)) ∧ ∀ i : Nat, i < gC w → ∃ z, -128 ≤ z ∧ z ≤ 127 ∧ gI w 140 i = jI z
def InvC (w : Wd) (T : TS) : Prop := CSt w 1 (tS T) ∧ gI w 0 3 = jI (tH T) ∧ (tH T = 1 → CSt w 23 (tP T)) ∧ (∃ f, HC w f (tN T) (tL T)) ∧ gI w 134 1 = jI (tC T) ∧ (∀ i : Int, 0 ≤ i → i < tC T → gI w 135 i.toNat = jI (tX T i)) ∧ gI w 0 11 = jI (tE T) ∧ gI w 0 12 = jI (tF T) ∧ OC w (tO T) (tY T)
def HR (w : Wd) (n : Int) (L : Int → Ab) : Prop := gI w 141 3 = jI n ∧ ∀ i, 0 ≤ i → i < n → RSt w 144 (192 * i) (L i)
def InvR (w : Wd) (T : TS) : Prop := RSt w 142 0 (tS T) ∧ gI w 141 5 = jI (tH T) ∧ (tH T = 1 → RSt w 145 0 (tP T)) ∧ HR w (tN T) (tL T) ∧ gI w 141 7 = jI (tC T) ∧ (∀ i : Int, 0 ≤ i → i < tC T → gI w 146 i.toNat = jI (tX T i)) ∧ gI w 141 8 = jI (tE T) ∧ gI w 141 9 = jI (tF T) ∧ gI w 141 11 = jI (tO T) ∧ ∀ i : Int, 0 ≤ i → i < tO T → gI w 147 i.toNat = jI (tY T i)
def Inv (w : Wd) : Prop := ∃ T, InvG T ∧ InvC w T ∧ InvR w T
/-- the class's side, the reference's side -/
def KL (k : Nat) : Prop := k ≤ 140 ∨ k = 151 ∨ k = 152
def KR (k : Nat) : Prop := 141 ≤ k ∧ k ≤ 150
theorem HC.kept {w w' : Wd} {f n : Int} {L : Int → Ab} (h : HC w f n L) (e1 : gI w' 34 = gI w 34) (e2 : ∀ k, 36 ≤ k → k < 124 → gI w' k = gI w k ∧ gL w' k = gL w k) : HC w' f n L := by
  obtain ⟨h1, h2, h3, h4⟩ := h
  exact ⟨h1, by rw [e1]; exact h2, by rw [e1]; exact h3, fun i i0 i1 => (h4 i i0 i1).kept (fun r hr => e2 _ (by omega) (by omega))⟩
theorem OC.kept {w w' : Wd} {n : Int} {Y : Int → Int} (h : OC w n Y) (e1 : gI w' 139 = gI w 139) (e2 : gI w' 140 = gI w 140) (e3 : gC w' = gC w) : OC w' n Y := by
  unfold OC
  rw [e1, e2, e3]
  exact h
/-- what a read or a refusal of the class may leave behind -/
def KJ (k : Nat) : Prop := (12 ≤ k ∧ k < 23) ∨ (124 ≤ k ∧ k < 134) ∨ (136 ≤ k ∧ k < 139) ∨ 141 ≤ k
theorem InvC.kept {w w' : Wd} {T : TS} (h : InvC w T) (hs : Sm KJ w w') : InvC w' T := by
  obtain ⟨h1, h2, h3, ⟨f, h4⟩, h5, h6, h7, h8, h9⟩ := h
  refine ⟨h1.kept (fun r hr => hs.1 _ (by unfold KJ; omega)), ?_, fun q => (h3 q).kept (fun r hr => hs.1 _ (by unfold KJ; omega)), ⟨f, h4.kept (hs.1 34 (by unfold KJ; omega)).1 (fun k k0 k1 => hs.1 k (by unfold KJ; omega))⟩, ?_, fun i i0 i1 => ?_, ?_, ?_, h9.kept (hs.1 139 (by unfold KJ; omega)).1 (hs.1 140 (by unfold KJ; omega)).1 (hs.2.2 (by unfold KJ; omega))⟩
  · rw [hs.iK (by unfold KJ; omega)]; exact h2
  · rw [hs.iK (by unfold KJ; omega)]; exact h5
  · rw [hs.iK (by unfold KJ; omega)]; exact h6 i i0 i1
  · rw [hs.iK (by unfold KJ; omega)]; exact h7
  · rw [hs.iK (by unfold KJ; omega)]; exact h8
theorem HR.kept {w w' : Wd} {n : Int} {L : Int → Ab} (h : HR w n L) (e1 : gI w' 141 3 = gI w 141 3) (e2 : gL w' 144 = gL w 144) : HR w' n L :=
  ⟨by rw [e1]; exact h.1, fun i i0 i1 => (h.2 i i0 i1).kept e2⟩
/-- .. and the reference -/
def KQ (k : Nat) : Prop := k ≤ 141 ∨ k = 143 ∨ 148 ≤ k
theorem InvR.kept {w w' : Wd} {T : TS} (h : InvR w T) (hs : Sm KQ w w') (hf : ∀ i, i ≠ 12 → i ≠ 15 → i ≠ 16 → gI w' 141 i = gI w 141 i) : InvR w' T := by
  obtain ⟨h1, h2, h3, h4, h5, h6, h7, h8, h9, h10⟩ := h
  refine ⟨h1.kept (hs.1 142 (by unfold KQ; omega)).2, ?_, fun q => (h3 q).kept (hs.1 145 (by unfold KQ; omega)).2, h4.kept (hf 3 (by decide) (by decide) (by decide)) (hs.1 144 (by unfold KQ; omega)).2, ?_, fun i i0 i1 => ?_, ?_, ?_, ?_, fun i i0 i1 => ?_⟩
  · rw [hf 5 (by decide) (by decide) (by decide)]; exact h2
  · rw [hf 7 (by decide) (by decide) (by decide)]; exact h5
  · rw [hs.iK (by unfold KQ; omega)]; exact h6 i i0 i1
  · rw [hf 8 (by decide) (by decide) (by decide)]; exact h7
  · rw [hf 9 (by decide) (by decide) (by decide)]; exact h8
  · rw [hf 11 (by decide) (by decide) (by decide)]; exact h9
  · rw [hs.iK (by unfold KQ; omega)]; exact h10 i i0 i1
theorem InvR.far {w w' : Wd} {T : TS} (h : InvR w T) (hs : Sm KL w w') : InvR w' T :=
  h.kept (hs.mono (fun k hk => by unfold KL at hk; unfold KQ; omega)) (fun i _ _ _ => hs.iK (by unfold KL; omega) i)
theorem InvC.far {w w' : Wd} {T : TS} (h : InvC w T) (hs : Sm KR w w') : InvC w' T :=
  h.kept (hs.mono (fun k hk => by unfold KR at hk; unfold KJ; omega))
/-! a change is kept -/
def psh (T : TS) (S' : Ab) : TS := (S', tH T, tP T, (if tN T = 8 then 8 else tN T + 1), (fun i => if tN T = 8 then (if i < 7 then tL T (i + 1) else tS T) else (if i = tN T then tS T else tL T i)), tC T, tX T, tE T, tF T, tO T, tY T)
theorem InvG.psh {T : TS} {S' : Ab} (h : InvG T) (hS : Good S') : InvG (psh T S') := by
  obtain ⟨h1, h2, h3, h4, h5, h6⟩ := h
  refine ⟨hS, h2, h3, ?_, fun i i0 i1 => ?_, h6⟩
  · show 0 ≤ (if tN T = 8 then 8 else tN T + 1) ∧ (if tN T = 8 then 8 else tN T + 1) ≤ 8
    split <;> omega
  · have i1 : i < (if tN T = 8 then 8 else tN T + 1) := i1
    show Good (if tN T = 8 then (if i < 7 then tL T (i + 1) else tS T) else (if i = tN T then tS T else tL T i))
    by_cases q : tN T = 8
    · rw [if_pos q] at i1 ⊢
      split
      · exact h5 _ (by omega) (by omega)
      · exact h1
    · rw [if_neg q] at i1 ⊢
      split
      · exact h1
      · exact h5 _ i0 (by omega)
def KH (k : Nat) : Prop := k = 34 ∨ (36 ≤ k ∧ k < 124)
theorem s_push {w : Wd} {f n : Int} {L : Int → Ab} {S : Ab} (hG : Good S) (hB : CSt w 12 S) (h : HC w f n L) (n0 : 0 ≤ n) (n8 : n ≤ 8) :
    ∃ w' f', f_X3_push w = some w' ∧ Sm KH w w' ∧ HC w' f' (if n = 8 then 8 else n + 1) (fun i => if n = 8 then (if i < 7 then L (i + 1) else S) else (if i = n then S else L i)) := by
  obtain ⟨h1, h2, h3, h4⟩ := h
  by_cases q : n = 8
  · subst q
    -- the place of the eldest is taken
    have hB2 : CSt (uI (uI w 34 1 (jI ((f + 1) % 8))) 34 2 (jI 7)) 12 S := hB.kept (fun r hr => ⟨by funext j; rw [gI_uI, if_neg (by omega), gI_uI, if_neg (by omega)], rfl⟩)
    obtain ⟨w3, hr, hs, hc⟩ := s_copy (b0 := 36 + 11 * (((f + 1) % 8 + 7) % 8).toNat) hG hB2 (by omega)
    have e1 : (f + 1) - (f + 1).tdiv 8 * 8 = (f + 1) % 8 := by rw [Int.tdiv_eq_ediv_of_nonneg (by omega)]; omega
    have e2 : ((f + 1) % 8 + 7) - ((f + 1) % 8 + 7).tdiv 8 * 8 = ((f + 1) % 8 + 7) % 8 := by rw [Int.tdiv_eq_ediv_of_nonneg (by omega)]; omega
    have g1 : gI w3 34 1 = jI ((f + 1) % 8) := by rw [hs.iK (by unfold Kb; omega), gI_uI, if_neg (by omega), gI_uI, if_pos ⟨rfl, rfl⟩]
    have g2 : gI w3 34 2 = jI 7 := by rw [hs.iK (by unfold Kb; omega), gI_uI, if_pos ⟨rfl, rfl⟩]
    refine ⟨uI w3 34 2 (jI 8), (f + 1) % 8, ?_, ?_, ⟨by omega, ?_, ?_, fun i i0 i1 => ?_⟩⟩
    · unfold f_X3_push
      simp (disch := omega) only [l32_0, l32_1, l32_2, l32_3, l32_4, l32_5, l32_6, l32_7, l32_8, l32_9, l32_10, l32_11, l32_12, l32_13, l32_14, l32_15, l32_16, l32_17, l32_18, l32_19, l32_20, l32_21, l32_22, l32_23, l32_24, l32_25, l32_26, l32_27, l32_28, l32_29, l32_30, l32_31, l32_32, l32_33, l32_34, l32_35, l32_36, l32_37, l32_38, l32_39, l32_40, l32_41, l32_42, l32_43, l32_44, l32_45, l32_46, l32_47, l32_48, l32_49, l32_50, l32_51, l32_52, l32_53, l32_54, l32_55, l32_56, l32_57, l32_58, l32_59, l32_60, l32_61, l32_62, l32_63, l32_64, l32_65, l32_66, l32_76, l32_86, l32_90, l32_92, l32_97, l32_98, l32_99, l32_100, l32_101, l32_102, l32_103, l32_104, l32_105, l32_106, l32_107, l32_108, l32_109, l32_110, l32_111, l32_112, l32_113, l32_114, l32_115, l32_116, l32_117, l32_118, l32_119, l32_120, l32_121, l32_122, l32_123, l32_124, l32_125, l32_126, l32_192, l32_200, l32_255, l32_999, l32_1000, l32_1344, l32_2147483639, l32_2147483647, l64_0, l64_1, l64_99, l64_999, l64_24883200000, l64_746496000000, jI_add, jI_sub, jI_mul, jI_neg, jL_add, jL_sub, jL_mul, jL_neg, jL_toI, jI_toL, jI_eqT, jI_eqF, jI_ltT, jI_ltF, jI_leT, jI_leF, jL_eqT, jL_eqF, jL_ltT, jL_ltF, jL_leT, jL_leF, inR_T, inR_F, bZ_T, bZ_F, not_true_eq_false, not_false_eq_true, jI_clamp, nI_j, bs_p, wl_p, u2_p, u3_p, u4_p, u5_p, zl_p, zr_p, mn_p, ms_p, if_pos, if_neg, ite_true, ite_false, h2, h3, jI_div, e1, gI_uI, and_self, show (8 : Int) - 1 = 7 from rfl, e2, hr, g2] <;> rfl
    · refine ((Sm.wI w (Or.inl rfl)).tr ((Sm.wI _ (Or.inl rfl)).tr (hs.mono (fun k hk => ?_)))).tr (Sm.wI _ (Or.inl rfl))
      unfold Kb at hk
      exact Or.inr ⟨by omega, by omega⟩
    · rw [gI_uI, if_neg (by omega)]; exact g1
    · rw [gI_uI, if_pos ⟨rfl, rfl⟩]; rfl
    · rw [if_pos rfl] at i1
      have hx : CSt w3 (36 + 11 * (((f + 1) % 8 + i) % 8).toNat) (if i < 7 then L (i + 1) else S) := by
        by_cases z : i < 7
        · rw [if_pos z]
          have k := h4 (i + 1) (by omega) (by omega)
          rw [show (f + (i + 1)) % 8 = ((f + 1) % 8 + i) % 8 by omega] at k
          refine CSt.far (w := uI (uI w 34 1 (jI ((f + 1) % 8))) 34 2 (jI 7)) (k.kept (fun r hr => ⟨by funext j; rw [gI_uI, if_neg (by omega), gI_uI, if_neg (by omega)], rfl⟩)) hs (by omega)
        · rw [if_neg z, show i = 7 by omega]; exact hc
      show CSt (uI w3 34 2 (jI 8)) _ (if (8 : Int) = 8 then (if i < 7 then L (i + 1) else S) else _)
      rw [if_pos rfl]
      exact hx.kept (fun r hr => ⟨by funext j; rw [gI_uI, if_neg (by omega)], rfl⟩)
  · obtain ⟨w3, hr, hs, hc⟩ := s_copy (b0 := 36 + 11 * ((f + n) % 8).toNat) hG hB (by omega)
    have e1 : (f + n) - (f + n).tdiv 8 * 8 = (f + n) % 8 := by rw [Int.tdiv_eq_ediv_of_nonneg (by omega)]; omega
    have g1 : gI w3 34 1 = jI f := by rw [hs.iK (by unfold Kb; omega)]; exact h2
    have g2 : gI w3 34 2 = jI n := by rw [hs.iK (by unfold Kb; omega)]; exact h3
    refine ⟨uI w3 34 2 (jI (n + 1)), f, ?_, ?_, ⟨h1, ?_, ?_, fun i i0 i1 => ?_⟩⟩
    · unfold f_X3_push
      simp (disch := omega) only [l32_0, l32_1, l32_2, l32_3, l32_4, l32_5, l32_6, l32_7, l32_8, l32_9, l32_10, l32_11, l32_12, l32_13, l32_14, l32_15, l32_16, l32_17, l32_18, l32_19, l32_20, l32_21, l32_22, l32_23, l32_24, l32_25, l32_26, l32_27, l32_28, l32_29, l32_30, l32_31, l32_32, l32_33, l32_34, l32_35, l32_36, l32_37, l32_38, l32_39, l32_40, l32_41, l32_42, l32_43, l32_44, l32_45, l32_46, l32_47, l32_48, l32_49, l32_50, l32_51, l32_52, l32_53, l32_54, l32_55, l32_56, l32_57, l32_58, l32_59, l32_60, l32_61, l32_62, l32_63, l32_64, l32_65, l32_66, l32_76, l32_86, l32_90, l32_92, l32_97, l32_98, l32_99, l32_100, l32_101, l32_102, l32_103, l32_104, l32_105, l32_106, l32_107, l32_108, l32_109, l32_110, l32_111, l32_112, l32_113, l32_114, l32_115, l32_116, l32_117, l32_118, l32_119, l32_120, l32_121, l32_122, l32_123, l32_124, l32_125, l32_126, l32_192, l32_200, l32_255, l32_999, l32_1000, l32_1344, l32_2147483639, l32_2147483647, l64_0, l64_1, l64_99, l64_999, l64_24883200000, l64_746496000000, jI_add, jI_sub, jI_mul, jI_neg, jL_add, jL_sub, jL_mul, jL_neg, jL_toI, jI_toL, jI_eqT, jI_eqF, jI_ltT, jI_ltF, jI_leT, jI_leF, jL_eqT, jL_eqF, jL_ltT, jL_ltF, jL_leT, jL_leF, inR_T, inR_F, bZ_T, bZ_F, not_true_eq_false, not_false_eq_true, jI_clamp, nI_j, bs_p, wl_p, u2_p, u3_p, u4_p, u5_p, zl_p, zr_p, mn_p, ms_p, if_pos, if_neg, ite_true, ite_false, h2, h3, jI_div, e1, hr, g2]
    · refine (hs.mono (fun k hk => ?_)).tr (Sm.wI _ (Or.inl rfl))
      unfold Kb at hk
      exact Or.inr ⟨by omega, by omega⟩
    · rw [gI_uI, if_neg (by omega)]; exact g1
    · rw [gI_uI, if_pos ⟨rfl, rfl⟩, if_neg q]
    · rw [if_neg q] at i1
      have hx : CSt w3 (36 + 11 * ((f + i) % 8).toNat) (if i = n then S else L i) := by
        by_cases z : i = n
        · rw [if_pos z, z]; exact hc
        · rw [if_neg z]
          exact (h4 i i0 (by omega)).far hs (by omega)
      show CSt (uI w3 34 2 (jI (n + 1))) _ (if n = 8 then _ else (if i = n then S else L i))
      rw [if_neg q]
      exact hx.kept (fun r hr => ⟨by funext j; rw [gI_uI, if_neg (by omega)], rfl⟩)
/-- the words that a change ends with -/
theorem s_refuse {w : Wd} {es : List Nat} {o : Oc} (h5 : ∀ e ∈ es, e < 5) (hO : OK es o) {r : Int32} (hr : zc o (fun e => r = jI (-(e : Int) - 1)) (fun q => r = jI q.1)) : f_X10_refuse w r = some (zc o (fun e => .inl e) (fun _ => .inr ())) := by
  unfold f_X10_refuse
  rcases o with e | q
  · have hr : r = jI (-(e : Int) - 1) := hr
    have hO : e < 5 := h5 e hO
    subst hr
    have he : e = 0 ∨ e = 1 ∨ e = 2 ∨ e = 3 ∨ e = 4 := by omega
    rcases he with rfl | rfl | rfl | rfl | rfl <;> rfl
  · have hr : r = jI q.1 := hr
    have hO : 0 ≤ q.1 ∧ q.1 < 1000 ∧ Good q.2 := hO
    subst hr
    simp (disch := omega) only [l32_0, l32_1, l32_2, l32_3, l32_4, l32_5, l32_6, l32_7, l32_8, l32_9, l32_10, l32_11, l32_12, l32_13, l32_14, l32_15, l32_16, l32_17, l32_18, l32_19, l32_20, l32_21, l32_22, l32_23, l32_24, l32_25, l32_26, l32_27, l32_28, l32_29, l32_30, l32_31, l32_32, l32_33, l32_34, l32_35, l32_36, l32_37, l32_38, l32_39, l32_40, l32_41, l32_42, l32_43, l32_44, l32_45, l32_46, l32_47, l32_48, l32_49, l32_50, l32_51, l32_52, l32_53, l32_54, l32_55, l32_56, l32_57, l32_58, l32_59, l32_60, l32_61, l32_62, l32_63, l32_64, l32_65, l32_66, l32_76, l32_86, l32_90, l32_92, l32_97, l32_98, l32_99, l32_100, l32_101, l32_102, l32_103, l32_104, l32_105, l32_106, l32_107, l32_108, l32_109, l32_110, l32_111, l32_112, l32_113, l32_114, l32_115, l32_116, l32_117, l32_118, l32_119, l32_120, l32_121, l32_122, l32_123, l32_124, l32_125, l32_126, l32_192, l32_200, l32_255, l32_999, l32_1000, l32_1344, l32_2147483639, l32_2147483647, l64_0, l64_1, l64_99, l64_999, l64_24883200000, l64_746496000000, jI_add, jI_sub, jI_mul, jI_neg, jL_add, jL_sub, jL_mul, jL_neg, jL_toI, jI_toL, jI_eqT, jI_eqF, jI_ltT, jI_ltF, jI_leT, jI_leF, jL_eqT, jL_eqF, jL_ltT, jL_ltF, jL_leT, jL_leF, inR_T, inR_F, bZ_T, bZ_F, not_true_eq_false, not_false_eq_true, jI_clamp, nI_j, bs_p, wl_p, u2_p, u3_p, u4_p, u5_p, zl_p, zr_p, mn_p, ms_p, if_pos, if_neg, ite_true, ite_false, zr_p]
theorem InvC.before {w w' : Wd} {T : TS} (h : InvC w T) (hs : Sm (Kb 12) w w') : InvC w' T := h.kept (hs.mono (fun k hk => by unfold Kb at hk; unfold KJ; omega))
theorem chg_c {β : Type} (K : (Nat ⊕ Int32) × Wd → Option β) {T : TS} {cf : Wd → Option (Int32 × Wd)} {es : List Nat} {o : Oc} (hT : InvG T) (h5 : ∀ e ∈ es, e < 5) (hO : OK es o) (hop : ∀ w, CSt w 1 (tS T) → ∃ r w', cf w = some (r, w') ∧ CO w w' r (tS T) o) {w : Wd} (h : InvC w T) :
    ∃ w', ((f_X7_copyFrom w 12 1).bind fun w3 => ((cf w3).bind fun z => u2 z fun r5 w6 => ((f_X10_settle w6 r5).bind K))) = K ((zc o (fun e => .inl e) (fun q => .inr (jI q.1)) : Nat ⊕ Int32), w') ∧ Sm KL w w' ∧ InvC w' (zc o (fun _ => T) (fun q => psh T q.2)) := by
  have hG := hT.1
  obtain ⟨w1, hr1, hs1, hb1⟩ := s_copy (b0 := 12) hG h.1 (by omega)
  have h1 := h.before hs1
  obtain ⟨r, w2, hr2, hs2, hc2⟩ := hop w1 h1.1
  rw [hr1, bs_p, hr2, bs_p, u2_p]
  unfold f_X10_settle
  have k1 : Sm KL w w1 := hs1.mono (fun k hk => by unfold Kb at hk; unfold KL; omega)
  have k2 : Sm KL w1 w2 := hs2.mono (fun k hk => by unfold KC at hk; unfold KL; omega)
  rcases o with e | q
  · have hc2 : r = jI (-(e : Int) - 1) ∧ CSt w2 1 (tS T) := hc2
    rw [s_refuse (o := .inl e) h5 hO hc2.1]
    refine ⟨w2, rfl, k1.tr k2, ?_⟩
    show InvC w2 T
    obtain ⟨g1, g2, g3, ⟨f, g4⟩, g5, g6, g7, g8, g9⟩ := h1
    refine ⟨hc2.2, ?_, fun q => (g3 q).kept (fun r hr => hs2.1 _ (by unfold KC; omega)), ⟨f, g4.kept (hs2.1 34 (by unfold KC; omega)).1 (fun k k0 k1 => hs2.1 k (by unfold KC; omega))⟩, ?_, fun i i0 i1 => ?_, ?_, ?_, g9.kept (hs2.1 139 (by unfold KC; omega)).1 (hs2.1 140 (by unfold KC; omega)).1 (hs2.2.2 (by unfold KC; omega))⟩
    · rw [hs2.iK (by unfold KC; omega)]; exact g2
    · rw [hs2.iK (by unfold KC; omega)]; exact g5
    · rw [hs2.iK (by unfold KC; omega)]; exact g6 i i0 i1
    · rw [hs2.iK (by unfold KC; omega)]; exact g7
    · rw [hs2.iK (by unfold KC; omega)]; exact g8
  · have hc2 : r = jI q.1 ∧ CSt w2 1 q.2 := hc2
    rw [s_refuse (o := .inr q) h5 hO hc2.1]
    obtain ⟨g1, g2, g3, ⟨f, g4⟩, g5, g6, g7, g8, g9⟩ := h1
    obtain ⟨w3, f', hr3, hs3, h3⟩ := s_push hG (hb1.kept (fun r hr => hs2.1 _ (by unfold KC; omega))) (g4.kept (hs2.1 34 (by unfold KC; omega)).1 (fun k k0 k1 => hs2.1 k (by unfold KC; omega))) hT.2.2.2.1.1 hT.2.2.2.1.2
    refine ⟨w3, ?_, (k1.tr k2).tr (hs3.mono (fun k hk => by unfold KH at hk; unfold KL; omega)), ?_⟩
    · show (((f_X3_push w2).bind fun w6 => some ((Sum.inr r : Nat ⊕ Int32), w6)).bind K) = _
      rw [hr3, hc2.1]
      rfl
    · show InvC w3 (psh T q.2)
      refine ⟨hc2.2.kept (fun r hr => hs3.1 _ (by unfold KH; omega)), ?_, fun q => ((g3 q).kept (fun r hr => hs2.1 _ (by unfold KC; omega))).kept (fun r hr => hs3.1 _ (by unfold KH; omega)), ⟨f', h3⟩, ?_, fun i i0 i1 => ?_, ?_, ?_, (g9.kept (hs2.1 139 (by unfold KC; omega)).1 (hs2.1 140 (by unfold KC; omega)).1 (hs2.2.2 (by unfold KC; omega))).kept (hs3.1 139 (by unfold KH; omega)).1 (hs3.1 140 (by unfold KH; omega)).1 (hs3.2.2 (by unfold KH; omega))⟩
      · rw [hs3.iK (by unfold KH; omega), hs2.iK (by unfold KC; omega)]; exact g2
      · rw [hs3.iK (by unfold KH; omega), hs2.iK (by unfold KC; omega)]; exact g5
      · rw [hs3.iK (by unfold KH; omega), hs2.iK (by unfold KC; omega)]; exact g6 i i0 i1
      · rw [hs3.iK (by unfold KH; omega), hs2.iK (by unfold KC; omega)]; exact g7
      · rw [hs3.iK (by unfold KH; omega), hs2.iK (by unfold KC; omega)]; exact g8
/-! .. and the reference's -/
def KS (k : Nat) : Prop := k = 141 ∨ k = 142 ∨ k = 144
theorem s_rKept {w : Wd} {n : Int} {L : Int → Ab} {S : Ab} {r : Int32} {t : Int} (hB : RSt w 143 0 S) (h : HR w n L) (n0 : 0 ≤ n) (n8 : n ≤ 8) (ht : gI w 141 12 = jI t) (t0 : 0 ≤ t) (t1 : t < 100) :
    ∃ w', f_X11_kept w r = some ((if t = 0 then r else jI 0), w') ∧ Sm KS w w' ∧ (∀ i, i ≠ 3 → gI w' 141 i = gI w 141 i) ∧ (t ≠ 0 → RSt w' 142 0 S ∧ gI w' 141 = gI w 141 ∧ gL w' 144 = gL w 144) ∧ (t = 0 → gL w' 142 = gL w 142 ∧ HR w' (if n = 8 then 8 else n + 1) (fun i => if n = 8 then (if i < 7 then L (i + 1) else S) else (if i = n then S else L i))) := by
  unfold f_X11_kept
  by_cases q : t = 0
  · by_cases q8 : n = 8
    · subst q8
      obtain ⟨rr, hr, hP⟩ := lp (fun n (s : Int32 × Wd) => p_X11_kept_33 n s.1 s.2)
        (fun i s => s.1 = jI i ∧ Sm (K1 144) w s.2 ∧ (∀ z : Nat, z < i → gL s.2 144 z = gL w 144 (z + 192)) ∧ ∀ z : Nat, i ≤ z → gL s.2 144 z = gL w 144 z) 1344
        (fun r => ∃ q, r = .inl q ∧ Sm (K1 144) w q.2 ∧ (∀ z : Nat, z < 1344 → gL q.2 144 z = gL w 144 (z + 192)))
        (fun i n s hi hI => by
          obtain ⟨y, v⟩ := s
          obtain ⟨rfl, hs, hx, hy⟩ := hI
          have e : gL v 144 ((i : Int) + 192).toNat = gL w 144 (i + 192) := by
            rw [show ((i : Int) + 192).toNat = i + 192 by omega]; exact hy _ (by omega)
          refine Or.inl ⟨(jI ((i + 1 : Nat) : Int), uL v 144 i (gL w 144 (i + 192))), ⟨rfl, hs.tr (Sm.wL v rfl), fun z hz => ?_, fun z hz => ?_⟩, ?_⟩
          · show gL (uL v 144 i (gL w 144 (i + 192))) 144 z = _
            rw [gL_uL]
            by_cases q : z = i
            · rw [q, if_pos ⟨rfl, rfl⟩]
            · rw [if_neg (by omega)]; exact hx z (by omega)
          · show gL (uL v 144 i (gL w 144 (i + 192))) 144 z = _
            rw [gL_uL, if_neg (by omega)]; exact hy z (by omega)
          · show p_X11_kept_33 (n + 1) (jI i) v = p_X11_kept_33 n (jI ((i + 1 : Nat) : Int)) (uL v 144 i (gL w 144 (i + 192)))
            rw [p_X11_kept_33]
            simp (disch := omega) only [l32_0, l32_1, l32_2, l32_3, l32_4, l32_5, l32_6, l32_7, l32_8, l32_9, l32_10, l32_11, l32_12, l32_13, l32_14, l32_15, l32_16, l32_17, l32_18, l32_19, l32_20, l32_21, l32_22, l32_23, l32_24, l32_25, l32_26, l32_27, l32_28, l32_29, l32_30, l32_31, l32_32, l32_33, l32_34, l32_35, l32_36, l32_37, l32_38, l32_39, l32_40, l32_41, l32_42, l32_43, l32_44, l32_45, l32_46, l32_47, l32_48, l32_49, l32_50, l32_51, l32_52, l32_53, l32_54, l32_55, l32_56, l32_57, l32_58, l32_59, l32_60, l32_61, l32_62, l32_63, l32_64, l32_65, l32_66, l32_76, l32_86, l32_90, l32_92, l32_97, l32_98, l32_99, l32_100, l32_101, l32_102, l32_103, l32_104, l32_105, l32_106, l32_107, l32_108, l32_109, l32_110, l32_111, l32_112, l32_113, l32_114, l32_115, l32_116, l32_117, l32_118, l32_119, l32_120, l32_121, l32_122, l32_123, l32_124, l32_125, l32_126, l32_192, l32_200, l32_255, l32_999, l32_1000, l32_1344, l32_2147483639, l32_2147483647, l64_0, l64_1, l64_99, l64_999, l64_24883200000, l64_746496000000, jI_add, jI_sub, jI_mul, jI_neg, jL_add, jL_sub, jL_mul, jL_neg, jL_toI, jI_toL, jI_eqT, jI_eqF, jI_ltT, jI_ltF, jI_leT, jI_leF, jL_eqT, jL_eqF, jL_ltT, jL_ltF, jL_leT, jL_leF, inR_T, inR_F, bZ_T, bZ_F, not_true_eq_false, not_false_eq_true, jI_clamp, nI_j, bs_p, wl_p, u2_p, u3_p, u4_p, u5_p, zl_p, zr_p, mn_p, ms_p, if_pos, if_neg, ite_true, ite_false, Int.toNat_natCast, e] <;> rfl)
        (fun n s hI => by
          obtain ⟨y, v⟩ := s
          obtain ⟨rfl, hs, hx, hy⟩ := hI
          refine ⟨.inl (jI 1344, v), ?_, _, rfl, hs, hx⟩
          show p_X11_kept_33 (n + 1) (jI ((1344 : Nat) : Int)) v = _
          rw [p_X11_kept_33, show ((1344 : Nat) : Int) = 1344 from rfl]
          simp (disch := omega) only [l32_0, l32_1, l32_2, l32_3, l32_4, l32_5, l32_6, l32_7, l32_8, l32_9, l32_10, l32_11, l32_12, l32_13, l32_14, l32_15, l32_16, l32_17, l32_18, l32_19, l32_20, l32_21, l32_22, l32_23, l32_24, l32_25, l32_26, l32_27, l32_28, l32_29, l32_30, l32_31, l32_32, l32_33, l32_34, l32_35, l32_36, l32_37, l32_38, l32_39, l32_40, l32_41, l32_42, l32_43, l32_44, l32_45, l32_46, l32_47, l32_48, l32_49, l32_50, l32_51, l32_52, l32_53, l32_54, l32_55, l32_56, l32_57, l32_58, l32_59, l32_60, l32_61, l32_62, l32_63, l32_64, l32_65, l32_66, l32_76, l32_86, l32_90, l32_92, l32_97, l32_98, l32_99, l32_100, l32_101, l32_102, l32_103, l32_104, l32_105, l32_106, l32_107, l32_108, l32_109, l32_110, l32_111, l32_112, l32_113, l32_114, l32_115, l32_116, l32_117, l32_118, l32_119, l32_120, l32_121, l32_122, l32_123, l32_124, l32_125, l32_126, l32_192, l32_200, l32_255, l32_999, l32_1000, l32_1344, l32_2147483639, l32_2147483647, l64_0, l64_1, l64_99, l64_999, l64_24883200000, l64_746496000000, jI_add, jI_sub, jI_mul, jI_neg, jL_add, jL_sub, jL_mul, jL_neg, jL_toI, jI_toL, jI_eqT, jI_eqF, jI_ltT, jI_ltF, jI_leT, jI_leF, jL_eqT, jL_eqF, jL_ltT, jL_ltF, jL_leT, jL_leF, inR_T, inR_F, bZ_T, bZ_F, not_true_eq_false, not_false_eq_true, jI_clamp, nI_j, bs_p, wl_p, u2_p, u3_p, u4_p, u5_p, zl_p, zr_p, mn_p, ms_p, if_pos, if_neg, ite_true, ite_false]) 2000 0 (jI 0, w) (by omega) (by omega) ⟨rfl, Sm.refl w, fun z hz => by omega, fun _ _ => rfl⟩
      obtain ⟨⟨y1, w1⟩, rfl, hs1, hx1⟩ := hP
      have hr : p_X11_kept_33 2000 (jI 0) w = some (.inl (y1, w1)) := hr
      have hs1 : Sm (K1 144) w w1 := hs1
      have hx1 : ∀ z : Nat, z < 1344 → gL w1 144 z = gL w 144 (z + 192) := hx1
      have e3 : gI w1 141 3 = jI 8 := by rw [hs1.iK (by unfold K1; omega)]; exact h.1
      have hB1 : RSt (uI w1 141 3 (jI 7)) 143 0 S := hB.kept (by
        show gL w1 143 = gL w 143
        exact (hs1.1 143 (by unfold K1; omega)).2)
      obtain ⟨w2, hr2, hs2, hc2, hy2⟩ := s_rCopy (k2 := 144) (n0 := 192) (n2 := 1536) (c := 1344) hB1 (by decide) (by decide) (by decide) (by decide) (by decide) (by decide) (by decide)
      have e32 : gI w2 141 3 = jI 7 := by rw [hs2.iK (by unfold K1; omega), gI_uI, if_pos ⟨rfl, rfl⟩]
      refine ⟨uI w2 141 3 (jI 8), ?_, ?_, fun i hi => ?_, fun z => absurd q z, fun _ => ⟨?_, ?_, fun i i0 i1 => ?_⟩⟩
      · rw [if_pos q]
        simp (disch := omega) only [l32_0, l32_1, l32_2, l32_3, l32_4, l32_5, l32_6, l32_7, l32_8, l32_9, l32_10, l32_11, l32_12, l32_13, l32_14, l32_15, l32_16, l32_17, l32_18, l32_19, l32_20, l32_21, l32_22, l32_23, l32_24, l32_25, l32_26, l32_27, l32_28, l32_29, l32_30, l32_31, l32_32, l32_33, l32_34, l32_35, l32_36, l32_37, l32_38, l32_39, l32_40, l32_41, l32_42, l32_43, l32_44, l32_45, l32_46, l32_47, l32_48, l32_49, l32_50, l32_51, l32_52, l32_53, l32_54, l32_55, l32_56, l32_57, l32_58, l32_59, l32_60, l32_61, l32_62, l32_63, l32_64, l32_65, l32_66, l32_76, l32_86, l32_90, l32_92, l32_97, l32_98, l32_99, l32_100, l32_101, l32_102, l32_103, l32_104, l32_105, l32_106, l32_107, l32_108, l32_109, l32_110, l32_111, l32_112, l32_113, l32_114, l32_115, l32_116, l32_117, l32_118, l32_119, l32_120, l32_121, l32_122, l32_123, l32_124, l32_125, l32_126, l32_192, l32_200, l32_255, l32_999, l32_1000, l32_1344, l32_2147483639, l32_2147483647, l64_0, l64_1, l64_99, l64_999, l64_24883200000, l64_746496000000, jI_add, jI_sub, jI_mul, jI_neg, jL_add, jL_sub, jL_mul, jL_neg, jL_toI, jI_toL, jI_eqT, jI_eqF, jI_ltT, jI_ltF, jI_leT, jI_leF, jL_eqT, jL_eqF, jL_ltT, jL_ltF, jL_leT, jL_leF, inR_T, inR_F, bZ_T, bZ_F, not_true_eq_false, not_false_eq_true, jI_clamp, nI_j, bs_p, wl_p, u2_p, u3_p, u4_p, u5_p, zl_p, zr_p, mn_p, ms_p, if_pos, if_neg, ite_true, ite_false, ht, h.1, hr, e3, gI_uI, and_self, show (8 : Int) - 1 = 7 from rfl, show (7 : Int) * 192 = 1344 from rfl, hr2, e32] <;> rfl
      · exact (((hs1.mono (fun k hk => by unfold K1 at hk; unfold KS; omega)).tr (Sm.wI _ (Or.inl rfl))).tr (hs2.mono (fun k hk => by unfold K1 at hk; unfold KS; omega))).tr (Sm.wI _ (Or.inl rfl))
      · rw [gI_uI, if_neg (by omega), hs2.iK (by unfold K1; omega), gI_uI, if_neg (by omega), hs1.iK (by unfold K1; omega)]
      · show gL w2 142 = gL w 142
        rw [(hs2.1 142 (by unfold K1; omega)).2]
        exact (hs1.1 142 (by unfold K1; omega)).2
      · rw [gI_uI, if_pos ⟨rfl, rfl⟩]; rfl
      · rw [if_pos rfl] at i1
        show RSt (uI w2 141 3 (jI 8)) 144 (192 * i) (if (8 : Int) = 8 then (if i < 7 then L (i + 1) else S) else _)
        rw [if_pos rfl]
        by_cases z : i < 7
        · rw [if_pos z]
          intro x x0 x1
          show gL w2 144 (192 * i + x).toNat = _
          rw [hy2 _ (by omega)]
          show gL w1 144 (192 * i + x).toNat = _
          rw [hx1 _ (by omega), show (192 * i + x).toNat + 192 = (192 * (i + 1) + x).toNat by omega]
          exact h.2 (i + 1) (by omega) (by omega) x x0 x1
        · rw [if_neg z, show i = 7 by omega]
          exact hc2
    · obtain ⟨w2, hr2, hs2, hc2, hy2⟩ := s_rCopy (k2 := 144) (n0 := 192) (n2 := 1536) (c := n * 192) hB (by decide) (by omega) (by decide) (by omega) (by decide) (by decide) (by decide)
      have e32 : gI w2 141 3 = jI n := by rw [hs2.iK (by unfold K1; omega)]; exact h.1
      refine ⟨uI w2 141 3 (jI (n + 1)), ?_, ?_, fun i hi => ?_, fun z => absurd q z, fun _ => ⟨?_, ?_, fun i i0 i1 => ?_⟩⟩
      · rw [if_pos q]
        simp (disch := omega) only [l32_0, l32_1, l32_2, l32_3, l32_4, l32_5, l32_6, l32_7, l32_8, l32_9, l32_10, l32_11, l32_12, l32_13, l32_14, l32_15, l32_16, l32_17, l32_18, l32_19, l32_20, l32_21, l32_22, l32_23, l32_24, l32_25, l32_26, l32_27, l32_28, l32_29, l32_30, l32_31, l32_32, l32_33, l32_34, l32_35, l32_36, l32_37, l32_38, l32_39, l32_40, l32_41, l32_42, l32_43, l32_44, l32_45, l32_46, l32_47, l32_48, l32_49, l32_50, l32_51, l32_52, l32_53, l32_54, l32_55, l32_56, l32_57, l32_58, l32_59, l32_60, l32_61, l32_62, l32_63, l32_64, l32_65, l32_66, l32_76, l32_86, l32_90, l32_92, l32_97, l32_98, l32_99, l32_100, l32_101, l32_102, l32_103, l32_104, l32_105, l32_106, l32_107, l32_108, l32_109, l32_110, l32_111, l32_112, l32_113, l32_114, l32_115, l32_116, l32_117, l32_118, l32_119, l32_120, l32_121, l32_122, l32_123, l32_124, l32_125, l32_126, l32_192, l32_200, l32_255, l32_999, l32_1000, l32_1344, l32_2147483639, l32_2147483647, l64_0, l64_1, l64_99, l64_999, l64_24883200000, l64_746496000000, jI_add, jI_sub, jI_mul, jI_neg, jL_add, jL_sub, jL_mul, jL_neg, jL_toI, jI_toL, jI_eqT, jI_eqF, jI_ltT, jI_ltF, jI_leT, jI_leF, jL_eqT, jL_eqF, jL_ltT, jL_ltF, jL_leT, jL_leF, inR_T, inR_F, bZ_T, bZ_F, not_true_eq_false, not_false_eq_true, jI_clamp, nI_j, bs_p, wl_p, u2_p, u3_p, u4_p, u5_p, zl_p, zr_p, mn_p, ms_p, if_pos, if_neg, ite_true, ite_false, ht, h.1, hr2, e32]
      · exact (hs2.mono (fun k hk => by unfold K1 at hk; unfold KS; omega)).tr (Sm.wI _ (Or.inl rfl))
      · rw [gI_uI, if_neg (by omega), hs2.iK (by unfold K1; omega)]
      · show gL w2 142 = gL w 142
        exact (hs2.1 142 (by unfold K1; omega)).2
      · rw [gI_uI, if_pos ⟨rfl, rfl⟩, if_neg q8]
      · rw [if_neg q8] at i1
        show RSt (uI w2 141 3 (jI (n + 1))) 144 (192 * i) (if n = 8 then _ else (if i = n then S else L i))
        rw [if_neg q8]
        by_cases z : i = n
        · rw [if_pos z, z, Int.mul_comm]
          exact hc2
        · rw [if_neg z]
          intro x x0 x1
          show gL w2 144 (192 * i + x).toNat = _
          rw [hy2 _ (by omega), h.2 i i0 (by omega) x x0 x1]
  · obtain ⟨w2, hr2, hs2, hc2, hy2⟩ := s_rCopy (k2 := 142) (n0 := 192) (n2 := 192) (c := 0) hB (by decide) (by omega) (by decide) (by omega) (by decide) (by decide) (by decide)
    refine ⟨w2, ?_, hs2.mono (fun k hk => by unfold K1 at hk; unfold KS; omega), fun i hi => hs2.iK (by unfold K1; omega) i, fun _ => ⟨hc2, (hs2.1 141 (by unfold K1; omega)).1, (hs2.1 144 (by unfold K1; omega)).2⟩, fun z => absurd z q⟩
    rw [if_neg q]
    simp (disch := omega) only [l32_0, l32_1, l32_2, l32_3, l32_4, l32_5, l32_6, l32_7, l32_8, l32_9, l32_10, l32_11, l32_12, l32_13, l32_14, l32_15, l32_16, l32_17, l32_18, l32_19, l32_20, l32_21, l32_22, l32_23, l32_24, l32_25, l32_26, l32_27, l32_28, l32_29, l32_30, l32_31, l32_32, l32_33, l32_34, l32_35, l32_36, l32_37, l32_38, l32_39, l32_40, l32_41, l32_42, l32_43, l32_44, l32_45, l32_46, l32_47, l32_48, l32_49, l32_50, l32_51, l32_52, l32_53, l32_54, l32_55, l32_56, l32_57, l32_58, l32_59, l32_60, l32_61, l32_62, l32_63, l32_64, l32_65, l32_66, l32_76, l32_86, l32_90, l32_92, l32_97, l32_98, l32_99, l32_100, l32_101, l32_102, l32_103, l32_104, l32_105, l32_106, l32_107, l32_108, l32_109, l32_110, l32_111, l32_112, l32_113, l32_114, l32_115, l32_116, l32_117, l32_118, l32_119, l32_120, l32_121, l32_122, l32_123, l32_124, l32_125, l32_126, l32_192, l32_200, l32_255, l32_999, l32_1000, l32_1344, l32_2147483639, l32_2147483647, l64_0, l64_1, l64_99, l64_999, l64_24883200000, l64_746496000000, jI_add, jI_sub, jI_mul, jI_neg, jL_add, jL_sub, jL_mul, jL_neg, jL_toI, jI_toL, jI_eqT, jI_eqF, jI_ltT, jI_ltF, jI_leT, jI_leF, jL_eqT, jL_eqF, jL_ltT, jL_ltF, jL_leT, jL_leF, inR_T, inR_F, bZ_T, bZ_F, not_true_eq_false, not_false_eq_true, jI_clamp, nI_j, bs_p, wl_p, u2_p, u3_p, u4_p, u5_p, zl_p, zr_p, mn_p, ms_p, if_pos, if_neg, ite_true, ite_false, ht, hr2]
theorem chg_r {β : Type} (K : Int32 × Wd → Option β) {T : TS} {rf : Wd → Option (Int32 × Wd)} {cd : Nat → Int} {es : List Nat} {o : Oc} (hT : InvG T) (hO : OK es o) (hcd : ∀ e ∈ es, 0 < cd e ∧ cd e < 100) (hop : ∀ w, RSt w 142 0 (tS T) → ∃ r w', rf w = some (r, w') ∧ RO w w' r cd o) {w : Wd} (h : InvR w T) :
    ∃ r w', ((f_X11_begin w).bind fun w3 => ((rf w3).bind fun z => u2 z fun r5 w6 => ((f_X11_kept w6 r5).bind K))) = K (r, w') ∧ Sm KR w w' ∧ zc o (fun e => gI w' 141 12 = jI (cd e) ∧ r = jI 0 ∧ InvR w' T) (fun q => gI w' 141 12 = jI 0 ∧ r = jI q.1 ∧ InvR w' (psh T q.2)) := by
  obtain ⟨w1, hr1, hs1, hb1⟩ := s_begin h.1
  have h1 : InvR w1 T := h.kept (hs1.mono (fun k hk => by unfold K1 at hk; unfold KQ; omega)) (fun i _ _ _ => hs1.iK (by unfold K1; omega) i)
  obtain ⟨r, w2, hr2, hs2, hf2, hc2⟩ := hop w1 h1.1
  rw [hr1, bs_p, hr2, bs_p, u2_p]
  have hb2 : RSt w2 143 0 (tS T) := hb1.kept (hs2.1 143 (by unfold KM; omega)).2
  have h2H : HR w2 (tN T) (tL T) := h1.2.2.2.1.kept (hf2 3 (by decide)) (hs2.1 144 (by unfold KM; omega)).2
  have k1 : Sm KR w w1 := hs1.mono (fun k hk => by unfold K1 at hk; unfold KR; omega)
  have k2 : Sm KR w1 w2 := hs2.mono (fun k hk => by unfold KM at hk; unfold KR; omega)
  have fin : ∀ (w3 : Wd) (T' : TS), Sm KS w2 w3 → (∀ i, i ≠ 3 → gI w3 141 i = gI w2 141 i) → tH T' = tH T → tP T' = tP T → tC T' = tC T → tX T' = tX T → tE T' = tE T → tF T' = tF T → tO T' = tO T → tY T' = tY T → RSt w3 142 0 (tS T') → HR w3 (tN T') (tL T') → InvR w3 T' := by
    intro w3 T' hs3 hf3 f1 f2 f3 f4 f5 f6 f7 f8 f9 f10
    obtain ⟨g1, g2, g3, g4, g5, g6, g7, g8, g9, g10⟩ := h1
    unfold InvR
    rw [f1, f2, f3, f4, f5, f6, f7, f8]
    refine ⟨f9, ?_, fun q => ((g3 q).kept (hs2.1 145 (by unfold KM; omega)).2).kept (hs3.1 145 (by unfold KS; omega)).2, f10, ?_, fun i i0 i1 => ?_, ?_, ?_, ?_, fun i i0 i1 => ?_⟩
    · rw [hf3 5 (by decide), hf2 5 (by decide)]; exact g2
    · rw [hf3 7 (by decide), hf2 7 (by decide)]; exact g5
    · rw [hs3.iK (by unfold KS; omega), hs2.iK (by unfold KM; omega)]; exact g6 i i0 i1
    · rw [hf3 8 (by decide), hf2 8 (by decide)]; exact g7
    · rw [hf3 9 (by decide), hf2 9 (by decide)]; exact g8
    · rw [hf3 11 (by decide), hf2 11 (by decide)]; exact g9
    · rw [hs3.iK (by unfold KS; omega), hs2.iK (by unfold KM; omega)]; exact g10 i i0 i1
  rcases o with e | q
  · have hc2 : gI w2 141 12 = jI (cd e) := hc2
    have hcd := hcd e hO
    obtain ⟨w3, hr3, hs3, hf3, hx3, -⟩ := s_rKept (r := r) hb2 h2H hT.2.2.2.1.1 hT.2.2.2.1.2 hc2 (by omega) (by omega)
    have hx3 := hx3 (by omega)
    rw [hr3, bs_p, if_neg (show ¬ cd e = 0 by omega)]
    refine ⟨_, w3, rfl, (k1.tr k2).tr (hs3.mono (fun k hk => by unfold KS at hk; unfold KR; omega)), ?_, rfl, ?_⟩
    · rw [hf3 12 (by decide)]; exact hc2
    · exact fin w3 T hs3 hf3 rfl rfl rfl rfl rfl rfl rfl rfl hx3.1 (h2H.kept (congrFun hx3.2.1 3) hx3.2.2)
  · obtain ⟨c1, c2, c3⟩ : r = jI q.1 ∧ gI w2 141 12 = jI 0 ∧ RSt w2 142 0 q.2 := hc2
    obtain ⟨w3, hr3, hs3, hf3, -, hx3⟩ := s_rKept (r := r) hb2 h2H hT.2.2.2.1.1 hT.2.2.2.1.2 c2 (by decide) (by decide)
    have hx3 := hx3 rfl
    rw [hr3, bs_p, if_pos rfl]
    refine ⟨_, w3, rfl, (k1.tr k2).tr (hs3.mono (fun k hk => by unfold KS at hk; unfold KR; omega)), ?_, c1, ?_⟩
    · rw [hf3 12 (by decide)]; exact c2
    · exact fin w3 (psh T q.2) hs3 hf3 rfl rfl rfl rfl rfl rfl rfl rfl (c3.kept hx3.1) hx3.2
end
section
/-! THE LAW over the changes -/
theorem lawA {L : Option (Int32 × Wd)} {M : Wd → Option (Int32 × Wd)} {c : Int32} {w3 w6 : Wd} {r5 : Int32} (h1 : L = some (c, w3)) (h2 : M w3 = some (r5, w6)) (h3 : gI w6 141 12 = c) (h4 : c = 0 → gL w6 151 0 = r5.toInt64) : (L.bind fun z => u2 z fun r2 w3 => ((M w3).bind fun z => u2 z fun r5 w6 => ((f_X11_thrown w6).bind fun r8 => (if r8 = r2 then (if r2 = 0 then (if inR (0 : Int32) 1 then (if (gL w6 151 ((0 : Int32)).toNatClampNeg) = (r5).toInt64 then (some w6) else none) else none) else (some w6)) else none)))) = some w6 := by
  rw [h1, bs_p, u2_p, h2, bs_p, u2_p]
  unfold f_X11_thrown
  rw [bs_p, h3, if_pos rfl]
  by_cases q : c = 0
  · rw [if_pos q, if_pos (show inR (0 : Int32) 1 = true by decide +kernel)]
    exact if_pos (h4 q)
  · rw [if_neg q]
theorem lawB {L : Option (Int32 × Wd)} {M : Wd → Option (Int64 × Wd)} {c : Int32} {w3 w6 : Wd} {r5 : Int64} (h1 : L = some (c, w3)) (h2 : M w3 = some (r5, w6)) (h3 : gI w6 141 12 = c) (h4 : c = 0 → gL w6 151 0 = r5) : (L.bind fun z => u2 z fun r2 w3 => ((M w3).bind fun z => u2 z fun r5 w6 => ((f_X11_thrown w6).bind fun r8 => (if r8 = r2 then (if r2 = 0 then (if inR (0 : Int32) 1 then (if (gL w6 151 ((0 : Int32)).toNatClampNeg) = r5 then (some w6) else none) else none) else (some w6)) else none)))) = some w6 := by
  rw [h1, bs_p, u2_p, h2, bs_p, u2_p]
  unfold f_X11_thrown
  rw [bs_p, h3, if_pos rfl]
  by_cases q : c = 0
  · rw [if_pos q, if_pos (show inR (0 : Int32) 1 = true by decide +kernel)]
    exact if_pos (h4 q)
  · rw [if_neg q]
theorem lawZ {L : Option (Int32 × Wd)} {M : Wd → Option (Int32 × Wd)} {c : Int32} {w3 w6 : Wd} {r5 : Int32} (h1 : L = some (c, w3)) (h2 : M w3 = some (r5, w6)) (h3 : gI w6 141 12 = c) (h4 : c = 0 → (r5 = 0 ∧ gL w6 151 0 = 0) ∨ (r5 = 1 ∧ gL w6 151 0 = 1)) : (L.bind fun z => u2 z fun r2 w3 => ((M w3).bind fun z => u2 z fun r5 w6 => ((f_X11_thrown w6).bind fun r8 => (if r8 = r2 then (if r2 = 0 then (if inR (0 : Int32) 1 then (if r5 = 0 then (if (gL w6 151 ((0 : Int32)).toNatClampNeg) = (0 : Int64) then (some w6) else none) else (if (gL w6 151 ((0 : Int32)).toNatClampNeg) = (1 : Int64) then (some w6) else none)) else none) else (some w6)) else none)))) = some w6 := by
  rw [h1, bs_p, u2_p, h2, bs_p, u2_p]
  unfold f_X11_thrown
  rw [bs_p, h3, if_pos rfl]
  by_cases q : c = 0
  · rw [if_pos q, if_pos (show inR (0 : Int32) 1 = true by decide +kernel)]
    rcases h4 q with ⟨a, b⟩ | ⟨a, b⟩
    · rw [if_pos a]; exact if_pos b
    · rw [if_neg (show ¬ r5 = 0 by rw [a]; decide +kernel)]; exact if_pos b
  · rw [if_neg q]
theorem InvC.out {w : Wd} {T : TS} (h : InvC w T) (v : Int64) : InvC (uL w 151 0 v) T := h.kept (Sm.wL w (by unfold KJ; omega))
theorem InvR.out {w : Wd} {T : TS} (h : InvR w T) (v : Int64) : InvR (uL w 151 0 v) T := h.far (Sm.wL w (by unfold KL; omega))
theorem sm_out (w : Wd) (v : Int64) : Sm KL w (uL w 151 0 v) := Sm.wL w (by unfold KL; omega)
theorem out_at {w w6 : Wd} {v : Int64} (h : Sm KR (uL w 151 0 v) w6) : gL w6 151 0 = v := by
  rw [h.lK (by unfold KR; omega), gL_uL, if_pos ⟨rfl, rfl⟩]
theorem lw_gear {w : Wd} (h : Inv w) (x1 x2 x3 : Int32) : ∃ w1, f_law_288 w x1 x2 x3 = some w1 ∧ Inv w1 := by
  obtain ⟨T, hG, hC, hR⟩ := h
  obtain ⟨x, rfl, xb1, xb2⟩ := jI_ex x1
  obtain ⟨o, hO, hc, hr⟩ := op_gear hG.1 xb1 xb2
  obtain ⟨w3, e3, s3, c3⟩ := chg_c (fun z => u2 z fun z w10 => zc z (fun k => (some ((.inl k : Nat ⊕ Int32), w10))) (fun r9 => (some ((.inr r9), w10)))) hG (by decide) hO hc hC
  have X : f_X10_addGear w (jI x) = _ := e3
  rcases o with e | q
  · have hm : e = 1 ∨ e = 2 := by
      have hO : e ∈ [1, 2] := hO
      simpa using hO
    have hcd : gI w 0 0 = gI w 0 0 := rfl
    have hL : ∃ c : Int, 0 < c ∧ c < 100 ∧ f_L_addGear w (jI x) = some (jI c, w3) ∧ c = (fun e : Nat => if e = 1 then (1 : Int) else (2 : Int)) e := by
      unfold f_L_addGear
      rw [X]
      rcases hm with rfl | rfl

      · exact ⟨1, by decide, by decide, rfl, rfl⟩
      · exact ⟨2, by decide, by decide, rfl, rfl⟩
    obtain ⟨c, c0, c1, L, ce⟩ := hL
    obtain ⟨r, w6, e6, s6, k1, k2, k3⟩ := chg_r (fun z => u2 z fun r9 w10 => (some (r9, w10))) hG hO (by decide) hr (hR.far s3)
    have Y : f_X11_addGear w3 (jI x) = _ := e6
    have hcc : gI w6 141 12 = jI c := by
      rw [k1, ce]
      rcases hm with rfl | rfl <;> rfl
    refine ⟨w6, ?_, T, hG, c3.far s6, k3⟩
    unfold f_law_288

    refine lawA L (by rw [Y]; rfl) hcc (fun z => ?_)
    exact absurd (iff_of_eq (jI_eq (by omega) (by omega) (by omega) (by omega)) |>.mp (show jI c = jI 0 from z)) (by omega)
  · have hO1 : 0 ≤ q.1 ∧ q.1 < 1000 ∧ Good q.2 := hO
    obtain ⟨q0, q1, q2⟩ := hO1
    have L : f_L_addGear w (jI x) = some (jI 0, uL w3 151 0 (jL q.1)) := by
      unfold f_L_addGear
      rw [X, ← jI_toL (z := q.1) (by omega) (by omega)]
      rfl
    obtain ⟨r, w6, e6, s6, k1, k2, k3⟩ := chg_r (fun z => u2 z fun r9 w10 => (some (r9, w10))) hG (o := .inr q) hO (by decide) hr ((hR.far s3).out (jL q.1))
    have Y : f_X11_addGear (uL w3 151 0 (jL q.1)) (jI x) = _ := e6
    refine ⟨w6, ?_, psh T q.2, hG.psh q2, (InvC.out c3 _).far s6, k3⟩
    unfold f_law_288
    refine lawA L (r5 := jI q.1) (by rw [Y, k2]; rfl) k1 (fun _ => ?_)
    rw [out_at s6, jI_toL (by omega) (by omega)]
theorem lw_mesh {w : Wd} (h : Inv w) (x1 x2 x3 : Int32) : ∃ w1, f_law_344 w x1 x2 x3 = some w1 ∧ Inv w1 := by
  obtain ⟨T, hG, hC, hR⟩ := h
  obtain ⟨x, rfl, xb1, xb2⟩ := jI_ex x1
  obtain ⟨y, rfl, yb1, yb2⟩ := jI_ex x2
  obtain ⟨o, hO, hc, hr⟩ := op_join (k := 1) hG.1 xb1 xb2 yb1 yb2 (by decide)
  obtain ⟨w3, e3, s3, c3⟩ := chg_c (fun z => u2 z fun z w10 => zc z (fun k => (some ((.inl k : Nat ⊕ Int32), w10))) (fun r9 => (some ((.inr r9), w10)))) hG (by decide) hO hc hC
  have X : f_X10_mesh w (jI x) (jI y) = _ := e3
  rcases o with e | q
  · have hm : e = 0 ∨ e = 1 ∨ e = 2 ∨ e = 3 := by
      have hO : e ∈ [0, 1, 2, 3] := hO
      simpa using hO
    have hcd : gI w 0 0 = gI w 0 0 := rfl
    have hL : ∃ c : Int, 0 < c ∧ c < 100 ∧ f_L_mesh w (jI x) (jI y) = some (jI c, w3) ∧ c = (fun e : Nat => if e = 0 then (1 : Int) else if e = 1 then (2 : Int) else if e = 2 then (3 : Int) else (4 : Int)) e := by
      unfold f_L_mesh
      rw [X]
      rcases hm with rfl | rfl | rfl | rfl

      · exact ⟨1, by decide, by decide, rfl, rfl⟩
      · exact ⟨2, by decide, by decide, rfl, rfl⟩
      · exact ⟨3, by decide, by decide, rfl, rfl⟩
      · exact ⟨4, by decide, by decide, rfl, rfl⟩
    obtain ⟨c, c0, c1, L, ce⟩ := hL
    obtain ⟨r, w6, e6, s6, k1, k2, k3⟩ := chg_r (fun z => u2 z fun r9 w10 => (some (r9, w10))) hG hO (by decide) hr (hR.far s3)
    have Y : f_X11_mesh w3 (jI x) (jI y) = _ := e6
    have hcc : gI w6 141 12 = jI c := by
      rw [k1, ce]
      rcases hm with rfl | rfl | rfl | rfl <;> rfl
    refine ⟨w6, ?_, T, hG, c3.far s6, k3⟩
    unfold f_law_344

    refine lawA L (by rw [Y]; rfl) hcc (fun z => ?_)
    exact absurd (iff_of_eq (jI_eq (by omega) (by omega) (by omega) (by omega)) |>.mp (show jI c = jI 0 from z)) (by omega)
  · have hO1 : 0 ≤ q.1 ∧ q.1 < 1000 ∧ Good q.2 := hO
    obtain ⟨q0, q1, q2⟩ := hO1
    have L : f_L_mesh w (jI x) (jI y) = some (jI 0, uL w3 151 0 (jL q.1)) := by
      unfold f_L_mesh
      rw [X, ← jI_toL (z := q.1) (by omega) (by omega)]
      rfl
    obtain ⟨r, w6, e6, s6, k1, k2, k3⟩ := chg_r (fun z => u2 z fun r9 w10 => (some (r9, w10))) hG (o := .inr q) hO (by decide) hr ((hR.far s3).out (jL q.1))
    have Y : f_X11_mesh (uL w3 151 0 (jL q.1)) (jI x) (jI y) = _ := e6
    refine ⟨w6, ?_, psh T q.2, hG.psh q2, (InvC.out c3 _).far s6, k3⟩
    unfold f_law_344
    refine lawA L (r5 := jI q.1) (by rw [Y, k2]; rfl) k1 (fun _ => ?_)
    rw [out_at s6, jI_toL (by omega) (by omega)]
theorem lw_axle {w : Wd} (h : Inv w) (x1 x2 x3 : Int32) : ∃ w1, f_law_412 w x1 x2 x3 = some w1 ∧ Inv w1 := by
  obtain ⟨T, hG, hC, hR⟩ := h
  obtain ⟨x, rfl, xb1, xb2⟩ := jI_ex x1
  obtain ⟨y, rfl, yb1, yb2⟩ := jI_ex x2
  obtain ⟨o, hO, hc, hr⟩ := op_join (k := 2) hG.1 xb1 xb2 yb1 yb2 (by decide)
  obtain ⟨w3, e3, s3, c3⟩ := chg_c (fun z => u2 z fun z w10 => zc z (fun k => (some ((.inl k : Nat ⊕ Int32), w10))) (fun r9 => (some ((.inr r9), w10)))) hG (by decide) hO hc hC
  have X : f_X10_shareAxle w (jI x) (jI y) = _ := e3
  rcases o with e | q
  · have hm : e = 0 ∨ e = 1 ∨ e = 2 ∨ e = 3 := by
      have hO : e ∈ [0, 1, 2, 3] := hO
      simpa using hO
    have hcd : gI w 0 0 = gI w 0 0 := rfl
    have hL : ∃ c : Int, 0 < c ∧ c < 100 ∧ f_L_shareAxle w (jI x) (jI y) = some (jI c, w3) ∧ c = (fun e : Nat => if e = 0 then (1 : Int) else if e = 1 then (2 : Int) else if e = 2 then (3 : Int) else (4 : Int)) e := by
      unfold f_L_shareAxle
      rw [X]
      rcases hm with rfl | rfl | rfl | rfl

      · exact ⟨1, by decide, by decide, rfl, rfl⟩
      · exact ⟨2, by decide, by decide, rfl, rfl⟩
      · exact ⟨3, by decide, by decide, rfl, rfl⟩
      · exact ⟨4, by decide, by decide, rfl, rfl⟩
    obtain ⟨c, c0, c1, L, ce⟩ := hL
    obtain ⟨r, w6, e6, s6, k1, k2, k3⟩ := chg_r (fun z => u2 z fun r9 w10 => (some (r9, w10))) hG hO (by decide) hr (hR.far s3)
    have Y : f_X11_shareAxle w3 (jI x) (jI y) = _ := e6
    have hcc : gI w6 141 12 = jI c := by
      rw [k1, ce]
      rcases hm with rfl | rfl | rfl | rfl <;> rfl
    refine ⟨w6, ?_, T, hG, c3.far s6, k3⟩
    unfold f_law_412

    refine lawA L (by rw [Y]; rfl) hcc (fun z => ?_)
    exact absurd (iff_of_eq (jI_eq (by omega) (by omega) (by omega) (by omega)) |>.mp (show jI c = jI 0 from z)) (by omega)
  · have hO1 : 0 ≤ q.1 ∧ q.1 < 1000 ∧ Good q.2 := hO
    obtain ⟨q0, q1, q2⟩ := hO1
    have L : f_L_shareAxle w (jI x) (jI y) = some (jI 0, uL w3 151 0 (jL q.1)) := by
      unfold f_L_shareAxle
      rw [X, ← jI_toL (z := q.1) (by omega) (by omega)]
      rfl
    obtain ⟨r, w6, e6, s6, k1, k2, k3⟩ := chg_r (fun z => u2 z fun r9 w10 => (some (r9, w10))) hG (o := .inr q) hO (by decide) hr ((hR.far s3).out (jL q.1))
    have Y : f_X11_shareAxle (uL w3 151 0 (jL q.1)) (jI x) (jI y) = _ := e6
    refine ⟨w6, ?_, psh T q.2, hG.psh q2, (InvC.out c3 _).far s6, k3⟩
    unfold f_law_412
    refine lawA L (r5 := jI q.1) (by rw [Y, k2]; rfl) k1 (fun _ => ?_)
    rw [out_at s6, jI_toL (by omega) (by omega)]
theorem lw_cut {w : Wd} (h : Inv w) (x1 x2 x3 : Int32) : ∃ w1, f_law_480 w x1 x2 x3 = some w1 ∧ Inv w1 := by
  obtain ⟨T, hG, hC, hR⟩ := h
  obtain ⟨x, rfl, xb1, xb2⟩ := jI_ex x1
  obtain ⟨y, rfl, yb1, yb2⟩ := jI_ex x2
  obtain ⟨o, hO, hc, hr⟩ := op_cut hG.1 xb1 xb2 yb1 yb2
  obtain ⟨w3, e3, s3, c3⟩ := chg_c (fun z => u2 z fun z w10 => zc z (fun k => (some ((.inl k : Nat ⊕ Int32), w10))) (fun r9 => (some ((.inr r9), w10)))) hG (by decide) hO hc hC
  have X : f_X10_separate w (jI x) (jI y) = _ := e3
  rcases o with e | q
  · have hm : e = 0 ∨ e = 4 := by
      have hO : e ∈ [0, 4] := hO
      simpa using hO
    have hcd : gI w 0 0 = gI w 0 0 := rfl
    have hL : ∃ c : Int, 0 < c ∧ c < 100 ∧ f_L_separate w (jI x) (jI y) = some (jI c, w3) ∧ c = (fun e : Nat => if e = 0 then (1 : Int) else (2 : Int)) e := by
      unfold f_L_separate
      rw [X]
      rcases hm with rfl | rfl

      · exact ⟨1, by decide, by decide, rfl, rfl⟩
      · exact ⟨2, by decide, by decide, rfl, rfl⟩
    obtain ⟨c, c0, c1, L, ce⟩ := hL
    obtain ⟨r, w6, e6, s6, k1, k2, k3⟩ := chg_r (fun z => u2 z fun r9 w10 => (some (r9, w10))) hG hO (by decide) hr (hR.far s3)
    have Y : f_X11_separate w3 (jI x) (jI y) = _ := e6
    have hcc : gI w6 141 12 = jI c := by
      rw [k1, ce]
    refine ⟨w6, ?_, T, hG, c3.far s6, k3⟩
    unfold f_law_480

    refine lawA L (by rw [Y]; rfl) hcc (fun z => ?_)
    exact absurd (iff_of_eq (jI_eq (by omega) (by omega) (by omega) (by omega)) |>.mp (show jI c = jI 0 from z)) (by omega)
  · have hO1 : 0 ≤ q.1 ∧ q.1 < 1000 ∧ Good q.2 := hO
    obtain ⟨q0, q1, q2⟩ := hO1
    have L : f_L_separate w (jI x) (jI y) = some (jI 0, uL w3 151 0 (jL q.1)) := by
      unfold f_L_separate
      rw [X, ← jI_toL (z := q.1) (by omega) (by omega)]
      rfl
    obtain ⟨r, w6, e6, s6, k1, k2, k3⟩ := chg_r (fun z => u2 z fun r9 w10 => (some (r9, w10))) hG (o := .inr q) hO (by decide) hr ((hR.far s3).out (jL q.1))
    have Y : f_X11_separate (uL w3 151 0 (jL q.1)) (jI x) (jI y) = _ := e6
    refine ⟨w6, ?_, psh T q.2, hG.psh q2, (InvC.out c3 _).far s6, k3⟩
    unfold f_law_480
    refine lawA L (r5 := jI q.1) (by rw [Y, k2]; rfl) k1 (fun _ => ?_)
    rw [out_at s6, jI_toL (by omega) (by omega)]
theorem lw_spring {w : Wd} (h : Inv w) (x1 x2 x3 : Int32) : ∃ w1, f_law_548 w x1 x2 x3 = some w1 ∧ Inv w1 := by
  obtain ⟨T, hG, hC, hR⟩ := h
  obtain ⟨x, rfl, xb1, xb2⟩ := jI_ex x1
  obtain ⟨y, rfl, yb1, yb2⟩ := jI_ex x2
  obtain ⟨o, hO, hc, hr⟩ := op_spring hG.1 xb1 xb2 yb1 yb2
  obtain ⟨w3, e3, s3, c3⟩ := chg_c (fun z => u2 z fun z w10 => zc z (fun k => (some ((.inl k : Nat ⊕ Int32), w10))) (fun r9 => (some ((.inr r9), w10)))) hG (by decide) hO hc hC
  have X : f_X10_setSpring w (jI x) (jI y) = _ := e3
  rcases o with e | q
  · have hm : e = 0 ∨ e = 1 ∨ e = 2 := by
      have hO : e ∈ [0, 1, 2] := hO
      simpa using hO
    have hcd : gI w 0 0 = gI w 0 0 := rfl
    have hL : ∃ c : Int, 0 < c ∧ c < 100 ∧ f_L_setSpring w (jI x) (jI y) = some (jI c, w3) ∧ c = (fun e : Nat => if e = 0 then (1 : Int) else if e = 1 then (2 : Int) else (3 : Int)) e := by
      unfold f_L_setSpring
      rw [X]
      rcases hm with rfl | rfl | rfl

      · exact ⟨1, by decide, by decide, rfl, rfl⟩
      · exact ⟨2, by decide, by decide, rfl, rfl⟩
      · exact ⟨3, by decide, by decide, rfl, rfl⟩
    obtain ⟨c, c0, c1, L, ce⟩ := hL
    obtain ⟨r, w6, e6, s6, k1, k2, k3⟩ := chg_r (fun z => u2 z fun r9 w10 => (some (r9, w10))) hG hO (by decide) hr (hR.far s3)
    have Y : f_X11_setSpring w3 (jI x) (jI y) = _ := e6
    have hcc : gI w6 141 12 = jI c := by
      rw [k1, ce]
      rcases hm with rfl | rfl | rfl <;> rfl
    refine ⟨w6, ?_, T, hG, c3.far s6, k3⟩
    unfold f_law_548

    refine lawA L (by rw [Y]; rfl) hcc (fun z => ?_)
    exact absurd (iff_of_eq (jI_eq (by omega) (by omega) (by omega) (by omega)) |>.mp (show jI c = jI 0 from z)) (by omega)
  · have hO1 : 0 ≤ q.1 ∧ q.1 < 1000 ∧ Good q.2 := hO
    obtain ⟨q0, q1, q2⟩ := hO1
    have L : f_L_setSpring w (jI x) (jI y) = some (jI 0, uL w3 151 0 (jL q.1)) := by
      unfold f_L_setSpring
      rw [X, ← jI_toL (z := q.1) (by omega) (by omega)]
      rfl
    obtain ⟨r, w6, e6, s6, k1, k2, k3⟩ := chg_r (fun z => u2 z fun r9 w10 => (some (r9, w10))) hG (o := .inr q) hO (by decide) hr ((hR.far s3).out (jL q.1))
    have Y : f_X11_setSpring (uL w3 151 0 (jL q.1)) (jI x) (jI y) = _ := e6
    refine ⟨w6, ?_, psh T q.2, hG.psh q2, (InvC.out c3 _).far s6, k3⟩
    unfold f_law_548
    refine lawA L (r5 := jI q.1) (by rw [Y, k2]; rfl) k1 (fun _ => ?_)
    rw [out_at s6, jI_toL (by omega) (by omega)]
theorem lw_wind {w : Wd} (h : Inv w) (x1 x2 x3 : Int32) : ∃ w1, f_law_616 w x1 x2 x3 = some w1 ∧ Inv w1 := by
  obtain ⟨T, hG, hC, hR⟩ := h
  obtain ⟨x, rfl, xb1, xb2⟩ := jI_ex x1
  obtain ⟨y, rfl, yb1, yb2⟩ := jI_ex x2
  obtain ⟨o, hO, hc, hr⟩ := op_wind hG.1 xb1 xb2 yb1 yb2
  obtain ⟨w3, e3, s3, c3⟩ := chg_c (fun z => u2 z fun z w10 => zc z (fun k => (some ((.inl k : Nat ⊕ Int32), w10))) (fun r9 => (some ((.inr r9), w10)))) hG (by decide) hO hc hC
  have X : f_X10_wind w (jI x) (jI y) = _ := e3
  rcases o with e | q
  · have hm : e = 0 ∨ e = 1 ∨ e = 4 ∨ e = 2 := by
      have hO : e ∈ [0, 1, 4, 2] := hO
      simpa using hO
    have hcd : gI w 0 0 = gI w 0 0 := rfl
    have hL : ∃ c : Int, 0 < c ∧ c < 100 ∧ f_L_wind w (jI x) (jI y) = some (jI c, w3) ∧ c = (fun e : Nat => if e = 0 then (1 : Int) else if e = 1 then (2 : Int) else if e = 4 then (3 : Int) else (4 : Int)) e := by
      unfold f_L_wind
      rw [X]
      rcases hm with rfl | rfl | rfl | rfl

      · exact ⟨1, by decide, by decide, rfl, rfl⟩
      · exact ⟨2, by decide, by decide, rfl, rfl⟩
      · exact ⟨3, by decide, by decide, rfl, rfl⟩
      · exact ⟨4, by decide, by decide, rfl, rfl⟩
    obtain ⟨c, c0, c1, L, ce⟩ := hL
    obtain ⟨r, w6, e6, s6, k1, k2, k3⟩ := chg_r (fun z => u2 z fun r9 w10 => (some (r9, w10))) hG hO (by decide) hr (hR.far s3)
    have Y : f_X11_wind w3 (jI x) (jI y) = _ := e6
    have hcc : gI w6 141 12 = jI c := by
      rw [k1, ce]
    refine ⟨w6, ?_, T, hG, c3.far s6, k3⟩
    unfold f_law_616

    refine lawA L (by rw [Y]; rfl) hcc (fun z => ?_)
    exact absurd (iff_of_eq (jI_eq (by omega) (by omega) (by omega) (by omega)) |>.mp (show jI c = jI 0 from z)) (by omega)
  · have hO1 : 0 ≤ q.1 ∧ q.1 < 1000 ∧ Good q.2 := hO
    obtain ⟨q0, q1, q2⟩ := hO1
    have L : f_L_wind w (jI x) (jI y) = some (jI 0, uL w3 151 0 (jL q.1)) := by
      unfold f_L_wind
      rw [X, ← jI_toL (z := q.1) (by omega) (by omega)]
      rfl
    obtain ⟨r, w6, e6, s6, k1, k2, k3⟩ := chg_r (fun z => u2 z fun r9 w10 => (some (r9, w10))) hG (o := .inr q) hO (by decide) hr ((hR.far s3).out (jL q.1))
    have Y : f_X11_wind (uL w3 151 0 (jL q.1)) (jI x) (jI y) = _ := e6
    refine ⟨w6, ?_, psh T q.2, hG.psh q2, (InvC.out c3 _).far s6, k3⟩
    unfold f_law_616
    refine lawA L (r5 := jI q.1) (by rw [Y, k2]; rfl) k1 (fun _ => ?_)
    rw [out_at s6, jI_toL (by omega) (by omega)]
theorem lw_rev {w : Wd} (h : Inv w) (x1 x2 x3 : Int32) : ∃ w1, f_law_684 w x1 x2 x3 = some w1 ∧ Inv w1 := by
  obtain ⟨T, hG, hC, hR⟩ := h
  obtain ⟨x, rfl, xb1, xb2⟩ := jI_ex x1
  obtain ⟨o, hO, hc, hr⟩ := op_reverse hG.1 xb1 xb2
  obtain ⟨w3, e3, s3, c3⟩ := chg_c (fun z => u2 z fun z w10 => zc z (fun k => (some ((.inl k : Nat ⊕ Int32), w10))) (fun r9 => (if r9 = (1 : Int32) then (some ((.inr (1 : Int32)), w10)) else (some ((.inr (0 : Int32)), w10))))) hG (by decide) hO hc hC
  have X : f_X10_reverse w (jI x) = _ := e3
  rcases o with e | q
  · have hm : e = 0 ∨ e = 4 := by
      have hO : e ∈ [0, 4] := hO
      simpa using hO
    have hcd : gI w 0 0 = gI w 0 0 := rfl
    have hL : ∃ c : Int, 0 < c ∧ c < 100 ∧ f_L_reverse w (jI x) = some (jI c, w3) ∧ c = (fun e : Nat => if e = 0 then (1 : Int) else (2 : Int)) e := by
      unfold f_L_reverse
      rw [X]
      rcases hm with rfl | rfl

      · exact ⟨1, by decide, by decide, rfl, rfl⟩
      · exact ⟨2, by decide, by decide, rfl, rfl⟩
    obtain ⟨c, c0, c1, L, ce⟩ := hL
    obtain ⟨r, w6, e6, s6, k1, k2, k3⟩ := chg_r (fun z => u2 z fun r9 w10 => (if r9 = (1 : Int32) then (some ((1 : Int32), w10)) else (some ((0 : Int32), w10)))) hG hO (by decide) hr (hR.far s3)
    have Y : f_X11_reverse w3 (jI x) = _ := e6
    have hcc : gI w6 141 12 = jI c := by
      rw [k1, ce]
    refine ⟨w6, ?_, T, hG, c3.far s6, k3⟩
    unfold f_law_684

    refine lawZ L (r5 := 0) (by rw [Y, k2]; rfl) hcc (fun z => ?_)
    exact absurd (iff_of_eq (jI_eq (by omega) (by omega) (by omega) (by omega)) |>.mp (show jI c = jI 0 from z)) (by omega)
  · have hO1 : 0 ≤ q.1 ∧ q.1 < 1000 ∧ Good q.2 := hO
    obtain ⟨q0, q1, q2⟩ := hO1
    by_cases b1 : q.1 = 1
    · have L : f_L_reverse w (jI x) = some (jI 0, uL w3 151 0 1) := by
        unfold f_L_reverse
        rw [X]
        show ((if jI q.1 = (1 : Int32) then some ((Sum.inr (1 : Int32) : Nat ⊕ Int32), w3) else some ((.inr (0 : Int32)), w3)).bind _) = _
        rw [b1]
        rfl
      obtain ⟨r, w6, e6, s6, k1, k2, k3⟩ := chg_r (fun z => u2 z fun r9 w10 => (if r9 = (1 : Int32) then (some ((1 : Int32), w10)) else (some ((0 : Int32), w10)))) hG (o := .inr q) hO (by decide) hr ((hR.far s3).out 1)
      have Y : f_X11_reverse (uL w3 151 0 1) (jI x) = _ := e6
      refine ⟨w6, ?_, psh T q.2, hG.psh q2, (InvC.out c3 _).far s6, k3⟩
      unfold f_law_684
      refine lawZ L (r5 := 1) (by rw [Y, k2, b1]; rfl) k1 (fun _ => Or.inr ⟨rfl, out_at s6⟩)
    · have hn : ¬ jI q.1 = (1 : Int32) := fun z => b1 ((iff_of_eq (jI_eq (by omega) (by omega) (by omega) (by omega))).mp (show jI q.1 = jI 1 from z))
      have L : f_L_reverse w (jI x) = some (jI 0, uL w3 151 0 0) := by
        unfold f_L_reverse
        rw [X]
        show ((if jI q.1 = (1 : Int32) then some ((Sum.inr (1 : Int32) : Nat ⊕ Int32), w3) else some ((.inr (0 : Int32)), w3)).bind _) = _
        rw [if_neg hn]
        rfl
      obtain ⟨r, w6, e6, s6, k1, k2, k3⟩ := chg_r (fun z => u2 z fun r9 w10 => (if r9 = (1 : Int32) then (some ((1 : Int32), w10)) else (some ((0 : Int32), w10)))) hG (o := .inr q) hO (by decide) hr ((hR.far s3).out 0)
      have Y : f_X11_reverse (uL w3 151 0 0) (jI x) = _ := e6
      refine ⟨w6, ?_, psh T q.2, hG.psh q2, (InvC.out c3 _).far s6, k3⟩
      unfold f_law_684
      refine lawZ L (r5 := 0) ?_ k1 (fun _ => Or.inl ⟨rfl, out_at s6⟩)
      rw [Y, k2]
      show (if jI q.1 = (1 : Int32) then some ((1 : Int32), w6) else some ((0 : Int32), w6)) = _
      rw [if_neg hn]
theorem lw_rel {w : Wd} (h : Inv w) (x1 x2 x3 : Int32) : ∃ w1, f_law_747 w x1 x2 x3 = some w1 ∧ Inv w1 := by
  obtain ⟨T, hG, hC, hR⟩ := h
  obtain ⟨x, rfl, xb1, xb2⟩ := jI_ex x1
  obtain ⟨y, rfl, yb1, yb2⟩ := jI_ex x2
  obtain ⟨o, hO, hc, hr⟩ := op_release hG.1 xb1 xb2 yb1 yb2
  obtain ⟨w3, e3, s3, c3⟩ := chg_c (fun z => u2 z fun z w10 => zc z (fun k => (some ((.inl k : Nat ⊕ Int32), w10))) (fun r9 => (some ((.inr r9), w10)))) hG (by decide) hO hc hC
  have X : f_X10_release w (jI x) (jI y) = _ := e3
  rcases o with e | q
  · have hm : e = 0 ∨ e = 1 ∨ e = 4 ∨ e = 3 := by
      have hO : e ∈ [0, 1, 4, 3] := hO
      simpa using hO
    have hcd : gI w 0 0 = gI w 0 0 := rfl
    have hL : ∃ c : Int, 0 < c ∧ c < 100 ∧ f_L_release w (jI x) (jI y) = some (jI c, w3) ∧ c = (fun e : Nat => if e = 0 then (1 : Int) else if e = 1 then (2 : Int) else if e = 4 then (3 : Int) else (4 : Int)) e := by
      unfold f_L_release
      rw [X]
      rcases hm with rfl | rfl | rfl | rfl

      · exact ⟨1, by decide, by decide, rfl, rfl⟩
      · exact ⟨2, by decide, by decide, rfl, rfl⟩
      · exact ⟨3, by decide, by decide, rfl, rfl⟩
      · exact ⟨4, by decide, by decide, rfl, rfl⟩
    obtain ⟨c, c0, c1, L, ce⟩ := hL
    obtain ⟨r, w6, e6, s6, k1, k2, k3⟩ := chg_r (fun z => u2 z fun r9 w10 => (some (r9, w10))) hG hO (by decide) hr (hR.far s3)
    have Y : f_X11_release w3 (jI x) (jI y) = _ := e6
    have hcc : gI w6 141 12 = jI c := by
      rw [k1, ce]
    refine ⟨w6, ?_, T, hG, c3.far s6, k3⟩
    unfold f_law_747

    refine lawA L (by rw [Y]; rfl) hcc (fun z => ?_)
    exact absurd (iff_of_eq (jI_eq (by omega) (by omega) (by omega) (by omega)) |>.mp (show jI c = jI 0 from z)) (by omega)
  · have hO1 : 0 ≤ q.1 ∧ q.1 < 1000 ∧ Good q.2 := hO
    obtain ⟨q0, q1, q2⟩ := hO1
    have L : f_L_release w (jI x) (jI y) = some (jI 0, uL w3 151 0 (jL q.1)) := by
      unfold f_L_release
      rw [X, ← jI_toL (z := q.1) (by omega) (by omega)]
      rfl
    obtain ⟨r, w6, e6, s6, k1, k2, k3⟩ := chg_r (fun z => u2 z fun r9 w10 => (some (r9, w10))) hG (o := .inr q) hO (by decide) hr ((hR.far s3).out (jL q.1))
    have Y : f_X11_release (uL w3 151 0 (jL q.1)) (jI x) (jI y) = _ := e6
    refine ⟨w6, ?_, psh T q.2, hG.psh q2, (InvC.out c3 _).far s6, k3⟩
    unfold f_law_747
    refine lawA L (r5 := jI q.1) (by rw [Y, k2]; rfl) k1 (fun _ => ?_)
    rw [out_at s6, jI_toL (by omega) (by omega)]
theorem lw_oil {w : Wd} (h : Inv w) (x1 x2 x3 : Int32) : ∃ w1, f_law_906 w x1 x2 x3 = some w1 ∧ Inv w1 := by
  obtain ⟨T, hG, hC, hR⟩ := h
  obtain ⟨x, rfl, xb1, xb2⟩ := jI_ex x1
  obtain ⟨o, hO, hc, hr⟩ := op_oil hG.1 xb1 xb2
  obtain ⟨w3, e3, s3, c3⟩ := chg_c (fun z => u2 z fun z w10 => zc z (fun k => (some ((.inl k : Nat ⊕ Int32), w10))) (fun r9 => (some ((.inr r9), w10)))) hG (by decide) hO hc hC
  have X : f_X10_oil w (jI x) = _ := e3
  rcases o with e | q
  · have hm : e = 0 ∨ e = 2 ∨ e = 3 := by
      have hO : e ∈ [0, 2, 3] := hO
      simpa using hO
    have hcd : gI w 0 0 = gI w 0 0 := rfl
    have hL : ∃ c : Int, 0 < c ∧ c < 100 ∧ f_L_oil w (jI x) = some (jI c, w3) ∧ c = (fun e : Nat => if e = 0 then (1 : Int) else if e = 2 then (2 : Int) else (3 : Int)) e := by
      unfold f_L_oil
      rw [X]
      rcases hm with rfl | rfl | rfl

      · exact ⟨1, by decide, by decide, rfl, rfl⟩
      · exact ⟨2, by decide, by decide, rfl, rfl⟩
      · exact ⟨3, by decide, by decide, rfl, rfl⟩
    obtain ⟨c, c0, c1, L, ce⟩ := hL
    obtain ⟨r, w6, e6, s6, k1, k2, k3⟩ := chg_r (fun z => u2 z fun r9 w10 => (some (r9, w10))) hG hO (by decide) hr (hR.far s3)
    have Y : f_X11_oil w3 (jI x) = _ := e6
    have hcc : gI w6 141 12 = jI c := by
      rw [k1, ce]
    refine ⟨w6, ?_, T, hG, c3.far s6, k3⟩
    unfold f_law_906

    refine lawA L (by rw [Y]; rfl) hcc (fun z => ?_)
    exact absurd (iff_of_eq (jI_eq (by omega) (by omega) (by omega) (by omega)) |>.mp (show jI c = jI 0 from z)) (by omega)
  · have hO1 : 0 ≤ q.1 ∧ q.1 < 1000 ∧ Good q.2 := hO
    obtain ⟨q0, q1, q2⟩ := hO1
    have L : f_L_oil w (jI x) = some (jI 0, uL w3 151 0 (jL q.1)) := by
      unfold f_L_oil
      rw [X, ← jI_toL (z := q.1) (by omega) (by omega)]
      rfl
    obtain ⟨r, w6, e6, s6, k1, k2, k3⟩ := chg_r (fun z => u2 z fun r9 w10 => (some (r9, w10))) hG (o := .inr q) hO (by decide) hr ((hR.far s3).out (jL q.1))
    have Y : f_X11_oil (uL w3 151 0 (jL q.1)) (jI x) = _ := e6
    refine ⟨w6, ?_, psh T q.2, hG.psh q2, (InvC.out c3 _).far s6, k3⟩
    unfold f_law_906
    refine lawA L (r5 := jI q.1) (by rw [Y, k2]; rfl) k1 (fun _ => ?_)
    rw [out_at s6, jI_toL (by omega) (by omega)]
theorem lw_buy {w : Wd} (h : Inv w) (x1 x2 x3 : Int32) : ∃ w1, f_law_962 w x1 x2 x3 = some w1 ∧ Inv w1 := by
  obtain ⟨T, hG, hC, hR⟩ := h
  obtain ⟨x, rfl, xb1, xb2⟩ := jI_ex x1
  obtain ⟨o, hO, hc, hr⟩ := op_buy hG.1 xb1 xb2
  obtain ⟨w3, e3, s3, c3⟩ := chg_c (fun z => u2 z fun z w10 => zc z (fun k => (some ((.inl k : Nat ⊕ Int32), w10))) (fun r9 => (some ((.inr r9), w10)))) hG (by decide) hO hc hC
  have X : f_X10_buyOil w (jI x) = _ := e3
  rcases o with e | q
  · have hm : e = 1 ∨ e = 2 := by
      have hO : e ∈ [1, 2] := hO
      simpa using hO
    have hcd : gI w 0 0 = gI w 0 0 := rfl
    have hL : ∃ c : Int, 0 < c ∧ c < 100 ∧ f_L_buyOil w (jI x) = some (jI c, w3) ∧ c = (fun e : Nat => if e = 1 then (1 : Int) else (2 : Int)) e := by
      unfold f_L_buyOil
      rw [X]
      rcases hm with rfl | rfl

      · exact ⟨1, by decide, by decide, rfl, rfl⟩
      · exact ⟨2, by decide, by decide, rfl, rfl⟩
    obtain ⟨c, c0, c1, L, ce⟩ := hL
    obtain ⟨r, w6, e6, s6, k1, k2, k3⟩ := chg_r (fun z => u2 z fun r9 w10 => (some (r9, w10))) hG hO (by decide) hr (hR.far s3)
    have Y : f_X11_buyOil w3 (jI x) = _ := e6
    have hcc : gI w6 141 12 = jI c := by
      rw [k1, ce]
      rcases hm with rfl | rfl <;> rfl
    refine ⟨w6, ?_, T, hG, c3.far s6, k3⟩
    unfold f_law_962

    refine lawA L (by rw [Y]; rfl) hcc (fun z => ?_)
    exact absurd (iff_of_eq (jI_eq (by omega) (by omega) (by omega) (by omega)) |>.mp (show jI c = jI 0 from z)) (by omega)
  · have hO1 : 0 ≤ q.1 ∧ q.1 < 1000 ∧ Good q.2 := hO
    obtain ⟨q0, q1, q2⟩ := hO1
    have L : f_L_buyOil w (jI x) = some (jI 0, uL w3 151 0 (jL q.1)) := by
      unfold f_L_buyOil
      rw [X, ← jI_toL (z := q.1) (by omega) (by omega)]
      rfl
    obtain ⟨r, w6, e6, s6, k1, k2, k3⟩ := chg_r (fun z => u2 z fun r9 w10 => (some (r9, w10))) hG (o := .inr q) hO (by decide) hr ((hR.far s3).out (jL q.1))
    have Y : f_X11_buyOil (uL w3 151 0 (jL q.1)) (jI x) = _ := e6
    refine ⟨w6, ?_, psh T q.2, hG.psh q2, (InvC.out c3 _).far s6, k3⟩
    unfold f_law_962
    refine lawA L (r5 := jI q.1) (by rw [Y, k2]; rfl) k1 (fun _ => ?_)
    rw [out_at s6, jI_toL (by omega) (by omega)]
theorem lw_plan {w : Wd} (h : Inv w) (x1 x2 x3 : Int32) : ∃ w1, f_law_1018 w x1 x2 x3 = some w1 ∧ Inv w1 := by
  obtain ⟨T, hG, hC, hR⟩ := h
  obtain ⟨x, rfl, xb1, xb2⟩ := jI_ex x1
  obtain ⟨o, hO, hc, hr⟩ := op_planet hG.1 xb1 xb2
  obtain ⟨w3, e3, s3, c3⟩ := chg_c (fun z => u2 z fun z w10 => zc z (fun k => (some ((.inl k : Nat ⊕ Int32), w10))) (fun r9 => (some ((.inr r9), w10)))) hG (by decide) hO hc hC
  have X : f_X10_addPlanet w (jI x) = _ := e3
  rcases o with e | q
  · have hm : e = 0 ∨ e = 2 := by
      have hO : e ∈ [0, 2] := hO
      simpa using hO
    have hcd : gI w 0 0 = gI w 0 0 := rfl
    have hL : ∃ c : Int, 0 < c ∧ c < 100 ∧ f_L_addPlanet w (jI x) = some (jI c, w3) ∧ c = (fun e : Nat => if e = 0 then (1 : Int) else (2 : Int)) e := by
      unfold f_L_addPlanet
      rw [X]
      rcases hm with rfl | rfl

      · exact ⟨1, by decide, by decide, rfl, rfl⟩
      · exact ⟨2, by decide, by decide, rfl, rfl⟩
    obtain ⟨c, c0, c1, L, ce⟩ := hL
    obtain ⟨r, w6, e6, s6, k1, k2, k3⟩ := chg_r (fun z => u2 z fun r9 w10 => (some (r9, w10))) hG hO (by decide) hr (hR.far s3)
    have Y : f_X11_addPlanet w3 (jI x) = _ := e6
    have hcc : gI w6 141 12 = jI c := by
      rw [k1, ce]
    refine ⟨w6, ?_, T, hG, c3.far s6, k3⟩
    unfold f_law_1018

    refine lawA L (by rw [Y]; rfl) hcc (fun z => ?_)
    exact absurd (iff_of_eq (jI_eq (by omega) (by omega) (by omega) (by omega)) |>.mp (show jI c = jI 0 from z)) (by omega)
  · have hO1 : 0 ≤ q.1 ∧ q.1 < 1000 ∧ Good q.2 := hO
    obtain ⟨q0, q1, q2⟩ := hO1
    have L : f_L_addPlanet w (jI x) = some (jI 0, uL w3 151 0 (jL q.1)) := by
      unfold f_L_addPlanet
      rw [X, ← jI_toL (z := q.1) (by omega) (by omega)]
      rfl
    obtain ⟨r, w6, e6, s6, k1, k2, k3⟩ := chg_r (fun z => u2 z fun r9 w10 => (some (r9, w10))) hG (o := .inr q) hO (by decide) hr ((hR.far s3).out (jL q.1))
    have Y : f_X11_addPlanet (uL w3 151 0 (jL q.1)) (jI x) = _ := e6
    refine ⟨w6, ?_, psh T q.2, hG.psh q2, (InvC.out c3 _).far s6, k3⟩
    unfold f_law_1018
    refine lawA L (r5 := jI q.1) (by rw [Y, k2]; rfl) k1 (fun _ => ?_)
    rw [out_at s6, jI_toL (by omega) (by omega)]
end
