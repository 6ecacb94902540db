/-! THE WORLD: one value for all cells of the system, the law and the reference; what the written functions are made of -/
abbrev Wd : Type := (Nat → Nat → Int32) × (Nat → Nat → Int64) × (Nat → Option Nat) × (Nat → UInt64) × Nat
def gI (w : Wd) (k i : Nat) : Int32 := w.1 k i
def gL (w : Wd) (k i : Nat) : Int64 := w.2.1 k i
def gV (w : Wd) (i : Nat) : Option Nat := w.2.2.1 i
def gD (w : Wd) (i : Nat) : UInt64 := w.2.2.2.1 i
def gC (w : Wd) : Nat := w.2.2.2.2
def uI (w : Wd) (k i : Nat) (v : Int32) : Wd := (fun a b => if a = k ∧ b = i then v else w.1 a b, w.2)
def uL (w : Wd) (k i : Nat) (v : Int64) : Wd := (w.1, fun a b => if a = k ∧ b = i then v else w.2.1 a b, w.2.2)
def uV (w : Wd) (i : Nat) (v : Option Nat) : Wd := (w.1, w.2.1, fun b => if b = i then v else w.2.2.1 b, w.2.2.2)
def uD (w : Wd) (i : Nat) (v : UInt64) : Wd := (w.1, w.2.1, w.2.2.1, fun b => if b = i then v else w.2.2.2.1 b, w.2.2.2.2)
def uC (w : Wd) (n : Nat) : Wd := (w.1, w.2.1, w.2.2.1, w.2.2.2.1, n)
theorem gI_uI (w : Wd) (k i : Nat) (v : Int32) (a b : Nat) : gI (uI w k i v) a b = if a = k ∧ b = i then v else gI w a b := rfl
theorem gI_uL (w : Wd) (k i : Nat) (v : Int64) (a b : Nat) : gI (uL w k i v) a b = gI w a b := rfl
theorem gI_uV (w : Wd) (i : Nat) (v : Option Nat) (a b : Nat) : gI (uV w i v) a b = gI w a b := rfl
theorem gI_uD (w : Wd) (i : Nat) (v : UInt64) (a b : Nat) : gI (uD w i v) a b = gI w a b := rfl
theorem gI_uC (w : Wd) (n : Nat) (a b : Nat) : gI (uC w n) a b = gI w a b := rfl
theorem gL_uI (w : Wd) (k i : Nat) (v : Int32) (a b : Nat) : gL (uI w k i v) a b = gL w a b := rfl
theorem gL_uL (w : Wd) (k i : Nat) (v : Int64) (a b : Nat) : gL (uL w k i v) a b = if a = k ∧ b = i then v else gL w a b := rfl
theorem gL_uV (w : Wd) (i : Nat) (v : Option Nat) (a b : Nat) : gL (uV w i v) a b = gL w a b := rfl
theorem gL_uD (w : Wd) (i : Nat) (v : UInt64) (a b : Nat) : gL (uD w i v) a b = gL w a b := rfl
theorem gL_uC (w : Wd) (n : Nat) (a b : Nat) : gL (uC w n) a b = gL w a b := rfl
theorem gV_uI (w : Wd) (k i : Nat) (v : Int32) (b : Nat) : gV (uI w k i v) b = gV w b := rfl
theorem gV_uL (w : Wd) (k i : Nat) (v : Int64) (b : Nat) : gV (uL w k i v) b = gV w b := rfl
theorem gV_uV (w : Wd) (i : Nat) (v : Option Nat) (b : Nat) : gV (uV w i v) b = if b = i then v else gV w b := rfl
theorem gV_uD (w : Wd) (i : Nat) (v : UInt64) (b : Nat) : gV (uD w i v) b = gV w b := rfl
theorem gV_uC (w : Wd) (n : Nat) (b : Nat) : gV (uC w n) b = gV w b := rfl
theorem gD_uI (w : Wd) (k i : Nat) (v : Int32) (b : Nat) : gD (uI w k i v) b = gD w b := rfl
theorem gD_uL (w : Wd) (k i : Nat) (v : Int64) (b : Nat) : gD (uL w k i v) b = gD w b := rfl
theorem gD_uV (w : Wd) (i : Nat) (v : Option Nat) (b : Nat) : gD (uV w i v) b = gD w b := rfl
theorem gD_uD (w : Wd) (i : Nat) (v : UInt64) (b : Nat) : gD (uD w i v) b = if b = i then v else gD w b := rfl
theorem gD_uC (w : Wd) (n : Nat) (b : Nat) : gD (uC w n) b = gD w b := rfl
theorem gC_uI (w : Wd) (k i : Nat) (v : Int32) : gC (uI w k i v) = gC w := rfl
theorem gC_uL (w : Wd) (k i : Nat) (v : Int64) : gC (uL w k i v) = gC w := rfl
theorem gC_uV (w : Wd) (i : Nat) (v : Option Nat) : gC (uV w i v) = gC w := rfl
theorem gC_uD (w : Wd) (i : Nat) (v : UInt64) : gC (uD w i v) = gC w := rfl
theorem gC_uC (w : Wd) (n : Nat) : gC (uC w n) = n := rfl
def cTeeth : List Int32 := [6, 8, 10, 12, 15, 20, 24, 30, 40, 60]
def cShapes : List Int32 := [0, 2, 2, 2, 3, 3, 1, 3, 1, 1, 1, 0, 1]
def cLens : List Nat := [5, 5, 5, 4, 7, 5, 8, 4, 8, 5, 4, 4, 7, 26, 13, 6, 1, 2, 6, 8, 9, 0, 6, 2, 10, 1, 55, 6, 5, 5, 9, 13, 13, 13, 13]
def cWords : List (List Int32) := [[103, 101, 97, 114, 32], [109, 101, 115, 104, 32], [97, 120, 108, 101, 32], [99, 117, 116, 32], [115, 112, 114, 105, 110, 103, 32], [119, 105, 110, 100, 32], [114, 101, 118, 101, 114, 115, 101, 32], [114, 117, 110, 32], [114, 97, 116, 99, 104, 101, 116, 32], [102, 114, 101, 101, 32], [111, 105, 108, 32], [98, 117, 121, 32], [112, 108, 97, 110, 101, 116, 32], [114, 97, 116, 99, 104, 101, 116, 32, 48, 59, 102, 114, 101, 101, 32, 48, 59, 114, 97, 116, 99, 104, 101, 116, 32, 49], [102, 114, 101, 101, 32, 48, 59, 103, 101, 97, 114, 32, 55], [99, 117, 116, 32, 48, 48], [114], [114, 101], [109, 101, 115, 104, 32, 48], [115, 112, 114, 105, 110, 103, 32, 48], [103, 101, 97, 114, 32, 49, 50, 51, 52], [], [111, 105, 108, 32, 48, 59], [114, 120], [114, 117, 110, 32, 48, 32, 49, 50, 51, 52], [122], [103, 101, 97, 114, 32, 54, 48, 59, 103, 101, 97, 114, 32, 50, 48, 59, 103, 101, 97, 114, 32, 49, 48, 59, 103, 101, 97, 114, 32, 51, 48, 59, 109, 101, 115, 104, 32, 48, 49, 59, 97, 120, 108, 101, 32, 49, 50, 59, 109, 101, 115, 104, 32, 50, 51], [48, 58, 54, 48, 100, 115], [47, 49, 48, 48, 45], [49, 58, 50, 48, 114], [48, 42, 44, 49, 42, 44, 50, 44, 51], [48, 58, 54, 48, 100, 115, 56, 51, 47, 49, 48, 48, 45], [48, 58, 54, 48, 100, 115, 55, 54, 47, 49, 48, 48, 45], [48, 58, 54, 48, 100, 115, 54, 57, 47, 49, 48, 48, 45], [48, 58, 54, 48, 100, 115, 54, 50, 47, 49, 48, 48, 45]]
/-- an index in its row -/
def inR (i : Int32) (n : Nat) : Bool := !(decide (i < 0) || decide (n ≤ i.toNatClampNeg))
def okN64 (r : UInt64) : Bool := decide (r &&& 0x7fffffffffffffff ≤ 0x7ff0000000000000)
def okN32 (r : UInt32) : Bool := decide (r &&& 0x7fffffff ≤ 0x7f800000)
def zc {α β γ : Type} (z : α ⊕ β) (f : α → γ) (h : β → γ) : γ := match z with
  | .inl a => f a
  | .inr b => h b
def u2 {a b r : Type} (q : a × b) (f : a → b → r) : r := f q.1 q.2
def u3 {a b c r : Type} (q : a × b × c) (f : a → b → c → r) : r := f q.1 q.2.1 q.2.2
def u4 {a b c d r : Type} (q : a × b × c × d) (f : a → b → c → d → r) : r := f q.1 q.2.1 q.2.2.1 q.2.2.2
def u5 {a b c d e r : Type} (q : a × b × c × d × e) (f : a → b → c → d → e → r) : r := f q.1 q.2.1 q.2.2.1 q.2.2.2.1 q.2.2.2.2
def u6 {a b c d e g r : Type} (q : a × b × c × d × e × g) (f : a → b → c → d → e → g → r) : r := f q.1 q.2.1 q.2.2.1 q.2.2.2.1 q.2.2.2.2.1 q.2.2.2.2.2
def u7 {a b c d e g h r : Type} (q : a × b × c × d × e × g × h) (f : a → b → c → d → e → g → h → r) : r := f q.1 q.2.1 q.2.2.1 q.2.2.2.1 q.2.2.2.2.1 q.2.2.2.2.2.1 q.2.2.2.2.2.2
/-- a name for a world -/
def wl {α : Type} (x : Wd) (f : Wd → α) : α := f x
def mo {α β : Type} (o : Option α) (n : β) (f : α → β) : β := match o with
  | none => n
  | some a => f a
def uG (w : Wd) (n : Nat) : Wd := (fun a b => if a = 140 ∧ gC w ≤ b then 0 else w.1 a b, w.2.1, w.2.2.1, w.2.2.2.1, n)
/-- may it grow so? -/
def gK (w : Wd) (n : Int32) : Bool := decide (¬ n < 0) && (decide (n.toNatClampNeg ≤ 64) && (decide (gC w < n.toNatClampNeg) && (List.range (gC w)).all (fun i => fits .byte (.int (gI w 140 i)))))
