/-! COMPARISONS decided at once (so that what is not taken is not walked) -/
theorem jI_eqT {a b : Int} (h : a = b) : (jI a = jI b) = True := by rw [h]; exact eq_true rfl
theorem jI_eqF {a b : Int} (h : a ≠ b) (h1 : -2147483648 ≤ a) (h2 : a < 2147483648) (h3 : -2147483648 ≤ b) (h4 : b < 2147483648) : (jI a = jI b) = False := by rw [jI_eq h1 h2 h3 h4]; exact eq_false h
theorem jI_ltT {a b : Int} (h : a < b) (h1 : -2147483648 ≤ a) (h2 : a < 2147483648) (h3 : -2147483648 ≤ b) (h4 : b < 2147483648) : (jI a < jI b) = True := by rw [jI_lt h1 h2 h3 h4]; exact eq_true h
theorem jI_ltF {a b : Int} (h : ¬ a < b) (h1 : -2147483648 ≤ a) (h2 : a < 2147483648) (h3 : -2147483648 ≤ b) (h4 : b < 2147483648) : (jI a < jI b) = False := by rw [jI_lt h1 h2 h3 h4]; exact eq_false h
theorem jI_leT {a b : Int} (h : a ≤ b) (h1 : -2147483648 ≤ a) (h2 : a < 2147483648) (h3 : -2147483648 ≤ b) (h4 : b < 2147483648) : (jI a ≤ jI b) = True := by rw [jI_le h1 h2 h3 h4]; exact eq_true h
theorem jI_leF {a b : Int} (h : ¬ a ≤ b) (h1 : -2147483648 ≤ a) (h2 : a < 2147483648) (h3 : -2147483648 ≤ b) (h4 : b < 2147483648) : (jI a ≤ jI b) = False := by rw [jI_le h1 h2 h3 h4]; exact eq_false h
theorem jL_eqT {a b : Int} (h : a = b) : (jL a = jL b) = True := by rw [h]; exact eq_true rfl
theorem jL_eqF {a b : Int} (h : a ≠ b) (h1 : -9223372036854775808 ≤ a) (h2 : a < 9223372036854775808) (h3 : -9223372036854775808 ≤ b) (h4 : b < 9223372036854775808) : (jL a = jL b) = False := by rw [jL_eq h1 h2 h3 h4]; exact eq_false h
theorem jL_ltT {a b : Int} (h : a < b) (h1 : -9223372036854775808 ≤ a) (h2 : a < 9223372036854775808) (h3 : -9223372036854775808 ≤ b) (h4 : b < 9223372036854775808) : (jL a < jL b) = True := by rw [jL_lt h1 h2 h3 h4]; exact eq_true h
theorem jL_ltF {a b : Int} (h : ¬ a < b) (h1 : -9223372036854775808 ≤ a) (h2 : a < 9223372036854775808) (h3 : -9223372036854775808 ≤ b) (h4 : b < 9223372036854775808) : (jL a < jL b) = False := by rw [jL_lt h1 h2 h3 h4]; exact eq_false h
theorem jL_leT {a b : Int} (h : a ≤ b) (h1 : -9223372036854775808 ≤ a) (h2 : a < 9223372036854775808) (h3 : -9223372036854775808 ≤ b) (h4 : b < 9223372036854775808) : (jL a ≤ jL b) = True := by rw [jL_le h1 h2 h3 h4]; exact eq_true h
theorem jL_leF {a b : Int} (h : ¬ a ≤ b) (h1 : -9223372036854775808 ≤ a) (h2 : a < 9223372036854775808) (h3 : -9223372036854775808 ≤ b) (h4 : b < 9223372036854775808) : (jL a ≤ jL b) = False := by rw [jL_le h1 h2 h3 h4]; exact eq_false h
theorem inR_T {z : Int} {n : Nat} (h : 0 ≤ z ∧ z < n) (h1 : -2147483648 ≤ z) (h2 : z < 2147483648) : (inR (jI z) n = true) = True := by rw [inR_j h1 h2]; exact eq_true h
theorem inR_F {z : Int} {n : Nat} (h : ¬ (0 ≤ z ∧ z < n)) (h1 : -2147483648 ≤ z) (h2 : z < 2147483648) : (inR (jI z) n = true) = False := by rw [inR_j h1 h2]; exact eq_false h
theorem bZ_T {c : Prop} [Decidable c] (h : ¬ c) : (jI (bZ c) = jI 0) = True := by rw [bZ_eq0]; exact eq_true h
theorem bZ_F {c : Prop} [Decidable c] (h : c) : (jI (bZ c) = jI 0) = False := by rw [bZ_eq0]; exact eq_false (fun z => z h)
/-! the runs' words, opened step by step -/
theorem wl_p {α : Type} (x : Wd) (f : Wd → α) : wl x f = f x := (fun (y : α) (hy : y = wl x f) => (show y = f x from hy)) _ rfl
theorem bs_p {α β : Type} (x : α) (f : α → Option β) : (some x).bind f = f x := (fun (y : Option β) (hy : y = (some x).bind f) => (show y = f x from hy)) _ rfl
theorem u2_p {a b r : Type} (x : a) (y : b) (f : a → b → r) : u2 (x, y) f = f x y := (fun (z : r) (hy : z = u2 (x, y) f) => (show z = f x y from hy)) _ rfl
theorem u3_p {a b c r : Type} (x : a) (y : b) (v : c) (f : a → b → c → r) : u3 (x, y, v) f = f x y v := (fun (z : r) (hy : z = u3 (x, y, v) f) => (show z = f x y v from hy)) _ rfl
theorem u4_p {a b c d r : Type} (x : a) (y : b) (v : c) (w : d) (f : a → b → c → d → r) : u4 (x, y, v, w) f = f x y v w := (fun (z : r) (hy : z = u4 (x, y, v, w) f) => (show z = f x y v w from hy)) _ rfl
theorem u5_p {a b c d e r : Type} (x : a) (y : b) (v : c) (w : d) (t : e) (f : a → b → c → d → e → r) : u5 (x, y, v, w, t) f = f x y v w t := (fun (z : r) (hy : z = u5 (x, y, v, w, t) f) => (show z = f x y v w t from hy)) _ rfl
theorem zl_p {α β γ : Type} (x : α) (f : α → γ) (g : β → γ) : zc (.inl x) f g = f x := (fun (z : γ) (hy : z = zc (.inl x) f g) => (show z = f x from hy)) _ rfl
theorem zr_p {α β γ : Type} (x : β) (f : α → γ) (g : β → γ) : zc (.inr x) f g = g x := (fun (z : γ) (hy : z = zc (.inr x) f g) => (show z = g x from hy)) _ rfl
theorem mn_p {α β : Type} (n : β) (f : α → β) : mo none n f = n := (fun (z : β) (hy : z = mo none n f) => (show z = n from hy)) _ rfl
theorem ms_p {α β : Type} (x : α) (n : β) (f : α → β) : mo (some x) n f = f x := (fun (z : β) (hy : z = mo (some x) n f) => (show z = f x from hy)) _ rfl
