/-! NUMBERS: whole numbers behind Int32 and Int64 -/
def jI (z : Int) : Int32 := Int32.ofInt z
def jL (z : Int) : Int64 := Int64.ofInt z
theorem jI_toInt {z : Int} (h1 : -2147483648 ≤ z) (h2 : z < 2147483648) : (jI z).toInt = z := Int32.toInt_ofInt_of_le (by omega) (by omega)
theorem jL_toInt {z : Int} (h1 : -9223372036854775808 ≤ z) (h2 : z < 9223372036854775808) : (jL z).toInt = z := Int64.toInt_ofInt_of_le (by omega) (by omega)
theorem jI_self (x : Int32) : jI x.toInt = x := Int32.ofInt_toInt x
theorem jL_self (x : Int64) : jL x.toInt = x := Int64.ofInt_toInt x
theorem jI_ex (x : Int32) : ∃ z : Int, x = jI z ∧ -2147483648 ≤ z ∧ z < 2147483648 := ⟨x.toInt, (jI_self x).symm, by have := x.le_toInt; omega, by have := x.toInt_lt; omega⟩
theorem jI_lt {a b : Int} (h1 : -2147483648 ≤ a) (h2 : a < 2147483648) (h3 : -2147483648 ≤ b) (h4 : b < 2147483648) : (jI a < jI b) = (a < b) := by
  rw [Int32.lt_iff_toInt_lt, jI_toInt h1 h2, jI_toInt h3 h4]
theorem jI_le {a b : Int} (h1 : -2147483648 ≤ a) (h2 : a < 2147483648) (h3 : -2147483648 ≤ b) (h4 : b < 2147483648) : (jI a ≤ jI b) = (a ≤ b) := by
  rw [Int32.le_iff_toInt_le, jI_toInt h1 h2, jI_toInt h3 h4]
theorem jI_eq {a b : Int} (h1 : -2147483648 ≤ a) (h2 : a < 2147483648) (h3 : -2147483648 ≤ b) (h4 : b < 2147483648) : (jI a = jI b) = (a = b) := by
  rw [← Int32.toInt_inj, jI_toInt h1 h2, jI_toInt h3 h4]
theorem jL_lt {a b : Int} (h1 : -9223372036854775808 ≤ a) (h2 : a < 9223372036854775808) (h3 : -9223372036854775808 ≤ b) (h4 : b < 9223372036854775808) : (jL a < jL b) = (a < b) := by
  rw [Int64.lt_iff_toInt_lt, jL_toInt h1 h2, jL_toInt h3 h4]
theorem jL_le {a b : Int} (h1 : -9223372036854775808 ≤ a) (h2 : a < 9223372036854775808) (h3 : -9223372036854775808 ≤ b) (h4 : b < 9223372036854775808) : (jL a ≤ jL b) = (a ≤ b) := by
  rw [Int64.le_iff_toInt_le, jL_toInt h1 h2, jL_toInt h3 h4]
theorem jL_eq {a b : Int} (h1 : -9223372036854775808 ≤ a) (h2 : a < 9223372036854775808) (h3 : -9223372036854775808 ≤ b) (h4 : b < 9223372036854775808) : (jL a = jL b) = (a = b) := by
  rw [← Int64.toInt_inj, jL_toInt h1 h2, jL_toInt h3 h4]
theorem jI_add (a b : Int) : jI a + jI b = jI (a + b) := (Int32.ofInt_add a b).symm
theorem jI_sub (a b : Int) : jI a - jI b = jI (a - b) := (Int32.ofInt_sub a b).symm
theorem jI_mul (a b : Int) : jI a * jI b = jI (a * b) := (Int32.ofInt_mul a b).symm
theorem jI_neg (a : Int) : -jI a = jI (-a) := (Int32.ofInt_neg a).symm
theorem jL_add (a b : Int) : jL a + jL b = jL (a + b) := (Int64.ofInt_add a b).symm
theorem jL_sub (a b : Int) : jL a - jL b = jL (a - b) := (Int64.ofInt_sub a b).symm
theorem jL_mul (a b : Int) : jL a * jL b = jL (a * b) := (Int64.ofInt_mul a b).symm
theorem jL_neg (a : Int) : -jL a = jL (-a) := (Int64.ofInt_neg a).symm
theorem jI_div {a b : Int} (h1 : -2147483648 ≤ a) (h2 : a < 2147483648) (h3 : -2147483648 ≤ b) (h4 : b < 2147483648) : jI a / jI b = jI (a.tdiv b) :=
  (Int32.ofInt_tdiv (by show (-2147483648 : Int) ≤ a; exact h1) (by show a ≤ (2147483647 : Int); omega) (by show (-2147483648 : Int) ≤ b; exact h3) (by show b ≤ (2147483647 : Int); omega)).symm
theorem jL_div {a b : Int} (h1 : -9223372036854775808 ≤ a) (h2 : a < 9223372036854775808) (h3 : -9223372036854775808 ≤ b) (h4 : b < 9223372036854775808) : jL a / jL b = jL (a.tdiv b) :=
  (Int64.ofInt_tdiv (by show (-9223372036854775808 : Int) ≤ a; exact h1) (by show a ≤ (9223372036854775807 : Int); omega) (by show (-9223372036854775808 : Int) ≤ b; exact h3) (by show b ≤ (9223372036854775807 : Int); omega)).symm
theorem jI_clamp {z : Int} (h1 : -2147483648 ≤ z) (h2 : z < 2147483648) : (jI z).toNatClampNeg = z.toNat := Int32.toNatClampNeg_ofInt_of_le (by omega) (by omega)
theorem jI_toL {z : Int} (h1 : -2147483648 ≤ z) (h2 : z < 2147483648) : (jI z).toInt64 = jL z := Int32.toInt64_ofInt (by show (-2147483648 : Int) ≤ z; exact h1) (by show z ≤ (2147483647 : Int); omega)
theorem jL_toI (z : Int) : (jL z).toInt32 = jI z := Int64.toInt32_ofInt
theorem inR_j {z : Int} {n : Nat} (h1 : -2147483648 ≤ z) (h2 : z < 2147483648) : (inR (jI z) n = true) = (0 ≤ z ∧ z < n) := by
  have h0 : (jI z < 0) = (z < 0) := by rw [Int32.lt_iff_toInt_lt, jI_toInt h1 h2]; rfl
  unfold inR
  simp only [Bool.not_eq_true', Bool.or_eq_false_iff, decide_eq_false_iff_not, jI_clamp h1 h2, h0]
  apply propext
  omega
theorem nI_j (n : Nat) : nI n = jI (n : Int) := Int32.ofInt_eq_ofNat.symm
theorem jI_wrap {a b : Int} (h : a % 4294967296 = b % 4294967296) : jI a = jI b := by
  rw [← Int32.toInt_inj]
  show (Int32.ofInt a).toInt = (Int32.ofInt b).toInt
  rw [Int32.toInt_ofInt, Int32.toInt_ofInt]
  show a.bmod 4294967296 = b.bmod 4294967296
  rw [← Int.emod_bmod, show a % ((4294967296 : Nat) : Int) = b % ((4294967296 : Nat) : Int) from h, Int.emod_bmod]
theorem z_bool {z : Int} (h1 : -2147483648 ≤ z) (h2 : z < 2147483648) (h : z = 0 ∨ z = 1) : vp_nar .boolean (jI z) = jI z := by
  rcases h with rfl | rfl <;> rfl

theorem l32_0 : (0 : Int32) = jI 0 := rfl
theorem l32_1 : (1 : Int32) = jI 1 := rfl
theorem l32_2 : (2 : Int32) = jI 2 := rfl
theorem l32_3 : (3 : Int32) = jI 3 := rfl
theorem l32_4 : (4 : Int32) = jI 4 := rfl
theorem l32_5 : (5 : Int32) = jI 5 := rfl
theorem l32_6 : (6 : Int32) = jI 6 := rfl
theorem l32_7 : (7 : Int32) = jI 7 := rfl
theorem l32_8 : (8 : Int32) = jI 8 := rfl
theorem l32_9 : (9 : Int32) = jI 9 := rfl
theorem l32_10 : (10 : Int32) = jI 10 := rfl
theorem l32_11 : (11 : Int32) = jI 11 := rfl
theorem l32_12 : (12 : Int32) = jI 12 := rfl
theorem l32_13 : (13 : Int32) = jI 13 := rfl
theorem l32_14 : (14 : Int32) = jI 14 := rfl
theorem l32_15 : (15 : Int32) = jI 15 := rfl
theorem l32_16 : (16 : Int32) = jI 16 := rfl
theorem l32_17 : (17 : Int32) = jI 17 := rfl
theorem l32_18 : (18 : Int32) = jI 18 := rfl
theorem l32_19 : (19 : Int32) = jI 19 := rfl
theorem l32_20 : (20 : Int32) = jI 20 := rfl
theorem l32_21 : (21 : Int32) = jI 21 := rfl
theorem l32_22 : (22 : Int32) = jI 22 := rfl
theorem l32_23 : (23 : Int32) = jI 23 := rfl
theorem l32_24 : (24 : Int32) = jI 24 := rfl
theorem l32_25 : (25 : Int32) = jI 25 := rfl
theorem l32_26 : (26 : Int32) = jI 26 := rfl
theorem l32_27 : (27 : Int32) = jI 27 := rfl
theorem l32_28 : (28 : Int32) = jI 28 := rfl
theorem l32_29 : (29 : Int32) = jI 29 := rfl
theorem l32_30 : (30 : Int32) = jI 30 := rfl
theorem l32_31 : (31 : Int32) = jI 31 := rfl
theorem l32_32 : (32 : Int32) = jI 32 := rfl
theorem l32_33 : (33 : Int32) = jI 33 := rfl
theorem l32_34 : (34 : Int32) = jI 34 := rfl
theorem l32_35 : (35 : Int32) = jI 35 := rfl
theorem l32_36 : (36 : Int32) = jI 36 := rfl
theorem l32_37 : (37 : Int32) = jI 37 := rfl
theorem l32_38 : (38 : Int32) = jI 38 := rfl
theorem l32_39 : (39 : Int32) = jI 39 := rfl
theorem l32_40 : (40 : Int32) = jI 40 := rfl
theorem l32_41 : (41 : Int32) = jI 41 := rfl
theorem l32_42 : (42 : Int32) = jI 42 := rfl
theorem l32_43 : (43 : Int32) = jI 43 := rfl
theorem l32_44 : (44 : Int32) = jI 44 := rfl
theorem l32_45 : (45 : Int32) = jI 45 := rfl
theorem l32_46 : (46 : Int32) = jI 46 := rfl
theorem l32_47 : (47 : Int32) = jI 47 := rfl
theorem l32_48 : (48 : Int32) = jI 48 := rfl
theorem l32_49 : (49 : Int32) = jI 49 := rfl
theorem l32_50 : (50 : Int32) = jI 50 := rfl
theorem l32_51 : (51 : Int32) = jI 51 := rfl
theorem l32_52 : (52 : Int32) = jI 52 := rfl
theorem l32_53 : (53 : Int32) = jI 53 := rfl
theorem l32_54 : (54 : Int32) = jI 54 := rfl
theorem l32_55 : (55 : Int32) = jI 55 := rfl
theorem l32_56 : (56 : Int32) = jI 56 := rfl
theorem l32_57 : (57 : Int32) = jI 57 := rfl
theorem l32_58 : (58 : Int32) = jI 58 := rfl
theorem l32_59 : (59 : Int32) = jI 59 := rfl
theorem l32_60 : (60 : Int32) = jI 60 := rfl
theorem l32_61 : (61 : Int32) = jI 61 := rfl
theorem l32_62 : (62 : Int32) = jI 62 := rfl
theorem l32_63 : (63 : Int32) = jI 63 := rfl
theorem l32_64 : (64 : Int32) = jI 64 := rfl
theorem l32_65 : (65 : Int32) = jI 65 := rfl
theorem l32_66 : (66 : Int32) = jI 66 := rfl
theorem l32_76 : (76 : Int32) = jI 76 := rfl
theorem l32_86 : (86 : Int32) = jI 86 := rfl
theorem l32_90 : (90 : Int32) = jI 90 := rfl
theorem l32_92 : (92 : Int32) = jI 92 := rfl
theorem l32_97 : (97 : Int32) = jI 97 := rfl
theorem l32_98 : (98 : Int32) = jI 98 := rfl
theorem l32_99 : (99 : Int32) = jI 99 := rfl
theorem l32_100 : (100 : Int32) = jI 100 := rfl
theorem l32_101 : (101 : Int32) = jI 101 := rfl
theorem l32_102 : (102 : Int32) = jI 102 := rfl
theorem l32_103 : (103 : Int32) = jI 103 := rfl
theorem l32_104 : (104 : Int32) = jI 104 := rfl
theorem l32_105 : (105 : Int32) = jI 105 := rfl
theorem l32_106 : (106 : Int32) = jI 106 := rfl
theorem l32_107 : (107 : Int32) = jI 107 := rfl
theorem l32_108 : (108 : Int32) = jI 108 := rfl
theorem l32_109 : (109 : Int32) = jI 109 := rfl
theorem l32_110 : (110 : Int32) = jI 110 := rfl
theorem l32_111 : (111 : Int32) = jI 111 := rfl
theorem l32_112 : (112 : Int32) = jI 112 := rfl
theorem l32_113 : (113 : Int32) = jI 113 := rfl
theorem l32_114 : (114 : Int32) = jI 114 := rfl
theorem l32_115 : (115 : Int32) = jI 115 := rfl
theorem l32_116 : (116 : Int32) = jI 116 := rfl
theorem l32_117 : (117 : Int32) = jI 117 := rfl
theorem l32_118 : (118 : Int32) = jI 118 := rfl
theorem l32_119 : (119 : Int32) = jI 119 := rfl
theorem l32_120 : (120 : Int32) = jI 120 := rfl
theorem l32_121 : (121 : Int32) = jI 121 := rfl
theorem l32_122 : (122 : Int32) = jI 122 := rfl
theorem l32_123 : (123 : Int32) = jI 123 := rfl
theorem l32_124 : (124 : Int32) = jI 124 := rfl
theorem l32_125 : (125 : Int32) = jI 125 := rfl
theorem l32_126 : (126 : Int32) = jI 126 := rfl
theorem l32_192 : (192 : Int32) = jI 192 := rfl
theorem l32_200 : (200 : Int32) = jI 200 := rfl
theorem l32_255 : (255 : Int32) = jI 255 := rfl
theorem l32_999 : (999 : Int32) = jI 999 := rfl
theorem l32_1000 : (1000 : Int32) = jI 1000 := rfl
theorem l32_1344 : (1344 : Int32) = jI 1344 := rfl
theorem l32_2147483639 : (2147483639 : Int32) = jI 2147483639 := rfl
theorem l32_2147483647 : (2147483647 : Int32) = jI 2147483647 := rfl
theorem l64_0 : (0 : Int64) = jL 0 := rfl
theorem l64_1 : (1 : Int64) = jL 1 := rfl
theorem l64_99 : (99 : Int64) = jL 99 := rfl
theorem l64_999 : (999 : Int64) = jL 999 := rfl
theorem l64_24883200000 : (24883200000 : Int64) = jL 24883200000 := rfl
theorem l64_746496000000 : (746496000000 : Int64) = jL 746496000000 := rfl
