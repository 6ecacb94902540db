/-! ACT, case by case; what it answers of a refusal and of an answer -/
def aX (z : Nat ⊕ Int32) (w : Wd) : Option (Int32 × Wd) := zc z (fun k => (if k = 0 then (some ((-1 : Int32), w)) else (if k = 1 then (some ((-2 : Int32), w)) else (if k = 2 then (some ((-3 : Int32), w)) else (if k = 3 then (some ((-4 : Int32), w)) else (if k = 4 then (some ((-5 : Int32), w)) else none)))))) (fun r => (some (r, w)))
theorem aX_r (r : Int32) (w : Wd) : aX (.inr r) w = some (r, w) := rfl
theorem aX_e {k : Nat} (h : k < 5) (w : Wd) : aX (.inl k) w = some (jI (-(k : Int) - 1), w) := by
  rcases (show k = 0 ∨ k = 1 ∨ k = 2 ∨ k = 3 ∨ k = 4 by omega) with rfl | rfl | rfl | rfl | rfl <;> rfl
theorem act_0 (w : Wd) (x y : Int32) : f_L_act w (0 : Int32) x y = ((f_X10_addGear w x).bind fun z => u2 z fun z w1 => aX z w1) := by
  unfold f_L_act
  rw [if_pos rfl]
  rfl
theorem act_1 (w : Wd) (x y : Int32) : f_L_act w (1 : Int32) x y = ((f_X10_mesh w x y).bind fun z => u2 z fun z w1 => aX z w1) := by
  unfold f_L_act
  rw [if_neg (show ¬ (1 : Int32) = (0 : Int32) by decide +kernel), if_pos rfl]
  rfl
theorem act_2 (w : Wd) (x y : Int32) : f_L_act w (2 : Int32) x y = ((f_X10_shareAxle w x y).bind fun z => u2 z fun z w1 => aX z w1) := by
  unfold f_L_act
  rw [if_neg (show ¬ (2 : Int32) = (0 : Int32) by decide +kernel), if_neg (show ¬ (2 : Int32) = (1 : Int32) by decide +kernel), if_pos rfl]
  rfl
theorem act_3 (w : Wd) (x y : Int32) : f_L_act w (3 : Int32) x y = ((f_X10_separate w x y).bind fun z => u2 z fun z w1 => aX z w1) := by
  unfold f_L_act
  rw [if_neg (show ¬ (3 : Int32) = (0 : Int32) by decide +kernel), if_neg (show ¬ (3 : Int32) = (1 : Int32) by decide +kernel), if_neg (show ¬ (3 : Int32) = (2 : Int32) by decide +kernel), if_pos rfl]
  rfl
theorem act_4 (w : Wd) (x y : Int32) : f_L_act w (4 : Int32) x y = ((f_X10_setSpring w x y).bind fun z => u2 z fun z w1 => aX z w1) := by
  unfold f_L_act
  rw [if_neg (show ¬ (4 : Int32) = (0 : Int32) by decide +kernel), if_neg (show ¬ (4 : Int32) = (1 : Int32) by decide +kernel), if_neg (show ¬ (4 : Int32) = (2 : Int32) by decide +kernel), if_neg (show ¬ (4 : Int32) = (3 : Int32) by decide +kernel), if_pos rfl]
  rfl
theorem act_5 (w : Wd) (x y : Int32) : f_L_act w (5 : Int32) x y = ((f_X10_wind w x y).bind fun z => u2 z fun z w1 => aX z w1) := by
  unfold f_L_act
  rw [if_neg (show ¬ (5 : Int32) = (0 : Int32) by decide +kernel), if_neg (show ¬ (5 : Int32) = (1 : Int32) by decide +kernel), if_neg (show ¬ (5 : Int32) = (2 : Int32) by decide +kernel), if_neg (show ¬ (5 : Int32) = (3 : Int32) by decide +kernel), if_neg (show ¬ (5 : Int32) = (4 : Int32) by decide +kernel), if_pos rfl]
  rfl
theorem act_7 (w : Wd) (x y : Int32) : f_L_act w (7 : Int32) x y = ((f_X10_release w x y).bind fun z => u2 z fun z w1 => aX z w1) := by
  unfold f_L_act
  rw [if_neg (show ¬ (7 : Int32) = (0 : Int32) by decide +kernel), if_neg (show ¬ (7 : Int32) = (1 : Int32) by decide +kernel), if_neg (show ¬ (7 : Int32) = (2 : Int32) by decide +kernel), if_neg (show ¬ (7 : Int32) = (3 : Int32) by decide +kernel), if_neg (show ¬ (7 : Int32) = (4 : Int32) by decide +kernel), if_neg (show ¬ (7 : Int32) = (5 : Int32) by decide +kernel), if_neg (show ¬ (7 : Int32) = (6 : Int32) by decide +kernel), if_pos rfl]
  rfl
theorem act_8 (w : Wd) (x y : Int32) : f_L_act w (8 : Int32) x y = ((f_X10_oil w x).bind fun z => u2 z fun z w1 => aX z w1) := by
  unfold f_L_act
  rw [if_neg (show ¬ (8 : Int32) = (0 : Int32) by decide +kernel), if_neg (show ¬ (8 : Int32) = (1 : Int32) by decide +kernel), if_neg (show ¬ (8 : Int32) = (2 : Int32) by decide +kernel), if_neg (show ¬ (8 : Int32) = (3 : Int32) by decide +kernel), if_neg (show ¬ (8 : Int32) = (4 : Int32) by decide +kernel), if_neg (show ¬ (8 : Int32) = (5 : Int32) by decide +kernel), if_neg (show ¬ (8 : Int32) = (6 : Int32) by decide +kernel), if_neg (show ¬ (8 : Int32) = (7 : Int32) by decide +kernel), if_pos rfl]
  rfl
theorem act_10 (w : Wd) (x y : Int32) : f_L_act w (10 : Int32) x y = ((f_X10_addPlanet w x).bind fun z => u2 z fun z w1 => aX z w1) := by
  unfold f_L_act
  rw [if_neg (show ¬ (10 : Int32) = (0 : Int32) by decide +kernel), if_neg (show ¬ (10 : Int32) = (1 : Int32) by decide +kernel), if_neg (show ¬ (10 : Int32) = (2 : Int32) by decide +kernel), if_neg (show ¬ (10 : Int32) = (3 : Int32) by decide +kernel), if_neg (show ¬ (10 : Int32) = (4 : Int32) by decide +kernel), if_neg (show ¬ (10 : Int32) = (5 : Int32) by decide +kernel), if_neg (show ¬ (10 : Int32) = (6 : Int32) by decide +kernel), if_neg (show ¬ (10 : Int32) = (7 : Int32) by decide +kernel), if_neg (show ¬ (10 : Int32) = (8 : Int32) by decide +kernel), if_neg (show ¬ (10 : Int32) = (9 : Int32) by decide +kernel), if_pos rfl]
  rfl
theorem act_11 (w : Wd) (x y : Int32) : f_L_act w (11 : Int32) x y = ((f_X10_buyOil w x).bind fun z => u2 z fun z w1 => aX z w1) := by
  unfold f_L_act
  rw [if_neg (show ¬ (11 : Int32) = (0 : Int32) by decide +kernel), if_neg (show ¬ (11 : Int32) = (1 : Int32) by decide +kernel), if_neg (show ¬ (11 : Int32) = (2 : Int32) by decide +kernel), if_neg (show ¬ (11 : Int32) = (3 : Int32) by decide +kernel), if_neg (show ¬ (11 : Int32) = (4 : Int32) by decide +kernel), if_neg (show ¬ (11 : Int32) = (5 : Int32) by decide +kernel), if_neg (show ¬ (11 : Int32) = (6 : Int32) by decide +kernel), if_neg (show ¬ (11 : Int32) = (7 : Int32) by decide +kernel), if_neg (show ¬ (11 : Int32) = (8 : Int32) by decide +kernel), if_neg (show ¬ (11 : Int32) = (9 : Int32) by decide +kernel), if_neg (show ¬ (11 : Int32) = (10 : Int32) by decide +kernel), if_pos rfl]
  rfl
theorem act_12 (w : Wd) (x y : Int32) : f_L_act w (12 : Int32) x y = ((f_X10_tension w x).bind fun z => aX z w) := by
  unfold f_L_act
  rw [if_neg (show ¬ (12 : Int32) = (0 : Int32) by decide +kernel), if_neg (show ¬ (12 : Int32) = (1 : Int32) by decide +kernel), if_neg (show ¬ (12 : Int32) = (2 : Int32) by decide +kernel), if_neg (show ¬ (12 : Int32) = (3 : Int32) by decide +kernel), if_neg (show ¬ (12 : Int32) = (4 : Int32) by decide +kernel), if_neg (show ¬ (12 : Int32) = (5 : Int32) by decide +kernel), if_neg (show ¬ (12 : Int32) = (6 : Int32) by decide +kernel), if_neg (show ¬ (12 : Int32) = (7 : Int32) by decide +kernel), if_neg (show ¬ (12 : Int32) = (8 : Int32) by decide +kernel), if_neg (show ¬ (12 : Int32) = (9 : Int32) by decide +kernel), if_neg (show ¬ (12 : Int32) = (10 : Int32) by decide +kernel), if_neg (show ¬ (12 : Int32) = (11 : Int32) by decide +kernel), if_pos rfl]
  rfl
theorem act_13 (w : Wd) (x y : Int32) : f_L_act w (13 : Int32) x y = ((f_X10_springSize w x).bind fun z => aX z w) := by
  unfold f_L_act
  rw [if_neg (show ¬ (13 : Int32) = (0 : Int32) by decide +kernel), if_neg (show ¬ (13 : Int32) = (1 : Int32) by decide +kernel), if_neg (show ¬ (13 : Int32) = (2 : Int32) by decide +kernel), if_neg (show ¬ (13 : Int32) = (3 : Int32) by decide +kernel), if_neg (show ¬ (13 : Int32) = (4 : Int32) by decide +kernel), if_neg (show ¬ (13 : Int32) = (5 : Int32) by decide +kernel), if_neg (show ¬ (13 : Int32) = (6 : Int32) by decide +kernel), if_neg (show ¬ (13 : Int32) = (7 : Int32) by decide +kernel), if_neg (show ¬ (13 : Int32) = (8 : Int32) by decide +kernel), if_neg (show ¬ (13 : Int32) = (9 : Int32) by decide +kernel), if_neg (show ¬ (13 : Int32) = (10 : Int32) by decide +kernel), if_neg (show ¬ (13 : Int32) = (11 : Int32) by decide +kernel), if_neg (show ¬ (13 : Int32) = (12 : Int32) by decide +kernel), if_pos rfl]
  rfl
theorem act_14 (w : Wd) (x y : Int32) : f_L_act w (14 : Int32) x y = ((f_X10_wear w x).bind fun z => aX z w) := by
  unfold f_L_act
  rw [if_neg (show ¬ (14 : Int32) = (0 : Int32) by decide +kernel), if_neg (show ¬ (14 : Int32) = (1 : Int32) by decide +kernel), if_neg (show ¬ (14 : Int32) = (2 : Int32) by decide +kernel), if_neg (show ¬ (14 : Int32) = (3 : Int32) by decide +kernel), if_neg (show ¬ (14 : Int32) = (4 : Int32) by decide +kernel), if_neg (show ¬ (14 : Int32) = (5 : Int32) by decide +kernel), if_neg (show ¬ (14 : Int32) = (6 : Int32) by decide +kernel), if_neg (show ¬ (14 : Int32) = (7 : Int32) by decide +kernel), if_neg (show ¬ (14 : Int32) = (8 : Int32) by decide +kernel), if_neg (show ¬ (14 : Int32) = (9 : Int32) by decide +kernel), if_neg (show ¬ (14 : Int32) = (10 : Int32) by decide +kernel), if_neg (show ¬ (14 : Int32) = (11 : Int32) by decide +kernel), if_neg (show ¬ (14 : Int32) = (12 : Int32) by decide +kernel), if_neg (show ¬ (14 : Int32) = (13 : Int32) by decide +kernel), if_pos rfl]
  rfl
theorem act_15 (w : Wd) (x y : Int32) : f_L_act w (15 : Int32) x y = ((f_X10_joint w x y).bind fun z => aX z w) := by
  unfold f_L_act
  rw [if_neg (show ¬ (15 : Int32) = (0 : Int32) by decide +kernel), if_neg (show ¬ (15 : Int32) = (1 : Int32) by decide +kernel), if_neg (show ¬ (15 : Int32) = (2 : Int32) by decide +kernel), if_neg (show ¬ (15 : Int32) = (3 : Int32) by decide +kernel), if_neg (show ¬ (15 : Int32) = (4 : Int32) by decide +kernel), if_neg (show ¬ (15 : Int32) = (5 : Int32) by decide +kernel), if_neg (show ¬ (15 : Int32) = (6 : Int32) by decide +kernel), if_neg (show ¬ (15 : Int32) = (7 : Int32) by decide +kernel), if_neg (show ¬ (15 : Int32) = (8 : Int32) by decide +kernel), if_neg (show ¬ (15 : Int32) = (9 : Int32) by decide +kernel), if_neg (show ¬ (15 : Int32) = (10 : Int32) by decide +kernel), if_neg (show ¬ (15 : Int32) = (11 : Int32) by decide +kernel), if_neg (show ¬ (15 : Int32) = (12 : Int32) by decide +kernel), if_neg (show ¬ (15 : Int32) = (13 : Int32) by decide +kernel), if_neg (show ¬ (15 : Int32) = (14 : Int32) by decide +kernel), if_pos rfl]
  rfl
theorem act_16 (w : Wd) (x y : Int32) : f_L_act w (16 : Int32) x y = ((f_X10_springOf w x).bind fun z => u2 z fun z w1 => aX z w1) := by
  unfold f_L_act
  rw [if_neg (show ¬ (16 : Int32) = (0 : Int32) by decide +kernel), if_neg (show ¬ (16 : Int32) = (1 : Int32) by decide +kernel), if_neg (show ¬ (16 : Int32) = (2 : Int32) by decide +kernel), if_neg (show ¬ (16 : Int32) = (3 : Int32) by decide +kernel), if_neg (show ¬ (16 : Int32) = (4 : Int32) by decide +kernel), if_neg (show ¬ (16 : Int32) = (5 : Int32) by decide +kernel), if_neg (show ¬ (16 : Int32) = (6 : Int32) by decide +kernel), if_neg (show ¬ (16 : Int32) = (7 : Int32) by decide +kernel), if_neg (show ¬ (16 : Int32) = (8 : Int32) by decide +kernel), if_neg (show ¬ (16 : Int32) = (9 : Int32) by decide +kernel), if_neg (show ¬ (16 : Int32) = (10 : Int32) by decide +kernel), if_neg (show ¬ (16 : Int32) = (11 : Int32) by decide +kernel), if_neg (show ¬ (16 : Int32) = (12 : Int32) by decide +kernel), if_neg (show ¬ (16 : Int32) = (13 : Int32) by decide +kernel), if_neg (show ¬ (16 : Int32) = (14 : Int32) by decide +kernel), if_neg (show ¬ (16 : Int32) = (15 : Int32) by decide +kernel), if_pos rfl]
  rfl
theorem act_17 (w : Wd) (x y : Int32) : f_L_act w (17 : Int32) x y = ((f_X10_fewestPairs w x y).bind fun z => aX z w) := by
  unfold f_L_act
  rw [if_neg (show ¬ (17 : Int32) = (0 : Int32) by decide +kernel), if_neg (show ¬ (17 : Int32) = (1 : Int32) by decide +kernel), if_neg (show ¬ (17 : Int32) = (2 : Int32) by decide +kernel), if_neg (show ¬ (17 : Int32) = (3 : Int32) by decide +kernel), if_neg (show ¬ (17 : Int32) = (4 : Int32) by decide +kernel), if_neg (show ¬ (17 : Int32) = (5 : Int32) by decide +kernel), if_neg (show ¬ (17 : Int32) = (6 : Int32) by decide +kernel), if_neg (show ¬ (17 : Int32) = (7 : Int32) by decide +kernel), if_neg (show ¬ (17 : Int32) = (8 : Int32) by decide +kernel), if_neg (show ¬ (17 : Int32) = (9 : Int32) by decide +kernel), if_neg (show ¬ (17 : Int32) = (10 : Int32) by decide +kernel), if_neg (show ¬ (17 : Int32) = (11 : Int32) by decide +kernel), if_neg (show ¬ (17 : Int32) = (12 : Int32) by decide +kernel), if_neg (show ¬ (17 : Int32) = (13 : Int32) by decide +kernel), if_neg (show ¬ (17 : Int32) = (14 : Int32) by decide +kernel), if_neg (show ¬ (17 : Int32) = (15 : Int32) by decide +kernel), if_neg (show ¬ (17 : Int32) = (16 : Int32) by decide +kernel), if_pos rfl]
  rfl
theorem act_18 (w : Wd) (x y : Int32) : f_L_act w (18 : Int32) x y = ((f_X10_fewestPairsByTable w x y).bind fun z => u2 z fun z w1 => aX z w1) := by
  unfold f_L_act
  rw [if_neg (show ¬ (18 : Int32) = (0 : Int32) by decide +kernel), if_neg (show ¬ (18 : Int32) = (1 : Int32) by decide +kernel), if_neg (show ¬ (18 : Int32) = (2 : Int32) by decide +kernel), if_neg (show ¬ (18 : Int32) = (3 : Int32) by decide +kernel), if_neg (show ¬ (18 : Int32) = (4 : Int32) by decide +kernel), if_neg (show ¬ (18 : Int32) = (5 : Int32) by decide +kernel), if_neg (show ¬ (18 : Int32) = (6 : Int32) by decide +kernel), if_neg (show ¬ (18 : Int32) = (7 : Int32) by decide +kernel), if_neg (show ¬ (18 : Int32) = (8 : Int32) by decide +kernel), if_neg (show ¬ (18 : Int32) = (9 : Int32) by decide +kernel), if_neg (show ¬ (18 : Int32) = (10 : Int32) by decide +kernel), if_neg (show ¬ (18 : Int32) = (11 : Int32) by decide +kernel), if_neg (show ¬ (18 : Int32) = (12 : Int32) by decide +kernel), if_neg (show ¬ (18 : Int32) = (13 : Int32) by decide +kernel), if_neg (show ¬ (18 : Int32) = (14 : Int32) by decide +kernel), if_neg (show ¬ (18 : Int32) = (15 : Int32) by decide +kernel), if_neg (show ¬ (18 : Int32) = (16 : Int32) by decide +kernel), if_neg (show ¬ (18 : Int32) = (17 : Int32) by decide +kernel), if_pos rfl]
  rfl
