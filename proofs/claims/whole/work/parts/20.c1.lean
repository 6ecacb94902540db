def p_X7_copyFrom_2 : Nat → Int32 → Wd → Option ((Int32 × Wd) ⊕ Unit)
  | 0, _, _ => none
  | n + 1, y1, w2 => (if (10 : Int32) ≤ y1 then (some (.inl (y1, w2))) else (if inR y1 10 then (if inR y1 10 then (if inR y1 10 then (if inR y1 10 then (if inR y1 10 then (if inR y1 10 then (if inR y1 10 then (if inR y1 10 then (if inR y1 10 then (if inR y1 10 then (if inR y1 10 then (if inR y1 10 then (if inR y1 10 then (if inR y1 10 then (if inR y1 10 then (if inR y1 10 then (p_X7_copyFrom_2 n (y1 + (1 : Int32)) (uI (uI (uI (uI (uL (uI (uL (uI w2 (b0 + 1) (y1).toNatClampNeg (gI w2 (b1 + 1) (y1).toNatClampNeg)) (b0 + 2) (y1).toNatClampNeg (gL (uI w2 (b0 + 1) (y1).toNatClampNeg (gI w2 (b1 + 1) (y1).toNatClampNeg)) (b1 + 2) (y1).toNatClampNeg)) (b0 + 3) (y1).toNatClampNeg (vp_nar .boolean (gI (uL (uI w2 (b0 + 1) (y1).toNatClampNeg (gI w2 (b1 + 1) (y1).toNatClampNeg)) (b0 + 2) (y1).toNatClampNeg (gL (uI w2 (b0 + 1) (y1).toNatClampNeg (gI w2 (b1 + 1) (y1).toNatClampNeg)) (b1 + 2) (y1).toNatClampNeg)) (b1 + 3) (y1).toNatClampNeg))) (b0 + 4) (y1).toNatClampNeg (gL (uI (uL (uI w2 (b0 + 1) (y1).toNatClampNeg (gI w2 (b1 + 1) (y1).toNatClampNeg)) (b0 + 2) (y1).toNatClampNeg (gL (uI w2 (b0 + 1) (y1).toNatClampNeg (gI w2 (b1 + 1) (y1).toNatClampNeg)) (b1 + 2) (y1).toNatClampNeg)) (b0 + 3) (y1).toNatClampNeg (vp_nar .boolean (gI (uL (uI w2 (b0 + 1) (y1).toNatClampNeg (gI w2 (b1 + 1) (y1).toNatClampNeg)) (b0 + 2) (y1).toNatClampNeg (gL (uI w2 (b0 + 1) (y1).toNatClampNeg (gI w2 (b1 + 1) (y1).toNatClampNeg)) (b1 + 2) (y1).toNatClampNeg)) (b1 + 3) (y1).toNatClampNeg))) (b1 + 4) (y1).toNatClampNeg)) (b0 + 5) (y1).toNatClampNeg (vp_nar .boolean (gI (uL (uI (uL (uI w2 (b0 + 1) (y1).toNatClampNeg (gI w2 (b1 + 1) (y1).toNatClampNeg)) (b0 + 2) (y1).toNatClampNeg (gL (uI w2 (b0 + 1) (y1).toNatClampNeg (gI w2 (b1 + 1) (y1).toNatClampNeg)) (b1 + 2) (y1).toNatClampNeg)) (b0 + 3) (y1).toNatClampNeg (vp_nar .boolean (gI (uL (uI w2 (b0 + 1) (y1).toNatClampNeg (gI w2 (b1 + 1) (y1).toNatClampNeg)) (b0 + 2) (y1).toNatClampNeg (gL (uI w2 (b0 + 1) (y1).toNatClampNeg (gI w2 (b1 + 1) (y1).toNatClampNeg)) (b1 + 2) (y1).toNatClampNeg)) (b1 + 3) (y1).toNatClampNeg))) (b0 + 4) (y1).toNatClampNeg (gL (uI (uL (uI w2 (b0 + 1) (y1).toNatClampNeg (gI w2 (b1 + 1) (y1).toNatClampNeg)) (b0 + 2) (y1).toNatClampNeg (gL (uI w2 (b0 + 1) (y1).toNatClampNeg (gI w2 (b1 + 1) (y1).toNatClampNeg)) (b1 + 2) (y1).toNatClampNeg)) (b0 + 3) (y1).toNatClampNeg (vp_nar .boolean (gI (uL (uI w2 (b0 + 1) (y1).toNatClampNeg (gI w2 (b1 + 1) (y1).toNatClampNeg)) (b0 + 2) (y1).toNatClampNeg (gL (uI w2 (b0 + 1) (y1).toNatClampNeg (gI w2 (b1 + 1) (y1).toNatClampNeg)) (b1 + 2) (y1).toNatClampNeg)) (b1 + 3) (y1).toNatClampNeg))) (b1 + 4) (y1).toNatClampNeg)) (b1 + 5) (y1).toNatClampNeg))) (b0 + 6) (y1).toNatClampNeg (gI (uI (uL (uI (uL (uI w2 (b0 + 1) (y1).toNatClampNeg (gI w2 (b1 + 1) (y1).toNatClampNeg)) (b0 + 2) (y1).toNatClampNeg (gL (uI w2 (b0 + 1) (y1).toNatClampNeg (gI w2 (b1 + 1) (y1).toNatClampNeg)) (b1 + 2) (y1).toNatClampNeg)) (b0 + 3) (y1).toNatClampNeg (vp_nar .boolean (gI (uL (uI w2 (b0 + 1) (y1).toNatClampNeg (gI w2 (b1 + 1) (y1).toNatClampNeg)) (b0 + 2) (y1).toNatClampNeg (gL (uI w2 (b0 + 1) (y1).toNatClampNeg (gI w2 (b1 + 1) (y1).toNatClampNeg)) (b1 + 2) (y1).toNatClampNeg)) (b1 + 3) (y1).toNatClampNeg))) (b0 + 4) (y1).toNatClampNeg (gL (uI (uL (uI w2 (b0 + 1) (y1).toNatClampNeg (gI w2 (b1 + 1) (y1).toNatClampNeg)) (b0 + 2) (y1).toNatClampNeg (gL (uI w2 (b0 + 1) (y1).toNatClampNeg (gI w2 (b1 + 1) (y1).toNatClampNeg)) (b1 + 2) (y1).toNatClampNeg)) (b0 + 3) (y1).toNatClampNeg (vp_nar .boolean (gI (uL (uI w2 (b0 + 1) (y1).toNatClampNeg (gI w2 (b1 + 1) (y1).toNatClampNeg)) (b0 + 2) (y1).toNatClampNeg (gL (uI w2 (b0 + 1) (y1).toNatClampNeg (gI w2 (b1 + 1) (y1).toNatClampNeg)) (b1 + 2) (y1).toNatClampNeg)) (b1 + 3) (y1).toNatClampNeg))) (b1 + 4) (y1).toNatClampNeg)) (b0 + 5) (y1).toNatClampNeg (vp_nar .boolean (gI (uL (uI (uL (uI w2 (b0 + 1) (y1).toNatClampNeg (gI w2 (b1 + 1) (y1).toNatClampNeg)) (b0 + 2) (y1).toNatClampNeg (gL (uI w2 (b0 + 1) (y1).toNatClampNeg (gI w2 (b1 + 1) (y1).toNatClampNeg)) (b1 + 2) (y1).toNatClampNeg)) (b0 + 3) (y1).toNatClampNeg (vp_nar .boolean (gI (uL (uI w2 (b0 + 1) (y1).toNatClampNeg (gI w2 (b1 + 1) (y1).toNatClampNeg)) (b0 + 2) (y1).toNatClampNeg (gL (uI w2 (b0 + 1) (y1).toNatClampNeg (gI w2 (b1 + 1) (y1).toNatClampNeg)) (b1 + 2) (y1).toNatClampNeg)) (b1 + 3) (y1).toNatClampNeg))) (b0 + 4) (y1).toNatClampNeg (gL (uI (uL (uI w2 (b0 + 1) (y1).toNatClampNeg (gI w2 (b1 + 1) (y1).toNatClampNeg)) (b0 + 2) (y1).toNatClampNeg (gL (uI w2 (b0 + 1) (y1).toNatClampNeg (gI w2 (b1 + 1) (y1).toNatClampNeg)) (b1 + 2) (y1).toNatClampNeg)) (b0 + 3) (y1).toNatClampNeg (vp_nar .boolean (gI (uL (uI w2 (b0 + 1) (y1).toNatClampNeg (gI w2 (b1 + 1) (y1).toNatClampNeg)) (b0 + 2) (y1).toNatClampNeg (gL (uI w2 (b0 + 1) (y1).toNatClampNeg (gI w2 (b1 + 1) (y1).toNatClampNeg)) (b1 + 2) (y1).toNatClampNeg)) (b1 + 3) (y1).toNatClampNeg))) (b1 + 4) (y1).toNatClampNeg)) (b1 + 5) (y1).toNatClampNeg))) (b1 + 6) (y1).toNatClampNeg)) (b0 + 7) (y1).toNatClampNeg (gI (uI (uI (uL (uI (uL (uI w2 (b0 + 1) (y1).toNatClampNeg (gI w2 (b1 + 1) (y1).toNatClampNeg)) (b0 + 2) (y1).toNatClampNeg (gL (uI w2 (b0 + 1) (y1).toNatClampNeg (gI w2 (b1 + 1) (y1).toNatClampNeg)) (b1 + 2) (y1).toNatClampNeg)) (b0 + 3) (y1).toNatClampNeg (vp_nar .boolean (gI (uL (uI w2 (b0 + 1) (y1).toNatClampNeg (gI w2 (b1 + 1) (y1).toNatClampNeg)) (b0 + 2) (y1).toNatClampNeg (gL (uI w2 (b0 + 1) (y1).toNatClampNeg (gI w2 (b1 + 1) (y1).toNatClampNeg)) (b1 + 2) (y1).toNatClampNeg)) (b1 + 3) (y1).toNatClampNeg))) (b0 + 4) (y1).toNatClampNeg (gL (uI (uL (uI w2 (b0 + 1) (y1).toNatClampNeg (gI w2 (b1 + 1) (y1).toNatClampNeg)) (b0 + 2) (y1).toNatClampNeg (gL (uI w2 (b0 + 1) (y1).toNatClampNeg (gI w2 (b1 + 1) (y1).toNatClampNeg)) (b1 + 2) (y1).toNatClampNeg)) (b0 + 3) (y1).toNatClampNeg (vp_nar .boolean (gI (uL (uI w2 (b0 + 1) (y1).toNatClampNeg (gI w2 (b1 + 1) (y1).toNatClampNeg)) (b0 + 2) (y1).toNatClampNeg (gL (uI w2 (b0 + 1) (y1).toNatClampNeg (gI w2 (b1 + 1) (y1).toNatClampNeg)) (b1 + 2) (y1).toNatClampNeg)) (b1 + 3) (y1).toNatClampNeg))) (b1 + 4) (y1).toNatClampNeg)) (b0 + 5) (y1).toNatClampNeg (vp_nar .boolean (gI (uL (uI (uL (uI w2 (b0 + 1) (y1).toNatClampNeg (gI w2 (b1 + 1) (y1).toNatClampNeg)) (b0 + 2) (y1).toNatClampNeg (gL (uI w2 (b0 + 1) (y1).toNatClampNeg (gI w2 (b1 + 1) (y1).toNatClampNeg)) (b1 + 2) (y1).toNatClampNeg)) (b0 + 3) (y1).toNatClampNeg (vp_nar .boolean (gI (uL (uI w2 (b0 + 1) (y1).toNatClampNeg (gI w2 (b1 + 1) (y1).toNatClampNeg)) (b0 + 2) (y1).toNatClampNeg (gL (uI w2 (b0 + 1) (y1).toNatClampNeg (gI w2 (b1 + 1) (y1).toNatClampNeg)) (b1 + 2) (y1).toNatClampNeg)) (b1 + 3) (y1).toNatClampNeg))) (b0 + 4) (y1).toNatClampNeg (gL (uI (uL (uI w2 (b0 + 1) (y1).toNatClampNeg (gI w2 (b1 + 1) (y1).toNatClampNeg)) (b0 + 2) (y1).toNatClampNeg (gL (uI w2 (b0 + 1) (y1).toNatClampNeg (gI w2 (b1 + 1) (y1).toNatClampNeg)) (b1 + 2) (y1).toNatClampNeg)) (b0 + 3) (y1).toNatClampNeg (vp_nar .boolean (gI (uL (uI w2 (b0 + 1) (y1).toNatClampNeg (gI w2 (b1 + 1) (y1).toNatClampNeg)) (b0 + 2) (y1).toNatClampNeg (gL (uI w2 (b0 + 1) (y1).toNatClampNeg (gI w2 (b1 + 1) (y1).toNatClampNeg)) (b1 + 2) (y1).toNatClampNeg)) (b1 + 3) (y1).toNatClampNeg))) (b1 + 4) (y1).toNatClampNeg)) (b1 + 5) (y1).toNatClampNeg))) (b0 + 6) (y1).toNatClampNeg (gI (uI (uL (uI (uL (uI w2 (b0 + 1) (y1).toNatClampNeg (gI w2 (b1 + 1) (y1).toNatClampNeg)) (b0 + 2) (y1).toNatClampNeg (gL (uI w2 (b0 + 1) (y1).toNatClampNeg (gI w2 (b1 + 1) (y1).toNatClampNeg)) (b1 + 2) (y1).toNatClampNeg)) (b0 + 3) (y1).toNatClampNeg (vp_nar .boolean (gI (uL (uI w2 (b0 + 1) (y1).toNatClampNeg (gI w2 (b1 + 1) (y1).toNatClampNeg)) (b0 + 2) (y1).toNatClampNeg (gL (uI w2 (b0 + 1) (y1).toNatClampNeg (gI w2 (b1 + 1) (y1).toNatClampNeg)) (b1 + 2) (y1).toNatClampNeg)) (b1 + 3) (y1).toNatClampNeg))) (b0 + 4) (y1).toNatClampNeg (gL (uI (uL (uI w2 (b0 + 1) (y1).toNatClampNeg (gI w2 (b1 + 1) (y1).toNatClampNeg)) (b0 + 2) (y1).toNatClampNeg (gL (uI w2 (b0 + 1) (y1).toNatClampNeg (gI w2 (b1 + 1) (y1).toNatClampNeg)) (b1 + 2) (y1).toNatClampNeg)) (b0 + 3) (y1).toNatClampNeg (vp_nar .boolean (gI (uL (uI w2 (b0 + 1) (y1).toNatClampNeg (gI w2 (b1 + 1) (y1).toNatClampNeg)) (b0 + 2) (y1).toNatClampNeg (gL (uI w2 (b0 + 1) (y1).toNatClampNeg (gI w2 (b1 + 1) (y1).toNatClampNeg)) (b1 + 2) (y1).toNatClampNeg)) (b1 + 3) (y1).toNatClampNeg))) (b1 + 4) (y1).toNatClampNeg)) (b0 + 5) (y1).toNatClampNeg (vp_nar .boolean (gI (uL (uI (uL (uI w2 (b0 + 1) (y1).toNatClampNeg (gI w2 (b1 + 1) (y1).toNatClampNeg)) (b0 + 2) (y1).toNatClampNeg (gL (uI w2 (b0 + 1) (y1).toNatClampNeg (gI w2 (b1 + 1) (y1).toNatClampNeg)) (b1 + 2) (y1).toNatClampNeg)) (b0 + 3) (y1).toNatClampNeg (vp_nar .boolean (gI (uL (uI w2 (b0 + 1) (y1).toNatClampNeg (gI w2 (b1 + 1) (y1).toNatClampNeg)) (b0 + 2) (y1).toNatClampNeg (gL (uI w2 (b0 + 1) (y1).toNatClampNeg (gI w2 (b1 + 1) (y1).toNatClampNeg)) (b1 + 2) (y1).toNatClampNeg)) (b1 + 3) (y1).toNatClampNeg))) (b0 + 4) (y1).toNatClampNeg (gL (uI (uL (uI w2 (b0 + 1) (y1).toNatClampNeg (gI w2 (b1 + 1) (y1).toNatClampNeg)) (b0 + 2) (y1).toNatClampNeg (gL (uI w2 (b0 + 1) (y1).toNatClampNeg (gI w2 (b1 + 1) (y1).toNatClampNeg)) (b1 + 2) (y1).toNatClampNeg)) (b0 + 3) (y1).toNatClampNeg (vp_nar .boolean (gI (uL (uI w2 (b0 + 1) (y1).toNatClampNeg (gI w2 (b1 + 1) (y1).toNatClampNeg)) (b0 + 2) (y1).toNatClampNeg (gL (uI w2 (b0 + 1) (y1).toNatClampNeg (gI w2 (b1 + 1) (y1).toNatClampNeg)) (b1 + 2) (y1).toNatClampNeg)) (b1 + 3) (y1).toNatClampNeg))) (b1 + 4) (y1).toNatClampNeg)) (b1 + 5) (y1).toNatClampNeg))) (b1 + 6) (y1).toNatClampNeg)) (b1 + 7) (y1).toNatClampNeg)) (b0 + 8) (y1).toNatClampNeg (vp_nar .boolean (gI (uI (uI (uI (uL (uI (uL (uI w2 (b0 + 1) (y1).toNatClampNeg (gI w2 (b1 + 1) (y1).toNatClampNeg)) (b0 + 2) (y1).toNatClampNeg (gL (uI w2 (b0 + 1) (y1).toNatClampNeg (gI w2 (b1 + 1) (y1).toNatClampNeg)) (b1 + 2) (y1).toNatClampNeg)) (b0 + 3) (y1).toNatClampNeg (vp_nar .boolean (gI (uL (uI w2 (b0 + 1) (y1).toNatClampNeg (gI w2 (b1 + 1) (y1).toNatClampNeg)) (b0 + 2) (y1).toNatClampNeg (gL (uI w2 (b0 + 1) (y1).toNatClampNeg (gI w2 (b1 + 1) (y1).toNatClampNeg)) (b1 + 2) (y1).toNatClampNeg)) (b1 + 3) (y1).toNatClampNeg))) (b0 + 4) (y1).toNatClampNeg (gL (uI (uL (uI w2 (b0 + 1) (y1).toNatClampNeg (gI w2 (b1 + 1) (y1).toNatClampNeg)) (b0 + 2) (y1).toNatClampNeg (gL (uI w2 (b0 + 1) (y1).toNatClampNeg (gI w2 (b1 + 1) (y1).toNatClampNeg)) (b1 + 2) (y1).toNatClampNeg)) (b0 + 3) (y1).toNatClampNeg (vp_nar .boolean (gI (uL (uI w2 (b0 + 1) (y1).toNatClampNeg (gI w2 (b1 + 1) (y1).toNatClampNeg)) (b0 + 2) (y1).toNatClampNeg (gL (uI w2 (b0 + 1) (y1).toNatClampNeg (gI w2 (b1 + 1) (y1).toNatClampNeg)) (b1 + 2) (y1).toNatClampNeg)) (b1 + 3) (y1).toNatClampNeg))) (b1 + 4) (y1).toNatClampNeg)) (b0 + 5) (y1).toNatClampNeg (vp_nar .boolean (gI (uL (uI (uL (uI w2 (b0 + 1) (y1).toNatClampNeg (gI w2 (b1 + 1) (y1).toNatClampNeg)) (b0 + 2) (y1).toNatClampNeg (gL (uI w2 (b0 + 1) (y1).toNatClampNeg (gI w2 (b1 + 1) (y1).toNatClampNeg)) (b1 + 2) (y1).toNatClampNeg)) (b0 + 3) (y1).toNatClampNeg (vp_nar .boolean (gI (uL (uI w2 (b0 + 1) (y1).toNatClampNeg (gI w2 (b1 + 1) (y1).toNatClampNeg)) (b0 + 2) (y1).toNatClampNeg (gL (uI w2 (b0 + 1) (y1).toNatClampNeg (gI w2 (b1 + 1) (y1).toNatClampNeg)) (b1 + 2) (y1).toNatClampNeg)) (b1 + 3) (y1).toNatClampNeg))) (b0 + 4) (y1).toNatClampNeg (gL (uI (uL (uI w2 (b0 + 1) (y1).toNatClampNeg (gI w2 (b1 + 1) (y1).toNatClampNeg)) (b0 + 2) (y1).toNatClampNeg (gL (uI w2 (b0 + 1) (y1).toNatClampNeg (gI w2 (b1 + 1) (y1).toNatClampNeg)) (b1 + 2) (y1).toNatClampNeg)) (b0 + 3) (y1).toNatClampNeg (vp_nar .boolean (gI (uL (uI w2 (b0 + 1) (y1).toNatClampNeg (gI w2 (b1 + 1) (y1).toNatClampNeg)) (b0 + 2) (y1).toNatClampNeg (gL (uI w2 (b0 + 1) (y1).toNatClampNeg (gI w2 (b1 + 1) (y1).toNatClampNeg)) (b1 + 2) (y1).toNatClampNeg)) (b1 + 3) (y1).toNatClampNeg))) (b1 + 4) (y1).toNatClampNeg)) (b1 + 5) (y1).toNatClampNeg))) (b0 + 6) (y1).toNatClampNeg (gI (uI (uL (uI (uL (uI w2 (b0 + 1) (y1).toNatClampNeg (gI w2 (b1 + 1) (y1).toNatClampNeg)) (b0 + 2) (y1).toNatClampNeg (gL (uI w2 (b0 + 1) (y1).toNatClampNeg (gI w2 (b1 + 1) (y1).toNatClampNeg)) (b1 + 2) (y1).toNatClampNeg)) (b0 + 3) (y1).toNatClampNeg (vp_nar .boolean (gI (uL (uI w2 (b0 + 1) (y1).toNatClampNeg (gI w2 (b1 + 1) (y1).toNatClampNeg)) (b0 + 2) (y1).toNatClampNeg (gL (uI w2 (b0 + 1) (y1).toNatClampNeg (gI w2 (b1 + 1) (y1).toNatClampNeg)) (b1 + 2) (y1).toNatClampNeg)) (b1 + 3) (y1).toNatClampNeg))) (b0 + 4) (y1).toNatClampNeg (gL (uI (uL (uI w2 (b0 + 1) (y1).toNatClampNeg (gI w2 (b1 + 1) (y1).toNatClampNeg)) (b0 + 2) (y1).toNatClampNeg (gL (uI w2 (b0 + 1) (y1).toNatClampNeg (gI w2 (b1 + 1) (y1).toNatClampNeg)) (b1 + 2) (y1).toNatClampNeg)) (b0 + 3) (y1).toNatClampNeg (vp_nar .boolean (gI (uL (uI w2 (b0 + 1) (y1).toNatClampNeg (gI w2 (b1 + 1) (y1).toNatClampNeg)) (b0 + 2) (y1).toNatClampNeg (gL (uI w2 (b0 + 1) (y1).toNatClampNeg (gI w2 (b1 + 1) (y1).toNatClampNeg)) (b1 + 2) (y1).toNatClampNeg)) (b1 + 3) (y1).toNatClampNeg))) (b1 + 4) (y1).toNatClampNeg)) (b0 + 5) (y1).toNatClampNeg (vp_nar .boolean (gI (uL (uI (uL (uI w2 (b0 + 1) (y1).toNatClampNeg (gI w2 (b1 + 1) (y1).toNatClampNeg)) (b0 + 2) (y1).toNatClampNeg (gL (uI w2 (b0 + 1) (y1).toNatClampNeg (gI w2 (b1 + 1) (y1).toNatClampNeg)) (b1 + 2) (y1).toNatClampNeg)) (b0 + 3) (y1).toNatClampNeg (vp_nar .boolean (gI (uL (uI w2 (b0 + 1) (y1).toNatClampNeg (gI w2 (b1 + 1) (y1).toNatClampNeg)) (b0 + 2) (y1).toNatClampNeg (gL (uI w2 (b0 + 1) (y1).toNatClampNeg (gI w2 (b1 + 1) (y1).toNatClampNeg)) (b1 + 2) (y1).toNatClampNeg)) (b1 + 3) (y1).toNatClampNeg))) (b0 + 4) (y1).toNatClampNeg (gL (uI (uL (uI w2 (b0 + 1) (y1).toNatClampNeg (gI w2 (b1 + 1) (y1).toNatClampNeg)) (b0 + 2) (y1).toNatClampNeg (gL (uI w2 (b0 + 1) (y1).toNatClampNeg (gI w2 (b1 + 1) (y1).toNatClampNeg)) (b1 + 2) (y1).toNatClampNeg)) (b0 + 3) (y1).toNatClampNeg (vp_nar .boolean (gI (uL (uI w2 (b0 + 1) (y1).toNatClampNeg (gI w2 (b1 + 1) (y1).toNatClampNeg)) (b0 + 2) (y1).toNatClampNeg (gL (uI w2 (b0 + 1) (y1).toNatClampNeg (gI w2 (b1 + 1) (y1).toNatClampNeg)) (b1 + 2) (y1).toNatClampNeg)) (b1 + 3) (y1).toNatClampNeg))) (b1 + 4) (y1).toNatClampNeg)) (b1 + 5) (y1).toNatClampNeg))) (b1 + 6) (y1).toNatClampNeg)) (b0 + 7) (y1).toNatClampNeg (gI (uI (uI (uL (uI (uL (uI w2 (b0 + 1) (y1).toNatClampNeg (gI w2 (b1 + 1) (y1).toNatClampNeg)) (b0 + 2) (y1).toNatClampNeg (gL (uI w2 (b0 + 1) (y1).toNatClampNeg (gI w2 (b1 + 1) (y1).toNatClampNeg)) (b1 + 2) (y1).toNatClampNeg)) (b0 + 3) (y1).toNatClampNeg (vp_nar .boolean (gI (uL (uI w2 (b0 + 1) (y1).toNatClampNeg (gI w2 (b1 + 1) (y1).toNatClampNeg)) (b0 + 2) (y1).toNatClampNeg (gL (uI w2 (b0 + 1) (y1).toNatClampNeg (gI w2 (b1 + 1) (y1).toNatClampNeg)) (b1 + 2) (y1).toNatClampNeg)) (b1 + 3) (y1).toNatClampNeg))) (b0 + 4) (y1).toNatClampNeg (gL (uI (uL (uI w2 (b0 + 1) (y1).toNatClampNeg (gI w2 (b1 + 1) (y1).toNatClampNeg)) (b0 + 2) (y1).toNatClampNeg (gL (uI w2 (b0 + 1) (y1).toNatClampNeg (gI w2 (b1 + 1) (y1).toNatClampNeg)) (b1 + 2) (y1).toNatClampNeg)) (b0 + 3) (y1).toNatClampNeg (vp_nar .boolean (gI (uL (uI w2 (b0 + 1) (y1).toNatClampNeg (gI w2 (b1 + 1) (y1).toNatClampNeg)) (b0 + 2) (y1).toNatClampNeg (gL (uI w2 (b0 + 1) (y1).toNatClampNeg (gI w2 (b1 + 1) (y1).toNatClampNeg)) (b1 + 2) (y1).toNatClampNeg)) (b1 + 3) (y1).toNatClampNeg))) (b1 + 4) (y1).toNatClampNeg)) (b0 + 5) (y1).toNatClampNeg (vp_nar .boolean (gI (uL (uI (uL (uI w2 (b0 + 1) (y1).toNatClampNeg (gI w2 (b1 + 1) (y1).toNatClampNeg)) (b0 + 2) (y1).toNatClampNeg (gL (uI w2 (b0 + 1) (y1).toNatClampNeg (gI w2 (b1 + 1) (y1).toNatClampNeg)) (b1 + 2) (y1).toNatClampNeg)) (b0 + 3) (y1).toNatClampNeg (vp_nar .boolean (gI (uL (uI w2 (b0 + 1) (y1).toNatClampNeg (gI w2 (b1 + 1) (y1).toNatClampNeg)) (b0 + 2) (y1).toNatClampNeg (gL (uI w2 (b0 + 1) (y1).toNatClampNeg (gI w2 (b1 + 1) (y1).toNatClampNeg)) (b1 + 2) (y1).toNatClampNeg)) (b1 + 3) (y1).toNatClampNeg))) (b0 + 4) (y1).toNatClampNeg (gL (uI (uL (uI w2 (b0 + 1) (y1).toNatClampNeg (gI w2 (b1 + 1) (y1).toNatClampNeg)) (b0 + 2) (y1).toNatClampNeg (gL (uI w2 (b0 + 1) (y1).toNatClampNeg (gI w2 (b1 + 1) (y1).toNatClampNeg)) (b1 + 2) (y1).toNatClampNeg)) (b0 + 3) (y1).toNatClampNeg (vp_nar .boolean (gI (uL (uI w2 (b0 + 1) (y1).toNatClampNeg (gI w2 (b1 + 1) (y1).toNatClampNeg)) (b0 + 2) (y1).toNatClampNeg (gL (uI w2 (b0 + 1) (y1).toNatClampNeg (gI w2 (b1 + 1) (y1).toNatClampNeg)) (b1 + 2) (y1).toNatClampNeg)) (b1 + 3) (y1).toNatClampNeg))) (b1 + 4) (y1).toNatClampNeg)) (b1 + 5) (y1).toNatClampNeg))) (b0 + 6) (y1).toNatClampNeg (gI (uI (uL (uI (uL (uI w2 (b0 + 1) (y1).toNatClampNeg (gI w2 (b1 + 1) (y1).toNatClampNeg)) (b0 + 2) (y1).toNatClampNeg (gL (uI w2 (b0 + 1) (y1).toNatClampNeg (gI w2 (b1 + 1) (y1).toNatClampNeg)) (b1 + 2) (y1).toNatClampNeg)) (b0 + 3) (y1).toNatClampNeg (vp_nar .boolean (gI (uL (uI w2 (b0 + 1) (y1).toNatClampNeg (gI w2 (b1 + 1) (y1).toNatClampNeg)) (b0 + 2) (y1).toNatClampNeg (gL (uI w2 (b0 + 1) (y1).toNatClampNeg (gI w2 (b1 + 1) (y1).toNatClampNeg)) (b1 + 2) (y1).toNatClampNeg)) (b1 + 3) (y1).toNatClampNeg))) (b0 + 4) (y1).toNatClampNeg (gL (uI (uL (uI w2 (b0 + 1) (y1).toNatClampNeg (gI w2 (b1 + 1) (y1).toNatClampNeg)) (b0 + 2) (y1).toNatClampNeg (gL (uI w2 (b0 + 1) (y1).toNatClampNeg (gI w2 (b1 + 1) (y1).toNatClampNeg)) (b1 + 2) (y1).toNatClampNeg)) (b0 + 3) (y1).toNatClampNeg (vp_nar .boolean (gI (uL (uI w2 (b0 + 1) (y1).toNatClampNeg (gI w2 (b1 + 1) (y1).toNatClampNeg)) (b0 + 2) (y1).toNatClampNeg (gL (uI w2 (b0 + 1) (y1).toNatClampNeg (gI w2 (b1 + 1) (y1).toNatClampNeg)) (b1 + 2) (y1).toNatClampNeg)) (b1 + 3) (y1).toNatClampNeg))) (b1 + 4) (y1).toNatClampNeg)) (b0 + 5) (y1).toNatClampNeg (vp_nar .boolean (gI (uL (uI (uL (uI w2 (b0 + 1) (y1).toNatClampNeg (gI w2 (b1 + 1) (y1).toNatClampNeg)) (b0 + 2) (y1).toNatClampNeg (gL (uI w2 (b0 + 1) (y1).toNatClampNeg (gI w2 (b1 + 1) (y1).toNatClampNeg)) (b1 + 2) (y1).toNatClampNeg)) (b0 + 3) (y1).toNatClampNeg (vp_nar .boolean (gI (uL (uI w2 (b0 + 1) (y1).toNatClampNeg (gI w2 (b1 + 1) (y1).toNatClampNeg)) (b0 + 2) (y1).toNatClampNeg (gL (uI w2 (b0 + 1) (y1).toNatClampNeg (gI w2 (b1 + 1) (y1).toNatClampNeg)) (b1 + 2) (y1).toNatClampNeg)) (b1 + 3) (y1).toNatClampNeg))) (b0 + 4) (y1).toNatClampNeg (gL (uI (uL (uI w2 (b0 + 1) (y1).toNatClampNeg (gI w2 (b1 + 1) (y1).toNatClampNeg)) (b0 + 2) (y1).toNatClampNeg (gL (uI w2 (b0 + 1) (y1).toNatClampNeg (gI w2 (b1 + 1) (y1).toNatClampNeg)) (b1 + 2) (y1).toNatClampNeg)) (b0 + 3) (y1).toNatClampNeg (vp_nar .boolean (gI (uL (uI w2 (b0 + 1) (y1).toNatClampNeg (gI w2 (b1 + 1) (y1).toNatClampNeg)) (b0 + 2) (y1).toNatClampNeg (gL (uI w2 (b0 + 1) (y1).toNatClampNeg (gI w2 (b1 + 1) (y1).toNatClampNeg)) (b1 + 2) (y1).toNatClampNeg)) (b1 + 3) (y1).toNatClampNeg))) (b1 + 4) (y1).toNatClampNeg)) (b1 + 5) (y1).toNatClampNeg))) (b1 + 6) (y1).toNatClampNeg)) (b1 + 7) (y1).toNatClampNeg)) (b1 + 8) (y1).toNatClampNeg)))) else none) else none) else none) else none) else none) else none) else none) else none) else none) else none) else none) else none) else none) else none) else none) else none))
def p_X7_copyFrom_112 : Nat → Int32 → Wd → Option ((Int32 × Wd) ⊕ Unit)
  | 0, _, _ => none
  | n + 1, y23, w24 => (if (100 : Int32) ≤ y23 then (some (.inl (y23, w24))) else (if inR y23 100 then (if inR y23 100 then (p_X7_copyFrom_112 n (y23 + (1 : Int32)) (uI w24 (b0 + 9) (y23).toNatClampNeg (vp_nar .char (gI w24 (b1 + 9) (y23).toNatClampNeg)))) else none) else none))
def p_X7_copyFrom_138 : Nat → Int32 → Wd → Option ((Int32 × Wd) ⊕ Unit)
  | 0, _, _ => none
  | n + 1, y31, w32 => (if (6 : Int32) ≤ y31 then (some (.inl (y31, w32))) else (if inR y31 6 then (if inR y31 6 then (p_X7_copyFrom_138 n (y31 + (1 : Int32)) (uI w32 (b0 + 10) (y31).toNatClampNeg (gI w32 (b1 + 10) (y31).toNatClampNeg))) else none) else none))
def f_X7_copyFrom (w : Wd) (b0 : Nat) (b1 : Nat) : Option Wd := ((p_X7_copyFrom_2 2000 (0 : Int32) w).bind fun z => zc z (fun q => u2 q fun y1 w2 => ((p_X7_copyFrom_112 2000 (0 : Int32) w2).bind fun z => zc z (fun q => u2 q fun y23 w24 => ((p_X7_copyFrom_138 2000 (0 : Int32) w24).bind fun z => zc z (fun q => u2 q fun y31 w32 => (some (uI (uI (uI (uI (uI (uI (uI w32 b0 10 (gI w32 b1 10)) b0 11 (gI (uI w32 b0 10 (gI w32 b1 10)) b1 11)) b0 12 (gI (uI (uI w32 b0 10 (gI w32 b1 10)) b0 11 (gI (uI w32 b0 10 (gI w32 b1 10)) b1 11)) b1 12)) b0 13 (gI (uI (uI (uI w32 b0 10 (gI w32 b1 10)) b0 11 (gI (uI w32 b0 10 (gI w32 b1 10)) b1 11)) b0 12 (gI (uI (uI w32 b0 10 (gI w32 b1 10)) b0 11 (gI (uI w32 b0 10 (gI w32 b1 10)) b1 11)) b1 12)) b1 13)) b0 14 (gI (uI (uI (uI (uI w32 b0 10 (gI w32 b1 10)) b0 11 (gI (uI w32 b0 10 (gI w32 b1 10)) b1 11)) b0 12 (gI (uI (uI w32 b0 10 (gI w32 b1 10)) b0 11 (gI (uI w32 b0 10 (gI w32 b1 10)) b1 11)) b1 12)) b0 13 (gI (uI (uI (uI w32 b0 10 (gI w32 b1 10)) b0 11 (gI (uI w32 b0 10 (gI w32 b1 10)) b1 11)) b0 12 (gI (uI (uI w32 b0 10 (gI w32 b1 10)) b0 11 (gI (uI w32 b0 10 (gI w32 b1 10)) b1 11)) b1 12)) b1 13)) b1 14)) b0 15 (gI (uI (uI (uI (uI (uI w32 b0 10 (gI w32 b1 10)) b0 11 (gI (uI w32 b0 10 (gI w32 b1 10)) b1 11)) b0 12 (gI (uI (uI w32 b0 10 (gI w32 b1 10)) b0 11 (gI (uI w32 b0 10 (gI w32 b1 10)) b1 11)) b1 12)) b0 13 (gI (uI (uI (uI w32 b0 10 (gI w32 b1 10)) b0 11 (gI (uI w32 b0 10 (gI w32 b1 10)) b1 11)) b0 12 (gI (uI (uI w32 b0 10 (gI w32 b1 10)) b0 11 (gI (uI w32 b0 10 (gI w32 b1 10)) b1 11)) b1 12)) b1 13)) b0 14 (gI (uI (uI (uI (uI w32 b0 10 (gI w32 b1 10)) b0 11 (gI (uI w32 b0 10 (gI w32 b1 10)) b1 11)) b0 12 (gI (uI (uI w32 b0 10 (gI w32 b1 10)) b0 11 (gI (uI w32 b0 10 (gI w32 b1 10)) b1 11)) b1 12)) b0 13 (gI (uI (uI (uI w32 b0 10 (gI w32 b1 10)) b0 11 (gI (uI w32 b0 10 (gI w32 b1 10)) b1 11)) b0 12 (gI (uI (uI w32 b0 10 (gI w32 b1 10)) b0 11 (gI (uI w32 b0 10 (gI w32 b1 10)) b1 11)) b1 12)) b1 13)) b1 14)) b1 15)) b0 16 (gI (uI (uI (uI (uI (uI (uI w32 b0 10 (gI w32 b1 10)) b0 11 (gI (uI w32 b0 10 (gI w32 b1 10)) b1 11)) b0 12 (gI (uI (uI w32 b0 10 (gI w32 b1 10)) b0 11 (gI (uI w32 b0 10 (gI w32 b1 10)) b1 11)) b1 12)) b0 13 (gI (uI (uI (uI w32 b0 10 (gI w32 b1 10)) b0 11 (gI (uI w32 b0 10 (gI w32 b1 10)) b1 11)) b0 12 (gI (uI (uI w32 b0 10 (gI w32 b1 10)) b0 11 (gI (uI w32 b0 10 (gI w32 b1 10)) b1 11)) b1 12)) b1 13)) b0 14 (gI (uI (uI (uI (uI w32 b0 10 (gI w32 b1 10)) b0 11 (gI (uI w32 b0 10 (gI w32 b1 10)) b1 11)) b0 12 (gI (uI (uI w32 b0 10 (gI w32 b1 10)) b0 11 (gI (uI w32 b0 10 (gI w32 b1 10)) b1 11)) b1 12)) b0 13 (gI (uI (uI (uI w32 b0 10 (gI w32 b1 10)) b0 11 (gI (uI w32 b0 10 (gI w32 b1 10)) b1 11)) b0 12 (gI (uI (uI w32 b0 10 (gI w32 b1 10)) b0 11 (gI (uI w32 b0 10 (gI w32 b1 10)) b1 11)) b1 12)) b1 13)) b1 14)) b0 15 (gI (uI (uI (uI (uI (uI w32 b0 10 (gI w32 b1 10)) b0 11 (gI (uI w32 b0 10 (gI w32 b1 10)) b1 11)) b0 12 (gI (uI (uI w32 b0 10 (gI w32 b1 10)) b0 11 (gI (uI w32 b0 10 (gI w32 b1 10)) b1 11)) b1 12)) b0 13 (gI (uI (uI (uI w32 b0 10 (gI w32 b1 10)) b0 11 (gI (uI w32 b0 10 (gI w32 b1 10)) b1 11)) b0 12 (gI (uI (uI w32 b0 10 (gI w32 b1 10)) b0 11 (gI (uI w32 b0 10 (gI w32 b1 10)) b1 11)) b1 12)) b1 13)) b0 14 (gI (uI (uI (uI (uI w32 b0 10 (gI w32 b1 10)) b0 11 (gI (uI w32 b0 10 (gI w32 b1 10)) b1 11)) b0 12 (gI (uI (uI w32 b0 10 (gI w32 b1 10)) b0 11 (gI (uI w32 b0 10 (gI w32 b1 10)) b1 11)) b1 12)) b0 13 (gI (uI (uI (uI w32 b0 10 (gI w32 b1 10)) b0 11 (gI (uI w32 b0 10 (gI w32 b1 10)) b1 11)) b0 12 (gI (uI (uI w32 b0 10 (gI w32 b1 10)) b0 11 (gI (uI w32 b0 10 (gI w32 b1 10)) b1 11)) b1 12)) b1 13)) b1 14)) b1 15)) b1 16)))) (fun _ => none))) (fun _ => none))) (fun _ => none))
set_option maxHeartbeats 4000000 in
set_option maxRecDepth 100000 in
theorem c_X7_copyFrom (l : Launch) (G : GG) {w : Wd} {b0 : Nat} {b1 : Nat} {w1 : Wd} (hb0 : isSt b0) (hb1 : isSt b1) (hF : f_X7_copyFrom w b0 b1 = some w1) : Met l yX7_copyFrom wsX7_copyFrom ({ frames := 0, cells := 0, slots := 0, locals := 0 } : Room) (va_Pc [.ref (gAd G b0), .ref (gAd G b1)] (Rel G w)) (amQ G none w1) 0 0 (gA G) := by
  refine am_met (own := RX7) (cc := cX7_copyFrom) (maxL := 3) (ret := none) (by decide +kernel) rfl rfl (Nat.le_of_ble_eq_true rfl) ?_
  intro p e s m args below meth c ab ls X hr hh hl
  have hx := X.1.1; have hb := X.1.2.1; have hml := X.1.2.2.1; have hown := X.1.2.2.2.1; have hts := X.1.2.2.2.2
  have hl : lv_has ls 3 [(0, .ref (gAd G b0)), (1, .ref (gAd G b1))] := hl
  rw [← adx_st (ad := gAd G) (ab := ab) hb0 0 (by decide), ← adx_st (ad := gAd G) (ab := ab) hb1 0 (by decide)] at hl
  have hwRX7 : ∀ z ∈ u_ws RX7 TX7 17, z ∈ wsX7_copyFrom := by decide +kernel
  unfold f_X7_copyFrom at hF
  refine lv_iconst (v := (0 : Int32)) hx hb dX7_copyFrom_0 (by decide) ?_
  refine lv_istore_n (lv' := [(2, .int (0 : Int32)), (0, .ref (adx (gAd G) ab b0)), (1, .ref (adx (gAd G) ab b1))]) hx hb dX7_copyFrom_1 rfl hl (by decide) rfl (fun ls hl => ?_)
  have hlp2 : ∀ (n : Nat) (y1 : Int32) (w2 : Wd) (ab : Nat) (H : Heap) (locs : List Loc) (ls : Array Slot) (z : (Int32 × Wd) ⊕ Unit), p_X7_copyFrom_2 n y1 w2 = some z → AH G s.heap w2 ab H locs → lv_has ls 3 [(2, .int y1), (0, .ref (adx (gAd G) ab b0)), (1, .ref (adx (gAd G) ab b1))] → (∀ (y1 : Int32) (w2 : Wd) (ab : Nat) (H : Heap) (locs : List Loc) (ls : Array Slot), z = .inl (y1, w2) → AH G s.heap w2 ab H locs → lv_has ls 3 [(2, .int y1), (0, .ref (adx (gAd G) ab b0)), (1, .ref (adx (gAd G) ab b1))] → W p l e ({ frames := 0, cells := 0, slots := 0, locals := 0 } : Room) s m args below meth c H locs 0 0 (MQ below (amQ G none w1) args s 0 0 (gA G)) (F0 m 110 ls [])) → W p l e ({ frames := 0, cells := 0, slots := 0, locals := 0 } : Room) s m args below meth c H locs 0 0 (MQ below (amQ G none w1) args s 0 0 (gA G)) (F0 m 2 ls []) := by
    intro n
    induction n with
    | zero =>
      intro y1 w2 ab H locs ls z hF
      unfold p_X7_copyFrom_2 at hF
      cases hF
    | succ n ih =>
      intro y1 w2 ab H locs ls z hF hh hl kE
      unfold p_X7_copyFrom_2 at hF
      refine lv_iload_n hx hb dX7_copyFrom_2 rfl (lv_at hl 0 rfl) ?_
      refine lv_bipush (v := (10 : Int32)) hx hb dX7_copyFrom_3 (by decide) ?_
      refine lv_icmp_ge (tgt := 110) hx hb dX7_copyFrom_5 (by decide) (fun hc4 => ?_) (fun hc4 => ?_)
      · have hF := am_pos hc4 hF
        exact kE y1 w2 ab H locs ls (Option.some.inj hF).symm hh (lv_sub hl [0, 1, 2] rfl)
      · have hF := am_neg hc4 hF
        refine lv_aload_n hx hb dX7_copyFrom_8 rfl (lv_at hl 1 rfl) ?_
        refine am_getR X hh b0 9 0 (b0 + 1) (st_lt hb0 0 (by decide)) (dsc_st hb0 _ 0 (by decide)) rfl (by decide) hwRX7 (show Cond.fieldLink RX7 9 "PlanetWorkshop$State" "teeth" "[I" ∈ wsX7_copyFrom by decide +kernel) rfl dX7_copyFrom_9 ?_
        refine lv_iload_n hx hb dX7_copyFrom_12 rfl (lv_at hl 0 rfl) ?_
        refine lv_aload_n hx hb dX7_copyFrom_13 rfl (lv_at hl 2 rfl) ?_
        refine am_getR X hh b1 9 0 (b1 + 1) (st_lt hb1 0 (by decide)) (dsc_st hb1 _ 0 (by decide)) rfl (by decide) hwRX7 (show Cond.fieldLink RX7 9 "PlanetWorkshop$State" "teeth" "[I" ∈ wsX7_copyFrom by decide +kernel) rfl dX7_copyFrom_14 ?_
        refine lv_iload_n hx hb dX7_copyFrom_17 rfl (lv_at hl 0 rfl) ?_
        obtain ⟨hq5, hF⟩ := am_ifR hF
        refine am_iald X hh (b1 + 1) (st_lt hb1 1 (by decide)) (dsc_st hb1 _ 1 (by decide)) hq5 dX7_copyFrom_18 ?_
        obtain ⟨hq6, hF⟩ := am_ifR hF
        refine am_iast X hh (b0 + 1) (st_lt hb0 1 (by decide)) (dsc_st hb0 _ 1 (by decide)) hq6 dX7_copyFrom_19 (fun H locs hh => ?_)
        refine lv_aload_n hx hb dX7_copyFrom_20 rfl (lv_at hl 1 rfl) ?_
        refine am_getR X hh b0 9 1 (b0 + 2) (st_lt hb0 0 (by decide)) (dsc_st hb0 _ 0 (by decide)) rfl (by decide) hwRX7 (show Cond.fieldLink RX7 15 "PlanetWorkshop$State" "angles" "[J" ∈ wsX7_copyFrom by decide +kernel) rfl dX7_copyFrom_21 ?_
        refine lv_iload_n hx hb dX7_copyFrom_24 rfl (lv_at hl 0 rfl) ?_
        refine lv_aload_n hx hb dX7_copyFrom_25 rfl (lv_at hl 2 rfl) ?_
        refine am_getR X hh b1 9 1 (b1 + 2) (st_lt hb1 0 (by decide)) (dsc_st hb1 _ 0 (by decide)) rfl (by decide) hwRX7 (show Cond.fieldLink RX7 15 "PlanetWorkshop$State" "angles" "[J" ∈ wsX7_copyFrom by decide +kernel) rfl dX7_copyFrom_26 ?_
        refine lv_iload_n hx hb dX7_copyFrom_29 rfl (lv_at hl 0 rfl) ?_
        obtain ⟨hq7, hF⟩ := am_ifR hF
        refine am_lald X hh (b1 + 2) (st_lt hb1 2 (by decide)) (dsc_st hb1 _ 2 (by decide)) hq7 dX7_copyFrom_30 ?_
        obtain ⟨hq8, hF⟩ := am_ifR hF
        refine am_last X hh (b0 + 2) (st_lt hb0 2 (by decide)) (dsc_st hb0 _ 2 (by decide)) hq8 dX7_copyFrom_31 (fun H locs hh => ?_)
        refine lv_aload_n hx hb dX7_copyFrom_32 rfl (lv_at hl 1 rfl) ?_
        refine am_getR X hh b0 9 2 (b0 + 3) (st_lt hb0 0 (by decide)) (dsc_st hb0 _ 0 (by decide)) rfl (by decide) hwRX7 (show Cond.fieldLink RX7 19 "PlanetWorkshop$State" "oiled" "[Z" ∈ wsX7_copyFrom by decide +kernel) rfl dX7_copyFrom_33 ?_
        refine lv_iload_n hx hb dX7_copyFrom_36 rfl (lv_at hl 0 rfl) ?_
        refine lv_aload_n hx hb dX7_copyFrom_37 rfl (lv_at hl 2 rfl) ?_
        refine am_getR X hh b1 9 2 (b1 + 3) (st_lt hb1 0 (by decide)) (dsc_st hb1 _ 0 (by decide)) rfl (by decide) hwRX7 (show Cond.fieldLink RX7 19 "PlanetWorkshop$State" "oiled" "[Z" ∈ wsX7_copyFrom by decide +kernel) rfl dX7_copyFrom_38 ?_
        refine lv_iload_n hx hb dX7_copyFrom_41 rfl (lv_at hl 0 rfl) ?_
        obtain ⟨hq9, hF⟩ := am_ifR hF
        refine am_zald X hh (b1 + 3) (st_lt hb1 3 (by decide)) (dsc_st hb1 _ 3 (by decide)) hq9 dX7_copyFrom_42 ?_
        obtain ⟨hq10, hF⟩ := am_ifR hF
        refine am_zast X hh (b0 + 3) (st_lt hb0 3 (by decide)) (dsc_st hb0 _ 3 (by decide)) hq10 dX7_copyFrom_43 (fun H locs hh => ?_)
        refine lv_aload_n hx hb dX7_copyFrom_44 rfl (lv_at hl 1 rfl) ?_
        refine am_getR X hh b0 9 3 (b0 + 4) (st_lt hb0 0 (by decide)) (dsc_st hb0 _ 0 (by decide)) rfl (by decide) hwRX7 (show Cond.fieldLink RX7 23 "PlanetWorkshop$State" "wears" "[J" ∈ wsX7_copyFrom by decide +kernel) rfl dX7_copyFrom_45 ?_
        refine lv_iload_n hx hb dX7_copyFrom_48 rfl (lv_at hl 0 rfl) ?_
        refine lv_aload_n hx hb dX7_copyFrom_49 rfl (lv_at hl 2 rfl) ?_
        refine am_getR X hh b1 9 3 (b1 + 4) (st_lt hb1 0 (by decide)) (dsc_st hb1 _ 0 (by decide)) rfl (by decide) hwRX7 (show Cond.fieldLink RX7 23 "PlanetWorkshop$State" "wears" "[J" ∈ wsX7_copyFrom by decide +kernel) rfl dX7_copyFrom_50 ?_
        refine lv_iload_n hx hb dX7_copyFrom_53 rfl (lv_at hl 0 rfl) ?_
        obtain ⟨hq11, hF⟩ := am_ifR hF
        refine am_lald X hh (b1 + 4) (st_lt hb1 4 (by decide)) (dsc_st hb1 _ 4 (by decide)) hq11 dX7_copyFrom_54 ?_
        obtain ⟨hq12, hF⟩ := am_ifR hF
        refine am_last X hh (b0 + 4) (st_lt hb0 4 (by decide)) (dsc_st hb0 _ 4 (by decide)) hq12 dX7_copyFrom_55 (fun H locs hh => ?_)
        refine lv_aload_n hx hb dX7_copyFrom_56 rfl (lv_at hl 1 rfl) ?_
        refine am_getR X hh b0 9 4 (b0 + 5) (st_lt hb0 0 (by decide)) (dsc_st hb0 _ 0 (by decide)) rfl (by decide) hwRX7 (show Cond.fieldLink RX7 26 "PlanetWorkshop$State" "ratchets" "[Z" ∈ wsX7_copyFrom by decide +kernel) rfl dX7_copyFrom_57 ?_
        refine lv_iload_n hx hb dX7_copyFrom_60 rfl (lv_at hl 0 rfl) ?_
        refine lv_aload_n hx hb dX7_copyFrom_61 rfl (lv_at hl 2 rfl) ?_
        refine am_getR X hh b1 9 4 (b1 + 5) (st_lt hb1 0 (by decide)) (dsc_st hb1 _ 0 (by decide)) rfl (by decide) hwRX7 (show Cond.fieldLink RX7 26 "PlanetWorkshop$State" "ratchets" "[Z" ∈ wsX7_copyFrom by decide +kernel) rfl dX7_copyFrom_62 ?_
        refine lv_iload_n hx hb dX7_copyFrom_65 rfl (lv_at hl 0 rfl) ?_
        obtain ⟨hq13, hF⟩ := am_ifR hF
        refine am_zald X hh (b1 + 5) (st_lt hb1 5 (by decide)) (dsc_st hb1 _ 5 (by decide)) hq13 dX7_copyFrom_66 ?_
        obtain ⟨hq14, hF⟩ := am_ifR hF
        refine am_zast X hh (b0 + 5) (st_lt hb0 5 (by decide)) (dsc_st hb0 _ 5 (by decide)) hq14 dX7_copyFrom_67 (fun H locs hh => ?_)
        refine lv_aload_n hx hb dX7_copyFrom_68 rfl (lv_at hl 1 rfl) ?_
        refine am_getR X hh b0 9 5 (b0 + 6) (st_lt hb0 0 (by decide)) (dsc_st hb0 _ 0 (by decide)) rfl (by decide) hwRX7 (show Cond.fieldLink RX7 29 "PlanetWorkshop$State" "springSizes" "[I" ∈ wsX7_copyFrom by decide +kernel) rfl dX7_copyFrom_69 ?_
        refine lv_iload_n hx hb dX7_copyFrom_72 rfl (lv_at hl 0 rfl) ?_
        refine lv_aload_n hx hb dX7_copyFrom_73 rfl (lv_at hl 2 rfl) ?_
        refine am_getR X hh b1 9 5 (b1 + 6) (st_lt hb1 0 (by decide)) (dsc_st hb1 _ 0 (by decide)) rfl (by decide) hwRX7 (show Cond.fieldLink RX7 29 "PlanetWorkshop$State" "springSizes" "[I" ∈ wsX7_copyFrom by decide +kernel) rfl dX7_copyFrom_74 ?_
        refine lv_iload_n hx hb dX7_copyFrom_77 rfl (lv_at hl 0 rfl) ?_
        obtain ⟨hq15, hF⟩ := am_ifR hF
        refine am_iald X hh (b1 + 6) (st_lt hb1 6 (by decide)) (dsc_st hb1 _ 6 (by decide)) hq15 dX7_copyFrom_78 ?_
        obtain ⟨hq16, hF⟩ := am_ifR hF
        refine am_iast X hh (b0 + 6) (st_lt hb0 6 (by decide)) (dsc_st hb0 _ 6 (by decide)) hq16 dX7_copyFrom_79 (fun H locs hh => ?_)
        refine lv_aload_n hx hb dX7_copyFrom_80 rfl (lv_at hl 1 rfl) ?_
        refine am_getR X hh b0 9 6 (b0 + 7) (st_lt hb0 0 (by decide)) (dsc_st hb0 _ 0 (by decide)) rfl (by decide) hwRX7 (show Cond.fieldLink RX7 32 "PlanetWorkshop$State" "tensions" "[I" ∈ wsX7_copyFrom by decide +kernel) rfl dX7_copyFrom_81 ?_
        refine lv_iload_n hx hb dX7_copyFrom_84 rfl (lv_at hl 0 rfl) ?_
        refine lv_aload_n hx hb dX7_copyFrom_85 rfl (lv_at hl 2 rfl) ?_
        refine am_getR X hh b1 9 6 (b1 + 7) (st_lt hb1 0 (by decide)) (dsc_st hb1 _ 0 (by decide)) rfl (by decide) hwRX7 (show Cond.fieldLink RX7 32 "PlanetWorkshop$State" "tensions" "[I" ∈ wsX7_copyFrom by decide +kernel) rfl dX7_copyFrom_86 ?_
        refine lv_iload_n hx hb dX7_copyFrom_89 rfl (lv_at hl 0 rfl) ?_
        obtain ⟨hq17, hF⟩ := am_ifR hF
        refine am_iald X hh (b1 + 7) (st_lt hb1 7 (by decide)) (dsc_st hb1 _ 7 (by decide)) hq17 dX7_copyFrom_90 ?_
        obtain ⟨hq18, hF⟩ := am_ifR hF
        refine am_iast X hh (b0 + 7) (st_lt hb0 7 (by decide)) (dsc_st hb0 _ 7 (by decide)) hq18 dX7_copyFrom_91 (fun H locs hh => ?_)
        refine lv_aload_n hx hb dX7_copyFrom_92 rfl (lv_at hl 1 rfl) ?_
        refine am_getR X hh b0 9 7 (b0 + 8) (st_lt hb0 0 (by decide)) (dsc_st hb0 _ 0 (by decide)) rfl (by decide) hwRX7 (show Cond.fieldLink RX7 35 "PlanetWorkshop$State" "reversed" "[Z" ∈ wsX7_copyFrom by decide +kernel) rfl dX7_copyFrom_93 ?_
        refine lv_iload_n hx hb dX7_copyFrom_96 rfl (lv_at hl 0 rfl) ?_
        refine lv_aload_n hx hb dX7_copyFrom_97 rfl (lv_at hl 2 rfl) ?_
        refine am_getR X hh b1 9 7 (b1 + 8) (st_lt hb1 0 (by decide)) (dsc_st hb1 _ 0 (by decide)) rfl (by decide) hwRX7 (show Cond.fieldLink RX7 35 "PlanetWorkshop$State" "reversed" "[Z" ∈ wsX7_copyFrom by decide +kernel) rfl dX7_copyFrom_98 ?_
        refine lv_iload_n hx hb dX7_copyFrom_101 rfl (lv_at hl 0 rfl) ?_
        obtain ⟨hq19, hF⟩ := am_ifR hF
        refine am_zald X hh (b1 + 8) (st_lt hb1 8 (by decide)) (dsc_st hb1 _ 8 (by decide)) hq19 dX7_copyFrom_102 ?_
        obtain ⟨hq20, hF⟩ := am_ifR hF
        refine am_zast X hh (b0 + 8) (st_lt hb0 8 (by decide)) (dsc_st hb0 _ 8 (by decide)) hq20 dX7_copyFrom_103 (fun H locs hh => ?_)
        refine lv_iinc (v := (y1 + (1 : Int32))) (lv' := [(2, .int (y1 + (1 : Int32))), (0, .ref (adx (gAd G) ab b0)), (1, .ref (adx (gAd G) ab b1))]) hx hb dX7_copyFrom_104 hl (k := 0) rfl rfl (by decide) rfl (fun ls hl => ?_)
        refine lv_goto (tgt := 2) hx hb dX7_copyFrom_107 (by decide) ?_
        exact ih (y1 + (1 : Int32)) (uI (uI (uI (uI (uL (uI (uL (uI w2 (b0 + 1) (y1).toNatClampNeg (gI w2 (b1 + 1) (y1).toNatClampNeg)) (b0 + 2) (y1).toNatClampNeg (gL (uI w2 (b0 + 1) (y1).toNatClampNeg (gI w2 (b1 + 1) (y1).toNatClampNeg)) (b1 + 2) (y1).toNatClampNeg)) (b0 + 3) (y1).toNatClampNeg (vp_nar .boolean (gI (uL (uI w2 (b0 + 1) (y1).toNatClampNeg (gI w2 (b1 + 1) (y1).toNatClampNeg)) (b0 + 2) (y1).toNatClampNeg (gL (uI w2 (b0 + 1) (y1).toNatClampNeg (gI w2 (b1 + 1) (y1).toNatClampNeg)) (b1 + 2) (y1).toNatClampNeg)) (b1 + 3) (y1).toNatClampNeg))) (b0 + 4) (y1).toNatClampNeg (gL (uI (uL (uI w2 (b0 + 1) (y1).toNatClampNeg (gI w2 (b1 + 1) (y1).toNatClampNeg)) (b0 + 2) (y1).toNatClampNeg (gL (uI w2 (b0 + 1) (y1).toNatClampNeg (gI w2 (b1 + 1) (y1).toNatClampNeg)) (b1 + 2) (y1).toNatClampNeg)) (b0 + 3) (y1).toNatClampNeg (vp_nar .boolean (gI (uL (uI w2 (b0 + 1) (y1).toNatClampNeg (gI w2 (b1 + 1) (y1).toNatClampNeg)) (b0 + 2) (y1).toNatClampNeg (gL (uI w2 (b0 + 1) (y1).toNatClampNeg (gI w2 (b1 + 1) (y1).toNatClampNeg)) (b1 + 2) (y1).toNatClampNeg)) (b1 + 3) (y1).toNatClampNeg))) (b1 + 4) (y1).toNatClampNeg)) (b0 + 5) (y1).toNatClampNeg (vp_nar .boolean (gI (uL (uI (uL (uI w2 (b0 + 1) (y1).toNatClampNeg (gI w2 (b1 + 1) (y1).toNatClampNeg)) (b0 + 2) (y1).toNatClampNeg (gL (uI w2 (b0 + 1) (y1).toNatClampNeg (gI w2 (b1 + 1) (y1).toNatClampNeg)) (b1 + 2) (y1).toNatClampNeg)) (b0 + 3) (y1).toNatClampNeg (vp_nar .boolean (gI (uL (uI w2 (b0 + 1) (y1).toNatClampNeg (gI w2 (b1 + 1) (y1).toNatClampNeg)) (b0 + 2) (y1).toNatClampNeg (gL (uI w2 (b0 + 1) (y1).toNatClampNeg (gI w2 (b1 + 1) (y1).toNatClampNeg)) (b1 + 2) (y1).toNatClampNeg)) (b1 + 3) (y1).toNatClampNeg))) (b0 + 4) (y1).toNatClampNeg (gL (uI (uL (uI w2 (b0 + 1) (y1).toNatClampNeg (gI w2 (b1 + 1) (y1).toNatClampNeg)) (b0 + 2) (y1).toNatClampNeg (gL (uI w2 (b0 + 1) (y1).toNatClampNeg (gI w2 (b1 + 1) (y1).toNatClampNeg)) (b1 + 2) (y1).toNatClampNeg)) (b0 + 3) (y1).toNatClampNeg (vp_nar .boolean (gI (uL (uI w2 (b0 + 1) (y1).toNatClampNeg (gI w2 (b1 + 1) (y1).toNatClampNeg)) (b0 + 2) (y1).toNatClampNeg (gL (uI w2 (b0 + 1) (y1).toNatClampNeg (gI w2 (b1 + 1) (y1).toNatClampNeg)) (b1 + 2) (y1).toNatClampNeg)) (b1 + 3) (y1).toNatClampNeg))) (b1 + 4) (y1).toNatClampNeg)) (b1 + 5) (y1).toNatClampNeg))) (b0 + 6) (y1).toNatClampNeg (gI (uI (uL (uI (uL (uI w2 (b0 + 1) (y1).toNatClampNeg (gI w2 (b1 + 1) (y1).toNatClampNeg)) (b0 + 2) (y1).toNatClampNeg (gL (uI w2 (b0 + 1) (y1).toNatClampNeg (gI w2 (b1 + 1) (y1).toNatClampNeg)) (b1 + 2) (y1).toNatClampNeg)) (b0 + 3) (y1).toNatClampNeg (vp_nar .boolean (gI (uL (uI w2 (b0 + 1) (y1).toNatClampNeg (gI w2 (b1 + 1) (y1).toNatClampNeg)) (b0 + 2) (y1).toNatClampNeg (gL (uI w2 (b0 + 1) (y1).toNatClampNeg (gI w2 (b1 + 1) (y1).toNatClampNeg)) (b1 + 2) (y1).toNatClampNeg)) (b1 + 3) (y1).toNatClampNeg))) (b0 + 4) (y1).toNatClampNeg (gL (uI (uL (uI w2 (b0 + 1) (y1).toNatClampNeg (gI w2 (b1 + 1) (y1).toNatClampNeg)) (b0 + 2) (y1).toNatClampNeg (gL (uI w2 (b0 + 1) (y1).toNatClampNeg (gI w2 (b1 + 1) (y1).toNatClampNeg)) (b1 + 2) (y1).toNatClampNeg)) (b0 + 3) (y1).toNatClampNeg (vp_nar .boolean (gI (uL (uI w2 (b0 + 1) (y1).toNatClampNeg (gI w2 (b1 + 1) (y1).toNatClampNeg)) (b0 + 2) (y1).toNatClampNeg (gL (uI w2 (b0 + 1) (y1).toNatClampNeg (gI w2 (b1 + 1) (y1).toNatClampNeg)) (b1 + 2) (y1).toNatClampNeg)) (b1 + 3) (y1).toNatClampNeg))) (b1 + 4) (y1).toNatClampNeg)) (b0 + 5) (y1).toNatClampNeg (vp_nar .boolean (gI (uL (uI (uL (uI w2 (b0 + 1) (y1).toNatClampNeg (gI w2 (b1 + 1) (y1).toNatClampNeg)) (b0 + 2) (y1).toNatClampNeg (gL (uI w2 (b0 + 1) (y1).toNatClampNeg (gI w2 (b1 + 1) (y1).toNatClampNeg)) (b1 + 2) (y1).toNatClampNeg)) (b0 + 3) (y1).toNatClampNeg (vp_nar .boolean (gI (uL (uI w2 (b0 + 1) (y1).toNatClampNeg (gI w2 (b1 + 1) (y1).toNatClampNeg)) (b0 + 2) (y1).toNatClampNeg (gL (uI w2 (b0 + 1) (y1).toNatClampNeg (gI w2 (b1 + 1) (y1).toNatClampNeg)) (b1 + 2) (y1).toNatClampNeg)) (b1 + 3) (y1).toNatClampNeg))) (b0 + 4) (y1).toNatClampNeg (gL (uI (uL (uI w2 (b0 + 1) (y1).toNatClampNeg (gI w2 (b1 + 1) (y1).toNatClampNeg)) (b0 + 2) (y1).toNatClampNeg (gL (uI w2 (b0 + 1) (y1).toNatClampNeg (gI w2 (b1 + 1) (y1).toNatClampNeg)) (b1 + 2) (y1).toNatClampNeg)) (b0 + 3) (y1).toNatClampNeg (vp_nar .boolean (gI (uL (uI w2 (b0 + 1) (y1).toNatClampNeg (gI w2 (b1 + 1) (y1).toNatClampNeg)) (b0 + 2) (y1).toNatClampNeg (gL (uI w2 (b0 + 1) (y1).toNatClampNeg (gI w2 (b1 + 1) (y1).toNatClampNeg)) (b1 + 2) (y1).toNatClampNeg)) (b1 + 3) (y1).toNatClampNeg))) (b1 + 4) (y1).toNatClampNeg)) (b1 + 5) (y1).toNatClampNeg))) (b1 + 6) (y1).toNatClampNeg)) (b0 + 7) (y1).toNatClampNeg (gI (uI (uI (uL (uI (uL (uI w2 (b0 + 1) (y1).toNatClampNeg (gI w2 (b1 + 1) (y1).toNatClampNeg)) (b0 + 2) (y1).toNatClampNeg (gL (uI w2 (b0 + 1) (y1).toNatClampNeg (gI w2 (b1 + 1) (y1).toNatClampNeg)) (b1 + 2) (y1).toNatClampNeg)) (b0 + 3) (y1).toNatClampNeg (vp_nar .boolean (gI (uL (uI w2 (b0 + 1) (y1).toNatClampNeg (gI w2 (b1 + 1) (y1).toNatClampNeg)) (b0 + 2) (y1).toNatClampNeg (gL (uI w2 (b0 + 1) (y1).toNatClampNeg (gI w2 (b1 + 1) (y1).toNatClampNeg)) (b1 + 2) (y1).toNatClampNeg)) (b1 + 3) (y1).toNatClampNeg))) (b0 + 4) (y1).toNatClampNeg (gL (uI (uL (uI w2 (b0 + 1) (y1).toNatClampNeg (gI w2 (b1 + 1) (y1).toNatClampNeg)) (b0 + 2) (y1).toNatClampNeg (gL (uI w2 (b0 + 1) (y1).toNatClampNeg (gI w2 (b1 + 1) (y1).toNatClampNeg)) (b1 + 2) (y1).toNatClampNeg)) (b0 + 3) (y1).toNatClampNeg (vp_nar .boolean (gI (uL (uI w2 (b0 + 1) (y1).toNatClampNeg (gI w2 (b1 + 1) (y1).toNatClampNeg)) (b0 + 2) (y1).toNatClampNeg (gL (uI w2 (b0 + 1) (y1).toNatClampNeg (gI w2 (b1 + 1) (y1).toNatClampNeg)) (b1 + 2) (y1).toNatClampNeg)) (b1 + 3) (y1).toNatClampNeg))) (b1 + 4) (y1).toNatClampNeg)) (b0 + 5) (y1).toNatClampNeg (vp_nar .boolean (gI (uL (uI (uL (uI w2 (b0 + 1) (y1).toNatClampNeg (gI w2 (b1 + 1) (y1).toNatClampNeg)) (b0 + 2) (y1).toNatClampNeg (gL (uI w2 (b0 + 1) (y1).toNatClampNeg (gI w2 (b1 + 1) (y1).toNatClampNeg)) (b1 + 2) (y1).toNatClampNeg)) (b0 + 3) (y1).toNatClampNeg (vp_nar .boolean (gI (uL (uI w2 (b0 + 1) (y1).toNatClampNeg (gI w2 (b1 + 1) (y1).toNatClampNeg)) (b0 + 2) (y1).toNatClampNeg (gL (uI w2 (b0 + 1) (y1).toNatClampNeg (gI w2 (b1 + 1) (y1).toNatClampNeg)) (b1 + 2) (y1).toNatClampNeg)) (b1 + 3) (y1).toNatClampNeg))) (b0 + 4) (y1).toNatClampNeg (gL (uI (uL (uI w2 (b0 + 1) (y1).toNatClampNeg (gI w2 (b1 + 1) (y1).toNatClampNeg)) (b0 + 2) (y1).toNatClampNeg (gL (uI w2 (b0 + 1) (y1).toNatClampNeg (gI w2 (b1 + 1) (y1).toNatClampNeg)) (b1 + 2) (y1).toNatClampNeg)) (b0 + 3) (y1).toNatClampNeg (vp_nar .boolean (gI (uL (uI w2 (b0 + 1) (y1).toNatClampNeg (gI w2 (b1 + 1) (y1).toNatClampNeg)) (b0 + 2) (y1).toNatClampNeg (gL (uI w2 (b0 + 1) (y1).toNatClampNeg (gI w2 (b1 + 1) (y1).toNatClampNeg)) (b1 + 2) (y1).toNatClampNeg)) (b1 + 3) (y1).toNatClampNeg))) (b1 + 4) (y1).toNatClampNeg)) (b1 + 5) (y1).toNatClampNeg))) (b0 + 6) (y1).toNatClampNeg (gI (uI (uL (uI (uL (uI w2 (b0 + 1) (y1).toNatClampNeg (gI w2 (b1 + 1) (y1).toNatClampNeg)) (b0 + 2) (y1).toNatClampNeg (gL (uI w2 (b0 + 1) (y1).toNatClampNeg (gI w2 (b1 + 1) (y1).toNatClampNeg)) (b1 + 2) (y1).toNatClampNeg)) (b0 + 3) (y1).toNatClampNeg (vp_nar .boolean (gI (uL (uI w2 (b0 + 1) (y1).toNatClampNeg (gI w2 (b1 + 1) (y1).toNatClampNeg)) (b0 + 2) (y1).toNatClampNeg (gL (uI w2 (b0 + 1) (y1).toNatClampNeg (gI w2 (b1 + 1) (y1).toNatClampNeg)) (b1 + 2) (y1).toNatClampNeg)) (b1 + 3) (y1).toNatClampNeg))) (b0 + 4) (y1).toNatClampNeg (gL (uI (uL (uI w2 (b0 + 1) (y1).toNatClampNeg (gI w2 (b1 + 1) (y1).toNatClampNeg)) (b0 + 2) (y1).toNatClampNeg (gL (uI w2 (b0 + 1) (y1).toNatClampNeg (gI w2 (b1 + 1) (y1).toNatClampNeg)) (b1 + 2) (y1).toNatClampNeg)) (b0 + 3) (y1).toNatClampNeg (vp_nar .boolean (gI (uL (uI w2 (b0 + 1) (y1).toNatClampNeg (gI w2 (b1 + 1) (y1).toNatClampNeg)) (b0 + 2) (y1).toNatClampNeg (gL (uI w2 (b0 + 1) (y1).toNatClampNeg (gI w2 (b1 + 1) (y1).toNatClampNeg)) (b1 + 2) (y1).toNatClampNeg)) (b1 + 3) (y1).toNatClampNeg))) (b1 + 4) (y1).toNatClampNeg)) (b0 + 5) (y1).toNatClampNeg (vp_nar .boolean (gI (uL (uI (uL (uI w2 (b0 + 1) (y1).toNatClampNeg (gI w2 (b1 + 1) (y1).toNatClampNeg)) (b0 + 2) (y1).toNatClampNeg (gL (uI w2 (b0 + 1) (y1).toNatClampNeg (gI w2 (b1 + 1) (y1).toNatClampNeg)) (b1 + 2) (y1).toNatClampNeg)) (b0 + 3) (y1).toNatClampNeg (vp_nar .boolean (gI (uL (uI w2 (b0 + 1) (y1).toNatClampNeg (gI w2 (b1 + 1) (y1).toNatClampNeg)) (b0 + 2) (y1).toNatClampNeg (gL (uI w2 (b0 + 1) (y1).toNatClampNeg (gI w2 (b1 + 1) (y1).toNatClampNeg)) (b1 + 2) (y1).toNatClampNeg)) (b1 + 3) (y1).toNatClampNeg))) (b0 + 4) (y1).toNatClampNeg (gL (uI (uL (uI w2 (b0 + 1) (y1).toNatClampNeg (gI w2 (b1 + 1) (y1).toNatClampNeg)) (b0 + 2) (y1).toNatClampNeg (gL (uI w2 (b0 + 1) (y1).toNatClampNeg (gI w2 (b1 + 1) (y1).toNatClampNeg)) (b1 + 2) (y1).toNatClampNeg)) (b0 + 3) (y1).toNatClampNeg (vp_nar .boolean (gI (uL (uI w2 (b0 + 1) (y1).toNatClampNeg (gI w2 (b1 + 1) (y1).toNatClampNeg)) (b0 + 2) (y1).toNatClampNeg (gL (uI w2 (b0 + 1) (y1).toNatClampNeg (gI w2 (b1 + 1) (y1).toNatClampNeg)) (b1 + 2) (y1).toNatClampNeg)) (b1 + 3) (y1).toNatClampNeg))) (b1 + 4) (y1).toNatClampNeg)) (b1 + 5) (y1).toNatClampNeg))) (b1 + 6) (y1).toNatClampNeg)) (b1 + 7) (y1).toNatClampNeg)) (b0 + 8) (y1).toNatClampNeg (vp_nar .boolean (gI (uI (uI (uI (uL (uI (uL (uI w2 (b0 + 1) (y1).toNatClampNeg (gI w2 (b1 + 1) (y1).toNatClampNeg)) (b0 + 2) (y1).toNatClampNeg (gL (uI w2 (b0 + 1) (y1).toNatClampNeg (gI w2 (b1 + 1) (y1).toNatClampNeg)) (b1 + 2) (y1).toNatClampNeg)) (b0 + 3) (y1).toNatClampNeg (vp_nar .boolean (gI (uL (uI w2 (b0 + 1) (y1).toNatClampNeg (gI w2 (b1 + 1) (y1).toNatClampNeg)) (b0 + 2) (y1).toNatClampNeg (gL (uI w2 (b0 + 1) (y1).toNatClampNeg (gI w2 (b1 + 1) (y1).toNatClampNeg)) (b1 + 2) (y1).toNatClampNeg)) (b1 + 3) (y1).toNatClampNeg))) (b0 + 4) (y1).toNatClampNeg (gL (uI (uL (uI w2 (b0 + 1) (y1).toNatClampNeg (gI w2 (b1 + 1) (y1).toNatClampNeg)) (b0 + 2) (y1).toNatClampNeg (gL (uI w2 (b0 + 1) (y1).toNatClampNeg (gI w2 (b1 + 1) (y1).toNatClampNeg)) (b1 + 2) (y1).toNatClampNeg)) (b0 + 3) (y1).toNatClampNeg (vp_nar .boolean (gI (uL (uI w2 (b0 + 1) (y1).toNatClampNeg (gI w2 (b1 + 1) (y1).toNatClampNeg)) (b0 + 2) (y1).toNatClampNeg (gL (uI w2 (b0 + 1) (y1).toNatClampNeg (gI w2 (b1 + 1) (y1).toNatClampNeg)) (b1 + 2) (y1).toNatClampNeg)) (b1 + 3) (y1).toNatClampNeg))) (b1 + 4) (y1).toNatClampNeg)) (b0 + 5) (y1).toNatClampNeg (vp_nar .boolean (gI (uL (uI (uL (uI w2 (b0 + 1) (y1).toNatClampNeg (gI w2 (b1 + 1) (y1).toNatClampNeg)) (b0 + 2) (y1).toNatClampNeg (gL (uI w2 (b0 + 1) (y1).toNatClampNeg (gI w2 (b1 + 1) (y1).toNatClampNeg)) (b1 + 2) (y1).toNatClampNeg)) (b0 + 3) (y1).toNatClampNeg (vp_nar .boolean (gI (uL (uI w2 (b0 + 1) (y1).toNatClampNeg (gI w2 (b1 + 1) (y1).toNatClampNeg)) (b0 + 2) (y1).toNatClampNeg (gL (uI w2 (b0 + 1) (y1).toNatClampNeg (gI w2 (b1 + 1) (y1).toNatClampNeg)) (b1 + 2) (y1).toNatClampNeg)) (b1 + 3) (y1).toNatClampNeg))) (b0 + 4) (y1).toNatClampNeg (gL (uI (uL (uI w2 (b0 + 1) (y1).toNatClampNeg (gI w2 (b1 + 1) (y1).toNatClampNeg)) (b0 + 2) (y1).toNatClampNeg (gL (uI w2 (b0 + 1) (y1).toNatClampNeg (gI w2 (b1 + 1) (y1).toNatClampNeg)) (b1 + 2) (y1).toNatClampNeg)) (b0 + 3) (y1).toNatClampNeg (vp_nar .boolean (gI (uL (uI w2 (b0 + 1) (y1).toNatClampNeg (gI w2 (b1 + 1) (y1).toNatClampNeg)) (b0 + 2) (y1).toNatClampNeg (gL (uI w2 (b0 + 1) (y1).toNatClampNeg (gI w2 (b1 + 1) (y1).toNatClampNeg)) (b1 + 2) (y1).toNatClampNeg)) (b1 + 3) (y1).toNatClampNeg))) (b1 + 4) (y1).toNatClampNeg)) (b1 + 5) (y1).toNatClampNeg))) (b0 + 6) (y1).toNatClampNeg (gI (uI (uL (uI (uL (uI w2 (b0 + 1) (y1).toNatClampNeg (gI w2 (b1 + 1) (y1).toNatClampNeg)) (b0 + 2) (y1).toNatClampNeg (gL (uI w2 (b0 + 1) (y1).toNatClampNeg (gI w2 (b1 + 1) (y1).toNatClampNeg)) (b1 + 2) (y1).toNatClampNeg)) (b0 + 3) (y1).toNatClampNeg (vp_nar .boolean (gI (uL (uI w2 (b0 + 1) (y1).toNatClampNeg (gI w2 (b1 + 1) (y1).toNatClampNeg)) (b0 + 2) (y1).toNatClampNeg (gL (uI w2 (b0 + 1) (y1).toNatClampNeg (gI w2 (b1 + 1) (y1).toNatClampNeg)) (b1 + 2) (y1).toNatClampNeg)) (b1 + 3) (y1).toNatClampNeg))) (b0 + 4) (y1).toNatClampNeg (gL (uI (uL (uI w2 (b0 + 1) (y1).toNatClampNeg (gI w2 (b1 + 1) (y1).toNatClampNeg)) (b0 + 2) (y1).toNatClampNeg (gL (uI w2 (b0 + 1) (y1).toNatClampNeg (gI w2 (b1 + 1) (y1).toNatClampNeg)) (b1 + 2) (y1).toNatClampNeg)) (b0 + 3) (y1).toNatClampNeg (vp_nar .boolean (gI (uL (uI w2 (b0 + 1) (y1).toNatClampNeg (gI w2 (b1 + 1) (y1).toNatClampNeg)) (b0 + 2) (y1).toNatClampNeg (gL (uI w2 (b0 + 1) (y1).toNatClampNeg (gI w2 (b1 + 1) (y1).toNatClampNeg)) (b1 + 2) (y1).toNatClampNeg)) (b1 + 3) (y1).toNatClampNeg))) (b1 + 4) (y1).toNatClampNeg)) (b0 + 5) (y1).toNatClampNeg (vp_nar .boolean (gI (uL (uI (uL (uI w2 (b0 + 1) (y1).toNatClampNeg (gI w2 (b1 + 1) (y1).toNatClampNeg)) (b0 + 2) (y1).toNatClampNeg (gL (uI w2 (b0 + 1) (y1).toNatClampNeg (gI w2 (b1 + 1) (y1).toNatClampNeg)) (b1 + 2) (y1).toNatClampNeg)) (b0 + 3) (y1).toNatClampNeg (vp_nar .boolean (gI (uL (uI w2 (b0 + 1) (y1).toNatClampNeg (gI w2 (b1 + 1) (y1).toNatClampNeg)) (b0 + 2) (y1).toNatClampNeg (gL (uI w2 (b0 + 1) (y1).toNatClampNeg (gI w2 (b1 + 1) (y1).toNatClampNeg)) (b1 + 2) (y1).toNatClampNeg)) (b1 + 3) (y1).toNatClampNeg))) (b0 + 4) (y1).toNatClampNeg (gL (uI (uL (uI w2 (b0 + 1) (y1).toNatClampNeg (gI w2 (b1 + 1) (y1).toNatClampNeg)) (b0 + 2) (y1).toNatClampNeg (gL (uI w2 (b0 + 1) (y1).toNatClampNeg (gI w2 (b1 + 1) (y1).toNatClampNeg)) (b1 + 2) (y1).toNatClampNeg)) (b0 + 3) (y1).toNatClampNeg (vp_nar .boolean (gI (uL (uI w2 (b0 + 1) (y1).toNatClampNeg (gI w2 (b1 + 1) (y1).toNatClampNeg)) (b0 + 2) (y1).toNatClampNeg (gL (uI w2 (b0 + 1) (y1).toNatClampNeg (gI w2 (b1 + 1) (y1).toNatClampNeg)) (b1 + 2) (y1).toNatClampNeg)) (b1 + 3) (y1).toNatClampNeg))) (b1 + 4) (y1).toNatClampNeg)) (b1 + 5) (y1).toNatClampNeg))) (b1 + 6) (y1).toNatClampNeg)) (b0 + 7) (y1).toNatClampNeg (gI (uI (uI (uL (uI (uL (uI w2 (b0 + 1) (y1).toNatClampNeg (gI w2 (b1 + 1) (y1).toNatClampNeg)) (b0 + 2) (y1).toNatClampNeg (gL (uI w2 (b0 + 1) (y1).toNatClampNeg (gI w2 (b1 + 1) (y1).toNatClampNeg)) (b1 + 2) (y1).toNatClampNeg)) (b0 + 3) (y1).toNatClampNeg (vp_nar .boolean (gI (uL (uI w2 (b0 + 1) (y1).toNatClampNeg (gI w2 (b1 + 1) (y1).toNatClampNeg)) (b0 + 2) (y1).toNatClampNeg (gL (uI w2 (b0 + 1) (y1).toNatClampNeg (gI w2 (b1 + 1) (y1).toNatClampNeg)) (b1 + 2) (y1).toNatClampNeg)) (b1 + 3) (y1).toNatClampNeg))) (b0 + 4) (y1).toNatClampNeg (gL (uI (uL (uI w2 (b0 + 1) (y1).toNatClampNeg (gI w2 (b1 + 1) (y1).toNatClampNeg)) (b0 + 2) (y1).toNatClampNeg (gL (uI w2 (b0 + 1) (y1).toNatClampNeg (gI w2 (b1 + 1) (y1).toNatClampNeg)) (b1 + 2) (y1).toNatClampNeg)) (b0 + 3) (y1).toNatClampNeg (vp_nar .boolean (gI (uL (uI w2 (b0 + 1) (y1).toNatClampNeg (gI w2 (b1 + 1) (y1).toNatClampNeg)) (b0 + 2) (y1).toNatClampNeg (gL (uI w2 (b0 + 1) (y1).toNatClampNeg (gI w2 (b1 + 1) (y1).toNatClampNeg)) (b1 + 2) (y1).toNatClampNeg)) (b1 + 3) (y1).toNatClampNeg))) (b1 + 4) (y1).toNatClampNeg)) (b0 + 5) (y1).toNatClampNeg (vp_nar .boolean (gI (uL (uI (uL (uI w2 (b0 + 1) (y1).toNatClampNeg (gI w2 (b1 + 1) (y1).toNatClampNeg)) (b0 + 2) (y1).toNatClampNeg (gL (uI w2 (b0 + 1) (y1).toNatClampNeg (gI w2 (b1 + 1) (y1).toNatClampNeg)) (b1 + 2) (y1).toNatClampNeg)) (b0 + 3) (y1).toNatClampNeg (vp_nar .boolean (gI (uL (uI w2 (b0 + 1) (y1).toNatClampNeg (gI w2 (b1 + 1) (y1).toNatClampNeg)) (b0 + 2) (y1).toNatClampNeg (gL (uI w2 (b0 + 1) (y1).toNatClampNeg (gI w2 (b1 + 1) (y1).toNatClampNeg)) (b1 + 2) (y1).toNatClampNeg)) (b1 + 3) (y1).toNatClampNeg))) (b0 + 4) (y1).toNatClampNeg (gL (uI (uL (uI w2 (b0 + 1) (y1).toNatClampNeg (gI w2 (b1 + 1) (y1).toNatClampNeg)) (b0 + 2) (y1).toNatClampNeg (gL (uI w2 (b0 + 1) (y1).toNatClampNeg (gI w2 (b1 + 1) (y1).toNatClampNeg)) (b1 + 2) (y1).toNatClampNeg)) (b0 + 3) (y1).toNatClampNeg (vp_nar .boolean (gI (uL (uI w2 (b0 + 1) (y1).toNatClampNeg (gI w2 (b1 + 1) (y1).toNatClampNeg)) (b0 + 2) (y1).toNatClampNeg (gL (uI w2 (b0 + 1) (y1).toNatClampNeg (gI w2 (b1 + 1) (y1).toNatClampNeg)) (b1 + 2) (y1).toNatClampNeg)) (b1 + 3) (y1).toNatClampNeg))) (b1 + 4) (y1).toNatClampNeg)) (b1 + 5) (y1).toNatClampNeg))) (b0 + 6) (y1).toNatClampNeg (gI (uI (uL (uI (uL (uI w2 (b0 + 1) (y1).toNatClampNeg (gI w2 (b1 + 1) (y1).toNatClampNeg)) (b0 + 2) (y1).toNatClampNeg (gL (uI w2 (b0 + 1) (y1).toNatClampNeg (gI w2 (b1 + 1) (y1).toNatClampNeg)) (b1 + 2) (y1).toNatClampNeg)) (b0 + 3) (y1).toNatClampNeg (vp_nar .boolean (gI (uL (uI w2 (b0 + 1) (y1).toNatClampNeg (gI w2 (b1 + 1) (y1).toNatClampNeg)) (b0 + 2) (y1).toNatClampNeg (gL (uI w2 (b0 + 1) (y1).toNatClampNeg (gI w2 (b1 + 1) (y1).toNatClampNeg)) (b1 + 2) (y1).toNatClampNeg)) (b1 + 3) (y1).toNatClampNeg))) (b0 + 4) (y1).toNatClampNeg (gL (uI (uL (uI w2 (b0 + 1) (y1).toNatClampNeg (gI w2 (b1 + 1) (y1).toNatClampNeg)) (b0 + 2) (y1).toNatClampNeg (gL (uI w2 (b0 + 1) (y1).toNatClampNeg (gI w2 (b1 + 1) (y1).toNatClampNeg)) (b1 + 2) (y1).toNatClampNeg)) (b0 + 3) (y1).toNatClampNeg (vp_nar .boolean (gI (uL (uI w2 (b0 + 1) (y1).toNatClampNeg (gI w2 (b1 + 1) (y1).toNatClampNeg)) (b0 + 2) (y1).toNatClampNeg (gL (uI w2 (b0 + 1) (y1).toNatClampNeg (gI w2 (b1 + 1) (y1).toNatClampNeg)) (b1 + 2) (y1).toNatClampNeg)) (b1 + 3) (y1).toNatClampNeg))) (b1 + 4) (y1).toNatClampNeg)) (b0 + 5) (y1).toNatClampNeg (vp_nar .boolean (gI (uL (uI (uL (uI w2 (b0 + 1) (y1).toNatClampNeg (gI w2 (b1 + 1) (y1).toNatClampNeg)) (b0 + 2) (y1).toNatClampNeg (gL (uI w2 (b0 + 1) (y1).toNatClampNeg (gI w2 (b1 + 1) (y1).toNatClampNeg)) (b1 + 2) (y1).toNatClampNeg)) (b0 + 3) (y1).toNatClampNeg (vp_nar .boolean (gI (uL (uI w2 (b0 + 1) (y1).toNatClampNeg (gI w2 (b1 + 1) (y1).toNatClampNeg)) (b0 + 2) (y1).toNatClampNeg (gL (uI w2 (b0 + 1) (y1).toNatClampNeg (gI w2 (b1 + 1) (y1).toNatClampNeg)) (b1 + 2) (y1).toNatClampNeg)) (b1 + 3) (y1).toNatClampNeg))) (b0 + 4) (y1).toNatClampNeg (gL (uI (uL (uI w2 (b0 + 1) (y1).toNatClampNeg (gI w2 (b1 + 1) (y1).toNatClampNeg)) (b0 + 2) (y1).toNatClampNeg (gL (uI w2 (b0 + 1) (y1).toNatClampNeg (gI w2 (b1 + 1) (y1).toNatClampNeg)) (b1 + 2) (y1).toNatClampNeg)) (b0 + 3) (y1).toNatClampNeg (vp_nar .boolean (gI (uL (uI w2 (b0 + 1) (y1).toNatClampNeg (gI w2 (b1 + 1) (y1).toNatClampNeg)) (b0 + 2) (y1).toNatClampNeg (gL (uI w2 (b0 + 1) (y1).toNatClampNeg (gI w2 (b1 + 1) (y1).toNatClampNeg)) (b1 + 2) (y1).toNatClampNeg)) (b1 + 3) (y1).toNatClampNeg))) (b1 + 4) (y1).toNatClampNeg)) (b1 + 5) (y1).toNatClampNeg))) (b1 + 6) (y1).toNatClampNeg)) (b1 + 7) (y1).toNatClampNeg)) (b1 + 8) (y1).toNatClampNeg))) ab H locs ls _ hF hh (lv_sub hl [0, 1, 2] rfl) kE
  obtain ⟨z21, hz22, hF⟩ := am_bind hF
  refine hlp2 2000 (0 : Int32) w ab H locs ls z21 hz22 hh (lv_sub hl [0, 1, 2] rfl) (fun y1 w2 ab H locs ls hz hh hl => ?_)
  · subst hz
    have hF := am_u2 (am_zl hF)
    refine lv_iconst (v := (0 : Int32)) hx hb dX7_copyFrom_110 (by decide) ?_
    refine lv_istore_n (lv' := [(2, .int (0 : Int32)), (0, .ref (adx (gAd G) ab b0)), (1, .ref (adx (gAd G) ab b1))]) hx hb dX7_copyFrom_111 rfl hl (by decide) rfl (fun ls hl => ?_)
    have hlp112 : ∀ (n : Nat) (y23 : Int32) (w24 : Wd) (ab : Nat) (H : Heap) (locs : List Loc) (ls : Array Slot) (z : (Int32 × Wd) ⊕ Unit), p_X7_copyFrom_112 n y23 w24 = some z → AH G s.heap w24 ab H locs → lv_has ls 3 [(2, .int y23), (0, .ref (adx (gAd G) ab b0)), (1, .ref (adx (gAd G) ab b1))] → (∀ (y23 : Int32) (w24 : Wd) (ab : Nat) (H : Heap) (locs : List Loc) (ls : Array Slot), z = .inl (y23, w24) → AH G s.heap w24 ab H locs → lv_has ls 3 [(2, .int y23), (0, .ref (adx (gAd G) ab b0)), (1, .ref (adx (gAd G) ab b1))] → W p l e ({ frames := 0, cells := 0, slots := 0, locals := 0 } : Room) s m args below meth c H locs 0 0 (MQ below (amQ G none w1) args s 0 0 (gA G)) (F0 m 136 ls [])) → W p l e ({ frames := 0, cells := 0, slots := 0, locals := 0 } : Room) s m args below meth c H locs 0 0 (MQ below (amQ G none w1) args s 0 0 (gA G)) (F0 m 112 ls []) := by
      intro n
      induction n with
      | zero =>
        intro y23 w24 ab H locs ls z hF
        unfold p_X7_copyFrom_112 at hF
        cases hF
      | succ n ih =>
        intro y23 w24 ab H locs ls z hF hh hl kE
        unfold p_X7_copyFrom_112 at hF
        refine lv_iload_n hx hb dX7_copyFrom_112 rfl (lv_at hl 0 rfl) ?_
        refine lv_bipush (v := (100 : Int32)) hx hb dX7_copyFrom_113 (by decide) ?_
        refine lv_icmp_ge (tgt := 136) hx hb dX7_copyFrom_115 (by decide) (fun hc26 => ?_) (fun hc26 => ?_)
        · have hF := am_pos hc26 hF
          exact kE y23 w24 ab H locs ls (Option.some.inj hF).symm hh (lv_sub hl [0, 1, 2] rfl)
        · have hF := am_neg hc26 hF
          refine lv_aload_n hx hb dX7_copyFrom_118 rfl (lv_at hl 1 rfl) ?_
          refine am_getR X hh b0 9 8 (b0 + 9) (st_lt hb0 0 (by decide)) (dsc_st hb0 _ 0 (by decide)) rfl (by decide) hwRX7 (show Cond.fieldLink RX7 38 "PlanetWorkshop$State" "jointKinds" "[C" ∈ wsX7_copyFrom by decide +kernel) rfl dX7_copyFrom_119 ?_
          refine lv_iload_n hx hb dX7_copyFrom_122 rfl (lv_at hl 0 rfl) ?_
          refine lv_aload_n hx hb dX7_copyFrom_123 rfl (lv_at hl 2 rfl) ?_
          refine am_getR X hh b1 9 8 (b1 + 9) (st_lt hb1 0 (by decide)) (dsc_st hb1 _ 0 (by decide)) rfl (by decide) hwRX7 (show Cond.fieldLink RX7 38 "PlanetWorkshop$State" "jointKinds" "[C" ∈ wsX7_copyFrom by decide +kernel) rfl dX7_copyFrom_124 ?_
          refine lv_iload_n hx hb dX7_copyFrom_127 rfl (lv_at hl 0 rfl) ?_
          obtain ⟨hq27, hF⟩ := am_ifR hF
          refine am_cald X hh (b1 + 9) (st_lt hb1 9 (by decide)) (dsc_st hb1 _ 9 (by decide)) hq27 dX7_copyFrom_128 ?_
          obtain ⟨hq28, hF⟩ := am_ifR hF
          refine am_cast X hh (b0 + 9) (st_lt hb0 9 (by decide)) (dsc_st hb0 _ 9 (by decide)) hq28 dX7_copyFrom_129 (fun H locs hh => ?_)
          refine lv_iinc (v := (y23 + (1 : Int32))) (lv' := [(2, .int (y23 + (1 : Int32))), (0, .ref (adx (gAd G) ab b0)), (1, .ref (adx (gAd G) ab b1))]) hx hb dX7_copyFrom_130 hl (k := 0) rfl rfl (by decide) rfl (fun ls hl => ?_)
          refine lv_goto (tgt := 112) hx hb dX7_copyFrom_133 (by decide) ?_
          exact ih (y23 + (1 : Int32)) (uI w24 (b0 + 9) (y23).toNatClampNeg (vp_nar .char (gI w24 (b1 + 9) (y23).toNatClampNeg))) ab H locs ls _ hF hh (lv_sub hl [0, 1, 2] rfl) kE
    obtain ⟨z29, hz30, hF⟩ := am_bind hF
    refine hlp112 2000 (0 : Int32) w2 ab H locs ls z29 hz30 hh (lv_sub hl [0, 1, 2] rfl) (fun y23 w24 ab H locs ls hz hh hl => ?_)
    · subst hz
      have hF := am_u2 (am_zl hF)
      refine lv_iconst (v := (0 : Int32)) hx hb dX7_copyFrom_136 (by decide) ?_
      refine lv_istore_n (lv' := [(2, .int (0 : Int32)), (0, .ref (adx (gAd G) ab b0)), (1, .ref (adx (gAd G) ab b1))]) hx hb dX7_copyFrom_137 rfl hl (by decide) rfl (fun ls hl => ?_)
      have hlp138 : ∀ (n : Nat) (y31 : Int32) (w32 : Wd) (ab : Nat) (H : Heap) (locs : List Loc) (ls : Array Slot) (z : (Int32 × Wd) ⊕ Unit), p_X7_copyFrom_138 n y31 w32 = some z → AH G s.heap w32 ab H locs → lv_has ls 3 [(2, .int y31), (0, .ref (adx (gAd G) ab b0)), (1, .ref (adx (gAd G) ab b1))] → (∀ (y31 : Int32) (w32 : Wd) (ab : Nat) (H : Heap) (locs : List Loc) (ls : Array Slot), z = .inl (y31, w32) → AH G s.heap w32 ab H locs → lv_has ls 3 [(2, .int y31), (0, .ref (adx (gAd G) ab b0)), (1, .ref (adx (gAd G) ab b1))] → W p l e ({ frames := 0, cells := 0, slots := 0, locals := 0 } : Room) s m args below meth c H locs 0 0 (MQ below (amQ G none w1) args s 0 0 (gA G)) (F0 m 162 ls [])) → W p l e ({ frames := 0, cells := 0, slots := 0, locals := 0 } : Room) s m args below meth c H locs 0 0 (MQ below (amQ G none w1) args s 0 0 (gA G)) (F0 m 138 ls []) := by
        intro n
        induction n with
        | zero =>
          intro y31 w32 ab H locs ls z hF
          unfold p_X7_copyFrom_138 at hF
          cases hF
        | succ n ih =>
          intro y31 w32 ab H locs ls z hF hh hl kE
          unfold p_X7_copyFrom_138 at hF
          refine lv_iload_n hx hb dX7_copyFrom_138 rfl (lv_at hl 0 rfl) ?_
          refine lv_bipush (v := (6 : Int32)) hx hb dX7_copyFrom_139 (by decide) ?_
          refine lv_icmp_ge (tgt := 162) hx hb dX7_copyFrom_141 (by decide) (fun hc34 => ?_) (fun hc34 => ?_)
          · have hF := am_pos hc34 hF
            exact kE y31 w32 ab H locs ls (Option.some.inj hF).symm hh (lv_sub hl [0, 1, 2] rfl)
          · have hF := am_neg hc34 hF
            refine lv_aload_n hx hb dX7_copyFrom_144 rfl (lv_at hl 1 rfl) ?_
            refine am_getR X hh b0 9 9 (b0 + 10) (st_lt hb0 0 (by decide)) (dsc_st hb0 _ 0 (by decide)) rfl (by decide) hwRX7 (show Cond.fieldLink RX7 42 "PlanetWorkshop$State" "carriers" "[I" ∈ wsX7_copyFrom by decide +kernel) rfl dX7_copyFrom_145 ?_
            refine lv_iload_n hx hb dX7_copyFrom_148 rfl (lv_at hl 0 rfl) ?_
            refine lv_aload_n hx hb dX7_copyFrom_149 rfl (lv_at hl 2 rfl) ?_
            refine am_getR X hh b1 9 9 (b1 + 10) (st_lt hb1 0 (by decide)) (dsc_st hb1 _ 0 (by decide)) rfl (by decide) hwRX7 (show Cond.fieldLink RX7 42 "PlanetWorkshop$State" "carriers" "[I" ∈ wsX7_copyFrom by decide +kernel) rfl dX7_copyFrom_150 ?_
            refine lv_iload_n hx hb dX7_copyFrom_153 rfl (lv_at hl 0 rfl) ?_
            obtain ⟨hq35, hF⟩ := am_ifR hF
            refine am_iald X hh (b1 + 10) (st_lt hb1 10 (by decide)) (dsc_st hb1 _ 10 (by decide)) hq35 dX7_copyFrom_154 ?_
            obtain ⟨hq36, hF⟩ := am_ifR hF
            refine am_iast X hh (b0 + 10) (st_lt hb0 10 (by decide)) (dsc_st hb0 _ 10 (by decide)) hq36 dX7_copyFrom_155 (fun H locs hh => ?_)
            refine lv_iinc (v := (y31 + (1 : Int32))) (lv' := [(2, .int (y31 + (1 : Int32))), (0, .ref (adx (gAd G) ab b0)), (1, .ref (adx (gAd G) ab b1))]) hx hb dX7_copyFrom_156 hl (k := 0) rfl rfl (by decide) rfl (fun ls hl => ?_)
            refine lv_goto (tgt := 138) hx hb dX7_copyFrom_159 (by decide) ?_
            exact ih (y31 + (1 : Int32)) (uI w32 (b0 + 10) (y31).toNatClampNeg (gI w32 (b1 + 10) (y31).toNatClampNeg)) ab H locs ls _ hF hh (lv_sub hl [0, 1, 2] rfl) kE
      obtain ⟨z37, hz38, hF⟩ := am_bind hF
      refine hlp138 2000 (0 : Int32) w24 ab H locs ls z37 hz38 hh (lv_sub hl [0, 1, 2] rfl) (fun y31 w32 ab H locs ls hz hh hl => ?_)
      · subst hz
        have hF := am_u2 (am_zl hF)
        refine lv_aload_n hx hb dX7_copyFrom_162 rfl (lv_at hl 1 rfl) ?_
        refine lv_aload_n hx hb dX7_copyFrom_163 rfl (lv_at hl 2 rfl) ?_
        refine am_getI X hh b1 9 10 (st_lt hb1 0 (by decide)) (dsc_st hb1 _ 0 (by decide)) rfl (by decide) hwRX7 (show Cond.fieldLink RX7 45 "PlanetWorkshop$State" "gears" "I" ∈ wsX7_copyFrom by decide +kernel) rfl dX7_copyFrom_164 ?_
        refine am_putI X hh b0 9 10 (st_lt hb0 0 (by decide)) (dsc_st hb0 _ 0 (by decide)) rfl (by decide) hwRX7 tyX7 tyX7_ok nmX7 (show Cond.fieldLink RX7 45 "PlanetWorkshop$State" "gears" "I" ∈ wsX7_copyFrom by decide +kernel) rfl rfl rfl rfl dX7_copyFrom_167 (fun H locs hh => ?_)
        refine lv_aload_n hx hb dX7_copyFrom_170 rfl (lv_at hl 1 rfl) ?_
        refine lv_aload_n hx hb dX7_copyFrom_171 rfl (lv_at hl 2 rfl) ?_
        refine am_getI X hh b1 9 11 (st_lt hb1 0 (by decide)) (dsc_st hb1 _ 0 (by decide)) rfl (by decide) hwRX7 (show Cond.fieldLink RX7 49 "PlanetWorkshop$State" "joints" "I" ∈ wsX7_copyFrom by decide +kernel) rfl dX7_copyFrom_172 ?_
        refine am_putI X hh b0 9 11 (st_lt hb0 0 (by decide)) (dsc_st hb0 _ 0 (by decide)) rfl (by decide) hwRX7 tyX7 tyX7_ok nmX7 (show Cond.fieldLink RX7 49 "PlanetWorkshop$State" "joints" "I" ∈ wsX7_copyFrom by decide +kernel) rfl rfl rfl rfl dX7_copyFrom_175 (fun H locs hh => ?_)
        refine lv_aload_n hx hb dX7_copyFrom_178 rfl (lv_at hl 1 rfl) ?_
        refine lv_aload_n hx hb dX7_copyFrom_179 rfl (lv_at hl 2 rfl) ?_
        refine am_getI X hh b1 9 12 (st_lt hb1 0 (by decide)) (dsc_st hb1 _ 0 (by decide)) rfl (by decide) hwRX7 (show Cond.fieldLink RX7 52 "PlanetWorkshop$State" "planets" "I" ∈ wsX7_copyFrom by decide +kernel) rfl dX7_copyFrom_180 ?_
        refine am_putI X hh b0 9 12 (st_lt hb0 0 (by decide)) (dsc_st hb0 _ 0 (by decide)) rfl (by decide) hwRX7 tyX7 tyX7_ok nmX7 (show Cond.fieldLink RX7 52 "PlanetWorkshop$State" "planets" "I" ∈ wsX7_copyFrom by decide +kernel) rfl rfl rfl rfl dX7_copyFrom_183 (fun H locs hh => ?_)
        refine lv_aload_n hx hb dX7_copyFrom_186 rfl (lv_at hl 1 rfl) ?_
        refine lv_aload_n hx hb dX7_copyFrom_187 rfl (lv_at hl 2 rfl) ?_
        refine am_getI X hh b1 9 13 (st_lt hb1 0 (by decide)) (dsc_st hb1 _ 0 (by decide)) rfl (by decide) hwRX7 (show Cond.fieldLink RX7 55 "PlanetWorkshop$State" "drops" "I" ∈ wsX7_copyFrom by decide +kernel) rfl dX7_copyFrom_188 ?_
        refine am_putI X hh b0 9 13 (st_lt hb0 0 (by decide)) (dsc_st hb0 _ 0 (by decide)) rfl (by decide) hwRX7 tyX7 tyX7_ok nmX7 (show Cond.fieldLink RX7 55 "PlanetWorkshop$State" "drops" "I" ∈ wsX7_copyFrom by decide +kernel) rfl rfl rfl rfl dX7_copyFrom_191 (fun H locs hh => ?_)
        refine lv_aload_n hx hb dX7_copyFrom_194 rfl (lv_at hl 1 rfl) ?_
        refine lv_aload_n hx hb dX7_copyFrom_195 rfl (lv_at hl 2 rfl) ?_
        refine am_getI X hh b1 9 14 (st_lt hb1 0 (by decide)) (dsc_st hb1 _ 0 (by decide)) rfl (by decide) hwRX7 (show Cond.fieldLink RX7 58 "PlanetWorkshop$State" "wound" "I" ∈ wsX7_copyFrom by decide +kernel) rfl dX7_copyFrom_196 ?_
        refine am_putI X hh b0 9 14 (st_lt hb0 0 (by decide)) (dsc_st hb0 _ 0 (by decide)) rfl (by decide) hwRX7 tyX7 tyX7_ok nmX7 (show Cond.fieldLink RX7 58 "PlanetWorkshop$State" "wound" "I" ∈ wsX7_copyFrom by decide +kernel) rfl rfl rfl rfl dX7_copyFrom_199 (fun H locs hh => ?_)
        refine lv_aload_n hx hb dX7_copyFrom_202 rfl (lv_at hl 1 rfl) ?_
        refine lv_aload_n hx hb dX7_copyFrom_203 rfl (lv_at hl 2 rfl) ?_
        refine am_getI X hh b1 9 15 (st_lt hb1 0 (by decide)) (dsc_st hb1 _ 0 (by decide)) rfl (by decide) hwRX7 (show Cond.fieldLink RX7 61 "PlanetWorkshop$State" "taken" "I" ∈ wsX7_copyFrom by decide +kernel) rfl dX7_copyFrom_204 ?_
        refine am_putI X hh b0 9 15 (st_lt hb0 0 (by decide)) (dsc_st hb0 _ 0 (by decide)) rfl (by decide) hwRX7 tyX7 tyX7_ok nmX7 (show Cond.fieldLink RX7 61 "PlanetWorkshop$State" "taken" "I" ∈ wsX7_copyFrom by decide +kernel) rfl rfl rfl rfl dX7_copyFrom_207 (fun H locs hh => ?_)
        refine lv_aload_n hx hb dX7_copyFrom_210 rfl (lv_at hl 1 rfl) ?_
        refine lv_aload_n hx hb dX7_copyFrom_211 rfl (lv_at hl 2 rfl) ?_
        refine am_getI X hh b1 9 16 (st_lt hb1 0 (by decide)) (dsc_st hb1 _ 0 (by decide)) rfl (by decide) hwRX7 (show Cond.fieldLink RX7 64 "PlanetWorkshop$State" "releases" "I" ∈ wsX7_copyFrom by decide +kernel) rfl dX7_copyFrom_212 ?_
        refine am_putI X hh b0 9 16 (st_lt hb0 0 (by decide)) (dsc_st hb0 _ 0 (by decide)) rfl (by decide) hwRX7 tyX7 tyX7_ok nmX7 (show Cond.fieldLink RX7 64 "PlanetWorkshop$State" "releases" "I" ∈ wsX7_copyFrom by decide +kernel) rfl rfl rfl rfl dX7_copyFrom_215 (fun H locs hh => ?_)
        exact am_vret X hr hh (fun t ht => am_qv hF ht) (Nat.le_of_ble_eq_true rfl) (Nat.le_of_ble_eq_true rfl) dX7_copyFrom_218
def f_X7_isGear (w : Wd) (x1 : Int32) : Option Int32 := (if x1 < 0 then (some (0 : Int32)) else (if (gI w 1 10) ≤ x1 then (some (0 : Int32)) else (some (1 : Int32))))
set_option maxHeartbeats 4000000 in
set_option maxRecDepth 100000 in
theorem c_X7_isGear (l : Launch) (G : GG) {w : Wd} {x1 : Int32} {r0 : Int32} (hF : f_X7_isGear w x1 = some r0) : Met l yX7_isGear wsX7_isGear ({ frames := 0, cells := 0, slots := 0, locals := 0 } : Room) (va_Pc [.ref (gAd G 1), .int x1] (Rel G w)) (amQ G (oI r0) w) 0 0 (gA G) := by
  refine am_met (own := RX7) (cc := cX7_isGear) (maxL := 2) (ret := (some .boolean)) (by decide +kernel) rfl rfl (Nat.le_of_ble_eq_true rfl) ?_
  intro p e s m args below meth c ab ls X hr hh hl
  have hx := X.1.1; have hb := X.1.2.1; have hml := X.1.2.2.1; have hown := X.1.2.2.2.1; have hts := X.1.2.2.2.2
  have hl : lv_has ls 2 [(0, .ref (gAd G 1)), (1, .int x1)] := hl
  have hwRX7 : ∀ z ∈ u_ws RX7 TX7 17, z ∈ wsX7_isGear := by decide +kernel
  unfold f_X7_isGear at hF
  refine lv_iload_n hx hb dX7_isGear_0 rfl (lv_at hl 1 rfl) ?_
  refine lv_if_lt (tgt := 16) hx hb dX7_isGear_1 (by decide) (fun hc1 => ?_) (fun hc1 => ?_)
  · have hF := am_pos hc1 hF
    refine lv_iconst (v := (0 : Int32)) hx hb dX7_isGear_16 (by decide) ?_
    exact am_zret (v' := (0 : Int32)) X hr rfl hh (fun t ht => am_qp (mk := oI) hF ht) (Nat.le_of_ble_eq_true rfl) (Nat.le_of_ble_eq_true rfl) dX7_isGear_17
  · have hF := am_neg hc1 hF
    refine lv_iload_n hx hb dX7_isGear_4 rfl (lv_at hl 1 rfl) ?_
    refine lv_aload_n hx hb dX7_isGear_5 rfl (lv_at hl 0 rfl) ?_
    refine am_getI X hh 1 9 10 (by decide) rfl rfl (by decide) hwRX7 (show Cond.fieldLink RX7 45 "PlanetWorkshop$State" "gears" "I" ∈ wsX7_isGear by decide +kernel) rfl dX7_isGear_6 ?_
    refine lv_icmp_ge (tgt := 16) hx hb dX7_isGear_9 (by decide) (fun hc2 => ?_) (fun hc2 => ?_)
    · have hF := am_pos hc2 hF
      refine lv_iconst (v := (0 : Int32)) hx hb dX7_isGear_16 (by decide) ?_
      exact am_zret (v' := (0 : Int32)) X hr rfl hh (fun t ht => am_qp (mk := oI) hF ht) (Nat.le_of_ble_eq_true rfl) (Nat.le_of_ble_eq_true rfl) dX7_isGear_17
    · have hF := am_neg hc2 hF
      refine lv_iconst (v := (1 : Int32)) hx hb dX7_isGear_12 (by decide) ?_
      refine lv_goto (tgt := 17) hx hb dX7_isGear_13 (by decide) ?_
      exact am_zret (v' := (1 : Int32)) X hr rfl hh (fun t ht => am_qp (mk := oI) hF ht) (Nat.le_of_ble_eq_true rfl) (Nat.le_of_ble_eq_true rfl) dX7_isGear_17
def f_X7_isPlanet (w : Wd) (x1 : Int32) : Option Int32 := (if x1 < 0 then (some (0 : Int32)) else (if (gI w 1 12) ≤ x1 then (some (0 : Int32)) else (some (1 : Int32))))
set_option maxHeartbeats 4000000 in
set_option maxRecDepth 100000 in
theorem c_X7_isPlanet (l : Launch) (G : GG) {w : Wd} {x1 : Int32} {r0 : Int32} (hF : f_X7_isPlanet w x1 = some r0) : Met l yX7_isPlanet wsX7_isPlanet ({ frames := 0, cells := 0, slots := 0, locals := 0 } : Room) (va_Pc [.ref (gAd G 1), .int x1] (Rel G w)) (amQ G (oI r0) w) 0 0 (gA G) := by
  refine am_met (own := RX7) (cc := cX7_isPlanet) (maxL := 2) (ret := (some .boolean)) (by decide +kernel) rfl rfl (Nat.le_of_ble_eq_true rfl) ?_
  intro p e s m args below meth c ab ls X hr hh hl
  have hx := X.1.1; have hb := X.1.2.1; have hml := X.1.2.2.1; have hown := X.1.2.2.2.1; have hts := X.1.2.2.2.2
  have hl : lv_has ls 2 [(0, .ref (gAd G 1)), (1, .int x1)] := hl
  have hwRX7 : ∀ z ∈ u_ws RX7 TX7 17, z ∈ wsX7_isPlanet := by decide +kernel
  unfold f_X7_isPlanet at hF
  refine lv_iload_n hx hb dX7_isPlanet_0 rfl (lv_at hl 1 rfl) ?_
  refine lv_if_lt (tgt := 16) hx hb dX7_isPlanet_1 (by decide) (fun hc1 => ?_) (fun hc1 => ?_)
  · have hF := am_pos hc1 hF
    refine lv_iconst (v := (0 : Int32)) hx hb dX7_isPlanet_16 (by decide) ?_
    exact am_zret (v' := (0 : Int32)) X hr rfl hh (fun t ht => am_qp (mk := oI) hF ht) (Nat.le_of_ble_eq_true rfl) (Nat.le_of_ble_eq_true rfl) dX7_isPlanet_17
  · have hF := am_neg hc1 hF
    refine lv_iload_n hx hb dX7_isPlanet_4 rfl (lv_at hl 1 rfl) ?_
    refine lv_aload_n hx hb dX7_isPlanet_5 rfl (lv_at hl 0 rfl) ?_
    refine am_getI X hh 1 9 12 (by decide) rfl rfl (by decide) hwRX7 (show Cond.fieldLink RX7 52 "PlanetWorkshop$State" "planets" "I" ∈ wsX7_isPlanet by decide +kernel) rfl dX7_isPlanet_6 ?_
    refine lv_icmp_ge (tgt := 16) hx hb dX7_isPlanet_9 (by decide) (fun hc2 => ?_) (fun hc2 => ?_)
    · have hF := am_pos hc2 hF
      refine lv_iconst (v := (0 : Int32)) hx hb dX7_isPlanet_16 (by decide) ?_
      exact am_zret (v' := (0 : Int32)) X hr rfl hh (fun t ht => am_qp (mk := oI) hF ht) (Nat.le_of_ble_eq_true rfl) (Nat.le_of_ble_eq_true rfl) dX7_isPlanet_17
    · have hF := am_neg hc2 hF
      refine lv_iconst (v := (1 : Int32)) hx hb dX7_isPlanet_12 (by decide) ?_
      refine lv_goto (tgt := 17) hx hb dX7_isPlanet_13 (by decide) ?_
      exact am_zret (v' := (1 : Int32)) X hr rfl hh (fun t ht => am_qp (mk := oI) hF ht) (Nat.le_of_ble_eq_true rfl) (Nat.le_of_ble_eq_true rfl) dX7_isPlanet_17
def f_X7_hasSpring (w : Wd) (x1 : Int32) : Option Int32 := (if inR x1 10 then (if (gI w 7 (x1).toNatClampNeg) ≤ 0 then (some (0 : Int32)) else (some (1 : Int32))) else none)
set_option maxHeartbeats 4000000 in
set_option maxRecDepth 100000 in
theorem c_X7_hasSpring (l : Launch) (G : GG) {w : Wd} {x1 : Int32} {r0 : Int32} (hF : f_X7_hasSpring w x1 = some r0) : Met l yX7_hasSpring wsX7_hasSpring ({ frames := 0, cells := 0, slots := 0, locals := 0 } : Room) (va_Pc [.ref (gAd G 1), .int x1] (Rel G w)) (amQ G (oI r0) w) 0 0 (gA G) := by
  refine am_met (own := RX7) (cc := cX7_hasSpring) (maxL := 2) (ret := (some .boolean)) (by decide +kernel) rfl rfl (Nat.le_of_ble_eq_true rfl) ?_
  intro p e s m args below meth c ab ls X hr hh hl
  have hx := X.1.1; have hb := X.1.2.1; have hml := X.1.2.2.1; have hown := X.1.2.2.2.1; have hts := X.1.2.2.2.2
  have hl : lv_has ls 2 [(0, .ref (gAd G 1)), (1, .int x1)] := hl
  have hwRX7 : ∀ z ∈ u_ws RX7 TX7 17, z ∈ wsX7_hasSpring := by decide +kernel
  unfold f_X7_hasSpring at hF
  refine lv_aload_n hx hb dX7_hasSpring_0 rfl (lv_at hl 0 rfl) ?_
  refine am_getR X hh 1 9 5 7 (by decide) rfl rfl (by decide) hwRX7 (show Cond.fieldLink RX7 29 "PlanetWorkshop$State" "springSizes" "[I" ∈ wsX7_hasSpring by decide +kernel) rfl dX7_hasSpring_1 ?_
  refine lv_iload_n hx hb dX7_hasSpring_4 rfl (lv_at hl 1 rfl) ?_
  obtain ⟨hq1, hF⟩ := am_ifR hF
  refine am_iald X hh 7 (by decide) rfl hq1 dX7_hasSpring_5 ?_
  refine lv_if_le (tgt := 13) hx hb dX7_hasSpring_6 (by decide) (fun hc2 => ?_) (fun hc2 => ?_)
  · have hF := am_pos hc2 hF
    refine lv_iconst (v := (0 : Int32)) hx hb dX7_hasSpring_13 (by decide) ?_
    exact am_zret (v' := (0 : Int32)) X hr rfl hh (fun t ht => am_qp (mk := oI) hF ht) (Nat.le_of_ble_eq_true rfl) (Nat.le_of_ble_eq_true rfl) dX7_hasSpring_14
  · have hF := am_neg hc2 hF
    refine lv_iconst (v := (1 : Int32)) hx hb dX7_hasSpring_9 (by decide) ?_
    refine lv_goto (tgt := 14) hx hb dX7_hasSpring_10 (by decide) ?_
    exact am_zret (v' := (1 : Int32)) X hr rfl hh (fun t ht => am_qp (mk := oI) hF ht) (Nat.le_of_ble_eq_true rfl) (Nat.le_of_ble_eq_true rfl) dX7_hasSpring_14
def f_X7_jointOf (w : Wd) (x1 : Int32) (x2 : Int32) : Option Int32 := (if inR ((x1 * (10 : Int32)) + x2) 100 then (some (vp_nar .char (gI w 10 (((x1 * (10 : Int32)) + x2)).toNatClampNeg))) else none)
set_option maxHeartbeats 4000000 in
set_option maxRecDepth 100000 in
theorem c_X7_jointOf (l : Launch) (G : GG) {w : Wd} {x1 : Int32} {x2 : Int32} {r0 : Int32} (hF : f_X7_jointOf w x1 x2 = some r0) : Met l yX7_jointOf wsX7_jointOf ({ frames := 0, cells := 0, slots := 0, locals := 0 } : Room) (va_Pc [.ref (gAd G 1), .int x1, .int x2] (Rel G w)) (amQ G (oI r0) w) 0 0 (gA G) := by
  refine am_met (own := RX7) (cc := cX7_jointOf) (maxL := 3) (ret := (some .char)) (by decide +kernel) rfl rfl (Nat.le_of_ble_eq_true rfl) ?_
  intro p e s m args below meth c ab ls X hr hh hl
  have hx := X.1.1; have hb := X.1.2.1; have hml := X.1.2.2.1; have hown := X.1.2.2.2.1; have hts := X.1.2.2.2.2
  have hl : lv_has ls 3 [(0, .ref (gAd G 1)), (1, .int x1), (2, .int x2)] := hl
  have hwRX7 : ∀ z ∈ u_ws RX7 TX7 17, z ∈ wsX7_jointOf := by decide +kernel
  unfold f_X7_jointOf at hF
  refine lv_aload_n hx hb dX7_jointOf_0 rfl (lv_at hl 0 rfl) ?_
  refine am_getR X hh 1 9 8 10 (by decide) rfl rfl (by decide) hwRX7 (show Cond.fieldLink RX7 38 "PlanetWorkshop$State" "jointKinds" "[C" ∈ wsX7_jointOf by decide +kernel) rfl dX7_jointOf_1 ?_
  refine lv_iload_n hx hb dX7_jointOf_4 rfl (lv_at hl 1 rfl) ?_
  refine lv_bipush (v := (10 : Int32)) hx hb dX7_jointOf_5 (by decide) ?_
  refine lv_imul hx hb dX7_jointOf_7 ?_
  refine lv_iload_n hx hb dX7_jointOf_8 rfl (lv_at hl 2 rfl) ?_
  refine lv_iadd hx hb dX7_jointOf_9 ?_
  obtain ⟨hq1, hF⟩ := am_ifR hF
  refine am_cald X hh 10 (by decide) rfl hq1 dX7_jointOf_10 ?_
  exact am_zret (v' := (vp_nar .char (gI w 10 (((x1 * (10 : Int32)) + x2)).toNatClampNeg))) X hr (nar_c _) hh (fun t ht => am_qp (mk := oI) hF ht) (Nat.le_of_ble_eq_true rfl) (Nat.le_of_ble_eq_true rfl) dX7_jointOf_11
def f_X7_putJoint (w : Wd) (x1 : Int32) (x2 : Int32) (x3 : Int32) : Option Wd := (if inR ((x1 * (10 : Int32)) + x2) 100 then (if inR ((x2 * (10 : Int32)) + x1) 100 then (some (uI (uI w 10 (((x1 * (10 : Int32)) + x2)).toNatClampNeg (vp_nar .char x3)) 10 (((x2 * (10 : Int32)) + x1)).toNatClampNeg (vp_nar .char x3))) else none) else none)
set_option maxHeartbeats 4000000 in
set_option maxRecDepth 100000 in
theorem c_X7_putJoint (l : Launch) (G : GG) {w : Wd} {x1 : Int32} {x2 : Int32} {x3 : Int32} {w1 : Wd} (hF : f_X7_putJoint w x1 x2 x3 = some w1) : Met l yX7_putJoint wsX7_putJoint ({ frames := 0, cells := 0, slots := 0, locals := 0 } : Room) (va_Pc [.ref (gAd G 1), .int x1, .int x2, .int x3] (Rel G w)) (amQ G none w1) 0 0 (gA G) := by
  refine am_met (own := RX7) (cc := cX7_putJoint) (maxL := 4) (ret := none) (by decide +kernel) rfl rfl (Nat.le_of_ble_eq_true rfl) ?_
  intro p e s m args below meth c ab ls X hr hh hl
  have hx := X.1.1; have hb := X.1.2.1; have hml := X.1.2.2.1; have hown := X.1.2.2.2.1; have hts := X.1.2.2.2.2
  have hl : lv_has ls 4 [(0, .ref (gAd G 1)), (1, .int x1), (2, .int x2), (3, .int x3)] := hl
  have hwRX7 : ∀ z ∈ u_ws RX7 TX7 17, z ∈ wsX7_putJoint := by decide +kernel
  unfold f_X7_putJoint at hF
  refine lv_aload_n hx hb dX7_putJoint_0 rfl (lv_at hl 0 rfl) ?_
  refine am_getR X hh 1 9 8 10 (by decide) rfl rfl (by decide) hwRX7 (show Cond.fieldLink RX7 38 "PlanetWorkshop$State" "jointKinds" "[C" ∈ wsX7_putJoint by decide +kernel) rfl dX7_putJoint_1 ?_
  refine lv_iload_n hx hb dX7_putJoint_4 rfl (lv_at hl 1 rfl) ?_
  refine lv_bipush (v := (10 : Int32)) hx hb dX7_putJoint_5 (by decide) ?_
  refine lv_imul hx hb dX7_putJoint_7 ?_
  refine lv_iload_n hx hb dX7_putJoint_8 rfl (lv_at hl 2 rfl) ?_
  refine lv_iadd hx hb dX7_putJoint_9 ?_
  refine lv_iload_n hx hb dX7_putJoint_10 rfl (lv_at hl 3 rfl) ?_
  obtain ⟨hq1, hF⟩ := am_ifR hF
  refine am_cast X hh 10 (by decide) rfl hq1 dX7_putJoint_11 (fun H locs hh => ?_)
  refine lv_aload_n hx hb dX7_putJoint_12 rfl (lv_at hl 0 rfl) ?_
  refine am_getR X hh 1 9 8 10 (by decide) rfl rfl (by decide) hwRX7 (show Cond.fieldLink RX7 38 "PlanetWorkshop$State" "jointKinds" "[C" ∈ wsX7_putJoint by decide +kernel) rfl dX7_putJoint_13 ?_
  refine lv_iload_n hx hb dX7_putJoint_16 rfl (lv_at hl 2 rfl) ?_
  refine lv_bipush (v := (10 : Int32)) hx hb dX7_putJoint_17 (by decide) ?_
  refine lv_imul hx hb dX7_putJoint_19 ?_
  refine lv_iload_n hx hb dX7_putJoint_20 rfl (lv_at hl 1 rfl) ?_
  refine lv_iadd hx hb dX7_putJoint_21 ?_
  refine lv_iload_n hx hb dX7_putJoint_22 rfl (lv_at hl 3 rfl) ?_
  obtain ⟨hq2, hF⟩ := am_ifR hF
  refine am_cast X hh 10 (by decide) rfl hq2 dX7_putJoint_23 (fun H locs hh => ?_)
  exact am_vret X hr hh (fun t ht => am_qv hF ht) (Nat.le_of_ble_eq_true rfl) (Nat.le_of_ble_eq_true rfl) dX7_putJoint_24
def p_X7_carriesPlanet_2 (w : Wd) (x1 : Int32) : Nat → Int32 → Option ((Int32) ⊕ Int32)
  | 0, _ => none
  | n + 1, y1 => (if (gI w 1 12) ≤ y1 then (some (.inl y1)) else (if inR y1 6 then (if (gI w 11 (y1).toNatClampNeg) = x1 then (some (.inr (1 : Int32))) else (p_X7_carriesPlanet_2 w x1 n (y1 + (1 : Int32)))) else none))
def f_X7_carriesPlanet (w : Wd) (x1 : Int32) : Option Int32 := ((p_X7_carriesPlanet_2 w x1 2000 (0 : Int32)).bind fun z => zc z (fun y1 => (some (0 : Int32))) (fun r => (some r)))
set_option maxHeartbeats 4000000 in
set_option maxRecDepth 100000 in
theorem c_X7_carriesPlanet (l : Launch) (G : GG) {w : Wd} {x1 : Int32} {r0 : Int32} (hF : f_X7_carriesPlanet w x1 = some r0) : Met l yX7_carriesPlanet wsX7_carriesPlanet ({ frames := 0, cells := 0, slots := 0, locals := 0 } : Room) (va_Pc [.ref (gAd G 1), .int x1] (Rel G w)) (amQ G (oI r0) w) 0 0 (gA G) := by
  refine am_met (own := RX7) (cc := cX7_carriesPlanet) (maxL := 3) (ret := (some .boolean)) (by decide +kernel) rfl rfl (Nat.le_of_ble_eq_true rfl) ?_
  intro p e s m args below meth c ab ls X hr hh hl
  have hx := X.1.1; have hb := X.1.2.1; have hml := X.1.2.2.1; have hown := X.1.2.2.2.1; have hts := X.1.2.2.2.2
  have hl : lv_has ls 3 [(0, .ref (gAd G 1)), (1, .int x1)] := hl
  have hwRX7 : ∀ z ∈ u_ws RX7 TX7 17, z ∈ wsX7_carriesPlanet := by decide +kernel
  unfold f_X7_carriesPlanet at hF
  refine lv_iconst (v := (0 : Int32)) hx hb dX7_carriesPlanet_0 (by decide) ?_
  refine lv_istore_n (lv' := [(2, .int (0 : Int32)), (0, .ref (gAd G 1)), (1, .int x1)]) hx hb dX7_carriesPlanet_1 rfl hl (by decide) rfl (fun ls hl => ?_)
  have hlp2 : ∀ (n : Nat) (y1 : Int32) (ab : Nat) (H : Heap) (locs : List Loc) (ls : Array Slot) (z : (Int32) ⊕ Int32), p_X7_carriesPlanet_2 w x1 n y1 = some z → AH G s.heap w ab H locs → lv_has ls 3 [(2, .int y1), (0, .ref (gAd G 1)), (1, .int x1)] → (∀ (y1 : Int32) (ab : Nat) (H : Heap) (locs : List Loc) (ls : Array Slot), z = .inl y1 → AH G s.heap w ab H locs → lv_has ls 3 [(2, .int y1), (0, .ref (gAd G 1)), (1, .int x1)] → W p l e ({ frames := 0, cells := 0, slots := 0, locals := 0 } : Room) s m args below meth c H locs 0 0 (MQ below (amQ G (oI r0) w) args s 0 0 (gA G)) (F0 m 28 ls [])) → (∀ r, z = .inr r → some r = some r0) → W p l e ({ frames := 0, cells := 0, slots := 0, locals := 0 } : Room) s m args below meth c H locs 0 0 (MQ below (amQ G (oI r0) w) args s 0 0 (gA G)) (F0 m 2 ls []) := by
    intro n
    induction n with
    | zero =>
      intro y1 ab H locs ls z hF
      unfold p_X7_carriesPlanet_2 at hF
      cases hF
    | succ n ih =>
      intro y1 ab H locs ls z hF hh hl kE kR
      unfold p_X7_carriesPlanet_2 at hF
      refine lv_iload_n hx hb dX7_carriesPlanet_2 rfl (lv_at hl 0 rfl) ?_
      refine lv_aload_n hx hb dX7_carriesPlanet_3 rfl (lv_at hl 1 rfl) ?_
      refine am_getI X hh 1 9 12 (by decide) rfl rfl (by decide) hwRX7 (show Cond.fieldLink RX7 52 "PlanetWorkshop$State" "planets" "I" ∈ wsX7_carriesPlanet by decide +kernel) rfl dX7_carriesPlanet_4 ?_
      refine lv_icmp_ge (tgt := 28) hx hb dX7_carriesPlanet_7 (by decide) (fun hc3 => ?_) (fun hc3 => ?_)
      · have hF := am_pos hc3 hF
        exact kE y1 ab H locs ls (Option.some.inj hF).symm hh (lv_sub hl [0, 1, 2] rfl)
      · have hF := am_neg hc3 hF
        refine lv_aload_n hx hb dX7_carriesPlanet_10 rfl (lv_at hl 1 rfl) ?_
        refine am_getR X hh 1 9 9 11 (by decide) rfl rfl (by decide) hwRX7 (show Cond.fieldLink RX7 42 "PlanetWorkshop$State" "carriers" "[I" ∈ wsX7_carriesPlanet by decide +kernel) rfl dX7_carriesPlanet_11 ?_
        refine lv_iload_n hx hb dX7_carriesPlanet_14 rfl (lv_at hl 0 rfl) ?_
        obtain ⟨hq4, hF⟩ := am_ifR hF
        refine am_iald X hh 11 (by decide) rfl hq4 dX7_carriesPlanet_15 ?_
        refine lv_iload_n hx hb dX7_carriesPlanet_16 rfl (lv_at hl 2 rfl) ?_
        refine lv_icmp_ne (tgt := 22) hx hb dX7_carriesPlanet_17 (by decide) (fun hc5 => ?_) (fun hc5 => ?_)
        · have hF := am_neg hc5 hF
          refine lv_iinc (v := (y1 + (1 : Int32))) (lv' := [(2, .int (y1 + (1 : Int32))), (0, .ref (gAd G 1)), (1, .int x1)]) hx hb dX7_carriesPlanet_22 hl (k := 0) rfl rfl (by decide) rfl (fun ls hl => ?_)
          refine lv_goto (tgt := 2) hx hb dX7_carriesPlanet_25 (by decide) ?_
          exact ih (y1 + (1 : Int32)) ab H locs ls _ hF hh (lv_sub hl [0, 1, 2] rfl) kE kR
        · have hF := am_pos hc5 hF
          refine lv_iconst (v := (1 : Int32)) hx hb dX7_carriesPlanet_20 (by decide) ?_
          have hF := kR _ (Option.some.inj hF).symm
          exact am_zret (v' := (1 : Int32)) X hr rfl hh (fun t ht => am_qp (mk := oI) hF ht) (Nat.le_of_ble_eq_true rfl) (Nat.le_of_ble_eq_true rfl) dX7_carriesPlanet_21
  obtain ⟨z6, hz7, hF⟩ := am_bind hF
  refine hlp2 2000 (0 : Int32) ab H locs ls z6 hz7 hh (lv_sub hl [0, 1, 2] rfl) (fun y1 ab H locs ls hz hh hl => ?_) (fun r hz => ?_)
  · subst hz
    have hF := am_zl hF
    refine lv_iconst (v := (0 : Int32)) hx hb dX7_carriesPlanet_28 (by decide) ?_
    exact am_zret (v' := (0 : Int32)) X hr rfl hh (fun t ht => am_qp (mk := oI) hF ht) (Nat.le_of_ble_eq_true rfl) (Nat.le_of_ble_eq_true rfl) dX7_carriesPlanet_29
  · subst hz
    have hF := am_zr hF
    exact hF
def p_X7_rankByAngle_18 (w : Wd) (c5 : Int64) (x1 : Int32) : Nat → Int32 → Int32 → Option ((Int32 × Int32) ⊕ Unit)
  | 0, _, _ => none
  | n + 1, y3, y4 => (if (gI w 1 12) ≤ y4 then (some (.inl (y3, y4))) else (if inR y4 6 then (if inR (gI w 11 (y4).toNatClampNeg) 10 then (if (gL w 3 ((gI w 11 (y4).toNatClampNeg)).toNatClampNeg) < c5 then (p_X7_rankByAngle_18 w c5 x1 n (y3 + (1 : Int32)) (y4 + (1 : Int32))) else (if (gL w 3 ((gI w 11 (y4).toNatClampNeg)).toNatClampNeg) = c5 then (if x1 ≤ y4 then (p_X7_rankByAngle_18 w c5 x1 n y3 (y4 + (1 : Int32))) else (p_X7_rankByAngle_18 w c5 x1 n (y3 + (1 : Int32)) (y4 + (1 : Int32)))) else (p_X7_rankByAngle_18 w c5 x1 n y3 (y4 + (1 : Int32))))) else none) else none))
def f_X7_rankByAngle (w : Wd) (x1 : Int32) : Option Int32 := (if inR x1 6 then (if inR (gI w 11 (x1).toNatClampNeg) 10 then ((p_X7_rankByAngle_18 w (gL w 3 ((gI w 11 (x1).toNatClampNeg)).toNatClampNeg) x1 2000 (0 : Int32) (0 : Int32)).bind fun z => zc z (fun q => u2 q fun y3 y4 => (some y3)) (fun _ => none)) else none) else none)
set_option maxHeartbeats 4000000 in
set_option maxRecDepth 100000 in
theorem c_X7_rankByAngle (l : Launch) (G : GG) {w : Wd} {x1 : Int32} {r0 : Int32} (hF : f_X7_rankByAngle w x1 = some r0) : Met l yX7_rankByAngle wsX7_rankByAngle ({ frames := 0, cells := 0, slots := 0, locals := 0 } : Room) (va_Pc [.ref (gAd G 1), .int x1] (Rel G w)) (amQ G (oI r0) w) 0 0 (gA G) := by
  refine am_met (own := RX7) (cc := cX7_rankByAngle) (maxL := 8) (ret := (some .int)) (by decide +kernel) rfl rfl (Nat.le_of_ble_eq_true rfl) ?_
  intro p e s m args below meth c ab ls X hr hh hl
  have hx := X.1.1; have hb := X.1.2.1; have hml := X.1.2.2.1; have hown := X.1.2.2.2.1; have hts := X.1.2.2.2.2
  have hl : lv_has ls 8 [(0, .ref (gAd G 1)), (1, .int x1)] := hl
  have hwRX7 : ∀ z ∈ u_ws RX7 TX7 17, z ∈ wsX7_rankByAngle := by decide +kernel
  unfold f_X7_rankByAngle at hF
  refine lv_aload_n hx hb dX7_rankByAngle_0 rfl (lv_at hl 0 rfl) ?_
  refine am_getR X hh 1 9 1 3 (by decide) rfl rfl (by decide) hwRX7 (show Cond.fieldLink RX7 15 "PlanetWorkshop$State" "angles" "[J" ∈ wsX7_rankByAngle by decide +kernel) rfl dX7_rankByAngle_1 ?_
  refine lv_aload_n hx hb dX7_rankByAngle_4 rfl (lv_at hl 0 rfl) ?_
  refine am_getR X hh 1 9 9 11 (by decide) rfl rfl (by decide) hwRX7 (show Cond.fieldLink RX7 42 "PlanetWorkshop$State" "carriers" "[I" ∈ wsX7_rankByAngle by decide +kernel) rfl dX7_rankByAngle_5 ?_
  refine lv_iload_n hx hb dX7_rankByAngle_8 rfl (lv_at hl 1 rfl) ?_
  obtain ⟨hq1, hF⟩ := am_ifR hF
  refine am_iald X hh 11 (by decide) rfl hq1 dX7_rankByAngle_9 ?_
  obtain ⟨hq2, hF⟩ := am_ifR hF
  refine am_lald X hh 3 (by decide) rfl hq2 dX7_rankByAngle_10 ?_
  refine lv_lstore_n (lv' := [(2, .long (gL w 3 ((gI w 11 (x1).toNatClampNeg)).toNatClampNeg)), (0, .ref (gAd G 1)), (1, .int x1)]) hx hb dX7_rankByAngle_11 rfl hl (by decide) rfl (fun ls hl => ?_)
  refine lv_iconst (v := (0 : Int32)) hx hb dX7_rankByAngle_12 (by decide) ?_
  refine lv_istore (lv' := [(4, .int (0 : Int32)), (2, .long (gL w 3 ((gI w 11 (x1).toNatClampNeg)).toNatClampNeg)), (0, .ref (gAd G 1)), (1, .int x1)]) hx hb dX7_rankByAngle_13 hl (by decide) rfl (fun ls hl => ?_)
  refine lv_iconst (v := (0 : Int32)) hx hb dX7_rankByAngle_15 (by decide) ?_
  refine lv_istore (lv' := [(5, .int (0 : Int32)), (4, .int (0 : Int32)), (2, .long (gL w 3 ((gI w 11 (x1).toNatClampNeg)).toNatClampNeg)), (0, .ref (gAd G 1)), (1, .int x1)]) hx hb dX7_rankByAngle_16 hl (by decide) rfl (fun ls hl => ?_)
  have hlp18 : ∀ (c5 : Int64) (n : Nat) (y3 : Int32) (y4 : Int32) (ab : Nat) (H : Heap) (locs : List Loc) (ls : Array Slot) (z : (Int32 × Int32) ⊕ Unit), p_X7_rankByAngle_18 w c5 x1 n y3 y4 = some z → AH G s.heap w ab H locs → lv_has ls 8 [(4, .int y3), (5, .int y4), (2, .long c5), (0, .ref (gAd G 1)), (1, .int x1)] → (∀ (y3 : Int32) (y4 : Int32) (ab : Nat) (H : Heap) (locs : List Loc) (ls : Array Slot), z = .inl (y3, y4) → AH G s.heap w ab H locs → lv_has ls 8 [(4, .int y3), (5, .int y4), (2, .long c5), (0, .ref (gAd G 1)), (1, .int x1)] → W p l e ({ frames := 0, cells := 0, slots := 0, locals := 0 } : Room) s m args below meth c H locs 0 0 (MQ below (amQ G (oI r0) w) args s 0 0 (gA G)) (F0 m 70 ls [])) → W p l e ({ frames := 0, cells := 0, slots := 0, locals := 0 } : Room) s m args below meth c H locs 0 0 (MQ below (amQ G (oI r0) w) args s 0 0 (gA G)) (F0 m 18 ls []) := by
    intro c5 n
    induction n with
    | zero =>
      intro y3 y4 ab H locs ls z hF
      unfold p_X7_rankByAngle_18 at hF
      cases hF
    | succ n ih =>
      intro y3 y4 ab H locs ls z hF hh hl kE
      unfold p_X7_rankByAngle_18 at hF
      refine lv_iload hx hb dX7_rankByAngle_18 (lv_at hl 1 rfl) ?_
      refine lv_aload_n hx hb dX7_rankByAngle_20 rfl (lv_at hl 3 rfl) ?_
      refine am_getI X hh 1 9 12 (by decide) rfl rfl (by decide) hwRX7 (show Cond.fieldLink RX7 52 "PlanetWorkshop$State" "planets" "I" ∈ wsX7_rankByAngle by decide +kernel) rfl dX7_rankByAngle_21 ?_
      refine lv_icmp_ge (tgt := 70) hx hb dX7_rankByAngle_24 (by decide) (fun hc7 => ?_) (fun hc7 => ?_)
      · have hF := am_pos hc7 hF
        exact kE y3 y4 ab H locs ls (Option.some.inj hF).symm hh (lv_sub hl [0, 1, 2, 3, 4] rfl)
      · have hF := am_neg hc7 hF
        refine lv_aload_n hx hb dX7_rankByAngle_27 rfl (lv_at hl 3 rfl) ?_
        refine am_getR X hh 1 9 1 3 (by decide) rfl rfl (by decide) hwRX7 (show Cond.fieldLink RX7 15 "PlanetWorkshop$State" "angles" "[J" ∈ wsX7_rankByAngle by decide +kernel) rfl dX7_rankByAngle_28 ?_
        refine lv_aload_n hx hb dX7_rankByAngle_31 rfl (lv_at hl 3 rfl) ?_
        refine am_getR X hh 1 9 9 11 (by decide) rfl rfl (by decide) hwRX7 (show Cond.fieldLink RX7 42 "PlanetWorkshop$State" "carriers" "[I" ∈ wsX7_rankByAngle by decide +kernel) rfl dX7_rankByAngle_32 ?_
        refine lv_iload hx hb dX7_rankByAngle_35 (lv_at hl 1 rfl) ?_
        obtain ⟨hq8, hF⟩ := am_ifR hF
        refine am_iald X hh 11 (by decide) rfl hq8 dX7_rankByAngle_37 ?_
        obtain ⟨hq9, hF⟩ := am_ifR hF
        refine am_lald X hh 3 (by decide) rfl hq9 dX7_rankByAngle_38 ?_
        refine lv_lstore (lv' := [(6, .long (gL w 3 ((gI w 11 (y4).toNatClampNeg)).toNatClampNeg)), (4, .int y3), (5, .int y4), (2, .long c5), (0, .ref (gAd G 1)), (1, .int x1)]) hx hb dX7_rankByAngle_39 hl (by decide) rfl (fun ls hl => ?_)
        refine lv_lload hx hb dX7_rankByAngle_41 (lv_at hl 0 rfl) ?_
        refine lv_lload_n hx hb dX7_rankByAngle_43 rfl (lv_at hl 3 rfl) ?_
        refine am_lcmp_lt (tgt := 61) hx hb dX7_rankByAngle_44 dX7_rankByAngle_45 (by decide) (fun hc10 => ?_) (fun hc10 => ?_)
        · have hF := am_pos hc10 hF
          refine lv_iinc (v := (y3 + (1 : Int32))) (lv' := [(4, .int (y3 + (1 : Int32))), (6, .long (gL w 3 ((gI w 11 (y4).toNatClampNeg)).toNatClampNeg)), (5, .int y4), (2, .long c5), (0, .ref (gAd G 1)), (1, .int x1)]) hx hb dX7_rankByAngle_61 hl (k := 1) rfl rfl (by decide) rfl (fun ls hl => ?_)
          refine lv_iinc (v := (y4 + (1 : Int32))) (lv' := [(5, .int (y4 + (1 : Int32))), (4, .int (y3 + (1 : Int32))), (6, .long (gL w 3 ((gI w 11 (y4).toNatClampNeg)).toNatClampNeg)), (2, .long c5), (0, .ref (gAd G 1)), (1, .int x1)]) hx hb dX7_rankByAngle_64 hl (k := 2) rfl rfl (by decide) rfl (fun ls hl => ?_)
          refine lv_goto (tgt := 18) hx hb dX7_rankByAngle_67 (by decide) ?_
          exact ih (y3 + (1 : Int32)) (y4 + (1 : Int32)) ab H locs ls _ hF hh (lv_sub hl [1, 0, 3, 4, 5] rfl) kE
        · have hF := am_neg hc10 hF
          refine lv_lload hx hb dX7_rankByAngle_48 (lv_at hl 0 rfl) ?_
          refine lv_lload_n hx hb dX7_rankByAngle_50 rfl (lv_at hl 3 rfl) ?_
          refine am_lcmp_ne (tgt := 64) hx hb dX7_rankByAngle_51 dX7_rankByAngle_52 (by decide) (fun hc11 => ?_) (fun hc11 => ?_)
          · have hF := am_neg hc11 hF
            refine lv_iinc (v := (y4 + (1 : Int32))) (lv' := [(5, .int (y4 + (1 : Int32))), (6, .long (gL w 3 ((gI w 11 (y4).toNatClampNeg)).toNatClampNeg)), (4, .int y3), (2, .long c5), (0, .ref (gAd G 1)), (1, .int x1)]) hx hb dX7_rankByAngle_64 hl (k := 2) rfl rfl (by decide) rfl (fun ls hl => ?_)
            refine lv_goto (tgt := 18) hx hb dX7_rankByAngle_67 (by decide) ?_
            exact ih y3 (y4 + (1 : Int32)) ab H locs ls _ hF hh (lv_sub hl [2, 0, 3, 4, 5] rfl) kE
          · have hF := am_pos hc11 hF
            refine lv_iload hx hb dX7_rankByAngle_55 (lv_at hl 2 rfl) ?_
            refine lv_iload_n hx hb dX7_rankByAngle_57 rfl (lv_at hl 5 rfl) ?_
            refine lv_icmp_ge (tgt := 64) hx hb dX7_rankByAngle_58 (by decide) (fun hc12 => ?_) (fun hc12 => ?_)
            · have hF := am_pos hc12 hF
              refine lv_iinc (v := (y4 + (1 : Int32))) (lv' := [(5, .int (y4 + (1 : Int32))), (6, .long (gL w 3 ((gI w 11 (y4).toNatClampNeg)).toNatClampNeg)), (4, .int y3), (2, .long c5), (0, .ref (gAd G 1)), (1, .int x1)]) hx hb dX7_rankByAngle_64 hl (k := 2) rfl rfl (by decide) rfl (fun ls hl => ?_)
              refine lv_goto (tgt := 18) hx hb dX7_rankByAngle_67 (by decide) ?_
              exact ih y3 (y4 + (1 : Int32)) ab H locs ls _ hF hh (lv_sub hl [2, 0, 3, 4, 5] rfl) kE
            · have hF := am_neg hc12 hF
              refine lv_iinc (v := (y3 + (1 : Int32))) (lv' := [(4, .int (y3 + (1 : Int32))), (6, .long (gL w 3 ((gI w 11 (y4).toNatClampNeg)).toNatClampNeg)), (5, .int y4), (2, .long c5), (0, .ref (gAd G 1)), (1, .int x1)]) hx hb dX7_rankByAngle_61 hl (k := 1) rfl rfl (by decide) rfl (fun ls hl => ?_)
              refine lv_iinc (v := (y4 + (1 : Int32))) (lv' := [(5, .int (y4 + (1 : Int32))), (4, .int (y3 + (1 : Int32))), (6, .long (gL w 3 ((gI w 11 (y4).toNatClampNeg)).toNatClampNeg)), (2, .long c5), (0, .ref (gAd G 1)), (1, .int x1)]) hx hb dX7_rankByAngle_64 hl (k := 2) rfl rfl (by decide) rfl (fun ls hl => ?_)
              refine lv_goto (tgt := 18) hx hb dX7_rankByAngle_67 (by decide) ?_
              exact ih (y3 + (1 : Int32)) (y4 + (1 : Int32)) ab H locs ls _ hF hh (lv_sub hl [1, 0, 3, 4, 5] rfl) kE
  obtain ⟨z13, hz14, hF⟩ := am_bind hF
  refine hlp18 (gL w 3 ((gI w 11 (x1).toNatClampNeg)).toNatClampNeg) 2000 (0 : Int32) (0 : Int32) ab H locs ls z13 hz14 hh (lv_sub hl [1, 0, 2, 3, 4] rfl) (fun y3 y4 ab H locs ls hz hh hl => ?_)
  · subst hz
    have hF := am_u2 (am_zl hF)
    refine lv_iload hx hb dX7_rankByAngle_70 (lv_at hl 0 rfl) ?_
    exact am_iret X hr hh (fun t ht => am_qp (mk := oI) hF ht) (Nat.le_of_ble_eq_true rfl) (Nat.le_of_ble_eq_true rfl) dX7_rankByAngle_72
def p_X7_springs_4 (w : Wd) : Nat → Int32 → Int32 → Option ((Int32 × Int32) ⊕ Unit)
  | 0, _, _ => none
  | n + 1, y1, y2 => (if (gI w 1 10) ≤ y2 then (some (.inl (y1, y2))) else ((f_X7_hasSpring w y2).bind fun r6 => (if r6 = 0 then (p_X7_springs_4 w n y1 (y2 + (1 : Int32))) else (p_X7_springs_4 w n (y1 + (1 : Int32)) (y2 + (1 : Int32))))))
def f_X7_springs (w : Wd) : Option Int32 := ((p_X7_springs_4 w 2000 (0 : Int32) (0 : Int32)).bind fun z => zc z (fun q => u2 q fun y1 y2 => (some y1)) (fun _ => none))
set_option maxHeartbeats 4000000 in
set_option maxRecDepth 100000 in
theorem c_X7_springs (l : Launch) (G : GG) {w : Wd} {r0 : Int32} (hF : f_X7_springs w = some r0) : Met l yX7_springs wsX7_springs ({ frames := 1, cells := 0, slots := 0, locals := 21 } : Room) (va_Pc [.ref (gAd G 1)] (Rel G w)) (amQ G (oI r0) w) 0 0 (gA G) := by
  refine am_met (own := RX7) (cc := cX7_springs) (maxL := 3) (ret := (some .int)) (by decide +kernel) rfl rfl (Nat.le_of_ble_eq_true rfl) ?_
  intro p e s m args below meth c ab ls X hr hh hl
  have hx := X.1.1; have hb := X.1.2.1; have hml := X.1.2.2.1; have hown := X.1.2.2.2.1; have hts := X.1.2.2.2.2
  have hl : lv_has ls 3 [(0, .ref (gAd G 1))] := hl
  have hwRX7 : ∀ z ∈ u_ws RX7 TX7 17, z ∈ wsX7_springs := by decide +kernel
  unfold f_X7_springs at hF
  refine lv_iconst (v := (0 : Int32)) hx hb dX7_springs_0 (by decide) ?_
  refine lv_istore_n (lv' := [(1, .int (0 : Int32)), (0, .ref (gAd G 1))]) hx hb dX7_springs_1 rfl hl (by decide) rfl (fun ls hl => ?_)
  refine lv_iconst (v := (0 : Int32)) hx hb dX7_springs_2 (by decide) ?_
  refine lv_istore_n (lv' := [(2, .int (0 : Int32)), (1, .int (0 : Int32)), (0, .ref (gAd G 1))]) hx hb dX7_springs_3 rfl hl (by decide) rfl (fun ls hl => ?_)
  have hlp4 : ∀ (n : Nat) (y1 : Int32) (y2 : Int32) (ab : Nat) (H : Heap) (locs : List Loc) (ls : Array Slot) (z : (Int32 × Int32) ⊕ Unit), p_X7_springs_4 w n y1 y2 = some z → AH G s.heap w ab H locs → lv_has ls 3 [(1, .int y1), (2, .int y2), (0, .ref (gAd G 1))] → (∀ (y1 : Int32) (y2 : Int32) (ab : Nat) (H : Heap) (locs : List Loc) (ls : Array Slot), z = .inl (y1, y2) → AH G s.heap w ab H locs → lv_has ls 3 [(1, .int y1), (2, .int y2), (0, .ref (gAd G 1))] → W p l e ({ frames := 1, cells := 0, slots := 0, locals := 21 } : Room) s m args below meth c H locs 0 0 (MQ below (amQ G (oI r0) w) args s 0 0 (gA G)) (F0 m 29 ls [])) → W p l e ({ frames := 1, cells := 0, slots := 0, locals := 21 } : Room) s m args below meth c H locs 0 0 (MQ below (amQ G (oI r0) w) args s 0 0 (gA G)) (F0 m 4 ls []) := by
    intro n
    induction n with
    | zero =>
      intro y1 y2 ab H locs ls z hF
      unfold p_X7_springs_4 at hF
      cases hF
    | succ n ih =>
      intro y1 y2 ab H locs ls z hF hh hl kE
      unfold p_X7_springs_4 at hF
      refine lv_iload_n hx hb dX7_springs_4 rfl (lv_at hl 1 rfl) ?_
      refine lv_aload_n hx hb dX7_springs_5 rfl (lv_at hl 2 rfl) ?_
      refine am_getI X hh 1 9 10 (by decide) rfl rfl (by decide) hwRX7 (show Cond.fieldLink RX7 45 "PlanetWorkshop$State" "gears" "I" ∈ wsX7_springs by decide +kernel) rfl dX7_springs_6 ?_
      refine lv_icmp_ge (tgt := 29) hx hb dX7_springs_9 (by decide) (fun hc4 => ?_) (fun hc4 => ?_)
      · have hF := am_pos hc4 hF
        exact kE y1 y2 ab H locs ls (Option.some.inj hF).symm hh (lv_sub hl [0, 1, 2] rfl)
      · have hF := am_neg hc4 hF
        refine lv_aload_n hx hb dX7_springs_12 rfl (lv_at hl 2 rfl) ?_
        refine lv_iload_n hx hb dX7_springs_13 rfl (lv_at hl 1 rfl) ?_
        obtain ⟨r6, hk5, hF⟩ := am_bind hF
        refine am_call X hh (va_runV (As := [.int y2]) (rest := []) X.1 (c_X7_hasSpring l G hk5) (cwV 1 hts gX7_springs_X7_hasSpring rfl rfl rfl (by decide +kernel) ⟨Nat.le_of_ble_eq_true rfl, Nat.le_of_ble_eq_true rfl⟩) (am_preV X hh 1 9 (by decide) rfl rfl) rfl rfl hl.1 rfl (lv_room (Nat.le_of_ble_eq_true rfl)) dX7_springs_14 ⟨Nat.le_of_ble_eq_true rfl, Nat.le_of_ble_eq_true rfl⟩) (fun ab H locs hh => ?_)
        refine lv_if_eq (tgt := 23) hx hb dX7_springs_17 (by decide) (fun hc7 => ?_) (fun hc7 => ?_)
        · have hF := am_pos hc7 hF
          refine lv_iinc (v := (y2 + (1 : Int32))) (lv' := [(2, .int (y2 + (1 : Int32))), (1, .int y1), (0, .ref (gAd G 1))]) hx hb dX7_springs_23 hl (k := 1) rfl rfl (by decide) rfl (fun ls hl => ?_)
          refine lv_goto (tgt := 4) hx hb dX7_springs_26 (by decide) ?_
          exact ih y1 (y2 + (1 : Int32)) ab H locs ls _ hF hh (lv_sub hl [1, 0, 2] rfl) kE
        · have hF := am_neg hc7 hF
          refine lv_iinc (v := (y1 + (1 : Int32))) (lv' := [(1, .int (y1 + (1 : Int32))), (2, .int y2), (0, .ref (gAd G 1))]) hx hb dX7_springs_20 hl (k := 0) rfl rfl (by decide) rfl (fun ls hl => ?_)
          refine lv_iinc (v := (y2 + (1 : Int32))) (lv' := [(2, .int (y2 + (1 : Int32))), (1, .int (y1 + (1 : Int32))), (0, .ref (gAd G 1))]) hx hb dX7_springs_23 hl (k := 1) rfl rfl (by decide) rfl (fun ls hl => ?_)
          refine lv_goto (tgt := 4) hx hb dX7_springs_26 (by decide) ?_
          exact ih (y1 + (1 : Int32)) (y2 + (1 : Int32)) ab H locs ls _ hF hh (lv_sub hl [1, 0, 2] rfl) kE
  obtain ⟨z8, hz9, hF⟩ := am_bind hF
  refine hlp4 2000 (0 : Int32) (0 : Int32) ab H locs ls z8 hz9 hh (lv_sub hl [1, 0, 2] rfl) (fun y1 y2 ab H locs ls hz hh hl => ?_)
  · subst hz
    have hF := am_u2 (am_zl hF)
    refine lv_iload_n hx hb dX7_springs_29 rfl (lv_at hl 0 rfl) ?_
    exact am_iret X hr hh (fun t ht => am_qp (mk := oI) hF ht) (Nat.le_of_ble_eq_true rfl) (Nat.le_of_ble_eq_true rfl) dX7_springs_30
def p_X7_sumOfTensions_4 (w : Wd) : Nat → Int32 → Int32 → Option ((Int32 × Int32) ⊕ Unit)
  | 0, _, _ => none
  | n + 1, y1, y2 => (if (gI w 1 10) ≤ y2 then (some (.inl (y1, y2))) else (if inR y2 10 then (p_X7_sumOfTensions_4 w n (y1 + (gI w 8 (y2).toNatClampNeg)) (y2 + (1 : Int32))) else none))
def f_X7_sumOfTensions (w : Wd) : Option Int32 := ((p_X7_sumOfTensions_4 w 2000 (0 : Int32) (0 : Int32)).bind fun z => zc z (fun q => u2 q fun y1 y2 => (some y1)) (fun _ => none))
set_option maxHeartbeats 4000000 in
set_option maxRecDepth 100000 in
theorem c_X7_sumOfTensions (l : Launch) (G : GG) {w : Wd} {r0 : Int32} (hF : f_X7_sumOfTensions w = some r0) : Met l yX7_sumOfTensions wsX7_sumOfTensions ({ frames := 0, cells := 0, slots := 0, locals := 0 } : Room) (va_Pc [.ref (gAd G 1)] (Rel G w)) (amQ G (oI r0) w) 0 0 (gA G) := by
  refine am_met (own := RX7) (cc := cX7_sumOfTensions) (maxL := 3) (ret := (some .int)) (by decide +kernel) rfl rfl (Nat.le_of_ble_eq_true rfl) ?_
  intro p e s m args below meth c ab ls X hr hh hl
  have hx := X.1.1; have hb := X.1.2.1; have hml := X.1.2.2.1; have hown := X.1.2.2.2.1; have hts := X.1.2.2.2.2
  have hl : lv_has ls 3 [(0, .ref (gAd G 1))] := hl
  have hwRX7 : ∀ z ∈ u_ws RX7 TX7 17, z ∈ wsX7_sumOfTensions := by decide +kernel
  unfold f_X7_sumOfTensions at hF
  refine lv_iconst (v := (0 : Int32)) hx hb dX7_sumOfTensions_0 (by decide) ?_
  refine lv_istore_n (lv' := [(1, .int (0 : Int32)), (0, .ref (gAd G 1))]) hx hb dX7_sumOfTensions_1 rfl hl (by decide) rfl (fun ls hl => ?_)
  refine lv_iconst (v := (0 : Int32)) hx hb dX7_sumOfTensions_2 (by decide) ?_
  refine lv_istore_n (lv' := [(2, .int (0 : Int32)), (1, .int (0 : Int32)), (0, .ref (gAd G 1))]) hx hb dX7_sumOfTensions_3 rfl hl (by decide) rfl (fun ls hl => ?_)
  have hlp4 : ∀ (n : Nat) (y1 : Int32) (y2 : Int32) (ab : Nat) (H : Heap) (locs : List Loc) (ls : Array Slot) (z : (Int32 × Int32) ⊕ Unit), p_X7_sumOfTensions_4 w n y1 y2 = some z → AH G s.heap w ab H locs → lv_has ls 3 [(1, .int y1), (2, .int y2), (0, .ref (gAd G 1))] → (∀ (y1 : Int32) (y2 : Int32) (ab : Nat) (H : Heap) (locs : List Loc) (ls : Array Slot), z = .inl (y1, y2) → AH G s.heap w ab H locs → lv_has ls 3 [(1, .int y1), (2, .int y2), (0, .ref (gAd G 1))] → W p l e ({ frames := 0, cells := 0, slots := 0, locals := 0 } : Room) s m args below meth c H locs 0 0 (MQ below (amQ G (oI r0) w) args s 0 0 (gA G)) (F0 m 27 ls [])) → W p l e ({ frames := 0, cells := 0, slots := 0, locals := 0 } : Room) s m args below meth c H locs 0 0 (MQ below (amQ G (oI r0) w) args s 0 0 (gA G)) (F0 m 4 ls []) := by
    intro n
    induction n with
    | zero =>
      intro y1 y2 ab H locs ls z hF
      unfold p_X7_sumOfTensions_4 at hF
      cases hF
    | succ n ih =>
      intro y1 y2 ab H locs ls z hF hh hl kE
      unfold p_X7_sumOfTensions_4 at hF
      refine lv_iload_n hx hb dX7_sumOfTensions_4 rfl (lv_at hl 1 rfl) ?_
      refine lv_aload_n hx hb dX7_sumOfTensions_5 rfl (lv_at hl 2 rfl) ?_
      refine am_getI X hh 1 9 10 (by decide) rfl rfl (by decide) hwRX7 (show Cond.fieldLink RX7 45 "PlanetWorkshop$State" "gears" "I" ∈ wsX7_sumOfTensions by decide +kernel) rfl dX7_sumOfTensions_6 ?_
      refine lv_icmp_ge (tgt := 27) hx hb dX7_sumOfTensions_9 (by decide) (fun hc4 => ?_) (fun hc4 => ?_)
      · have hF := am_pos hc4 hF
        exact kE y1 y2 ab H locs ls (Option.some.inj hF).symm hh (lv_sub hl [0, 1, 2] rfl)
      · have hF := am_neg hc4 hF
        refine lv_iload_n hx hb dX7_sumOfTensions_12 rfl (lv_at hl 0 rfl) ?_
        refine lv_aload_n hx hb dX7_sumOfTensions_13 rfl (lv_at hl 2 rfl) ?_
        refine am_getR X hh 1 9 6 8 (by decide) rfl rfl (by decide) hwRX7 (show Cond.fieldLink RX7 32 "PlanetWorkshop$State" "tensions" "[I" ∈ wsX7_sumOfTensions by decide +kernel) rfl dX7_sumOfTensions_14 ?_
        refine lv_iload_n hx hb dX7_sumOfTensions_17 rfl (lv_at hl 1 rfl) ?_
        obtain ⟨hq5, hF⟩ := am_ifR hF
        refine am_iald X hh 8 (by decide) rfl hq5 dX7_sumOfTensions_18 ?_
        refine lv_iadd hx hb dX7_sumOfTensions_19 ?_
        refine lv_istore_n (lv' := [(1, .int (y1 + (gI w 8 (y2).toNatClampNeg))), (2, .int y2), (0, .ref (gAd G 1))]) hx hb dX7_sumOfTensions_20 rfl hl (by decide) rfl (fun ls hl => ?_)
        refine lv_iinc (v := (y2 + (1 : Int32))) (lv' := [(2, .int (y2 + (1 : Int32))), (1, .int (y1 + (gI w 8 (y2).toNatClampNeg))), (0, .ref (gAd G 1))]) hx hb dX7_sumOfTensions_21 hl (k := 1) rfl rfl (by decide) rfl (fun ls hl => ?_)
        refine lv_goto (tgt := 4) hx hb dX7_sumOfTensions_24 (by decide) ?_
        exact ih (y1 + (gI w 8 (y2).toNatClampNeg)) (y2 + (1 : Int32)) ab H locs ls _ hF hh (lv_sub hl [1, 0, 2] rfl) kE
  obtain ⟨z6, hz7, hF⟩ := am_bind hF
  refine hlp4 2000 (0 : Int32) (0 : Int32) ab H locs ls z6 hz7 hh (lv_sub hl [1, 0, 2] rfl) (fun y1 y2 ab H locs ls hz hh hl => ?_)
  · subst hz
    have hF := am_u2 (am_zl hF)
    refine lv_iload_n hx hb dX7_sumOfTensions_27 rfl (lv_at hl 0 rfl) ?_
    exact am_iret X hr hh (fun t ht => am_qp (mk := oI) hF ht) (Nat.le_of_ble_eq_true rfl) (Nat.le_of_ble_eq_true rfl) dX7_sumOfTensions_28
def p_X7_sumOfTeeth_4 (w : Wd) : Nat → Int32 → Int32 → Option ((Int32 × Int32) ⊕ Unit)
  | 0, _, _ => none
  | n + 1, y1, y2 => (if (gI w 1 10) ≤ y2 then (some (.inl (y1, y2))) else (if inR y2 10 then (p_X7_sumOfTeeth_4 w n (y1 + (gI w 2 (y2).toNatClampNeg)) (y2 + (1 : Int32))) else none))
def f_X7_sumOfTeeth (w : Wd) : Option Int32 := ((p_X7_sumOfTeeth_4 w 2000 (0 : Int32) (0 : Int32)).bind fun z => zc z (fun q => u2 q fun y1 y2 => (some y1)) (fun _ => none))
set_option maxHeartbeats 4000000 in
set_option maxRecDepth 100000 in
theorem c_X7_sumOfTeeth (l : Launch) (G : GG) {w : Wd} {r0 : Int32} (hF : f_X7_sumOfTeeth w = some r0) : Met l yX7_sumOfTeeth wsX7_sumOfTeeth ({ frames := 0, cells := 0, slots := 0, locals := 0 } : Room) (va_Pc [.ref (gAd G 1)] (Rel G w)) (amQ G (oI r0) w) 0 0 (gA G) := by
  refine am_met (own := RX7) (cc := cX7_sumOfTeeth) (maxL := 3) (ret := (some .int)) (by decide +kernel) rfl rfl (Nat.le_of_ble_eq_true rfl) ?_
  intro p e s m args below meth c ab ls X hr hh hl
  have hx := X.1.1; have hb := X.1.2.1; have hml := X.1.2.2.1; have hown := X.1.2.2.2.1; have hts := X.1.2.2.2.2
  have hl : lv_has ls 3 [(0, .ref (gAd G 1))] := hl
  have hwRX7 : ∀ z ∈ u_ws RX7 TX7 17, z ∈ wsX7_sumOfTeeth := by decide +kernel
  unfold f_X7_sumOfTeeth at hF
  refine lv_iconst (v := (0 : Int32)) hx hb dX7_sumOfTeeth_0 (by decide) ?_
  refine lv_istore_n (lv' := [(1, .int (0 : Int32)), (0, .ref (gAd G 1))]) hx hb dX7_sumOfTeeth_1 rfl hl (by decide) rfl (fun ls hl => ?_)
  refine lv_iconst (v := (0 : Int32)) hx hb dX7_sumOfTeeth_2 (by decide) ?_
  refine lv_istore_n (lv' := [(2, .int (0 : Int32)), (1, .int (0 : Int32)), (0, .ref (gAd G 1))]) hx hb dX7_sumOfTeeth_3 rfl hl (by decide) rfl (fun ls hl => ?_)
  have hlp4 : ∀ (n : Nat) (y1 : Int32) (y2 : Int32) (ab : Nat) (H : Heap) (locs : List Loc) (ls : Array Slot) (z : (Int32 × Int32) ⊕ Unit), p_X7_sumOfTeeth_4 w n y1 y2 = some z → AH G s.heap w ab H locs → lv_has ls 3 [(1, .int y1), (2, .int y2), (0, .ref (gAd G 1))] → (∀ (y1 : Int32) (y2 : Int32) (ab : Nat) (H : Heap) (locs : List Loc) (ls : Array Slot), z = .inl (y1, y2) → AH G s.heap w ab H locs → lv_has ls 3 [(1, .int y1), (2, .int y2), (0, .ref (gAd G 1))] → W p l e ({ frames := 0, cells := 0, slots := 0, locals := 0 } : Room) s m args below meth c H locs 0 0 (MQ below (amQ G (oI r0) w) args s 0 0 (gA G)) (F0 m 27 ls [])) → W p l e ({ frames := 0, cells := 0, slots := 0, locals := 0 } : Room) s m args below meth c H locs 0 0 (MQ below (amQ G (oI r0) w) args s 0 0 (gA G)) (F0 m 4 ls []) := by
    intro n
    induction n with
    | zero =>
      intro y1 y2 ab H locs ls z hF
      unfold p_X7_sumOfTeeth_4 at hF
      cases hF
    | succ n ih =>
      intro y1 y2 ab H locs ls z hF hh hl kE
      unfold p_X7_sumOfTeeth_4 at hF
      refine lv_iload_n hx hb dX7_sumOfTeeth_4 rfl (lv_at hl 1 rfl) ?_
      refine lv_aload_n hx hb dX7_sumOfTeeth_5 rfl (lv_at hl 2 rfl) ?_
      refine am_getI X hh 1 9 10 (by decide) rfl rfl (by decide) hwRX7 (show Cond.fieldLink RX7 45 "PlanetWorkshop$State" "gears" "I" ∈ wsX7_sumOfTeeth by decide +kernel) rfl dX7_sumOfTeeth_6 ?_
      refine lv_icmp_ge (tgt := 27) hx hb dX7_sumOfTeeth_9 (by decide) (fun hc4 => ?_) (fun hc4 => ?_)
      · have hF := am_pos hc4 hF
        exact kE y1 y2 ab H locs ls (Option.some.inj hF).symm hh (lv_sub hl [0, 1, 2] rfl)
      · have hF := am_neg hc4 hF
        refine lv_iload_n hx hb dX7_sumOfTeeth_12 rfl (lv_at hl 0 rfl) ?_
        refine lv_aload_n hx hb dX7_sumOfTeeth_13 rfl (lv_at hl 2 rfl) ?_
        refine am_getR X hh 1 9 0 2 (by decide) rfl rfl (by decide) hwRX7 (show Cond.fieldLink RX7 9 "PlanetWorkshop$State" "teeth" "[I" ∈ wsX7_sumOfTeeth by decide +kernel) rfl dX7_sumOfTeeth_14 ?_
        refine lv_iload_n hx hb dX7_sumOfTeeth_17 rfl (lv_at hl 1 rfl) ?_
        obtain ⟨hq5, hF⟩ := am_ifR hF
        refine am_iald X hh 2 (by decide) rfl hq5 dX7_sumOfTeeth_18 ?_
        refine lv_iadd hx hb dX7_sumOfTeeth_19 ?_
        refine lv_istore_n (lv' := [(1, .int (y1 + (gI w 2 (y2).toNatClampNeg))), (2, .int y2), (0, .ref (gAd G 1))]) hx hb dX7_sumOfTeeth_20 rfl hl (by decide) rfl (fun ls hl => ?_)
        refine lv_iinc (v := (y2 + (1 : Int32))) (lv' := [(2, .int (y2 + (1 : Int32))), (1, .int (y1 + (gI w 2 (y2).toNatClampNeg))), (0, .ref (gAd G 1))]) hx hb dX7_sumOfTeeth_21 hl (k := 1) rfl rfl (by decide) rfl (fun ls hl => ?_)
        refine lv_goto (tgt := 4) hx hb dX7_sumOfTeeth_24 (by decide) ?_
        exact ih (y1 + (gI w 2 (y2).toNatClampNeg)) (y2 + (1 : Int32)) ab H locs ls _ hF hh (lv_sub hl [1, 0, 2] rfl) kE
  obtain ⟨z6, hz7, hF⟩ := am_bind hF
  refine hlp4 2000 (0 : Int32) (0 : Int32) ab H locs ls z6 hz7 hh (lv_sub hl [1, 0, 2] rfl) (fun y1 y2 ab H locs ls hz hh hl => ?_)
  · subst hz
    have hF := am_u2 (am_zl hF)
    refine lv_iload_n hx hb dX7_sumOfTeeth_27 rfl (lv_at hl 0 rfl) ?_
    exact am_iret X hr hh (fun t ht => am_qp (mk := oI) hF ht) (Nat.le_of_ble_eq_true rfl) (Nat.le_of_ble_eq_true rfl) dX7_sumOfTeeth_28
def p_X7_dryGears_4 (w : Wd) : Nat → Int32 → Int32 → Option ((Int32 × Int32) ⊕ Unit)
  | 0, _, _ => none
  | n + 1, y1, y2 => (if (gI w 1 10) ≤ y2 then (some (.inl (y1, y2))) else (if inR y2 10 then (if (gI w 4 (y2).toNatClampNeg) = 0 then (p_X7_dryGears_4 w n (y1 + (1 : Int32)) (y2 + (1 : Int32))) else (p_X7_dryGears_4 w n y1 (y2 + (1 : Int32)))) else none))
def f_X7_dryGears (w : Wd) : Option Int32 := ((p_X7_dryGears_4 w 2000 (0 : Int32) (0 : Int32)).bind fun z => zc z (fun q => u2 q fun y1 y2 => (some y1)) (fun _ => none))
set_option maxHeartbeats 4000000 in
set_option maxRecDepth 100000 in
theorem c_X7_dryGears (l : Launch) (G : GG) {w : Wd} {r0 : Int32} (hF : f_X7_dryGears w = some r0) : Met l yX7_dryGears wsX7_dryGears ({ frames := 0, cells := 0, slots := 0, locals := 0 } : Room) (va_Pc [.ref (gAd G 1)] (Rel G w)) (amQ G (oI r0) w) 0 0 (gA G) := by
  refine am_met (own := RX7) (cc := cX7_dryGears) (maxL := 3) (ret := (some .int)) (by decide +kernel) rfl rfl (Nat.le_of_ble_eq_true rfl) ?_
  intro p e s m args below meth c ab ls X hr hh hl
  have hx := X.1.1; have hb := X.1.2.1; have hml := X.1.2.2.1; have hown := X.1.2.2.2.1; have hts := X.1.2.2.2.2
  have hl : lv_has ls 3 [(0, .ref (gAd G 1))] := hl
  have hwRX7 : ∀ z ∈ u_ws RX7 TX7 17, z ∈ wsX7_dryGears := by decide +kernel
  unfold f_X7_dryGears at hF
  refine lv_iconst (v := (0 : Int32)) hx hb dX7_dryGears_0 (by decide) ?_
  refine lv_istore_n (lv' := [(1, .int (0 : Int32)), (0, .ref (gAd G 1))]) hx hb dX7_dryGears_1 rfl hl (by decide) rfl (fun ls hl => ?_)
  refine lv_iconst (v := (0 : Int32)) hx hb dX7_dryGears_2 (by decide) ?_
  refine lv_istore_n (lv' := [(2, .int (0 : Int32)), (1, .int (0 : Int32)), (0, .ref (gAd G 1))]) hx hb dX7_dryGears_3 rfl hl (by decide) rfl (fun ls hl => ?_)
  have hlp4 : ∀ (n : Nat) (y1 : Int32) (y2 : Int32) (ab : Nat) (H : Heap) (locs : List Loc) (ls : Array Slot) (z : (Int32 × Int32) ⊕ Unit), p_X7_dryGears_4 w n y1 y2 = some z → AH G s.heap w ab H locs → lv_has ls 3 [(1, .int y1), (2, .int y2), (0, .ref (gAd G 1))] → (∀ (y1 : Int32) (y2 : Int32) (ab : Nat) (H : Heap) (locs : List Loc) (ls : Array Slot), z = .inl (y1, y2) → AH G s.heap w ab H locs → lv_has ls 3 [(1, .int y1), (2, .int y2), (0, .ref (gAd G 1))] → W p l e ({ frames := 0, cells := 0, slots := 0, locals := 0 } : Room) s m args below meth c H locs 0 0 (MQ below (amQ G (oI r0) w) args s 0 0 (gA G)) (F0 m 30 ls [])) → W p l e ({ frames := 0, cells := 0, slots := 0, locals := 0 } : Room) s m args below meth c H locs 0 0 (MQ below (amQ G (oI r0) w) args s 0 0 (gA G)) (F0 m 4 ls []) := by
    intro n
    induction n with
    | zero =>
      intro y1 y2 ab H locs ls z hF
      unfold p_X7_dryGears_4 at hF
      cases hF
    | succ n ih =>
      intro y1 y2 ab H locs ls z hF hh hl kE
      unfold p_X7_dryGears_4 at hF
      refine lv_iload_n hx hb dX7_dryGears_4 rfl (lv_at hl 1 rfl) ?_
      refine lv_aload_n hx hb dX7_dryGears_5 rfl (lv_at hl 2 rfl) ?_
      refine am_getI X hh 1 9 10 (by decide) rfl rfl (by decide) hwRX7 (show Cond.fieldLink RX7 45 "PlanetWorkshop$State" "gears" "I" ∈ wsX7_dryGears by decide +kernel) rfl dX7_dryGears_6 ?_
      refine lv_icmp_ge (tgt := 30) hx hb dX7_dryGears_9 (by decide) (fun hc4 => ?_) (fun hc4 => ?_)
      · have hF := am_pos hc4 hF
        exact kE y1 y2 ab H locs ls (Option.some.inj hF).symm hh (lv_sub hl [0, 1, 2] rfl)
      · have hF := am_neg hc4 hF
        refine lv_aload_n hx hb dX7_dryGears_12 rfl (lv_at hl 2 rfl) ?_
        refine am_getR X hh 1 9 2 4 (by decide) rfl rfl (by decide) hwRX7 (show Cond.fieldLink RX7 19 "PlanetWorkshop$State" "oiled" "[Z" ∈ wsX7_dryGears by decide +kernel) rfl dX7_dryGears_13 ?_
        refine lv_iload_n hx hb dX7_dryGears_16 rfl (lv_at hl 1 rfl) ?_
        obtain ⟨hq5, hF⟩ := am_ifR hF
        refine am_zald X hh 4 (by decide) rfl hq5 dX7_dryGears_17 ?_
        refine lv_if_ne (tgt := 24) hx hb dX7_dryGears_18 (by decide) (fun hc6 => ?_) (fun hc6 => ?_)
        · have hF := am_neg hc6 hF
          refine lv_iinc (v := (y2 + (1 : Int32))) (lv' := [(2, .int (y2 + (1 : Int32))), (1, .int y1), (0, .ref (gAd G 1))]) hx hb dX7_dryGears_24 hl (k := 1) rfl rfl (by decide) rfl (fun ls hl => ?_)
          refine lv_goto (tgt := 4) hx hb dX7_dryGears_27 (by decide) ?_
          exact ih y1 (y2 + (1 : Int32)) ab H locs ls _ hF hh (lv_sub hl [1, 0, 2] rfl) kE
        · have hF := am_pos hc6 hF
          refine lv_iinc (v := (y1 + (1 : Int32))) (lv' := [(1, .int (y1 + (1 : Int32))), (2, .int y2), (0, .ref (gAd G 1))]) hx hb dX7_dryGears_21 hl (k := 0) rfl rfl (by decide) rfl (fun ls hl => ?_)
          refine lv_iinc (v := (y2 + (1 : Int32))) (lv' := [(2, .int (y2 + (1 : Int32))), (1, .int (y1 + (1 : Int32))), (0, .ref (gAd G 1))]) hx hb dX7_dryGears_24 hl (k := 1) rfl rfl (by decide) rfl (fun ls hl => ?_)
          refine lv_goto (tgt := 4) hx hb dX7_dryGears_27 (by decide) ?_
          exact ih (y1 + (1 : Int32)) (y2 + (1 : Int32)) ab H locs ls _ hF hh (lv_sub hl [1, 0, 2] rfl) kE
  obtain ⟨z7, hz8, hF⟩ := am_bind hF
  refine hlp4 2000 (0 : Int32) (0 : Int32) ab H locs ls z7 hz8 hh (lv_sub hl [1, 0, 2] rfl) (fun y1 y2 ab H locs ls hz hh hl => ?_)
  · subst hz
    have hF := am_u2 (am_zl hF)
    refine lv_iload_n hx hb dX7_dryGears_30 rfl (lv_at hl 0 rfl) ?_
    exact am_iret X hr hh (fun t ht => am_qp (mk := oI) hF ht) (Nat.le_of_ble_eq_true rfl) (Nat.le_of_ble_eq_true rfl) dX7_dryGears_31
def f_X8_reach (w : Wd) (x1 : Int32) (x2 : Int64) : Option Wd := (if x1 < 0 then (some w) else (if (10 : Int32) ≤ x1 then (some w) else (if (10 : Int32) ≤ (gI w 124 2) then (some w) else (if inR x1 10 then (if inR (gI (uL w 125 (x1).toNatClampNeg x2) 124 2) 10 then (some (uI (uI (uL w 125 (x1).toNatClampNeg x2) 126 ((gI (uL w 125 (x1).toNatClampNeg x2) 124 2)).toNatClampNeg x1) 124 2 ((gI (uI (uL w 125 (x1).toNatClampNeg x2) 126 ((gI (uL w 125 (x1).toNatClampNeg x2) 124 2)).toNatClampNeg x1) 124 2) + (1 : Int32)))) else none) else none))))
set_option maxHeartbeats 4000000 in
set_option maxRecDepth 100000 in
theorem c_X8_reach (l : Launch) (G : GG) {w : Wd} {x1 : Int32} {x2 : Int64} {w1 : Wd} (hF : f_X8_reach w x1 x2 = some w1) : Met l yX8_reach wsX8_reach ({ frames := 0, cells := 0, slots := 0, locals := 0 } : Room) (va_Pc [.ref (gAd G 124), .int x1, .long x2] (Rel G w)) (amQ G none w1) 0 0 (gA G) := by
  refine am_met (own := RX8) (cc := cX8_reach) (maxL := 4) (ret := none) (by decide +kernel) rfl rfl (Nat.le_of_ble_eq_true rfl) ?_
  intro p e s m args below meth c ab ls X hr hh hl
  have hx := X.1.1; have hb := X.1.2.1; have hml := X.1.2.2.1; have hown := X.1.2.2.2.1; have hts := X.1.2.2.2.2
  have hl : lv_has ls 4 [(0, .ref (gAd G 124)), (1, .int x1), (2, .long x2)] := hl
  have hwRX8 : ∀ z ∈ u_ws RX8 TX8 3, z ∈ wsX8_reach := by decide +kernel
  unfold f_X8_reach at hF
  refine lv_iload_n hx hb dX8_reach_0 rfl (lv_at hl 1 rfl) ?_
  refine lv_if_lt (tgt := 46) hx hb dX8_reach_1 (by decide) (fun hc1 => ?_) (fun hc1 => ?_)
  · have hF := am_pos hc1 hF
    exact am_vret X hr hh (fun t ht => am_qv hF ht) (Nat.le_of_ble_eq_true rfl) (Nat.le_of_ble_eq_true rfl) dX8_reach_46
  · have hF := am_neg hc1 hF
    refine lv_iload_n hx hb dX8_reach_4 rfl (lv_at hl 1 rfl) ?_
    refine lv_bipush (v := (10 : Int32)) hx hb dX8_reach_5 (by decide) ?_
    refine lv_icmp_ge (tgt := 46) hx hb dX8_reach_7 (by decide) (fun hc2 => ?_) (fun hc2 => ?_)
    · have hF := am_pos hc2 hF
      exact am_vret X hr hh (fun t ht => am_qv hF ht) (Nat.le_of_ble_eq_true rfl) (Nat.le_of_ble_eq_true rfl) dX8_reach_46
    · have hF := am_neg hc2 hF
      refine lv_aload_n hx hb dX8_reach_10 rfl (lv_at hl 0 rfl) ?_
      refine am_getI X hh 124 10 2 (by decide) rfl rfl (by decide) hwRX8 (show Cond.fieldLink RX8 19 "PlanetWorkshop$Train" "size" "I" ∈ wsX8_reach by decide +kernel) rfl dX8_reach_11 ?_
      refine lv_bipush (v := (10 : Int32)) hx hb dX8_reach_14 (by decide) ?_
      refine lv_icmp_ge (tgt := 46) hx hb dX8_reach_16 (by decide) (fun hc3 => ?_) (fun hc3 => ?_)
      · have hF := am_pos hc3 hF
        exact am_vret X hr hh (fun t ht => am_qv hF ht) (Nat.le_of_ble_eq_true rfl) (Nat.le_of_ble_eq_true rfl) dX8_reach_46
      · have hF := am_neg hc3 hF
        refine lv_aload_n hx hb dX8_reach_19 rfl (lv_at hl 0 rfl) ?_
        refine am_getR X hh 124 10 0 125 (by decide) rfl rfl (by decide) hwRX8 (show Cond.fieldLink RX8 9 "PlanetWorkshop$Train" "units" "[J" ∈ wsX8_reach by decide +kernel) rfl dX8_reach_20 ?_
        refine lv_iload_n hx hb dX8_reach_23 rfl (lv_at hl 1 rfl) ?_
        refine lv_lload_n hx hb dX8_reach_24 rfl (lv_at hl 2 rfl) ?_
        obtain ⟨hq4, hF⟩ := am_ifR hF
        refine am_last X hh 125 (by decide) rfl hq4 dX8_reach_25 (fun H locs hh => ?_)
        refine lv_aload_n hx hb dX8_reach_26 rfl (lv_at hl 0 rfl) ?_
        refine am_getR X hh 124 10 1 126 (by decide) rfl rfl (by decide) hwRX8 (show Cond.fieldLink RX8 15 "PlanetWorkshop$Train" "members" "[I" ∈ wsX8_reach by decide +kernel) rfl dX8_reach_27 ?_
        refine lv_aload_n hx hb dX8_reach_30 rfl (lv_at hl 0 rfl) ?_
        refine am_getI X hh 124 10 2 (by decide) rfl rfl (by decide) hwRX8 (show Cond.fieldLink RX8 19 "PlanetWorkshop$Train" "size" "I" ∈ wsX8_reach by decide +kernel) rfl dX8_reach_31 ?_
        refine lv_iload_n hx hb dX8_reach_34 rfl (lv_at hl 1 rfl) ?_
        obtain ⟨hq5, hF⟩ := am_ifR hF
        refine am_iast X hh 126 (by decide) rfl hq5 dX8_reach_35 (fun H locs hh => ?_)
        refine lv_aload_n hx hb dX8_reach_36 rfl (lv_at hl 0 rfl) ?_
        refine lv_dup hx hb dX8_reach_37 rfl ?_
        refine am_getI X hh 124 10 2 (by decide) rfl rfl (by decide) hwRX8 (show Cond.fieldLink RX8 19 "PlanetWorkshop$Train" "size" "I" ∈ wsX8_reach by decide +kernel) rfl dX8_reach_38 ?_
        refine lv_iconst (v := (1 : Int32)) hx hb dX8_reach_41 (by decide) ?_
        refine lv_iadd hx hb dX8_reach_42 ?_
        refine am_putI X hh 124 10 2 (by decide) rfl rfl (by decide) hwRX8 tyX8 tyX8_ok nmX8 (show Cond.fieldLink RX8 19 "PlanetWorkshop$Train" "size" "I" ∈ wsX8_reach by decide +kernel) rfl rfl rfl rfl dX8_reach_43 (fun H locs hh => ?_)
        exact am_vret X hr hh (fun t ht => am_qv hF ht) (Nat.le_of_ble_eq_true rfl) (Nat.le_of_ble_eq_true rfl) dX8_reach_46
def f_X8_holds (w : Wd) (x1 : Int32) : Option Int32 := (if inR x1 10 then (if (gL w 125 (x1).toNatClampNeg) = (0 : Int64) then (some (0 : Int32)) else (some (1 : Int32))) else none)
set_option maxHeartbeats 4000000 in
set_option maxRecDepth 100000 in
theorem c_X8_holds (l : Launch) (G : GG) {w : Wd} {x1 : Int32} {r0 : Int32} (hF : f_X8_holds w x1 = some r0) : Met l yX8_holds wsX8_holds ({ frames := 0, cells := 0, slots := 0, locals := 0 } : Room) (va_Pc [.ref (gAd G 124), .int x1] (Rel G w)) (amQ G (oI r0) w) 0 0 (gA G) := by
  refine am_met (own := RX8) (cc := cX8_holds) (maxL := 2) (ret := (some .boolean)) (by decide +kernel) rfl rfl (Nat.le_of_ble_eq_true rfl) ?_
  intro p e s m args below meth c ab ls X hr hh hl
  have hx := X.1.1; have hb := X.1.2.1; have hml := X.1.2.2.1; have hown := X.1.2.2.2.1; have hts := X.1.2.2.2.2
  have hl : lv_has ls 2 [(0, .ref (gAd G 124)), (1, .int x1)] := hl
  have hwRX8 : ∀ z ∈ u_ws RX8 TX8 3, z ∈ wsX8_holds := by decide +kernel
  unfold f_X8_holds at hF
  refine lv_aload_n hx hb dX8_holds_0 rfl (lv_at hl 0 rfl) ?_
  refine am_getR X hh 124 10 0 125 (by decide) rfl rfl (by decide) hwRX8 (show Cond.fieldLink RX8 9 "PlanetWorkshop$Train" "units" "[J" ∈ wsX8_holds by decide +kernel) rfl dX8_holds_1 ?_
  refine lv_iload_n hx hb dX8_holds_4 rfl (lv_at hl 1 rfl) ?_
  obtain ⟨hq1, hF⟩ := am_ifR hF
  refine am_lald X hh 125 (by decide) rfl hq1 dX8_holds_5 ?_
  refine lv_lconst (v := (0 : Int64)) hx hb dX8_holds_6 (by decide) ?_
  refine am_lcmp_eq (tgt := 15) hx hb dX8_holds_7 dX8_holds_8 (by decide) (fun hc2 => ?_) (fun hc2 => ?_)
  · have hF := am_pos hc2 hF
    refine lv_iconst (v := (0 : Int32)) hx hb dX8_holds_15 (by decide) ?_
    exact am_zret (v' := (0 : Int32)) X hr rfl hh (fun t ht => am_qp (mk := oI) hF ht) (Nat.le_of_ble_eq_true rfl) (Nat.le_of_ble_eq_true rfl) dX8_holds_16
  · have hF := am_neg hc2 hF
    refine lv_iconst (v := (1 : Int32)) hx hb dX8_holds_11 (by decide) ?_
    refine lv_goto (tgt := 16) hx hb dX8_holds_12 (by decide) ?_
    exact am_zret (v' := (1 : Int32)) X hr rfl hh (fun t ht => am_qp (mk := oI) hF ht) (Nat.le_of_ble_eq_true rfl) (Nat.le_of_ble_eq_true rfl) dX8_holds_16
def p_X8_lowestGear_2 (w : Wd) : Nat → Int32 → Option ((Int32) ⊕ Int32)
  | 0, _ => none
  | n + 1, y1 => (if (10 : Int32) ≤ y1 then (some (.inl y1)) else (if inR y1 10 then (if (gL w 125 (y1).toNatClampNeg) = (0 : Int64) then (p_X8_lowestGear_2 w n (y1 + (1 : Int32))) else (some (.inr y1))) else none))
def f_X8_lowestGear (w : Wd) : Option Int32 := ((p_X8_lowestGear_2 w 2000 (0 : Int32)).bind fun z => zc z (fun y1 => (some (-1 : Int32))) (fun r => (some r)))
set_option maxHeartbeats 4000000 in
set_option maxRecDepth 100000 in
theorem c_X8_lowestGear (l : Launch) (G : GG) {w : Wd} {r0 : Int32} (hF : f_X8_lowestGear w = some r0) : Met l yX8_lowestGear wsX8_lowestGear ({ frames := 0, cells := 0, slots := 0, locals := 0 } : Room) (va_Pc [.ref (gAd G 124)] (Rel G w)) (amQ G (oI r0) w) 0 0 (gA G) := by
  refine am_met (own := RX8) (cc := cX8_lowestGear) (maxL := 2) (ret := (some .int)) (by decide +kernel) rfl rfl (Nat.le_of_ble_eq_true rfl) ?_
  intro p e s m args below meth c ab ls X hr hh hl
  have hx := X.1.1; have hb := X.1.2.1; have hml := X.1.2.2.1; have hown := X.1.2.2.2.1; have hts := X.1.2.2.2.2
  have hl : lv_has ls 2 [(0, .ref (gAd G 124))] := hl
  have hwRX8 : ∀ z ∈ u_ws RX8 TX8 3, z ∈ wsX8_lowestGear := by decide +kernel
  unfold f_X8_lowestGear at hF
  refine lv_iconst (v := (0 : Int32)) hx hb dX8_lowestGear_0 (by decide) ?_
  refine lv_istore_n (lv' := [(1, .int (0 : Int32)), (0, .ref (gAd G 124))]) hx hb dX8_lowestGear_1 rfl hl (by decide) rfl (fun ls hl => ?_)
  have hlp2 : ∀ (n : Nat) (y1 : Int32) (ab : Nat) (H : Heap) (locs : List Loc) (ls : Array Slot) (z : (Int32) ⊕ Int32), p_X8_lowestGear_2 w n y1 = some z → AH G s.heap w ab H locs → lv_has ls 2 [(1, .int y1), (0, .ref (gAd G 124))] → (∀ (y1 : Int32) (ab : Nat) (H : Heap) (locs : List Loc) (ls : Array Slot), z = .inl y1 → AH G s.heap w ab H locs → lv_has ls 2 [(1, .int y1), (0, .ref (gAd G 124))] → W p l e ({ frames := 0, cells := 0, slots := 0, locals := 0 } : Room) s m args below meth c H locs 0 0 (MQ below (amQ G (oI r0) w) args s 0 0 (gA G)) (F0 m 27 ls [])) → (∀ r, z = .inr r → some r = some r0) → W p l e ({ frames := 0, cells := 0, slots := 0, locals := 0 } : Room) s m args below meth c H locs 0 0 (MQ below (amQ G (oI r0) w) args s 0 0 (gA G)) (F0 m 2 ls []) := by
    intro n
    induction n with
    | zero =>
      intro y1 ab H locs ls z hF
      unfold p_X8_lowestGear_2 at hF
      cases hF
    | succ n ih =>
      intro y1 ab H locs ls z hF hh hl kE kR
      unfold p_X8_lowestGear_2 at hF
      refine lv_iload_n hx hb dX8_lowestGear_2 rfl (lv_at hl 0 rfl) ?_
      refine lv_bipush (v := (10 : Int32)) hx hb dX8_lowestGear_3 (by decide) ?_
      refine lv_icmp_ge (tgt := 27) hx hb dX8_lowestGear_5 (by decide) (fun hc3 => ?_) (fun hc3 => ?_)
      · have hF := am_pos hc3 hF
        exact kE y1 ab H locs ls (Option.some.inj hF).symm hh (lv_sub hl [0, 1] rfl)
      · have hF := am_neg hc3 hF
        refine lv_aload_n hx hb dX8_lowestGear_8 rfl (lv_at hl 1 rfl) ?_
        refine am_getR X hh 124 10 0 125 (by decide) rfl rfl (by decide) hwRX8 (show Cond.fieldLink RX8 9 "PlanetWorkshop$Train" "units" "[J" ∈ wsX8_lowestGear by decide +kernel) rfl dX8_lowestGear_9 ?_
        refine lv_iload_n hx hb dX8_lowestGear_12 rfl (lv_at hl 0 rfl) ?_
        obtain ⟨hq4, hF⟩ := am_ifR hF
        refine am_lald X hh 125 (by decide) rfl hq4 dX8_lowestGear_13 ?_
        refine lv_lconst (v := (0 : Int64)) hx hb dX8_lowestGear_14 (by decide) ?_
        refine am_lcmp_eq (tgt := 21) hx hb dX8_lowestGear_15 dX8_lowestGear_16 (by decide) (fun hc5 => ?_) (fun hc5 => ?_)
        · have hF := am_pos hc5 hF
          refine lv_iinc (v := (y1 + (1 : Int32))) (lv' := [(1, .int (y1 + (1 : Int32))), (0, .ref (gAd G 124))]) hx hb dX8_lowestGear_21 hl (k := 0) rfl rfl (by decide) rfl (fun ls hl => ?_)
          refine lv_goto (tgt := 2) hx hb dX8_lowestGear_24 (by decide) ?_
          exact ih (y1 + (1 : Int32)) ab H locs ls _ hF hh (lv_sub hl [0, 1] rfl) kE kR
        · have hF := am_neg hc5 hF
          refine lv_iload_n hx hb dX8_lowestGear_19 rfl (lv_at hl 0 rfl) ?_
          have hF := kR _ (Option.some.inj hF).symm
          exact am_iret X hr hh (fun t ht => am_qp (mk := oI) hF ht) (Nat.le_of_ble_eq_true rfl) (Nat.le_of_ble_eq_true rfl) dX8_lowestGear_20
  obtain ⟨z6, hz7, hF⟩ := am_bind hF
  refine hlp2 2000 (0 : Int32) ab H locs ls z6 hz7 hh (lv_sub hl [0, 1] rfl) (fun y1 ab H locs ls hz hh hl => ?_) (fun r hz => ?_)
  · subst hz
    have hF := am_zl hF
    refine lv_iconst (v := (-1 : Int32)) hx hb dX8_lowestGear_27 (by decide) ?_
    exact am_iret X hr hh (fun t ht => am_qp (mk := oI) hF ht) (Nat.le_of_ble_eq_true rfl) (Nat.le_of_ble_eq_true rfl) dX8_lowestGear_28
  · subst hz
    have hF := am_zr hF
    exact hF
def p_X8_springGear_2 (w : Wd) : Nat → Int32 → Option ((Int32) ⊕ Int32)
  | 0, _ => none
  | n + 1, y1 => (if (gI w 1 10) ≤ y1 then (some (.inl y1)) else ((f_X8_holds w y1).bind fun r5 => (if r5 = 0 then (p_X8_springGear_2 w n (y1 + (1 : Int32))) else ((f_X7_hasSpring w y1).bind fun r8 => (if r8 = 0 then (p_X8_springGear_2 w n (y1 + (1 : Int32))) else (some (.inr y1)))))))
def f_X8_springGear (w : Wd) : Option Int32 := ((p_X8_springGear_2 w 2000 (0 : Int32)).bind fun z => zc z (fun y1 => (some (-1 : Int32))) (fun r => (some r)))
set_option maxHeartbeats 4000000 in
set_option maxRecDepth 100000 in
theorem c_X8_springGear (l : Launch) (G : GG) {w : Wd} {r0 : Int32} (hF : f_X8_springGear w = some r0) : Met l yX8_springGear wsX8_springGear ({ frames := 1, cells := 0, slots := 0, locals := 21 } : Room) (va_Pc [.ref (gAd G 124), .ref (gAd G 1)] (Rel G w)) (amQ G (oI r0) w) 0 0 (gA G) := by
  refine am_met (own := RX8) (cc := cX8_springGear) (maxL := 3) (ret := (some .int)) (by decide +kernel) rfl rfl (Nat.le_of_ble_eq_true rfl) ?_
  intro p e s m args below meth c ab ls X hr hh hl
  have hx := X.1.1; have hb := X.1.2.1; have hml := X.1.2.2.1; have hown := X.1.2.2.2.1; have hts := X.1.2.2.2.2
  have hl : lv_has ls 3 [(0, .ref (gAd G 124)), (1, .ref (gAd G 1))] := hl
  have hwRX7 : ∀ z ∈ u_ws RX7 TX7 17, z ∈ wsX8_springGear := by decide +kernel
  unfold f_X8_springGear at hF
  refine lv_iconst (v := (0 : Int32)) hx hb dX8_springGear_0 (by decide) ?_
  refine lv_istore_n (lv' := [(2, .int (0 : Int32)), (0, .ref (gAd G 124)), (1, .ref (gAd G 1))]) hx hb dX8_springGear_1 rfl hl (by decide) rfl (fun ls hl => ?_)
  have hlp2 : ∀ (n : Nat) (y1 : Int32) (ab : Nat) (H : Heap) (locs : List Loc) (ls : Array Slot) (z : (Int32) ⊕ Int32), p_X8_springGear_2 w n y1 = some z → AH G s.heap w ab H locs → lv_has ls 3 [(2, .int y1), (0, .ref (gAd G 124)), (1, .ref (gAd G 1))] → (∀ (y1 : Int32) (ab : Nat) (H : Heap) (locs : List Loc) (ls : Array Slot), z = .inl y1 → AH G s.heap w ab H locs → lv_has ls 3 [(2, .int y1), (0, .ref (gAd G 124)), (1, .ref (gAd G 1))] → W p l e ({ frames := 1, cells := 0, slots := 0, locals := 21 } : Room) s m args below meth c H locs 0 0 (MQ below (amQ G (oI r0) w) args s 0 0 (gA G)) (F0 m 34 ls [])) → (∀ r, z = .inr r → some r = some r0) → W p l e ({ frames := 1, cells := 0, slots := 0, locals := 21 } : Room) s m args below meth c H locs 0 0 (MQ below (amQ G (oI r0) w) args s 0 0 (gA G)) (F0 m 2 ls []) := by
    intro n
    induction n with
    | zero =>
      intro y1 ab H locs ls z hF
      unfold p_X8_springGear_2 at hF
      cases hF
    | succ n ih =>
      intro y1 ab H locs ls z hF hh hl kE kR
      unfold p_X8_springGear_2 at hF
      refine lv_iload_n hx hb dX8_springGear_2 rfl (lv_at hl 0 rfl) ?_
      refine lv_aload_n hx hb dX8_springGear_3 rfl (lv_at hl 2 rfl) ?_
      refine am_getI X hh 1 9 10 (by decide) rfl rfl (by decide) hwRX7 (show Cond.fieldLink RX8 29 "PlanetWorkshop$State" "gears" "I" ∈ wsX8_springGear by decide +kernel) rfl dX8_springGear_4 ?_
      refine lv_icmp_ge (tgt := 34) hx hb dX8_springGear_7 (by decide) (fun hc3 => ?_) (fun hc3 => ?_)
      · have hF := am_pos hc3 hF
        exact kE y1 ab H locs ls (Option.some.inj hF).symm hh (lv_sub hl [0, 1, 2] rfl)
      · have hF := am_neg hc3 hF
        refine lv_aload_n hx hb dX8_springGear_10 rfl (lv_at hl 1 rfl) ?_
        refine lv_iload_n hx hb dX8_springGear_11 rfl (lv_at hl 0 rfl) ?_
        obtain ⟨r5, hk4, hF⟩ := am_bind hF
        refine am_call X hh (va_runV (As := [.int y1]) (rest := []) X.1 (c_X8_holds l G hk4) (cwV 1 hts gX8_springGear_X8_holds rfl rfl rfl (by decide +kernel) ⟨Nat.le_of_ble_eq_true rfl, Nat.le_of_ble_eq_true rfl⟩) (am_preV X hh 124 10 (by decide) rfl rfl) rfl rfl hl.1 rfl (lv_room (Nat.le_of_ble_eq_true rfl)) dX8_springGear_12 ⟨Nat.le_of_ble_eq_true rfl, Nat.le_of_ble_eq_true rfl⟩) (fun ab H locs hh => ?_)
        refine lv_if_eq (tgt := 28) hx hb dX8_springGear_15 (by decide) (fun hc6 => ?_) (fun hc6 => ?_)
        · have hF := am_pos hc6 hF
          refine lv_iinc (v := (y1 + (1 : Int32))) (lv' := [(2, .int (y1 + (1 : Int32))), (0, .ref (gAd G 124)), (1, .ref (gAd G 1))]) hx hb dX8_springGear_28 hl (k := 0) rfl rfl (by decide) rfl (fun ls hl => ?_)
          refine lv_goto (tgt := 2) hx hb dX8_springGear_31 (by decide) ?_
          exact ih (y1 + (1 : Int32)) ab H locs ls _ hF hh (lv_sub hl [0, 1, 2] rfl) kE kR
        · have hF := am_neg hc6 hF
          refine lv_aload_n hx hb dX8_springGear_18 rfl (lv_at hl 2 rfl) ?_
          refine lv_iload_n hx hb dX8_springGear_19 rfl (lv_at hl 0 rfl) ?_
          obtain ⟨r8, hk7, hF⟩ := am_bind hF
          refine am_call X hh (va_runV (As := [.int y1]) (rest := []) X.1 (c_X7_hasSpring l G hk7) (cwV 1 hts gX8_springGear_X7_hasSpring rfl rfl rfl (by decide +kernel) ⟨Nat.le_of_ble_eq_true rfl, Nat.le_of_ble_eq_true rfl⟩) (am_preV X hh 1 9 (by decide) rfl rfl) rfl rfl hl.1 rfl (lv_room (Nat.le_of_ble_eq_true rfl)) dX8_springGear_20 ⟨Nat.le_of_ble_eq_true rfl, Nat.le_of_ble_eq_true rfl⟩) (fun ab H locs hh => ?_)
          refine lv_if_eq (tgt := 28) hx hb dX8_springGear_23 (by decide) (fun hc9 => ?_) (fun hc9 => ?_)
          · have hF := am_pos hc9 hF
            refine lv_iinc (v := (y1 + (1 : Int32))) (lv' := [(2, .int (y1 + (1 : Int32))), (0, .ref (gAd G 124)), (1, .ref (gAd G 1))]) hx hb dX8_springGear_28 hl (k := 0) rfl rfl (by decide) rfl (fun ls hl => ?_)
            refine lv_goto (tgt := 2) hx hb dX8_springGear_31 (by decide) ?_
            exact ih (y1 + (1 : Int32)) ab H locs ls _ hF hh (lv_sub hl [0, 1, 2] rfl) kE kR
          · have hF := am_neg hc9 hF
            refine lv_iload_n hx hb dX8_springGear_26 rfl (lv_at hl 0 rfl) ?_
            have hF := kR _ (Option.some.inj hF).symm
            exact am_iret X hr hh (fun t ht => am_qp (mk := oI) hF ht) (Nat.le_of_ble_eq_true rfl) (Nat.le_of_ble_eq_true rfl) dX8_springGear_27
  obtain ⟨z10, hz11, hF⟩ := am_bind hF
  refine hlp2 2000 (0 : Int32) ab H locs ls z10 hz11 hh (lv_sub hl [0, 1, 2] rfl) (fun y1 ab H locs ls hz hh hl => ?_) (fun r hz => ?_)
  · subst hz
    have hF := am_zl hF
    refine lv_iconst (v := (-1 : Int32)) hx hb dX8_springGear_34 (by decide) ?_
    exact am_iret X hr hh (fun t ht => am_qp (mk := oI) hF ht) (Nat.le_of_ble_eq_true rfl) (Nat.le_of_ble_eq_true rfl) dX8_springGear_35
  · subst hz
    have hF := am_zr hF
    exact hF
def p_X8_drag_7 (w : Wd) : Nat → Int32 → Int32 → Option ((Int32 × Int32) ⊕ Unit)
  | 0, _, _ => none
  | n + 1, y1, y2 => (if (gI w 1 10) ≤ y2 then (some (.inl (y1, y2))) else ((f_X8_holds w y2).bind fun r6 => (if r6 = 0 then (p_X8_drag_7 w n y1 (y2 + (1 : Int32))) else (if inR y2 10 then (if (gI w 4 (y2).toNatClampNeg) = 0 then (p_X8_drag_7 w n (y1 + (1 : Int32)) (y2 + (1 : Int32))) else (p_X8_drag_7 w n y1 (y2 + (1 : Int32)))) else none))))
def f_X8_drag (w : Wd) : Option Int32 := ((p_X8_drag_7 w 2000 (gI w 124 2) (0 : Int32)).bind fun z => zc z (fun q => u2 q fun y1 y2 => (some y1)) (fun _ => none))
set_option maxHeartbeats 4000000 in
set_option maxRecDepth 100000 in
theorem c_X8_drag (l : Launch) (G : GG) {w : Wd} {r0 : Int32} (hF : f_X8_drag w = some r0) : Met l yX8_drag wsX8_drag ({ frames := 1, cells := 0, slots := 0, locals := 21 } : Room) (va_Pc [.ref (gAd G 124), .ref (gAd G 1)] (Rel G w)) (amQ G (oI r0) w) 0 0 (gA G) := by
  refine am_met (own := RX8) (cc := cX8_drag) (maxL := 4) (ret := (some .int)) (by decide +kernel) rfl rfl (Nat.le_of_ble_eq_true rfl) ?_
  intro p e s m args below meth c ab ls X hr hh hl
  have hx := X.1.1; have hb := X.1.2.1; have hml := X.1.2.2.1; have hown := X.1.2.2.2.1; have hts := X.1.2.2.2.2
  have hl : lv_has ls 4 [(0, .ref (gAd G 124)), (1, .ref (gAd G 1))] := hl
  have hwRX7 : ∀ z ∈ u_ws RX7 TX7 17, z ∈ wsX8_drag := by decide +kernel
  have hwRX8 : ∀ z ∈ u_ws RX8 TX8 3, z ∈ wsX8_drag := by decide +kernel
  unfold f_X8_drag at hF
  refine lv_aload_n hx hb dX8_drag_0 rfl (lv_at hl 0 rfl) ?_
  refine am_getI X hh 124 10 2 (by decide) rfl rfl (by decide) hwRX8 (show Cond.fieldLink RX8 19 "PlanetWorkshop$Train" "size" "I" ∈ wsX8_drag by decide +kernel) rfl dX8_drag_1 ?_
  refine lv_istore_n (lv' := [(2, .int (gI w 124 2)), (0, .ref (gAd G 124)), (1, .ref (gAd G 1))]) hx hb dX8_drag_4 rfl hl (by decide) rfl (fun ls hl => ?_)
  refine lv_iconst (v := (0 : Int32)) hx hb dX8_drag_5 (by decide) ?_
  refine lv_istore_n (lv' := [(3, .int (0 : Int32)), (2, .int (gI w 124 2)), (0, .ref (gAd G 124)), (1, .ref (gAd G 1))]) hx hb dX8_drag_6 rfl hl (by decide) rfl (fun ls hl => ?_)
  have hlp7 : ∀ (n : Nat) (y1 : Int32) (y2 : Int32) (ab : Nat) (H : Heap) (locs : List Loc) (ls : Array Slot) (z : (Int32 × Int32) ⊕ Unit), p_X8_drag_7 w n y1 y2 = some z → AH G s.heap w ab H locs → lv_has ls 4 [(2, .int y1), (3, .int y2), (0, .ref (gAd G 124)), (1, .ref (gAd G 1))] → (∀ (y1 : Int32) (y2 : Int32) (ab : Nat) (H : Heap) (locs : List Loc) (ls : Array Slot), z = .inl (y1, y2) → AH G s.heap w ab H locs → lv_has ls 4 [(2, .int y1), (3, .int y2), (0, .ref (gAd G 124)), (1, .ref (gAd G 1))] → W p l e ({ frames := 1, cells := 0, slots := 0, locals := 21 } : Room) s m args below meth c H locs 0 0 (MQ below (amQ G (oI r0) w) args s 0 0 (gA G)) (F0 m 41 ls [])) → W p l e ({ frames := 1, cells := 0, slots := 0, locals := 21 } : Room) s m args below meth c H locs 0 0 (MQ below (amQ G (oI r0) w) args s 0 0 (gA G)) (F0 m 7 ls []) := by
    intro n
    induction n with
    | zero =>
      intro y1 y2 ab H locs ls z hF
      unfold p_X8_drag_7 at hF
      cases hF
    | succ n ih =>
      intro y1 y2 ab H locs ls z hF hh hl kE
      unfold p_X8_drag_7 at hF
      refine lv_iload_n hx hb dX8_drag_7 rfl (lv_at hl 1 rfl) ?_
      refine lv_aload_n hx hb dX8_drag_8 rfl (lv_at hl 3 rfl) ?_
      refine am_getI X hh 1 9 10 (by decide) rfl rfl (by decide) hwRX7 (show Cond.fieldLink RX8 29 "PlanetWorkshop$State" "gears" "I" ∈ wsX8_drag by decide +kernel) rfl dX8_drag_9 ?_
      refine lv_icmp_ge (tgt := 41) hx hb dX8_drag_12 (by decide) (fun hc4 => ?_) (fun hc4 => ?_)
      · have hF := am_pos hc4 hF
        exact kE y1 y2 ab H locs ls (Option.some.inj hF).symm hh (lv_sub hl [0, 1, 2, 3] rfl)
      · have hF := am_neg hc4 hF
        refine lv_aload_n hx hb dX8_drag_15 rfl (lv_at hl 2 rfl) ?_
        refine lv_iload_n hx hb dX8_drag_16 rfl (lv_at hl 1 rfl) ?_
        obtain ⟨r6, hk5, hF⟩ := am_bind hF
        refine am_call X hh (va_runV (As := [.int y2]) (rest := []) X.1 (c_X8_holds l G hk5) (cwV 1 hts gX8_drag_X8_holds rfl rfl rfl (by decide +kernel) ⟨Nat.le_of_ble_eq_true rfl, Nat.le_of_ble_eq_true rfl⟩) (am_preV X hh 124 10 (by decide) rfl rfl) rfl rfl hl.1 rfl (lv_room (Nat.le_of_ble_eq_true rfl)) dX8_drag_17 ⟨Nat.le_of_ble_eq_true rfl, Nat.le_of_ble_eq_true rfl⟩) (fun ab H locs hh => ?_)
        refine lv_if_eq (tgt := 35) hx hb dX8_drag_20 (by decide) (fun hc7 => ?_) (fun hc7 => ?_)
        · have hF := am_pos hc7 hF
          refine lv_iinc (v := (y2 + (1 : Int32))) (lv' := [(3, .int (y2 + (1 : Int32))), (2, .int y1), (0, .ref (gAd G 124)), (1, .ref (gAd G 1))]) hx hb dX8_drag_35 hl (k := 1) rfl rfl (by decide) rfl (fun ls hl => ?_)
          refine lv_goto (tgt := 7) hx hb dX8_drag_38 (by decide) ?_
          exact ih y1 (y2 + (1 : Int32)) ab H locs ls _ hF hh (lv_sub hl [1, 0, 2, 3] rfl) kE
        · have hF := am_neg hc7 hF
          refine lv_aload_n hx hb dX8_drag_23 rfl (lv_at hl 3 rfl) ?_
          refine am_getR X hh 1 9 2 4 (by decide) rfl rfl (by decide) hwRX7 (show Cond.fieldLink RX8 49 "PlanetWorkshop$State" "oiled" "[Z" ∈ wsX8_drag by decide +kernel) rfl dX8_drag_24 ?_
          refine lv_iload_n hx hb dX8_drag_27 rfl (lv_at hl 1 rfl) ?_
          obtain ⟨hq8, hF⟩ := am_ifR hF
          refine am_zald X hh 4 (by decide) rfl hq8 dX8_drag_28 ?_
          refine lv_if_ne (tgt := 35) hx hb dX8_drag_29 (by decide) (fun hc9 => ?_) (fun hc9 => ?_)
          · have hF := am_neg hc9 hF
            refine lv_iinc (v := (y2 + (1 : Int32))) (lv' := [(3, .int (y2 + (1 : Int32))), (2, .int y1), (0, .ref (gAd G 124)), (1, .ref (gAd G 1))]) hx hb dX8_drag_35 hl (k := 1) rfl rfl (by decide) rfl (fun ls hl => ?_)
            refine lv_goto (tgt := 7) hx hb dX8_drag_38 (by decide) ?_
            exact ih y1 (y2 + (1 : Int32)) ab H locs ls _ hF hh (lv_sub hl [1, 0, 2, 3] rfl) kE
          · have hF := am_pos hc9 hF
            refine lv_iinc (v := (y1 + (1 : Int32))) (lv' := [(2, .int (y1 + (1 : Int32))), (3, .int y2), (0, .ref (gAd G 124)), (1, .ref (gAd G 1))]) hx hb dX8_drag_32 hl (k := 0) rfl rfl (by decide) rfl (fun ls hl => ?_)
            refine lv_iinc (v := (y2 + (1 : Int32))) (lv' := [(3, .int (y2 + (1 : Int32))), (2, .int (y1 + (1 : Int32))), (0, .ref (gAd G 124)), (1, .ref (gAd G 1))]) hx hb dX8_drag_35 hl (k := 1) rfl rfl (by decide) rfl (fun ls hl => ?_)
            refine lv_goto (tgt := 7) hx hb dX8_drag_38 (by decide) ?_
            exact ih (y1 + (1 : Int32)) (y2 + (1 : Int32)) ab H locs ls _ hF hh (lv_sub hl [1, 0, 2, 3] rfl) kE
  obtain ⟨z10, hz11, hF⟩ := am_bind hF
  refine hlp7 2000 (gI w 124 2) (0 : Int32) ab H locs ls z10 hz11 hh (lv_sub hl [1, 0, 2, 3] rfl) (fun y1 y2 ab H locs ls hz hh hl => ?_)
  · subst hz
    have hF := am_u2 (am_zl hF)
    refine lv_iload_n hx hb dX8_drag_41 rfl (lv_at hl 0 rfl) ?_
    exact am_iret X hr hh (fun t ht => am_qp (mk := oI) hF ht) (Nat.le_of_ble_eq_true rfl) (Nat.le_of_ble_eq_true rfl) dX8_drag_42
def p_X8_isBlocked_2 (w : Wd) (x2 : Int32) : Nat → Int32 → Option ((Int32) ⊕ Int32)
  | 0, _ => none
  | n + 1, y1 => (if (gI w 1 10) ≤ y1 then (some (.inl y1)) else (if inR x2 10 then (if (gI w 9 (x2).toNatClampNeg) = 0 then (if inR y1 10 then (if (0 : Int64) ≤ (gL w 125 (y1).toNatClampNeg) then (p_X8_isBlocked_2 w x2 n (y1 + (1 : Int32))) else (if inR y1 10 then (if (gI w 6 (y1).toNatClampNeg) = 0 then (p_X8_isBlocked_2 w x2 n (y1 + (1 : Int32))) else (some (.inr (1 : Int32)))) else none)) else none) else (if inR y1 10 then (if (gL w 125 (y1).toNatClampNeg) ≤ (0 : Int64) then (p_X8_isBlocked_2 w x2 n (y1 + (1 : Int32))) else (if inR y1 10 then (if (gI w 6 (y1).toNatClampNeg) = 0 then (p_X8_isBlocked_2 w x2 n (y1 + (1 : Int32))) else (some (.inr (1 : Int32)))) else none)) else none)) else none))
def f_X8_isBlocked (w : Wd) (x2 : Int32) : Option Int32 := ((p_X8_isBlocked_2 w x2 2000 (0 : Int32)).bind fun z => zc z (fun y1 => (some (0 : Int32))) (fun r => (some r)))
set_option maxHeartbeats 4000000 in
set_option maxRecDepth 100000 in
theorem c_X8_isBlocked (l : Launch) (G : GG) {w : Wd} {x2 : Int32} {r0 : Int32} (hF : f_X8_isBlocked w x2 = some r0) : Met l yX8_isBlocked wsX8_isBlocked ({ frames := 0, cells := 0, slots := 0, locals := 0 } : Room) (va_Pc [.ref (gAd G 124), .ref (gAd G 1), .int x2] (Rel G w)) (amQ G (oI r0) w) 0 0 (gA G) := by
  refine am_met (own := RX8) (cc := cX8_isBlocked) (maxL := 5) (ret := (some .boolean)) (by decide +kernel) rfl rfl (Nat.le_of_ble_eq_true rfl) ?_
  intro p e s m args below meth c ab ls X hr hh hl
  have hx := X.1.1; have hb := X.1.2.1; have hml := X.1.2.2.1; have hown := X.1.2.2.2.1; have hts := X.1.2.2.2.2
  have hl : lv_has ls 5 [(0, .ref (gAd G 124)), (1, .ref (gAd G 1)), (2, .int x2)] := hl
  have hwRX7 : ∀ z ∈ u_ws RX7 TX7 17, z ∈ wsX8_isBlocked := by decide +kernel
  have hwRX8 : ∀ z ∈ u_ws RX8 TX8 3, z ∈ wsX8_isBlocked := by decide +kernel
  unfold f_X8_isBlocked at hF
  refine lv_iconst (v := (0 : Int32)) hx hb dX8_isBlocked_0 (by decide) ?_
  refine lv_istore_n (lv' := [(3, .int (0 : Int32)), (0, .ref (gAd G 124)), (1, .ref (gAd G 1)), (2, .int x2)]) hx hb dX8_isBlocked_1 rfl hl (by decide) rfl (fun ls hl => ?_)
  have hlp2 : ∀ (n : Nat) (y1 : Int32) (ab : Nat) (H : Heap) (locs : List Loc) (ls : Array Slot) (z : (Int32) ⊕ Int32), p_X8_isBlocked_2 w x2 n y1 = some z → AH G s.heap w ab H locs → lv_has ls 5 [(3, .int y1), (0, .ref (gAd G 124)), (1, .ref (gAd G 1)), (2, .int x2)] → (∀ (y1 : Int32) (ab : Nat) (H : Heap) (locs : List Loc) (ls : Array Slot), z = .inl y1 → AH G s.heap w ab H locs → lv_has ls 5 [(3, .int y1), (0, .ref (gAd G 124)), (1, .ref (gAd G 1)), (2, .int x2)] → W p l e ({ frames := 0, cells := 0, slots := 0, locals := 0 } : Room) s m args below meth c H locs 0 0 (MQ below (amQ G (oI r0) w) args s 0 0 (gA G)) (F0 m 78 ls [])) → (∀ r, z = .inr r → some r = some r0) → W p l e ({ frames := 0, cells := 0, slots := 0, locals := 0 } : Room) s m args below meth c H locs 0 0 (MQ below (amQ G (oI r0) w) args s 0 0 (gA G)) (F0 m 2 ls []) := by
    intro n
    induction n with
    | zero =>
      intro y1 ab H locs ls z hF
      unfold p_X8_isBlocked_2 at hF
      cases hF
    | succ n ih =>
      intro y1 ab H locs ls z hF hh hl kE kR
      unfold p_X8_isBlocked_2 at hF
      refine lv_iload_n hx hb dX8_isBlocked_2 rfl (lv_at hl 0 rfl) ?_
      refine lv_aload_n hx hb dX8_isBlocked_3 rfl (lv_at hl 2 rfl) ?_
      refine am_getI X hh 1 9 10 (by decide) rfl rfl (by decide) hwRX7 (show Cond.fieldLink RX8 29 "PlanetWorkshop$State" "gears" "I" ∈ wsX8_isBlocked by decide +kernel) rfl dX8_isBlocked_4 ?_
      refine lv_icmp_ge (tgt := 78) hx hb dX8_isBlocked_7 (by decide) (fun hc3 => ?_) (fun hc3 => ?_)
      · have hF := am_pos hc3 hF
        exact kE y1 ab H locs ls (Option.some.inj hF).symm hh (lv_sub hl [0, 1, 2, 3] rfl)
      · have hF := am_neg hc3 hF
        refine lv_aload_n hx hb dX8_isBlocked_10 rfl (lv_at hl 2 rfl) ?_
        refine am_getR X hh 1 9 7 9 (by decide) rfl rfl (by decide) hwRX7 (show Cond.fieldLink RX8 53 "PlanetWorkshop$State" "reversed" "[Z" ∈ wsX8_isBlocked by decide +kernel) rfl dX8_isBlocked_11 ?_
        refine lv_iload_n hx hb dX8_isBlocked_14 rfl (lv_at hl 3 rfl) ?_
        obtain ⟨hq4, hF⟩ := am_ifR hF
        refine am_zald X hh 9 (by decide) rfl hq4 dX8_isBlocked_15 ?_
        refine lv_if_eq (tgt := 38) hx hb dX8_isBlocked_16 (by decide) (fun hc5 => ?_) (fun hc5 => ?_)
        · have hF := am_pos hc5 hF
          refine lv_aload_n hx hb dX8_isBlocked_38 rfl (lv_at hl 1 rfl) ?_
          refine am_getR X hh 124 10 0 125 (by decide) rfl rfl (by decide) hwRX8 (show Cond.fieldLink RX8 9 "PlanetWorkshop$Train" "units" "[J" ∈ wsX8_isBlocked by decide +kernel) rfl dX8_isBlocked_39 ?_
          refine lv_iload_n hx hb dX8_isBlocked_42 rfl (lv_at hl 0 rfl) ?_
          obtain ⟨hq6, hF⟩ := am_ifR hF
          refine am_lald X hh 125 (by decide) rfl hq6 dX8_isBlocked_43 ?_
          refine lv_lconst (v := (0 : Int64)) hx hb dX8_isBlocked_44 (by decide) ?_
          refine am_lcmp_ge (tgt := 53) hx hb dX8_isBlocked_45 dX8_isBlocked_46 (by decide) (fun hc7 => ?_) (fun hc7 => ?_)
          · have hF := am_pos hc7 hF
            refine lv_iconst (v := (0 : Int32)) hx hb dX8_isBlocked_53 (by decide) ?_
            refine lv_istore (lv' := [(4, .int (0 : Int32)), (3, .int y1), (0, .ref (gAd G 124)), (1, .ref (gAd G 1)), (2, .int x2)]) hx hb dX8_isBlocked_54 hl (by decide) rfl (fun ls hl => ?_)
            refine lv_iload hx hb dX8_isBlocked_56 (lv_at hl 0 rfl) ?_
            refine lv_if_eq (tgt := 72) hx hb dX8_isBlocked_58 (by decide) (fun _ => ?_) (fun hz => absurd (by decide) hz)
            refine lv_iinc (v := (y1 + (1 : Int32))) (lv' := [(3, .int (y1 + (1 : Int32))), (4, .int (0 : Int32)), (0, .ref (gAd G 124)), (1, .ref (gAd G 1)), (2, .int x2)]) hx hb dX8_isBlocked_72 hl (k := 1) rfl rfl (by decide) rfl (fun ls hl => ?_)
            refine lv_goto (tgt := 2) hx hb dX8_isBlocked_75 (by decide) ?_
            exact ih (y1 + (1 : Int32)) ab H locs ls _ hF hh (lv_sub hl [0, 2, 3, 4] rfl) kE kR
          · have hF := am_neg hc7 hF
            refine lv_iconst (v := (1 : Int32)) hx hb dX8_isBlocked_49 (by decide) ?_
            refine lv_goto (tgt := 54) hx hb dX8_isBlocked_50 (by decide) ?_
            refine lv_istore (lv' := [(4, .int (1 : Int32)), (3, .int y1), (0, .ref (gAd G 124)), (1, .ref (gAd G 1)), (2, .int x2)]) hx hb dX8_isBlocked_54 hl (by decide) rfl (fun ls hl => ?_)
            refine lv_iload hx hb dX8_isBlocked_56 (lv_at hl 0 rfl) ?_
            refine lv_if_eq (tgt := 72) hx hb dX8_isBlocked_58 (by decide) (fun hz => absurd hz (by decide)) (fun _ => ?_)
            refine lv_aload_n hx hb dX8_isBlocked_61 rfl (lv_at hl 3 rfl) ?_
            refine am_getR X hh 1 9 4 6 (by decide) rfl rfl (by decide) hwRX7 (show Cond.fieldLink RX8 56 "PlanetWorkshop$State" "ratchets" "[Z" ∈ wsX8_isBlocked by decide +kernel) rfl dX8_isBlocked_62 ?_
            refine lv_iload_n hx hb dX8_isBlocked_65 rfl (lv_at hl 1 rfl) ?_
            obtain ⟨hq8, hF⟩ := am_ifR hF
            refine am_zald X hh 6 (by decide) rfl hq8 dX8_isBlocked_66 ?_
            refine lv_if_eq (tgt := 72) hx hb dX8_isBlocked_67 (by decide) (fun hc9 => ?_) (fun hc9 => ?_)
            · have hF := am_pos hc9 hF
              refine lv_iinc (v := (y1 + (1 : Int32))) (lv' := [(3, .int (y1 + (1 : Int32))), (4, .int (1 : Int32)), (0, .ref (gAd G 124)), (1, .ref (gAd G 1)), (2, .int x2)]) hx hb dX8_isBlocked_72 hl (k := 1) rfl rfl (by decide) rfl (fun ls hl => ?_)
              refine lv_goto (tgt := 2) hx hb dX8_isBlocked_75 (by decide) ?_
              exact ih (y1 + (1 : Int32)) ab H locs ls _ hF hh (lv_sub hl [0, 2, 3, 4] rfl) kE kR
            · have hF := am_neg hc9 hF
              refine lv_iconst (v := (1 : Int32)) hx hb dX8_isBlocked_70 (by decide) ?_
              have hF := kR _ (Option.some.inj hF).symm
              exact am_zret (v' := (1 : Int32)) X hr rfl hh (fun t ht => am_qp (mk := oI) hF ht) (Nat.le_of_ble_eq_true rfl) (Nat.le_of_ble_eq_true rfl) dX8_isBlocked_71
        · have hF := am_neg hc5 hF
          refine lv_aload_n hx hb dX8_isBlocked_19 rfl (lv_at hl 1 rfl) ?_
          refine am_getR X hh 124 10 0 125 (by decide) rfl rfl (by decide) hwRX8 (show Cond.fieldLink RX8 9 "PlanetWorkshop$Train" "units" "[J" ∈ wsX8_isBlocked by decide +kernel) rfl dX8_isBlocked_20 ?_
          refine lv_iload_n hx hb dX8_isBlocked_23 rfl (lv_at hl 0 rfl) ?_
          obtain ⟨hq10, hF⟩ := am_ifR hF
          refine am_lald X hh 125 (by decide) rfl hq10 dX8_isBlocked_24 ?_
          refine lv_lconst (v := (0 : Int64)) hx hb dX8_isBlocked_25 (by decide) ?_
          refine am_lcmp_le (tgt := 34) hx hb dX8_isBlocked_26 dX8_isBlocked_27 (by decide) (fun hc11 => ?_) (fun hc11 => ?_)
          · have hF := am_pos hc11 hF
            refine lv_iconst (v := (0 : Int32)) hx hb dX8_isBlocked_34 (by decide) ?_
            refine lv_goto (tgt := 54) hx hb dX8_isBlocked_35 (by decide) ?_
            refine lv_istore (lv' := [(4, .int (0 : Int32)), (3, .int y1), (0, .ref (gAd G 124)), (1, .ref (gAd G 1)), (2, .int x2)]) hx hb dX8_isBlocked_54 hl (by decide) rfl (fun ls hl => ?_)
            refine lv_iload hx hb dX8_isBlocked_56 (lv_at hl 0 rfl) ?_
            refine lv_if_eq (tgt := 72) hx hb dX8_isBlocked_58 (by decide) (fun _ => ?_) (fun hz => absurd (by decide) hz)
            refine lv_iinc (v := (y1 + (1 : Int32))) (lv' := [(3, .int (y1 + (1 : Int32))), (4, .int (0 : Int32)), (0, .ref (gAd G 124)), (1, .ref (gAd G 1)), (2, .int x2)]) hx hb dX8_isBlocked_72 hl (k := 1) rfl rfl (by decide) rfl (fun ls hl => ?_)
            refine lv_goto (tgt := 2) hx hb dX8_isBlocked_75 (by decide) ?_
            exact ih (y1 + (1 : Int32)) ab H locs ls _ hF hh (lv_sub hl [0, 2, 3, 4] rfl) kE kR
          · have hF := am_neg hc11 hF
            refine lv_iconst (v := (1 : Int32)) hx hb dX8_isBlocked_30 (by decide) ?_
            refine lv_goto (tgt := 54) hx hb dX8_isBlocked_31 (by decide) ?_
            refine lv_istore (lv' := [(4, .int (1 : Int32)), (3, .int y1), (0, .ref (gAd G 124)), (1, .ref (gAd G 1)), (2, .int x2)]) hx hb dX8_isBlocked_54 hl (by decide) rfl (fun ls hl => ?_)
            refine lv_iload hx hb dX8_isBlocked_56 (lv_at hl 0 rfl) ?_
            refine lv_if_eq (tgt := 72) hx hb dX8_isBlocked_58 (by decide) (fun hz => absurd hz (by decide)) (fun _ => ?_)
            refine lv_aload_n hx hb dX8_isBlocked_61 rfl (lv_at hl 3 rfl) ?_
            refine am_getR X hh 1 9 4 6 (by decide) rfl rfl (by decide) hwRX7 (show Cond.fieldLink RX8 56 "PlanetWorkshop$State" "ratchets" "[Z" ∈ wsX8_isBlocked by decide +kernel) rfl dX8_isBlocked_62 ?_
            refine lv_iload_n hx hb dX8_isBlocked_65 rfl (lv_at hl 1 rfl) ?_
            obtain ⟨hq12, hF⟩ := am_ifR hF
            refine am_zald X hh 6 (by decide) rfl hq12 dX8_isBlocked_66 ?_
            refine lv_if_eq (tgt := 72) hx hb dX8_isBlocked_67 (by decide) (fun hc13 => ?_) (fun hc13 => ?_)
            · have hF := am_pos hc13 hF
              refine lv_iinc (v := (y1 + (1 : Int32))) (lv' := [(3, .int (y1 + (1 : Int32))), (4, .int (1 : Int32)), (0, .ref (gAd G 124)), (1, .ref (gAd G 1)), (2, .int x2)]) hx hb dX8_isBlocked_72 hl (k := 1) rfl rfl (by decide) rfl (fun ls hl => ?_)
              refine lv_goto (tgt := 2) hx hb dX8_isBlocked_75 (by decide) ?_
              exact ih (y1 + (1 : Int32)) ab H locs ls _ hF hh (lv_sub hl [0, 2, 3, 4] rfl) kE kR
            · have hF := am_neg hc13 hF
              refine lv_iconst (v := (1 : Int32)) hx hb dX8_isBlocked_70 (by decide) ?_
              have hF := kR _ (Option.some.inj hF).symm
              exact am_zret (v' := (1 : Int32)) X hr rfl hh (fun t ht => am_qp (mk := oI) hF ht) (Nat.le_of_ble_eq_true rfl) (Nat.le_of_ble_eq_true rfl) dX8_isBlocked_71
  obtain ⟨z14, hz15, hF⟩ := am_bind hF
  refine hlp2 2000 (0 : Int32) ab H locs ls z14 hz15 hh (lv_sub hl [0, 1, 2, 3] rfl) (fun y1 ab H locs ls hz hh hl => ?_) (fun r hz => ?_)
  · subst hz
    have hF := am_zl hF
    refine lv_iconst (v := (0 : Int32)) hx hb dX8_isBlocked_78 (by decide) ?_
    exact am_zret (v' := (0 : Int32)) X hr rfl hh (fun t ht => am_qp (mk := oI) hF ht) (Nat.le_of_ble_eq_true rfl) (Nat.le_of_ble_eq_true rfl) dX8_isBlocked_79
  · subst hz
    have hF := am_zr hF
    exact hF
def f_X7_unitsBehind (w : Wd) (x1 : Int64) (x3 : Int32) (x4 : Int32) (x5 : Int32) : Option Int64 := (if x5 = (97 : Int32) then (some x1) else (if inR x3 10 then (if inR x4 10 then ((f_X4_quotient (x1 * ((gI w 2 (x3).toNatClampNeg)).toInt64) (((gI w 2 (x4).toNatClampNeg)).toInt64)).bind fun r5 => (some (-r5))) else none) else none))
set_option maxHeartbeats 4000000 in
set_option maxRecDepth 100000 in
theorem c_X7_unitsBehind (l : Launch) (G : GG) {w : Wd} {x1 : Int64} {x3 : Int32} {x4 : Int32} {x5 : Int32} {r0 : Int64} (hF : f_X7_unitsBehind w x1 x3 x4 x5 = some r0) : Met l yX7_unitsBehind wsX7_unitsBehind ({ frames := 2, cells := 0, slots := 0, locals := 48 } : Room) (va_Pc [.ref (gAd G 1), .long x1, .int x3, .int x4, .int x5] (Rel G w)) (amQ G (oL r0) w) 0 0 (gA G) := by
  refine am_met (own := RX7) (cc := cX7_unitsBehind) (maxL := 6) (ret := (some .long)) (by decide +kernel) rfl rfl (Nat.le_of_ble_eq_true rfl) ?_
  intro p e s m args below meth c ab ls X hr hh hl
  have hx := X.1.1; have hb := X.1.2.1; have hml := X.1.2.2.1; have hown := X.1.2.2.2.1; have hts := X.1.2.2.2.2
  have hl : lv_has ls 6 [(0, .ref (gAd G 1)), (1, .long x1), (3, .int x3), (4, .int x4), (5, .int x5)] := hl
  have hwRX7 : ∀ z ∈ u_ws RX7 TX7 17, z ∈ wsX7_unitsBehind := by decide +kernel
  unfold f_X7_unitsBehind at hF
  refine lv_iload hx hb dX7_unitsBehind_0 (lv_at hl 4 rfl) ?_
  refine lv_bipush (v := (97 : Int32)) hx hb dX7_unitsBehind_2 (by decide) ?_
  refine lv_icmp_ne (tgt := 9) hx hb dX7_unitsBehind_4 (by decide) (fun hc1 => ?_) (fun hc1 => ?_)
  · have hF := am_neg hc1 hF
    refine lv_lload_n hx hb dX7_unitsBehind_9 rfl (lv_at hl 1 rfl) ?_
    refine lv_aload_n hx hb dX7_unitsBehind_10 rfl (lv_at hl 0 rfl) ?_
    refine am_getR X hh 1 9 0 2 (by decide) rfl rfl (by decide) hwRX7 (show Cond.fieldLink RX7 9 "PlanetWorkshop$State" "teeth" "[I" ∈ wsX7_unitsBehind by decide +kernel) rfl dX7_unitsBehind_11 ?_
    refine lv_iload_n hx hb dX7_unitsBehind_14 rfl (lv_at hl 2 rfl) ?_
    obtain ⟨hq2, hF⟩ := am_ifR hF
    refine am_iald X hh 2 (by decide) rfl hq2 dX7_unitsBehind_15 ?_
    refine lv_i2l hx hb dX7_unitsBehind_16 rfl ?_
    refine lv_lmul hx hb dX7_unitsBehind_17 ?_
    refine lv_aload_n hx hb dX7_unitsBehind_18 rfl (lv_at hl 0 rfl) ?_
    refine am_getR X hh 1 9 0 2 (by decide) rfl rfl (by decide) hwRX7 (show Cond.fieldLink RX7 9 "PlanetWorkshop$State" "teeth" "[I" ∈ wsX7_unitsBehind by decide +kernel) rfl dX7_unitsBehind_19 ?_
    refine lv_iload hx hb dX7_unitsBehind_22 (lv_at hl 3 rfl) ?_
    obtain ⟨hq3, hF⟩ := am_ifR hF
    refine am_iald X hh 2 (by decide) rfl hq3 dX7_unitsBehind_24 ?_
    refine lv_i2l hx hb dX7_unitsBehind_25 rfl ?_
    obtain ⟨r5, hk4, hF⟩ := am_bind hF
    refine am_call X hh (va_runS (As := [.long (x1 * ((gI w 2 (x3).toNatClampNeg)).toInt64), .long (((gI w 2 (x4).toNatClampNeg)).toInt64)]) (rest := []) X.1 (c_X4_quotient l G hk4) (va_cwS 2 hts gX7_unitsBehind_X4_quotient rfl rfl rfl (by decide +kernel) ⟨Nat.le_of_ble_eq_true rfl, Nat.le_of_ble_eq_true rfl⟩) (am_preS X hh) rfl rfl hl.1 rfl (lv_room (Nat.le_of_ble_eq_true rfl)) dX7_unitsBehind_26 ⟨Nat.le_of_ble_eq_true rfl, Nat.le_of_ble_eq_true rfl⟩) (fun ab H locs hh => ?_)
    refine lv_lneg hx hb dX7_unitsBehind_29 ?_
    exact am_lret X hr hh (fun t ht => am_qp (mk := oL) hF ht) (Nat.le_of_ble_eq_true rfl) (Nat.le_of_ble_eq_true rfl) dX7_unitsBehind_30
  · have hF := am_pos hc1 hF
    refine lv_lload_n hx hb dX7_unitsBehind_7 rfl (lv_at hl 1 rfl) ?_
    exact am_lret X hr hh (fun t ht => am_qp (mk := oL) hF ht) (Nat.le_of_ble_eq_true rfl) (Nat.le_of_ble_eq_true rfl) dX7_unitsBehind_8
def p_X8_trace_2 : Nat → Int32 → Wd → Option ((Int32 × Wd) ⊕ Unit)
  | 0, _, _ => none
  | n + 1, y1, w2 => (if (10 : Int32) ≤ y1 then (some (.inl (y1, w2))) else (if inR y1 10 then (p_X8_trace_2 n (y1 + (1 : Int32)) (uL w2 125 (y1).toNatClampNeg (0 : Int64))) else none))
def p_X8_trace_61 (c18 : Int32) : Nat → Int32 → Wd → Option ((Int32 × Wd) ⊕ Unit)
  | 0, _, _ => none
  | n + 1, y17, w19 => (if (gI w19 1 10) ≤ y17 then (some (.inl (y17, w19))) else ((f_X7_jointOf w19 c18 y17).bind fun r23 => (if r23 = 0 then (p_X8_trace_61 c18 n (y17 + (1 : Int32)) w19) else (if inR y17 10 then (if (gL w19 125 (y17).toNatClampNeg) = (0 : Int64) then (if inR c18 10 then ((f_X7_unitsBehind w19 (gL w19 125 (c18).toNatClampNeg) c18 y17 r23).bind fun r29 => ((f_X8_reach w19 y17 r29).bind fun w32 => (p_X8_trace_61 c18 n (y17 + (1 : Int32)) w32))) else none) else (p_X8_trace_61 c18 n (y17 + (1 : Int32)) w19)) else none))))
def p_X8_trace_36 : Nat → Int32 → Wd → Option ((Int32 × Wd) ⊕ Unit)
  | 0, _, _ => none
  | n + 1, y11, w12 => (if (gI w12 124 2) ≤ y11 then (some (.inl (y11, w12))) else (if (10 : Int32) ≤ y11 then (some (.inl (y11, w12))) else (if inR y11 10 then ((p_X8_trace_61 (gI w12 126 (y11).toNatClampNeg) 2000 (0 : Int32) w12).bind fun z => zc z (fun q => u2 q fun y17 w19 => (p_X8_trace_36 n (y11 + (1 : Int32)) w19)) (fun _ => none)) else none)))
def f_X8_trace (w : Wd) (x2 : Int32) : Option Wd := ((p_X8_trace_2 2000 (0 : Int32) w).bind fun z => zc z (fun q => u2 q fun y1 w2 => ((f_X8_reach (uI w2 124 2 (0 : Int32)) x2 (24883200000 : Int64)).bind fun w10 => ((p_X8_trace_36 2000 (0 : Int32) w10).bind fun z => zc z (fun q => u2 q fun y11 w12 => (some w12)) (fun _ => none)))) (fun _ => none))
set_option maxHeartbeats 4000000 in
set_option maxRecDepth 100000 in
theorem c_X8_trace (l : Launch) (G : GG) {w : Wd} {x2 : Int32} {w1 : Wd} (hF : f_X8_trace w x2 = some w1) : Met l yX8_trace wsX8_trace ({ frames := 3, cells := 0, slots := 0, locals := 73 } : Room) (va_Pc [.ref (gAd G 124), .ref (gAd G 1), .int x2] (Rel G w)) (amQ G none w1) 0 0 (gA G) := by
  refine am_met (own := RX8) (cc := cX8_trace) (maxL := 7) (ret := none) (by decide +kernel) rfl rfl (Nat.le_of_ble_eq_true rfl) ?_
  intro p e s m args below meth c ab ls X hr hh hl
  have hx := X.1.1; have hb := X.1.2.1; have hml := X.1.2.2.1; have hown := X.1.2.2.2.1; have hts := X.1.2.2.2.2
  have hl : lv_has ls 7 [(0, .ref (gAd G 124)), (1, .ref (gAd G 1)), (2, .int x2)] := hl
  have hwRX7 : ∀ z ∈ u_ws RX7 TX7 17, z ∈ wsX8_trace := by decide +kernel
  have hwRX8 : ∀ z ∈ u_ws RX8 TX8 3, z ∈ wsX8_trace := by decide +kernel
  unfold f_X8_trace at hF
  refine lv_iconst (v := (0 : Int32)) hx hb dX8_trace_0 (by decide) ?_
  refine lv_istore_n (lv' := [(3, .int (0 : Int32)), (0, .ref (gAd G 124)), (1, .ref (gAd G 1)), (2, .int x2)]) hx hb dX8_trace_1 rfl hl (by decide) rfl (fun ls hl => ?_)
  have hlp2 : ∀ (n : Nat) (y1 : Int32) (w2 : Wd) (ab : Nat) (H : Heap) (locs : List Loc) (ls : Array Slot) (z : (Int32 × Wd) ⊕ Unit), p_X8_trace_2 n y1 w2 = some z → AH G s.heap w2 ab H locs → lv_has ls 7 [(3, .int y1), (0, .ref (gAd G 124)), (1, .ref (gAd G 1)), (2, .int x2)] → (∀ (y1 : Int32) (w2 : Wd) (ab : Nat) (H : Heap) (locs : List Loc) (ls : Array Slot), z = .inl (y1, w2) → AH G s.heap w2 ab H locs → lv_has ls 7 [(3, .int y1), (0, .ref (gAd G 124)), (1, .ref (gAd G 1)), (2, .int x2)] → W p l e ({ frames := 3, cells := 0, slots := 0, locals := 73 } : Room) s m args below meth c H locs 0 0 (MQ below (amQ G none w1) args s 0 0 (gA G)) (F0 m 21 ls [])) → W p l e ({ frames := 3, cells := 0, slots := 0, locals := 73 } : Room) s m args below meth c H locs 0 0 (MQ below (amQ G none w1) args s 0 0 (gA G)) (F0 m 2 ls []) := by
    intro n
    induction n with
    | zero =>
      intro y1 w2 ab H locs ls z hF
      unfold p_X8_trace_2 at hF
      cases hF
    | succ n ih =>
      intro y1 w2 ab H locs ls z hF hh hl kE
      unfold p_X8_trace_2 at hF
      refine lv_iload_n hx hb dX8_trace_2 rfl (lv_at hl 0 rfl) ?_
      refine lv_bipush (v := (10 : Int32)) hx hb dX8_trace_3 (by decide) ?_
      refine lv_icmp_ge (tgt := 21) hx hb dX8_trace_5 (by decide) (fun hc4 => ?_) (fun hc4 => ?_)
      · have hF := am_pos hc4 hF
        exact kE y1 w2 ab H locs ls (Option.some.inj hF).symm hh (lv_sub hl [0, 1, 2, 3] rfl)
      · have hF := am_neg hc4 hF
        refine lv_aload_n hx hb dX8_trace_8 rfl (lv_at hl 1 rfl) ?_
        refine am_getR X hh 124 10 0 125 (by decide) rfl rfl (by decide) hwRX8 (show Cond.fieldLink RX8 9 "PlanetWorkshop$Train" "units" "[J" ∈ wsX8_trace by decide +kernel) rfl dX8_trace_9 ?_
        refine lv_iload_n hx hb dX8_trace_12 rfl (lv_at hl 0 rfl) ?_
        refine lv_lconst (v := (0 : Int64)) hx hb dX8_trace_13 (by decide) ?_
        obtain ⟨hq5, hF⟩ := am_ifR hF
        refine am_last X hh 125 (by decide) rfl hq5 dX8_trace_14 (fun H locs hh => ?_)
        refine lv_iinc (v := (y1 + (1 : Int32))) (lv' := [(3, .int (y1 + (1 : Int32))), (0, .ref (gAd G 124)), (1, .ref (gAd G 1)), (2, .int x2)]) hx hb dX8_trace_15 hl (k := 0) rfl rfl (by decide) rfl (fun ls hl => ?_)
        refine lv_goto (tgt := 2) hx hb dX8_trace_18 (by decide) ?_
        exact ih (y1 + (1 : Int32)) (uL w2 125 (y1).toNatClampNeg (0 : Int64)) ab H locs ls _ hF hh (lv_sub hl [0, 1, 2, 3] rfl) kE
  obtain ⟨z6, hz7, hF⟩ := am_bind hF
  refine hlp2 2000 (0 : Int32) w ab H locs ls z6 hz7 hh (lv_sub hl [0, 1, 2, 3] rfl) (fun y1 w2 ab H locs ls hz hh hl => ?_)
  · subst hz
    have hF := am_u2 (am_zl hF)
    refine lv_aload_n hx hb dX8_trace_21 rfl (lv_at hl 1 rfl) ?_
    refine lv_iconst (v := (0 : Int32)) hx hb dX8_trace_22 (by decide) ?_
    refine am_putI X hh 124 10 2 (by decide) rfl rfl (by decide) hwRX8 tyX8 tyX8_ok nmX8 (show Cond.fieldLink RX8 19 "PlanetWorkshop$Train" "size" "I" ∈ wsX8_trace by decide +kernel) rfl rfl rfl rfl dX8_trace_23 (fun H locs hh => ?_)
    refine lv_aload_n hx hb dX8_trace_26 rfl (lv_at hl 1 rfl) ?_
    refine lv_iload_n hx hb dX8_trace_27 rfl (lv_at hl 3 rfl) ?_
    refine lv_ldc2 (v := (24883200000 : Int64)) hx hb hown (hts _ (show Cond.constantLong RX8 23 (24883200000) ∈ wsX8_trace by decide +kernel)) dX8_trace_28 ?_
    obtain ⟨w10, hk8, hF⟩ := am_bind hF
    refine am_call X hh (va_runV (As := [.int x2, .long (24883200000 : Int64)]) (rest := []) X.1 (c_X8_reach l G hk8) (cwV 2 hts gX8_trace_X8_reach rfl rfl rfl (by decide +kernel) ⟨Nat.le_of_ble_eq_true rfl, Nat.le_of_ble_eq_true rfl⟩) (am_preV X hh 124 10 (by decide) rfl rfl) rfl rfl hl.1 rfl (lv_room (Nat.le_of_ble_eq_true rfl)) dX8_trace_31 ⟨Nat.le_of_ble_eq_true rfl, Nat.le_of_ble_eq_true rfl⟩) (fun ab H locs hh => ?_)
    refine lv_iconst (v := (0 : Int32)) hx hb dX8_trace_34 (by decide) ?_
    refine lv_istore_n (lv' := [(3, .int (0 : Int32)), (0, .ref (gAd G 124)), (1, .ref (gAd G 1)), (2, .int x2)]) hx hb dX8_trace_35 rfl hl (by decide) rfl (fun ls hl => ?_)
    have hlp36 : ∀ (n : Nat) (y11 : Int32) (w12 : Wd) (ab : Nat) (H : Heap) (locs : List Loc) (ls : Array Slot) (z : (Int32 × Wd) ⊕ Unit), p_X8_trace_36 n y11 w12 = some z → AH G s.heap w12 ab H locs → lv_has ls 7 [(3, .int y11), (0, .ref (gAd G 124)), (1, .ref (gAd G 1)), (2, .int x2)] → (∀ (y11 : Int32) (w12 : Wd) (ab : Nat) (H : Heap) (locs : List Loc) (ls : Array Slot), z = .inl (y11, w12) → AH G s.heap w12 ab H locs → lv_has ls 7 [(3, .int y11), (0, .ref (gAd G 124)), (1, .ref (gAd G 1)), (2, .int x2)] → W p l e ({ frames := 3, cells := 0, slots := 0, locals := 73 } : Room) s m args below meth c H locs 0 0 (MQ below (amQ G none w1) args s 0 0 (gA G)) (F0 m 132 ls [])) → W p l e ({ frames := 3, cells := 0, slots := 0, locals := 73 } : Room) s m args below meth c H locs 0 0 (MQ below (amQ G none w1) args s 0 0 (gA G)) (F0 m 36 ls []) := by
      intro n
      induction n with
      | zero =>
        intro y11 w12 ab H locs ls z hF
        unfold p_X8_trace_36 at hF
        cases hF
      | succ n ih =>
        intro y11 w12 ab H locs ls z hF hh hl kE
        unfold p_X8_trace_36 at hF
        refine lv_iload_n hx hb dX8_trace_36 rfl (lv_at hl 0 rfl) ?_
        refine lv_aload_n hx hb dX8_trace_37 rfl (lv_at hl 1 rfl) ?_
        refine am_getI X hh 124 10 2 (by decide) rfl rfl (by decide) hwRX8 (show Cond.fieldLink RX8 19 "PlanetWorkshop$Train" "size" "I" ∈ wsX8_trace by decide +kernel) rfl dX8_trace_38 ?_
        refine lv_icmp_ge (tgt := 132) hx hb dX8_trace_41 (by decide) (fun hc14 => ?_) (fun hc14 => ?_)
        · have hF := am_pos hc14 hF
          exact kE y11 w12 ab H locs ls (Option.some.inj hF).symm hh (lv_sub hl [0, 1, 2, 3] rfl)
        · have hF := am_neg hc14 hF
          refine lv_iload_n hx hb dX8_trace_44 rfl (lv_at hl 0 rfl) ?_
          refine lv_bipush (v := (10 : Int32)) hx hb dX8_trace_45 (by decide) ?_
          refine lv_icmp_ge (tgt := 132) hx hb dX8_trace_47 (by decide) (fun hc15 => ?_) (fun hc15 => ?_)
          · have hF := am_pos hc15 hF
            exact kE y11 w12 ab H locs ls (Option.some.inj hF).symm hh (lv_sub hl [0, 1, 2, 3] rfl)
          · have hF := am_neg hc15 hF
            refine lv_aload_n hx hb dX8_trace_50 rfl (lv_at hl 1 rfl) ?_
            refine am_getR X hh 124 10 1 126 (by decide) rfl rfl (by decide) hwRX8 (show Cond.fieldLink RX8 15 "PlanetWorkshop$Train" "members" "[I" ∈ wsX8_trace by decide +kernel) rfl dX8_trace_51 ?_
            refine lv_iload_n hx hb dX8_trace_54 rfl (lv_at hl 0 rfl) ?_
            obtain ⟨hq16, hF⟩ := am_ifR hF
            refine am_iald X hh 126 (by decide) rfl hq16 dX8_trace_55 ?_
            refine lv_istore (lv' := [(4, .int (gI w12 126 (y11).toNatClampNeg)), (3, .int y11), (0, .ref (gAd G 124)), (1, .ref (gAd G 1)), (2, .int x2)]) hx hb dX8_trace_56 hl (by decide) rfl (fun ls hl => ?_)
            refine lv_iconst (v := (0 : Int32)) hx hb dX8_trace_58 (by decide) ?_
            refine lv_istore (lv' := [(5, .int (0 : Int32)), (4, .int (gI w12 126 (y11).toNatClampNeg)), (3, .int y11), (0, .ref (gAd G 124)), (1, .ref (gAd G 1)), (2, .int x2)]) hx hb dX8_trace_59 hl (by decide) rfl (fun ls hl => ?_)
            have hlp61 : ∀ (c18 : Int32) (n : Nat) (y17 : Int32) (w19 : Wd) (ab : Nat) (H : Heap) (locs : List Loc) (ls : Array Slot) (z : (Int32 × Wd) ⊕ Unit), p_X8_trace_61 c18 n y17 w19 = some z → AH G s.heap w19 ab H locs → lv_has ls 7 [(5, .int y17), (4, .int c18), (3, .int y11), (0, .ref (gAd G 124)), (1, .ref (gAd G 1)), (2, .int x2)] → (∀ (y17 : Int32) (w19 : Wd) (ab : Nat) (H : Heap) (locs : List Loc) (ls : Array Slot), z = .inl (y17, w19) → AH G s.heap w19 ab H locs → lv_has ls 7 [(5, .int y17), (4, .int c18), (3, .int y11), (0, .ref (gAd G 124)), (1, .ref (gAd G 1)), (2, .int x2)] → W p l e ({ frames := 3, cells := 0, slots := 0, locals := 73 } : Room) s m args below meth c H locs 0 0 (MQ below (amQ G none w1) args s 0 0 (gA G)) (F0 m 126 ls [])) → W p l e ({ frames := 3, cells := 0, slots := 0, locals := 73 } : Room) s m args below meth c H locs 0 0 (MQ below (amQ G none w1) args s 0 0 (gA G)) (F0 m 61 ls []) := by
              intro c18 n
              induction n with
              | zero =>
                intro y17 w19 ab H locs ls z hF
                unfold p_X8_trace_61 at hF
                cases hF
              | succ n ih =>
                intro y17 w19 ab H locs ls z hF hh hl kE
                unfold p_X8_trace_61 at hF
                refine lv_iload hx hb dX8_trace_61 (lv_at hl 0 rfl) ?_
                refine lv_aload_n hx hb dX8_trace_63 rfl (lv_at hl 4 rfl) ?_
                refine am_getI X hh 1 9 10 (by decide) rfl rfl (by decide) hwRX7 (show Cond.fieldLink RX8 29 "PlanetWorkshop$State" "gears" "I" ∈ wsX8_trace by decide +kernel) rfl dX8_trace_64 ?_
                refine lv_icmp_ge (tgt := 126) hx hb dX8_trace_67 (by decide) (fun hc21 => ?_) (fun hc21 => ?_)
                · have hF := am_pos hc21 hF
                  exact kE y17 w19 ab H locs ls (Option.some.inj hF).symm hh (lv_sub hl [0, 1, 2, 3, 4, 5] rfl)
                · have hF := am_neg hc21 hF
                  refine lv_aload_n hx hb dX8_trace_70 rfl (lv_at hl 4 rfl) ?_
                  refine lv_iload hx hb dX8_trace_71 (lv_at hl 1 rfl) ?_
                  refine lv_iload hx hb dX8_trace_73 (lv_at hl 0 rfl) ?_
                  obtain ⟨r23, hk22, hF⟩ := am_bind hF
                  refine am_call X hh (va_runV (As := [.int c18, .int y17]) (rest := []) X.1 (c_X7_jointOf l G hk22) (cwV 2 hts gX8_trace_X7_jointOf rfl rfl rfl (by decide +kernel) ⟨Nat.le_of_ble_eq_true rfl, Nat.le_of_ble_eq_true rfl⟩) (am_preV X hh 1 9 (by decide) rfl rfl) rfl rfl hl.1 rfl (lv_room (Nat.le_of_ble_eq_true rfl)) dX8_trace_75 ⟨Nat.le_of_ble_eq_true rfl, Nat.le_of_ble_eq_true rfl⟩) (fun ab H locs hh => ?_)
                  refine lv_istore (lv' := [(6, .int r23), (5, .int y17), (4, .int c18), (3, .int y11), (0, .ref (gAd G 124)), (1, .ref (gAd G 1)), (2, .int x2)]) hx hb dX8_trace_78 hl (by decide) rfl (fun ls hl => ?_)
                  refine lv_iload hx hb dX8_trace_80 (lv_at hl 0 rfl) ?_
                  refine lv_if_eq (tgt := 120) hx hb dX8_trace_82 (by decide) (fun hc24 => ?_) (fun hc24 => ?_)
                  · have hF := am_pos hc24 hF
                    refine lv_iinc (v := (y17 + (1 : Int32))) (lv' := [(5, .int (y17 + (1 : Int32))), (6, .int r23), (4, .int c18), (3, .int y11), (0, .ref (gAd G 124)), (1, .ref (gAd G 1)), (2, .int x2)]) hx hb dX8_trace_120 hl (k := 1) rfl rfl (by decide) rfl (fun ls hl => ?_)
                    refine lv_goto (tgt := 61) hx hb dX8_trace_123 (by decide) ?_
                    exact ih (y17 + (1 : Int32)) w19 ab H locs ls _ hF hh (lv_sub hl [0, 2, 3, 4, 5, 6] rfl) kE
                  · have hF := am_neg hc24 hF
                    refine lv_aload_n hx hb dX8_trace_85 rfl (lv_at hl 4 rfl) ?_
                    refine am_getR X hh 124 10 0 125 (by decide) rfl rfl (by decide) hwRX8 (show Cond.fieldLink RX8 9 "PlanetWorkshop$Train" "units" "[J" ∈ wsX8_trace by decide +kernel) rfl dX8_trace_86 ?_
                    refine lv_iload hx hb dX8_trace_89 (lv_at hl 1 rfl) ?_
                    obtain ⟨hq25, hF⟩ := am_ifR hF
                    refine am_lald X hh 125 (by decide) rfl hq25 dX8_trace_91 ?_
                    refine lv_lconst (v := (0 : Int64)) hx hb dX8_trace_92 (by decide) ?_
                    refine am_lcmp_ne (tgt := 120) hx hb dX8_trace_93 dX8_trace_94 (by decide) (fun hc26 => ?_) (fun hc26 => ?_)
                    · have hF := am_neg hc26 hF
                      refine lv_iinc (v := (y17 + (1 : Int32))) (lv' := [(5, .int (y17 + (1 : Int32))), (6, .int r23), (4, .int c18), (3, .int y11), (0, .ref (gAd G 124)), (1, .ref (gAd G 1)), (2, .int x2)]) hx hb dX8_trace_120 hl (k := 1) rfl rfl (by decide) rfl (fun ls hl => ?_)
                      refine lv_goto (tgt := 61) hx hb dX8_trace_123 (by decide) ?_
                      exact ih (y17 + (1 : Int32)) w19 ab H locs ls _ hF hh (lv_sub hl [0, 2, 3, 4, 5, 6] rfl) kE
                    · have hF := am_pos hc26 hF
                      refine lv_aload_n hx hb dX8_trace_97 rfl (lv_at hl 4 rfl) ?_
                      refine lv_iload hx hb dX8_trace_98 (lv_at hl 1 rfl) ?_
                      refine lv_aload_n hx hb dX8_trace_100 rfl (lv_at hl 5 rfl) ?_
                      refine lv_aload_n hx hb dX8_trace_101 rfl (lv_at hl 4 rfl) ?_
                      refine am_getR X hh 124 10 0 125 (by decide) rfl rfl (by decide) hwRX8 (show Cond.fieldLink RX8 9 "PlanetWorkshop$Train" "units" "[J" ∈ wsX8_trace by decide +kernel) rfl dX8_trace_102 ?_
                      refine lv_iload hx hb dX8_trace_105 (lv_at hl 2 rfl) ?_
                      obtain ⟨hq27, hF⟩ := am_ifR hF
                      refine am_lald X hh 125 (by decide) rfl hq27 dX8_trace_107 ?_
                      refine lv_iload hx hb dX8_trace_108 (lv_at hl 2 rfl) ?_
                      refine lv_iload hx hb dX8_trace_110 (lv_at hl 1 rfl) ?_
                      refine lv_iload hx hb dX8_trace_112 (lv_at hl 0 rfl) ?_
                      obtain ⟨r29, hk28, hF⟩ := am_bind hF
                      refine am_call X hh (va_runV (As := [.long (gL w19 125 (c18).toNatClampNeg), .int c18, .int y17, .int r23]) (rest := [.int y17, .ref (gAd G 124)]) X.1 (c_X7_unitsBehind l G hk28) (cwV 4 hts gX8_trace_X7_unitsBehind rfl rfl rfl (by decide +kernel) ⟨Nat.le_of_ble_eq_true rfl, Nat.le_of_ble_eq_true rfl⟩) (am_preV X hh 1 9 (by decide) rfl rfl) rfl rfl hl.1 rfl (lv_room (Nat.le_of_ble_eq_true rfl)) dX8_trace_114 ⟨Nat.le_of_ble_eq_true rfl, Nat.le_of_ble_eq_true rfl⟩) (fun ab H locs hh => ?_)
                      obtain ⟨w32, hk30, hF⟩ := am_bind hF
                      refine am_call X hh (va_runV (As := [.int y17, .long r29]) (rest := []) X.1 (c_X8_reach l G hk30) (cwV 2 hts gX8_trace_X8_reach rfl rfl rfl (by decide +kernel) ⟨Nat.le_of_ble_eq_true rfl, Nat.le_of_ble_eq_true rfl⟩) (am_preV X hh 124 10 (by decide) rfl rfl) rfl rfl hl.1 rfl (lv_room (Nat.le_of_ble_eq_true rfl)) dX8_trace_117 ⟨Nat.le_of_ble_eq_true rfl, Nat.le_of_ble_eq_true rfl⟩) (fun ab H locs hh => ?_)
                      refine lv_iinc (v := (y17 + (1 : Int32))) (lv' := [(5, .int (y17 + (1 : Int32))), (6, .int r23), (4, .int c18), (3, .int y11), (0, .ref (gAd G 124)), (1, .ref (gAd G 1)), (2, .int x2)]) hx hb dX8_trace_120 hl (k := 1) rfl rfl (by decide) rfl (fun ls hl => ?_)
                      refine lv_goto (tgt := 61) hx hb dX8_trace_123 (by decide) ?_
                      exact ih (y17 + (1 : Int32)) w32 ab H locs ls _ hF hh (lv_sub hl [0, 2, 3, 4, 5, 6] rfl) kE
            obtain ⟨z33, hz34, hF⟩ := am_bind hF
            refine hlp61 (gI w12 126 (y11).toNatClampNeg) 2000 (0 : Int32) w12 ab H locs ls z33 hz34 hh (lv_sub hl [0, 1, 2, 3, 4, 5] rfl) (fun y17 w19 ab H locs ls hz hh hl => ?_)
            · subst hz
              have hF := am_u2 (am_zl hF)
              refine lv_iinc (v := (y11 + (1 : Int32))) (lv' := [(3, .int (y11 + (1 : Int32))), (5, .int y17), (4, .int (gI w12 126 (y11).toNatClampNeg)), (0, .ref (gAd G 124)), (1, .ref (gAd G 1)), (2, .int x2)]) hx hb dX8_trace_126 hl (k := 2) rfl rfl (by decide) rfl (fun ls hl => ?_)
              refine lv_goto (tgt := 36) hx hb dX8_trace_129 (by decide) ?_
              exact ih (y11 + (1 : Int32)) w19 ab H locs ls _ hF hh (lv_sub hl [0, 3, 4, 5] rfl) kE
    obtain ⟨z35, hz36, hF⟩ := am_bind hF
    refine hlp36 2000 (0 : Int32) w10 ab H locs ls z35 hz36 hh (lv_sub hl [0, 1, 2, 3] rfl) (fun y11 w12 ab H locs ls hz hh hl => ?_)
    · subst hz
      have hF := am_u2 (am_zl hF)
      exact am_vret X hr hh (fun t ht => am_qv hF ht) (Nat.le_of_ble_eq_true rfl) (Nat.le_of_ble_eq_true rfl) dX8_trace_132
