def fX8_harsh_b76 (rc34 : St → Int32 → Int32 → Int64 → Int32 → Int32 → Option (Int64 × St)) (σ : St) (x1 : Int32) (x2 : Int32) (x3 : Int64) (x5 : Int32) (x6 : Int32) : Option (Int64 × St) :=
  rc34 σ x1 x2 x3 x5 (x6 + (1 : Int32))
def fX8_harsh_b34 (rc34 : St → Int32 → Int32 → Int64 → Int32 → Int32 → Option (Int64 × St)) (σ : St) (x1 : Int32) (x2 : Int32) (x3 : Int64) (x5 : Int32) (x6 : Int32) : Option (Int64 × St) :=
  if (σ.2.1 1) ≤ x6 then Option.bind (fX8_tell σ x3 ((x5.toInt64 * (60 : Int64))) x2) fun q2 => some (q2.1, q2.2) else Option.bind (fX1_comparable σ x1 x6) fun q4 => if q4.1 = 0 then fX8_harsh_b76 rc34 q4.2 x1 x2 x3 x5 x6 else Option.bind (fX1_aboveOthers q4.2 x1 x6) fun q7 => fX8_harsh_b76 rc34 q7.2 x1 x2 (x3 + q7.1.toInt64) (x5 + (1 : Int32)) x6
def fX8_harsh_l34 : Nat → St → Int32 → Int32 → Int64 → Int32 → Int32 → Option (Int64 × St)
  | 0 => fun _ _ _ _ _ _ => none
  | n + 1 => fun σ x1 x2 x3 x5 x6 => fX8_harsh_b34 (fX8_harsh_l34 n) σ x1 x2 x3 x5 x6 
def fX8_harsh (σ : St) (x1 : Int32) (x2 : Int32) : Option (Int64 × St) :=
  Option.bind (fX0_has σ x1) fun q1 => if q1.1 = 0 then some ((-1000000000000000001 : Int64), q1.2) else Option.bind (fX8_isPart q1.2 x2) fun q4 => if q4.1 = 0 then some ((-1000000000000000002 : Int64), q4.2) else fX8_harsh_l34 gF q4.2 x1 x2 (0 : Int64) (0 : Int32) (0 : Int32)
def fX8_favours_b41 (rc2 : St → Int32 → Int32 → Int32 → Option (Int32 × St)) (σ : St) (x1 : Int32) (x2 : Int32) (x3 : Int32) : Option (Int32 × St) :=
  rc2 σ x1 x2 (x3 + (1 : Int32))
def fX8_favours_b2 (rc2 : St → Int32 → Int32 → Int32 → Option (Int32 × St)) (σ : St) (x1 : Int32) (x2 : Int32) (x3 : Int32) : Option (Int32 × St) :=
  if (σ.2.1 1) ≤ x3 then some ((0 : Int32), σ) else if ib x3 6 = true then if (σ.1 15 x3.toNatClampNeg) = x2 then Option.bind (fX1_of σ x1 x3) fun q4 => if q4.1 < (4 : Int32) then fX8_favours_b41 rc2 q4.2 x1 x2 x3 else some ((1 : Int32), q4.2) else fX8_favours_b41 rc2 σ x1 x2 x3 else none
def fX8_favours_l2 : Nat → St → Int32 → Int32 → Int32 → Option (Int32 × St)
  | 0 => fun _ _ _ _ => none
  | n + 1 => fun σ x1 x2 x3 => fX8_favours_b2 (fX8_favours_l2 n) σ x1 x2 x3 
def fX8_favours (σ : St) (x1 : Int32) (x2 : Int32) : Option (Int32 × St) :=
  fX8_favours_l2 gF σ x1 x2 (0 : Int32)
def fX8_swap_b68 (rc4 : St → Int32 → Int32 → Int32 → Option (Int32 × St)) (rc20 : St → Int32 → Int32 → Int32 → Int32 → Option (Int32 × St)) (σ : St) (x1 : Int32) (x2 : Int32) (x3 : Int32) (x4 : Int32) : Option (Int32 × St) :=
  rc20 σ x1 x2 x3 (x4 + (1 : Int32))
def fX8_swap_b20 (rc4 : St → Int32 → Int32 → Int32 → Option (Int32 × St)) (rc20 : St → Int32 → Int32 → Int32 → Int32 → Option (Int32 × St)) (σ : St) (x1 : Int32) (x2 : Int32) (x3 : Int32) (x4 : Int32) : Option (Int32 × St) :=
  if (σ.2.1 0) ≤ x4 then rc4 σ x1 x2 (x3 + (1 : Int32)) else Option.bind (fX8_favours σ x3 x4) fun q2 => if q2.1 = 0 then fX8_swap_b68 rc4 rc20 q2.2 x1 x2 x3 x4 else Option.bind (fX8_favours q2.2 x4 x3) fun q5 => if q5.1 = 0 then fX8_swap_b68 rc4 rc20 q5.2 x1 x2 x3 x4 else if x2 = x1 then some (((((10 : Int32) * x3)) + x4), q5.2) else fX8_swap_b68 rc4 rc20 q5.2 x1 (x2 + (1 : Int32)) x3 x4
def fX8_swap_l20 (rc4 : St → Int32 → Int32 → Int32 → Option (Int32 × St)) : Nat → St → Int32 → Int32 → Int32 → Int32 → Option (Int32 × St)
  | 0 => fun _ _ _ _ _ => none
  | n + 1 => fun σ x1 x2 x3 x4 => fX8_swap_b20 rc4 (fX8_swap_l20 rc4 n) σ x1 x2 x3 x4 
def fX8_swap_b4 (rc4 : St → Int32 → Int32 → Int32 → Option (Int32 × St)) (σ : St) (x1 : Int32) (x2 : Int32) (x3 : Int32) : Option (Int32 × St) :=
  if (σ.2.1 0) ≤ x3 then if x1 = (-1 : Int32) then some (x2, σ) else some ((-6 : Int32), σ) else fX8_swap_l20 rc4 gF σ x1 x2 x3 (x3 + (1 : Int32))
def fX8_swap_l4 : Nat → St → Int32 → Int32 → Int32 → Option (Int32 × St)
  | 0 => fun _ _ _ _ => none
  | n + 1 => fun σ x1 x2 x3 => fX8_swap_b4 (fX8_swap_l4 n) σ x1 x2 x3 
def fX8_swap (σ : St) (x1 : Int32) : Option (Int32 × St) :=
  fX8_swap_l4 gF σ x1 (0 : Int32) (0 : Int32)
def fX8_ring_b109 (rc4 : St → Int32 → Int32 → Int32 → Option (Int32 × St)) (rc20 : St → Int32 → Int32 → Int32 → Int32 → Option (Int32 × St)) (rc37 : St → Int32 → Int32 → Int32 → Int32 → Int32 → Option (Int32 × St)) (σ : St) (x1 : Int32) (x2 : Int32) (x3 : Int32) (x4 : Int32) (x5 : Int32) : Option (Int32 × St) :=
  rc37 σ x1 x2 x3 x4 (x5 + (1 : Int32))
def fX8_ring_b37 (rc4 : St → Int32 → Int32 → Int32 → Option (Int32 × St)) (rc20 : St → Int32 → Int32 → Int32 → Int32 → Option (Int32 × St)) (rc37 : St → Int32 → Int32 → Int32 → Int32 → Int32 → Option (Int32 × St)) (σ : St) (x1 : Int32) (x2 : Int32) (x3 : Int32) (x4 : Int32) (x5 : Int32) : Option (Int32 × St) :=
  if (σ.2.1 0) ≤ x5 then rc20 σ x1 x2 x3 (x4 + (1 : Int32)) else if x4 = x5 then fX8_ring_b109 rc4 rc20 rc37 σ x1 x2 x3 x4 x5 else Option.bind (fX8_favours σ x3 x4) fun q3 => if q3.1 = 0 then fX8_ring_b109 rc4 rc20 rc37 q3.2 x1 x2 x3 x4 x5 else Option.bind (fX8_favours q3.2 x4 x5) fun q6 => if q6.1 = 0 then fX8_ring_b109 rc4 rc20 rc37 q6.2 x1 x2 x3 x4 x5 else Option.bind (fX8_favours q6.2 x5 x3) fun q9 => if q9.1 = 0 then fX8_ring_b109 rc4 rc20 rc37 q9.2 x1 x2 x3 x4 x5 else if x2 = x1 then some (((((((100 : Int32) * x3)) + (((10 : Int32) * x4)))) + x5), q9.2) else fX8_ring_b109 rc4 rc20 rc37 q9.2 x1 (x2 + (1 : Int32)) x3 x4 x5
def fX8_ring_l37 (rc4 : St → Int32 → Int32 → Int32 → Option (Int32 × St)) (rc20 : St → Int32 → Int32 → Int32 → Int32 → Option (Int32 × St)) : Nat → St → Int32 → Int32 → Int32 → Int32 → Int32 → Option (Int32 × St)
  | 0 => fun _ _ _ _ _ _ => none
  | n + 1 => fun σ x1 x2 x3 x4 x5 => fX8_ring_b37 rc4 rc20 (fX8_ring_l37 rc4 rc20 n) σ x1 x2 x3 x4 x5 
def fX8_ring_b20 (rc4 : St → Int32 → Int32 → Int32 → Option (Int32 × St)) (rc20 : St → Int32 → Int32 → Int32 → Int32 → Option (Int32 × St)) (σ : St) (x1 : Int32) (x2 : Int32) (x3 : Int32) (x4 : Int32) : Option (Int32 × St) :=
  if (σ.2.1 0) ≤ x4 then rc4 σ x1 x2 (x3 + (1 : Int32)) else fX8_ring_l37 rc4 rc20 gF σ x1 x2 x3 x4 (x3 + (1 : Int32))
def fX8_ring_l20 (rc4 : St → Int32 → Int32 → Int32 → Option (Int32 × St)) : Nat → St → Int32 → Int32 → Int32 → Int32 → Option (Int32 × St)
  | 0 => fun _ _ _ _ _ => none
  | n + 1 => fun σ x1 x2 x3 x4 => fX8_ring_b20 rc4 (fX8_ring_l20 rc4 n) σ x1 x2 x3 x4 
def fX8_ring_b4 (rc4 : St → Int32 → Int32 → Int32 → Option (Int32 × St)) (σ : St) (x1 : Int32) (x2 : Int32) (x3 : Int32) : Option (Int32 × St) :=
  if (σ.2.1 0) ≤ x3 then if x1 = (-1 : Int32) then some (x2, σ) else some ((-6 : Int32), σ) else fX8_ring_l20 rc4 gF σ x1 x2 x3 (x3 + (1 : Int32))
def fX8_ring_l4 : Nat → St → Int32 → Int32 → Int32 → Option (Int32 × St)
  | 0 => fun _ _ _ _ => none
  | n + 1 => fun σ x1 x2 x3 => fX8_ring_b4 (fX8_ring_l4 n) σ x1 x2 x3 
def fX8_ring (σ : St) (x1 : Int32) : Option (Int32 × St) :=
  fX8_ring_l4 gF σ x1 (0 : Int32) (0 : Int32)
def fX0_withKeys_b30 (rc4 : St → Int32 → Int32 → Int32 → Option (Int32 × St)) (σ : St) (x1 : Int32) (x2 : Int32) (x3 : Int32) : Option (Int32 × St) :=
  rc4 σ x1 x2 (x3 + (1 : Int32))
def fX0_withKeys_b4 (rc4 : St → Int32 → Int32 → Int32 → Option (Int32 × St)) (σ : St) (x1 : Int32) (x2 : Int32) (x3 : Int32) : Option (Int32 × St) :=
  if (σ.2.1 0) ≤ x3 then some (x2, σ) else if ib x3 6 = true then if (((σ.1 12 x3.toNatClampNeg) &&& x1)) = x1 then fX0_withKeys_b30 rc4 σ x1 (x2 ||| (((1 : Int32) <<< (x3 &&& 31)))) x3 else fX0_withKeys_b30 rc4 σ x1 x2 x3 else none
def fX0_withKeys_l4 : Nat → St → Int32 → Int32 → Int32 → Option (Int32 × St)
  | 0 => fun _ _ _ _ => none
  | n + 1 => fun σ x1 x2 x3 => fX0_withKeys_b4 (fX0_withKeys_l4 n) σ x1 x2 x3 
def fX0_withKeys (σ : St) (x1 : Int32) : Option (Int32 × St) :=
  fX0_withKeys_l4 gF σ x1 (0 : Int32) (0 : Int32)
def fX8_seen (σ : St) (x1 : Int32) (x2 : Int32) : Option (Int32 × St) :=
  Option.bind (fX4_has σ x1) fun q1 => if q1.1 = 0 then some ((-1 : Int32), q1.2) else Option.bind (fX8_within q1.2 x2 (0 : Int32) (1 : Int32)) fun q4 => if q4.1 = 0 then some ((-2 : Int32), q4.2) else if ib x1 6 = true then Option.bind (fX0_withKeys q4.2 (q4.2.1 16 x1.toNatClampNeg)) fun q8 => if x2 = 0 then some (q8.1, q8.2) else if ib x1 6 = true then if (q8.2.1 15 x1.toNatClampNeg) = (-6 : Int32) then some ((0 : Int32), q8.2) else if q8.1 = (((1 : Int32) <<< ((q8.2.1 15 x1.toNatClampNeg) &&& 31))) then some ((1 : Int32), q8.2) else some ((0 : Int32), q8.2) else none else none
def fX8_replace_18 (σ : St) (x1 : Int32) (x2 : Int32) : Option (Int32 × St) :=
  if ib x1 36 = true then if ib x1 36 = true then some ((σ.1 18 x1.toNatClampNeg), (uA σ 18 x1.toNatClampNeg x2)) else none else none
def fX8_bid (σ : St) (x1 : Int32) (x2 : Int32) (x3 : Int32) : Option (Int32 × St) :=
  Option.bind (fX0_has σ x1) fun q1 => if q1.1 = 0 then some ((-1 : Int32), q1.2) else Option.bind (fX4_has q1.2 x2) fun q4 => if q4.1 = 0 then some ((-1 : Int32), q4.2) else Option.bind (fX8_within q4.2 x3 (0 : Int32) (3 : Int32)) fun q7 => if q7.1 = 0 then some ((-2 : Int32), q7.2) else Option.bind (fX8_replace_18 q7.2 ((((x1 * (6 : Int32))) + x2)) x3) fun q10 => some (q10.1, q10.2)
def fX2_allows (σ : St) (x1 : Int32) (x2 : Int32) : Option (Int32 × St) :=
  if ib x2 6 = true then if (σ.1 15 x2.toNatClampNeg) = x1 then some ((0 : Int32), σ) else Option.bind (fX0_tieOf σ x1 (σ.1 15 x2.toNatClampNeg)) fun q3 => if q3.1 = (-1 : Int32) then some ((0 : Int32), q3.2) else some ((1 : Int32), q3.2) else none
def fX4_bidOf (σ : St) (x1 : Int32) (x2 : Int32) : Option (Int32 × St) :=
  if ib ((((x1 * (6 : Int32))) + x2)) 36 = true then some ((σ.1 18 ((((x1 * (6 : Int32))) + x2)).toNatClampNeg), σ) else none
def fX2_weight (σ : St) (x1 : Int32) (x2 : Int32) : Option (Int64 × St) :=
  Option.bind (fX4_bidOf σ x1 x2) fun q1 => some ((((q1.1.toInt64 <<< ((36 : Int32).toInt64 &&& 63))) - (((1 : Int64) <<< ((((((((5 : Int32) - x2)) * (6 : Int32))) + x1)).toInt64 &&& 63)))), q1.2)
def fX2_giveTo (σ : St) (x1 : Int32) (x2 : Int32) : Option (Int32 × St) :=
  if ib x2 6 = true then if ((lg_cmp (σ.2.2 30 x2.toNatClampNeg) (-1152921504606846976 : Int64))) = 0 then some ((0 : Int32), σ) else Option.bind (fX2_allows σ x1 x2) fun q3 => if q3.1 = 0 then some ((0 : Int32), q3.2) else if ib x2 6 = true then Option.bind (fX2_weight q3.2 x1 x2) fun q7 => if ib x1 6 = true then if 0 < ((lg_cmp (((q3.2.2.2 30 x2.toNatClampNeg) + q7.1)) (q7.2.2.2 31 x1.toNatClampNeg))) then if ib x1 6 = true then if ib x1 6 = true then some ((1 : Int32), (uA ((uL q7.2 31 x1.toNatClampNeg (((q3.2.2.2 30 x2.toNatClampNeg) + q7.1)))) 33 x1.toNatClampNeg x2)) else none else none else some ((0 : Int32), q7.2) else none else none else none
def fX2_giveUp (σ : St) (x1 : Int32) (x2 : Int32) : Option (Int32 × St) :=
  if ib x1 6 = true then if ((lg_cmp (σ.2.2 31 x1.toNatClampNeg) (-1152921504606846976 : Int64))) = 0 then some ((0 : Int32), σ) else if ib x1 6 = true then Option.bind (fX2_weight σ x1 x2) fun q4 => if ib x2 6 = true then if 0 < ((lg_cmp (((σ.2.2 31 x1.toNatClampNeg) - q4.1)) (q4.2.2.2 30 x2.toNatClampNeg))) then if ib x2 6 = true then if ib x2 6 = true then some ((1 : Int32), (uA ((uL q4.2 30 x2.toNatClampNeg (((σ.2.2 31 x1.toNatClampNeg) - q4.1)))) 32 x2.toNatClampNeg x1)) else none else none else some ((0 : Int32), q4.2) else none else none else none
def fJ7_fill_d0a16_31_b6 (rc6 : St → Int64 → Int32 → Int32 → Option (Unit × St)) (σ : St) (x1 : Int64) (x3 : Int32) (x4 : Int32) : Option (Unit × St) :=
  if x4 ≤ x3 then some ((), σ) else if ib x3 6 = true then rc6 (uL σ 31 x3.toNatClampNeg x1) x1 (x3 + (1 : Int32)) x4 else none
def fJ7_fill_d0a16_31_l6 : Nat → St → Int64 → Int32 → Int32 → Option (Unit × St)
  | 0 => fun _ _ _ _ => none
  | n + 1 => fun σ x1 x3 x4 => fJ7_fill_d0a16_31_b6 (fJ7_fill_d0a16_31_l6 n) σ x1 x3 x4 
def fJ7_fill_d0a16_31 (σ : St) (x1 : Int64) : Option (Unit × St) :=
  fJ7_fill_d0a16_31_l6 gF σ x1 (0 : Int32) (6 : Int32)
def fJ7_fill_53178_32_b5 (rc5 : St → Int32 → Int32 → Int32 → Option (Unit × St)) (σ : St) (x1 : Int32) (x2 : Int32) (x3 : Int32) : Option (Unit × St) :=
  if x3 ≤ x2 then some ((), σ) else if ib x2 6 = true then rc5 (uA σ 32 x2.toNatClampNeg x1) x1 (x2 + (1 : Int32)) x3 else none
def fJ7_fill_53178_32_l5 : Nat → St → Int32 → Int32 → Int32 → Option (Unit × St)
  | 0 => fun _ _ _ _ => none
  | n + 1 => fun σ x1 x2 x3 => fJ7_fill_53178_32_b5 (fJ7_fill_53178_32_l5 n) σ x1 x2 x3 
def fJ7_fill_53178_32 (σ : St) (x1 : Int32) : Option (Unit × St) :=
  fJ7_fill_53178_32_l5 gF σ x1 (0 : Int32) (6 : Int32)
def fJ7_fill_53178_33_b5 (rc5 : St → Int32 → Int32 → Int32 → Option (Unit × St)) (σ : St) (x1 : Int32) (x2 : Int32) (x3 : Int32) : Option (Unit × St) :=
  if x3 ≤ x2 then some ((), σ) else if ib x2 6 = true then rc5 (uA σ 33 x2.toNatClampNeg x1) x1 (x2 + (1 : Int32)) x3 else none
def fJ7_fill_53178_33_l5 : Nat → St → Int32 → Int32 → Int32 → Option (Unit × St)
  | 0 => fun _ _ _ _ => none
  | n + 1 => fun σ x1 x2 x3 => fJ7_fill_53178_33_b5 (fJ7_fill_53178_33_l5 n) σ x1 x2 x3 
def fJ7_fill_53178_33 (σ : St) (x1 : Int32) : Option (Unit × St) :=
  fJ7_fill_53178_33_l5 gF σ x1 (0 : Int32) (6 : Int32)
