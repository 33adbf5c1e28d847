def fX2_spreadChains_b140 (rc68 : St → Int32 → Int32 → Option (Unit × St)) (rc82 : St → Int32 → Int32 → Int32 → Option (Unit × St)) (rc96 : St → Int32 → Int32 → Int32 → Int32 → Option (Unit × St)) (σ : St) (x2 : Int32) (x3 : Int32) (x4 : Int32) (t0 : Int32) (t1 : Int32) : Option (Unit × St) :=
  rc96 σ (t0 ||| t1) x2 x3 (x4 + (1 : Int32))
def fX2_spreadChains_b96 (rc68 : St → Int32 → Int32 → Option (Unit × St)) (rc82 : St → Int32 → Int32 → Int32 → Option (Unit × St)) (rc96 : St → Int32 → Int32 → Int32 → Int32 → Option (Unit × St)) (σ : St) (x1 : Int32) (x2 : Int32) (x3 : Int32) (x4 : Int32) : Option (Unit × St) :=
  if (σ.2.1 0) ≤ x4 then rc82 σ x1 x2 (x3 + (1 : Int32)) else if ib x3 6 = true then Option.bind (fX8_hasBit σ (σ.1 27 x3.toNatClampNeg) x4) fun q3 => if q3.1 = 0 then Option.bind (fX2_giveTo q3.2 x4 x3) fun q6 => fX2_spreadChains_b140 rc68 rc82 rc96 q6.2 x2 x3 x4 x1 q6.1 else Option.bind (fX2_giveUp q3.2 x4 x3) fun q8 => fX2_spreadChains_b140 rc68 rc82 rc96 q8.2 x2 x3 x4 x1 q8.1 else none
def fX2_spreadChains_l96 (rc68 : St → Int32 → Int32 → Option (Unit × St)) (rc82 : St → Int32 → Int32 → Int32 → Option (Unit × St)) : Nat → St → Int32 → Int32 → Int32 → Int32 → Option (Unit × St)
  | 0 => fun _ _ _ _ _ => none
  | n + 1 => fun σ x1 x2 x3 x4 => fX2_spreadChains_b96 rc68 rc82 (fX2_spreadChains_l96 rc68 rc82 n) σ x1 x2 x3 x4 
def fX2_spreadChains_b82 (rc68 : St → Int32 → Int32 → Option (Unit × St)) (rc82 : St → Int32 → Int32 → Int32 → Option (Unit × St)) (σ : St) (x1 : Int32) (x2 : Int32) (x3 : Int32) : Option (Unit × St) :=
  if (σ.2.1 1) ≤ x3 then rc68 σ x1 (x2 + (1 : Int32)) else fX2_spreadChains_l96 rc68 rc82 gF σ x1 x2 x3 (0 : Int32)
def fX2_spreadChains_l82 (rc68 : St → Int32 → Int32 → Option (Unit × St)) : Nat → St → Int32 → Int32 → Int32 → Option (Unit × St)
  | 0 => fun _ _ _ _ => none
  | n + 1 => fun σ x1 x2 x3 => fX2_spreadChains_b82 rc68 (fX2_spreadChains_l82 rc68 n) σ x1 x2 x3 
def fX2_spreadChains_b68 (rc68 : St → Int32 → Int32 → Option (Unit × St)) (σ : St) (x1 : Int32) (x2 : Int32) : Option (Unit × St) :=
  if (12 : Int32) ≤ x2 then some ((), σ) else if x1 = 0 then some ((), σ) else fX2_spreadChains_l82 rc68 gF σ (0 : Int32) x2 (0 : Int32)
def fX2_spreadChains_l68 : Nat → St → Int32 → Int32 → Option (Unit × St)
  | 0 => fun _ _ _ => none
  | n + 1 => fun σ x1 x2 => fX2_spreadChains_b68 (fX2_spreadChains_l68 n) σ x1 x2 
def fX2_spreadChains_b29 (rc2 : St → Int32 → Option (Unit × St)) (σ : St) (x1 : Int32) (t1 : Int32) (t2 : Int64) : Option (Unit × St) :=
  if ib t1 6 = true then rc2 (uL σ 30 t1.toNatClampNeg t2) (x1 + (1 : Int32)) else none
def fX2_spreadChains_b2 (rc2 : St → Int32 → Option (Unit × St)) (σ : St) (x1 : Int32) : Option (Unit × St) :=
  if (6 : Int32) ≤ x1 then Option.bind (fJ7_fill_d0a16_31 σ (-1152921504606846976 : Int64)) fun q2 => Option.bind (fJ7_fill_53178_32 q2.2 (-6 : Int32)) fun q4 => Option.bind (fJ7_fill_53178_33 q4.2 (-6 : Int32)) fun q6 => fX2_spreadChains_l68 gF q6.2 (1 : Int32) (0 : Int32) else if ib x1 6 = true then if (σ.1 28 x1.toNatClampNeg) ≤ 0 then fX2_spreadChains_b29 rc2 σ x1 x1 (-1152921504606846976 : Int64) else fX2_spreadChains_b29 rc2 σ x1 x1 (0 : Int64) else none
def fX2_spreadChains_l2 : Nat → St → Int32 → Option (Unit × St)
  | 0 => fun _ _ => none
  | n + 1 => fun σ x1 => fX2_spreadChains_b2 (fX2_spreadChains_l2 n) σ x1 
def fX2_spreadChains (σ : St) : Option (Unit × St) :=
  fX2_spreadChains_l2 gF σ (0 : Int32)
def fX2_bestEnd_b56 (rc10 : St → Int32 → Int32 → Int64 → Int32 → Option (Int32 × St)) (σ : St) (x1 : Int32) (x2 : Int32) (x3 : Int64) (x5 : Int32) : Option (Int32 × St) :=
  rc10 σ x1 x2 x3 (x5 + (1 : Int32))
def fX2_bestEnd_b10 (rc10 : St → Int32 → Int32 → Int64 → Int32 → Option (Int32 × St)) (σ : St) (x1 : Int32) (x2 : Int32) (x3 : Int64) (x5 : Int32) : Option (Int32 × St) :=
  if (σ.2.1 0) ≤ x5 then some (x2, σ) else if ib x5 6 = true then if x1 ≤ (σ.1 29 x5.toNatClampNeg) then fX2_bestEnd_b56 rc10 σ x1 x2 x3 x5 else if ib x5 6 = true then if ((lg_cmp (σ.2.2 31 x5.toNatClampNeg) x3)) ≤ 0 then fX2_bestEnd_b56 rc10 σ x1 x2 x3 x5 else if ib x5 6 = true then fX2_bestEnd_b56 rc10 σ x1 x5 (σ.2.2 31 x5.toNatClampNeg) x5 else none else none else none
def fX2_bestEnd_l10 : Nat → St → Int32 → Int32 → Int64 → Int32 → Option (Int32 × St)
  | 0 => fun _ _ _ _ _ => none
  | n + 1 => fun σ x1 x2 x3 x5 => fX2_bestEnd_b10 (fX2_bestEnd_l10 n) σ x1 x2 x3 x5 
def fX2_bestEnd (σ : St) (x1 : Int32) : Option (Int32 × St) :=
  fX2_bestEnd_l10 gF σ x1 (-6 : Int32) (-1152921504606846976 : Int64) (0 : Int32)
def fX2_change_b98 (rc14 : St → Int32 → Int32 → Option (Unit × St)) (σ : St) (x2 : Int32) (x3 : Int32) : Option (Unit × St) :=
  rc14 σ x2 (x3 + (1 : Int32))
def fX2_change_b14 (rc14 : St → Int32 → Int32 → Option (Unit × St)) (σ : St) (x2 : Int32) (x3 : Int32) : Option (Unit × St) :=
  if (6 : Int32) ≤ x3 then some ((), σ) else if x2 = (-6 : Int32) then some ((), σ) else if ib x2 6 = true then if (σ.1 33 x2.toNatClampNeg) = (-6 : Int32) then some ((), σ) else if ib (σ.1 33 x2.toNatClampNeg) 6 = true then if ib (σ.1 33 x2.toNatClampNeg) 6 = true then if ib (σ.1 33 x2.toNatClampNeg) 6 = true then if ((((uA σ 27 (σ.1 33 x2.toNatClampNeg).toNatClampNeg ((((σ.1 27 (σ.1 33 x2.toNatClampNeg).toNatClampNeg)) ||| (((1 : Int32) <<< (x2 &&& 31))))))).1 32 (σ.1 33 x2.toNatClampNeg).toNatClampNeg)) = (-6 : Int32) then if ib (σ.1 33 x2.toNatClampNeg) 6 = true then if ib (σ.1 33 x2.toNatClampNeg) 6 = true then fX2_change_b98 rc14 (uA ((uA σ 27 (σ.1 33 x2.toNatClampNeg).toNatClampNeg ((((σ.1 27 (σ.1 33 x2.toNatClampNeg).toNatClampNeg)) ||| (((1 : Int32) <<< (x2 &&& 31))))))) 28 (σ.1 33 x2.toNatClampNeg).toNatClampNeg ((((((uA σ 27 (σ.1 33 x2.toNatClampNeg).toNatClampNeg ((((σ.1 27 (σ.1 33 x2.toNatClampNeg).toNatClampNeg)) ||| (((1 : Int32) <<< (x2 &&& 31))))))).1 28 (σ.1 33 x2.toNatClampNeg).toNatClampNeg)) - (1 : Int32)))) (((uA σ 27 (σ.1 33 x2.toNatClampNeg).toNatClampNeg ((((σ.1 27 (σ.1 33 x2.toNatClampNeg).toNatClampNeg)) ||| (((1 : Int32) <<< (x2 &&& 31))))))).1 32 (σ.1 33 x2.toNatClampNeg).toNatClampNeg) x3 else none else none else if ib (σ.1 33 x2.toNatClampNeg) 6 = true then if ib (σ.1 33 x2.toNatClampNeg) 6 = true then fX2_change_b98 rc14 (uA ((uA σ 27 (σ.1 33 x2.toNatClampNeg).toNatClampNeg ((((σ.1 27 (σ.1 33 x2.toNatClampNeg).toNatClampNeg)) ||| (((1 : Int32) <<< (x2 &&& 31))))))) 27 (σ.1 33 x2.toNatClampNeg).toNatClampNeg ((((((uA σ 27 (σ.1 33 x2.toNatClampNeg).toNatClampNeg ((((σ.1 27 (σ.1 33 x2.toNatClampNeg).toNatClampNeg)) ||| (((1 : Int32) <<< (x2 &&& 31))))))).1 27 (σ.1 33 x2.toNatClampNeg).toNatClampNeg)) &&& (((((1 : Int32) <<< (((((uA σ 27 (σ.1 33 x2.toNatClampNeg).toNatClampNeg ((((σ.1 27 (σ.1 33 x2.toNatClampNeg).toNatClampNeg)) ||| (((1 : Int32) <<< (x2 &&& 31))))))).1 32 (σ.1 33 x2.toNatClampNeg).toNatClampNeg)) &&& 31))) ^^^ (-1 : Int32)))))) (((uA σ 27 (σ.1 33 x2.toNatClampNeg).toNatClampNeg ((((σ.1 27 (σ.1 33 x2.toNatClampNeg).toNatClampNeg)) ||| (((1 : Int32) <<< (x2 &&& 31))))))).1 32 (σ.1 33 x2.toNatClampNeg).toNatClampNeg) x3 else none else none else none else none else none else none
def fX2_change_l14 : Nat → St → Int32 → Int32 → Option (Unit × St)
  | 0 => fun _ _ _ => none
  | n + 1 => fun σ x2 x3 => fX2_change_b14 (fX2_change_l14 n) σ x2 x3 
def fX2_change (σ : St) (x1 : Int32) : Option (Unit × St) :=
  if ib x1 6 = true then if ib x1 6 = true then fX2_change_l14 gF (uA σ 29 x1.toNatClampNeg (((σ.1 29 x1.toNatClampNeg) + (1 : Int32)))) x1 (0 : Int32) else none else none
def fJ7_fill_53178_27_b5 (rc5 : St → Int32 → Int32 → Int32 → Option (Unit × St)) (σ : St) (x1 : Int32) (x2 : Int32) (x3 : Int32) : Option (Unit × St) :=
  if x3 ≤ x2 then some ((), σ) else if ib x2 6 = true then rc5 (uA σ 27 x2.toNatClampNeg x1) x1 (x2 + (1 : Int32)) x3 else none
def fJ7_fill_53178_27_l5 : Nat → St → Int32 → Int32 → Int32 → Option (Unit × St)
  | 0 => fun _ _ _ _ => none
  | n + 1 => fun σ x1 x2 x3 => fJ7_fill_53178_27_b5 (fJ7_fill_53178_27_l5 n) σ x1 x2 x3 
def fJ7_fill_53178_27 (σ : St) (x1 : Int32) : Option (Unit × St) :=
  fJ7_fill_53178_27_l5 gF σ x1 (0 : Int32) (6 : Int32)
def fJ7_fill_53178_29_b5 (rc5 : St → Int32 → Int32 → Int32 → Option (Unit × St)) (σ : St) (x1 : Int32) (x2 : Int32) (x3 : Int32) : Option (Unit × St) :=
  if x3 ≤ x2 then some ((), σ) else if ib x2 6 = true then rc5 (uA σ 29 x2.toNatClampNeg x1) x1 (x2 + (1 : Int32)) x3 else none
def fJ7_fill_53178_29_l5 : Nat → St → Int32 → Int32 → Int32 → Option (Unit × St)
  | 0 => fun _ _ _ _ => none
  | n + 1 => fun σ x1 x2 x3 => fJ7_fill_53178_29_b5 (fJ7_fill_53178_29_l5 n) σ x1 x2 x3 
def fJ7_fill_53178_29 (σ : St) (x1 : Int32) : Option (Unit × St) :=
  fJ7_fill_53178_29_l5 gF σ x1 (0 : Int32) (6 : Int32)
def fJ7_fill_53178_28_b5 (rc5 : St → Int32 → Int32 → Int32 → Option (Unit × St)) (σ : St) (x1 : Int32) (x2 : Int32) (x3 : Int32) : Option (Unit × St) :=
  if x3 ≤ x2 then some ((), σ) else if ib x2 6 = true then rc5 (uA σ 28 x2.toNatClampNeg x1) x1 (x2 + (1 : Int32)) x3 else none
def fJ7_fill_53178_28_l5 : Nat → St → Int32 → Int32 → Int32 → Option (Unit × St)
  | 0 => fun _ _ _ _ => none
  | n + 1 => fun σ x1 x2 x3 => fJ7_fill_53178_28_b5 (fJ7_fill_53178_28_l5 n) σ x1 x2 x3 
def fJ7_fill_53178_28 (σ : St) (x1 : Int32) : Option (Unit × St) :=
  fJ7_fill_53178_28_l5 gF σ x1 (0 : Int32) (6 : Int32)
def fX2_find_b26 (rc26 : St → Int32 → Int32 → Int32 → Option (Int32 × St)) (σ : St) (x1 : Int32) (x2 : Int32) (x3 : Int32) : Option (Int32 × St) :=
  if ((x1 * (σ.2.1 1))) ≤ x3 then some ((1 : Int32), σ) else Option.bind (fX2_spreadChains σ) fun q2 => Option.bind (fX2_bestEnd q2.2 x2) fun q4 => if q4.1 = (-6 : Int32) then some ((0 : Int32), q4.2) else Option.bind (fX2_change q4.2 q4.1) fun q7 => rc26 q7.2 x1 x2 (x3 + (1 : Int32))
def fX2_find_l26 : Nat → St → Int32 → Int32 → Int32 → Option (Int32 × St)
  | 0 => fun _ _ _ _ => none
  | n + 1 => fun σ x1 x2 x3 => fX2_find_b26 (fX2_find_l26 n) σ x1 x2 x3 
def fX2_find (σ : St) (x1 : Int32) (x2 : Int32) : Option (Int32 × St) :=
  Option.bind (fJ7_fill_53178_27 σ (0 : Int32)) fun q1 => Option.bind (fJ7_fill_53178_29 q1.2 (0 : Int32)) fun q3 => Option.bind (fJ7_fill_53178_28 q3.2 x1) fun q5 => fX2_find_l26 gF q5.2 x1 x2 (0 : Int32)
def fX2_bidsTogether_b55 (rc4 : St → Int32 → Int32 → Option (Int32 × St)) (rc17 : St → Int32 → Int32 → Int32 → Option (Int32 × St)) (σ : St) (x2 : Int32) (x3 : Int32) (t0 : Int32) (t1 : Int32) : Option (Int32 × St) :=
  rc17 σ (t0 + t1) x2 (x3 + (1 : Int32))
def fX2_bidsTogether_b17 (rc4 : St → Int32 → Int32 → Option (Int32 × St)) (rc17 : St → Int32 → Int32 → Int32 → Option (Int32 × St)) (σ : St) (x1 : Int32) (x2 : Int32) (x3 : Int32) : Option (Int32 × St) :=
  if (σ.2.1 0) ≤ x3 then rc4 σ x1 (x2 + (1 : Int32)) else if ib x2 6 = true then Option.bind (fX8_hasBit σ (σ.1 27 x2.toNatClampNeg) x3) fun q3 => if q3.1 = 0 then fX2_bidsTogether_b55 rc4 rc17 q3.2 x2 x3 x1 (0 : Int32) else Option.bind (fX4_bidOf q3.2 x3 x2) fun q6 => fX2_bidsTogether_b55 rc4 rc17 q6.2 x2 x3 x1 q6.1 else none
def fX2_bidsTogether_l17 (rc4 : St → Int32 → Int32 → Option (Int32 × St)) : Nat → St → Int32 → Int32 → Int32 → Option (Int32 × St)
  | 0 => fun _ _ _ _ => none
  | n + 1 => fun σ x1 x2 x3 => fX2_bidsTogether_b17 rc4 (fX2_bidsTogether_l17 rc4 n) σ x1 x2 x3 
def fX2_bidsTogether_b4 (rc4 : St → Int32 → Int32 → Option (Int32 × St)) (σ : St) (x1 : Int32) (x2 : Int32) : Option (Int32 × St) :=
  if (σ.2.1 1) ≤ x2 then some (x1, σ) else fX2_bidsTogether_l17 rc4 gF σ x1 x2 (0 : Int32)
def fX2_bidsTogether_l4 : Nat → St → Int32 → Int32 → Option (Int32 × St)
  | 0 => fun _ _ _ => none
  | n + 1 => fun σ x1 x2 => fX2_bidsTogether_b4 (fX2_bidsTogether_l4 n) σ x1 x2 
def fX2_bidsTogether (σ : St) : Option (Int32 × St) :=
  fX2_bidsTogether_l4 gF σ (0 : Int32) (0 : Int32)
def fX8_match_b18 (σ : St) (x1 : Int32) (x2 : Int32) (x3 : Int32) : Option (Int32 × St) :=
  Option.bind (fX8_within σ x1 (1 : Int32) (3 : Int32)) fun q1 => if q1.1 = 0 then some ((-2 : Int32), q1.2) else Option.bind (fX8_within q1.2 x2 (1 : Int32) (4 : Int32)) fun q4 => if q4.1 = 0 then some ((-2 : Int32), q4.2) else Option.bind (fX2_find q4.2 x1 x2) fun q7 => if q7.1 = 0 then some ((-5 : Int32), q7.2) else if x3 = (-1 : Int32) then Option.bind (fX2_bidsTogether q7.2) fun q12 => some (q12.1, q12.2) else if ib x3 6 = true then some ((q7.2.1 27 x3.toNatClampNeg), q7.2) else none
def fX8_match (σ : St) (x1 : Int32) (x2 : Int32) (x3 : Int32) : Option (Int32 × St) :=
  if x3 = (-1 : Int32) then fX8_match_b18 σ x1 x2 x3 else Option.bind (fX4_has σ x3) fun q2 => if q2.1 = 0 then some ((-1 : Int32), q2.2) else fX8_match_b18 q2.2 x1 x2 x3
def fJ6_compare_7cf53 (σ : St) (x0 : Int32) (x1 : Int32) : Option (Int32 × St) :=
  if x1 ≤ x0 then if x0 = x1 then some ((0 : Int32), σ) else some ((1 : Int32), σ) else some ((-1 : Int32), σ)
def fX8_agreement (σ : St) (x1 : Int32) (x2 : Int32) : Option (Int32 × St) :=
  if ib x1 6 = true then if ib x2 6 = true then Option.bind (fX1_countOf σ x1) fun q3 => Option.bind (fX1_countOf q3.2 x2) fun q5 => if (σ.1 17 x1.toNatClampNeg) = (-6 : Int32) then some ((0 : Int32), q5.2) else if (σ.1 17 x2.toNatClampNeg) = (-6 : Int32) then some ((0 : Int32), q5.2) else if q3.1 = 0 then some ((0 : Int32), q5.2) else if q5.1 = 0 then some ((0 : Int32), q5.2) else Option.bind (fX1_sumOf q5.2 x1) fun q11 => Option.bind (fX1_sumOf q11.2 x2) fun q13 => Option.bind (fJ6_compare_7cf53 q13.2 (q11.1 * q5.1) (q13.1 * q3.1)) fun q15 => Option.bind (fJ6_compare_7cf53 q15.2 (σ.1 17 x1.toNatClampNeg) (σ.1 17 x2.toNatClampNeg)) fun q17 => some ((q15.1 * q17.1), q17.2) else none else none
