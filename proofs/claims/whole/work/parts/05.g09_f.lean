def fX9_likeOf_b90 (rc5 : St → Int32 → Int32 → Int64 → Int32 → Option (Int64 × St)) (σ : St) (x1 : Int32) (x2 : Int32) (x5 : Int32) (t0 : Int64) (t1 : Int64) : Option (Int64 × St) :=
  rc5 σ x1 x2 (t0 * t1) (x5 + (1 : Int32))
def fX9_likeOf_b69 (rc5 : St → Int32 → Int32 → Int64 → Int32 → Option (Int64 × St)) (rc33 : St → Int32 → Int32 → Int64 → Int32 → Int32 → Int64 → Int32 → Option (Int64 × St)) (σ : St) (x1 : Int32) (x2 : Int32) (x3 : Int64) (x5 : Int32) (x6 : Int32) (x9 : Int32) (t0 : Int64) (t1 : Int64) : Option (Int64 × St) :=
  rc33 σ x1 x2 x3 x5 x6 (t0 + t1) (x9 + (1 : Int32))
def fX9_likeOf_b33 (rc5 : St → Int32 → Int32 → Int64 → Int32 → Option (Int64 × St)) (rc33 : St → Int32 → Int32 → Int64 → Int32 → Int32 → Int64 → Int32 → Option (Int64 × St)) (σ : St) (x1 : Int32) (x2 : Int32) (x3 : Int64) (x5 : Int32) (x6 : Int32) (x7 : Int64) (x9 : Int32) : Option (Int64 × St) :=
  if (3 : Int32) ≤ x9 then if 0 ≤ x6 then fX9_likeOf_b90 rc5 σ x1 x2 x5 x3 x7 else fX9_likeOf_b90 rc5 σ x1 x2 x5 x3 (1 : Int64) else Option.bind (fX9_markOf σ x5 x1 x2 x9) fun q3 => if q3.1 = x6 then Option.bind (fX9_quarters q3.2 x5 x9) fun q6 => fX9_likeOf_b69 rc5 rc33 q6.2 x1 x2 x3 x5 x6 x9 x7 q6.1.toInt64 else fX9_likeOf_b69 rc5 rc33 q3.2 x1 x2 x3 x5 x6 x9 x7 (0 : Int64)
def fX9_likeOf_l33 (rc5 : St → Int32 → Int32 → Int64 → Int32 → Option (Int64 × St)) : Nat → St → Int32 → Int32 → Int64 → Int32 → Int32 → Int64 → Int32 → Option (Int64 × St)
  | 0 => fun _ _ _ _ _ _ _ _ => none
  | n + 1 => fun σ x1 x2 x3 x5 x6 x7 x9 => fX9_likeOf_b33 rc5 (fX9_likeOf_l33 rc5 n) σ x1 x2 x3 x5 x6 x7 x9 
def fX9_likeOf_b5 (rc5 : St → Int32 → Int32 → Int64 → Int32 → Option (Int64 × St)) (σ : St) (x1 : Int32) (x2 : Int32) (x3 : Int64) (x5 : Int32) : Option (Int64 × St) :=
  if (σ.2.1 0) ≤ x5 then some (x3, σ) else Option.bind (fX9_at σ x5 x1) fun q2 => if ib q2.1 36 = true then fX9_likeOf_l33 rc5 gF q2.2 x1 x2 x3 x5 (q2.2.1 9 q2.1.toNatClampNeg) (0 : Int64) (0 : Int32) else none
def fX9_likeOf_l5 : Nat → St → Int32 → Int32 → Int64 → Int32 → Option (Int64 × St)
  | 0 => fun _ _ _ _ _ => none
  | n + 1 => fun σ x1 x2 x3 x5 => fX9_likeOf_b5 (fX9_likeOf_l5 n) σ x1 x2 x3 x5 
def fX9_likeOf (σ : St) (x1 : Int32) (x2 : Int32) : Option (Int64 × St) :=
  fX9_likeOf_l5 gF σ x1 x2 (1 : Int64) (0 : Int32)
def fX9_worth_b41 (rc41 : St → Int32 → Int32 → Int32 → Int64 → Int32 → Option (Int64 × St)) (σ : St) (x1 : Int32) (x2 : Int32) (x3 : Int32) (x4 : Int64) (x6 : Int32) : Option (Int64 × St) :=
  if (6 : Int32) ≤ x6 then if ((lg_cmp x4 (0 : Int64))) = 0 then some (x3.toInt64, σ) else Option.bind (fX9_likeOf σ x1 x2) fun q3 => Option.bind (fX9_lowest q3.2 q3.1 x4 x3) fun q5 => some (q5.1, q5.2) else Option.bind (fX9_likeOf σ x1 x6) fun q7 => rc41 q7.2 x1 x2 x3 (x4 + q7.1) (x6 + (1 : Int32))
def fX9_worth_l41 : Nat → St → Int32 → Int32 → Int32 → Int64 → Int32 → Option (Int64 × St)
  | 0 => fun _ _ _ _ _ _ => none
  | n + 1 => fun σ x1 x2 x3 x4 x6 => fX9_worth_b41 (fX9_worth_l41 n) σ x1 x2 x3 x4 x6 
def fX9_worth (σ : St) (x1 : Int32) (x2 : Int32) (x3 : Int32) : Option (Int64 × St) :=
  Option.bind (fX9_isPaper σ x1) fun q1 => if q1.1 = 0 then some ((-1000000000000000001 : Int64), q1.2) else Option.bind (fX9_in q1.2 x2.toInt64 (0 : Int64) (5 : Int64)) fun q4 => if q4.1 = 0 then some ((-1000000000000000002 : Int64), q4.2) else Option.bind (fX9_isPart q4.2 x3) fun q7 => if q7.1 = 0 then some ((-1000000000000000002 : Int64), q7.2) else fX9_worth_l41 gF q7.2 x1 x2 x3 (0 : Int64) (0 : Int32)
def fX9_joinedOf_b125 (rc43 : St → Int32 → Int32 → Option (Int32 × St)) (rc53 : St → Int32 → Int32 → Int32 → Option (Int32 × St)) (σ : St) (x3 : Int32) (x4 : Int32) (t0 : Int32) (t1 : Int32) : Option (Int32 × St) :=
  rc53 σ (t0 ||| t1) x3 (x4 + (1 : Int32))
def fX9_joinedOf_b102 (rc43 : St → Int32 → Int32 → Option (Int32 × St)) (rc53 : St → Int32 → Int32 → Int32 → Option (Int32 × St)) (rc68 : St → Int32 → Int32 → Int32 → Int32 → Int32 → Option (Int32 × St)) (σ : St) (x2 : Int32) (x3 : Int32) (x4 : Int32) (x6 : Int32) (t0 : Int32) (t1 : Int32) : Option (Int32 × St) :=
  rc68 σ x2 x3 x4 (t0 ||| t1) (x6 + (1 : Int32))
def fX9_joinedOf_b68 (rc43 : St → Int32 → Int32 → Option (Int32 × St)) (rc53 : St → Int32 → Int32 → Int32 → Option (Int32 × St)) (rc68 : St → Int32 → Int32 → Int32 → Int32 → Int32 → Option (Int32 × St)) (σ : St) (x2 : Int32) (x3 : Int32) (x4 : Int32) (x5 : Int32) (x6 : Int32) : Option (Int32 × St) :=
  if (σ.2.1 0) ≤ x6 then if (x5 &&& x2) = 0 then fX9_joinedOf_b125 rc43 rc53 σ x3 x4 x2 (0 : Int32) else fX9_joinedOf_b125 rc43 rc53 σ x3 x4 x2 x5 else Option.bind (fX9_at σ x6 x4) fun q3 => if ib q3.1 36 = true then if (q3.2.1 9 q3.1.toNatClampNeg) < 0 then fX9_joinedOf_b102 rc43 rc53 rc68 q3.2 x2 x3 x4 x6 x5 (0 : Int32) else fX9_joinedOf_b102 rc43 rc53 rc68 q3.2 x2 x3 x4 x6 x5 ((1 : Int32) <<< (x6 &&& 31)) else none
def fX9_joinedOf_l68 (rc43 : St → Int32 → Int32 → Option (Int32 × St)) (rc53 : St → Int32 → Int32 → Int32 → Option (Int32 × St)) : Nat → St → Int32 → Int32 → Int32 → Int32 → Int32 → Option (Int32 × St)
  | 0 => fun _ _ _ _ _ _ => none
  | n + 1 => fun σ x2 x3 x4 x5 x6 => fX9_joinedOf_b68 rc43 rc53 (fX9_joinedOf_l68 rc43 rc53 n) σ x2 x3 x4 x5 x6 
def fX9_joinedOf_b53 (rc43 : St → Int32 → Int32 → Option (Int32 × St)) (rc53 : St → Int32 → Int32 → Int32 → Option (Int32 × St)) (σ : St) (x2 : Int32) (x3 : Int32) (x4 : Int32) : Option (Int32 × St) :=
  if (σ.2.1 1) ≤ x4 then rc43 σ x2 x3 else fX9_joinedOf_l68 rc43 rc53 gF σ x2 x3 x4 (0 : Int32) (0 : Int32)
def fX9_joinedOf_l53 (rc43 : St → Int32 → Int32 → Option (Int32 × St)) : Nat → St → Int32 → Int32 → Int32 → Option (Int32 × St)
  | 0 => fun _ _ _ _ => none
  | n + 1 => fun σ x2 x3 x4 => fX9_joinedOf_b53 rc43 (fX9_joinedOf_l53 rc43 n) σ x2 x3 x4 
def fX9_joinedOf_b43 (rc43 : St → Int32 → Int32 → Option (Int32 × St)) (σ : St) (x2 : Int32) (x3 : Int32) : Option (Int32 × St) :=
  if x3 = x2 then some (x2, σ) else fX9_joinedOf_l53 rc43 gF σ x2 x2 (0 : Int32)
def fX9_joinedOf_l43 : Nat → St → Int32 → Int32 → Option (Int32 × St)
  | 0 => fun _ _ _ => none
  | n + 1 => fun σ x2 x3 => fX9_joinedOf_b43 (fX9_joinedOf_l43 n) σ x2 x3 
def fX9_joinedOf_b33 (rc4 : St → Int32 → Int32 → Int32 → Option (Int32 × St)) (σ : St) (x1 : Int32) (x3 : Int32) (t0 : Int32) (t1 : Int32) : Option (Int32 × St) :=
  rc4 σ x1 (t0 ||| t1) (x3 + (1 : Int32))
def fX9_joinedOf_b4 (rc4 : St → Int32 → Int32 → Int32 → Option (Int32 × St)) (σ : St) (x1 : Int32) (x2 : Int32) (x3 : Int32) : Option (Int32 × St) :=
  if (σ.2.1 1) ≤ x3 then fX9_joinedOf_l43 gF σ x2 (0 : Int32) else Option.bind (fX9_at σ x1 x3) fun q2 => if ib q2.1 36 = true then if (q2.2.1 9 q2.1.toNatClampNeg) < 0 then fX9_joinedOf_b33 rc4 q2.2 x1 x3 x2 (0 : Int32) else fX9_joinedOf_b33 rc4 q2.2 x1 x3 x2 ((1 : Int32) <<< (x1 &&& 31)) else none
def fX9_joinedOf_l4 : Nat → St → Int32 → Int32 → Int32 → Option (Int32 × St)
  | 0 => fun _ _ _ _ => none
  | n + 1 => fun σ x1 x2 x3 => fX9_joinedOf_b4 (fX9_joinedOf_l4 n) σ x1 x2 x3 
def fX9_joinedOf (σ : St) (x1 : Int32) : Option (Int32 × St) :=
  fX9_joinedOf_l4 gF σ x1 (0 : Int32) (0 : Int32)
def fX9_joined (σ : St) (x1 : Int32) : Option (Int32 × St) :=
  Option.bind (fX9_isJudge σ x1) fun q1 => if q1.1 = 0 then some ((-1 : Int32), q1.2) else Option.bind (fX9_joinedOf q1.2 x1) fun q4 => some (q4.1, q4.2)
def fX9_parts_b38 (rc4 : St → Int32 → Int32 → Option (Int32 × St)) (σ : St) (x2 : Int32) (t0 : Int32) (t1 : Int32) : Option (Int32 × St) :=
  rc4 σ (t0 + t1) (x2 + (1 : Int32))
def fX9_parts_b37 (rc4 : St → Int32 → Int32 → Option (Int32 × St)) (σ : St) (x2 : Int32) (t0 : Int32) : Option (Int32 × St) :=
  fX9_parts_b38 rc4 σ x2 t0 (0 : Int32)
def fX9_parts_b4 (rc4 : St → Int32 → Int32 → Option (Int32 × St)) (σ : St) (x1 : Int32) (x2 : Int32) : Option (Int32 × St) :=
  if (σ.2.1 0) ≤ x2 then some (x1, σ) else Option.bind (fX9_joinedOf σ x2) fun q2 => if q2.1 = 0 then fX9_parts_b37 rc4 q2.2 x2 x1 else if ((q2.1 &&& (((((1 : Int32) <<< (x2 &&& 31))) - (1 : Int32))))) = 0 then fX9_parts_b38 rc4 q2.2 x2 x1 (1 : Int32) else fX9_parts_b37 rc4 q2.2 x2 x1
def fX9_parts_l4 : Nat → St → Int32 → Int32 → Option (Int32 × St)
  | 0 => fun _ _ _ => none
  | n + 1 => fun σ x1 x2 => fX9_parts_b4 (fX9_parts_l4 n) σ x1 x2 
def fX9_parts (σ : St) : Option (Int32 × St) :=
  fX9_parts_l4 gF σ (0 : Int32) (0 : Int32)
def fX9_harsh_b172 (rc31 : St → Int32 → Int32 → Int64 → Int64 → Int32 → Option (Int64 × St)) (σ : St) (x1 : Int32) (x2 : Int32) (x3 : Int64) (x5 : Int64) (x7 : Int32) : Option (Int64 × St) :=
  rc31 σ x1 x2 x3 x5 (x7 + (1 : Int32))
def fX9_harsh_b112 (rc31 : St → Int32 → Int32 → Int64 → Int64 → Int32 → Option (Int64 × St)) (rc49 : St → Int32 → Int32 → Int64 → Int64 → Int32 → Int32 → Int32 → Int32 → Option (Int64 × St)) (σ : St) (x1 : Int32) (x2 : Int32) (x3 : Int64) (x5 : Int64) (x7 : Int32) (x8 : Int32) (x10 : Int32) (t0 : Int32) (t1 : Int32) : Option (Int64 × St) :=
  rc49 σ x1 x2 x3 x5 x7 x8 (t0 + t1) (x10 + (1 : Int32))
def fX9_harsh_b111 (rc31 : St → Int32 → Int32 → Int64 → Int64 → Int32 → Option (Int64 × St)) (rc49 : St → Int32 → Int32 → Int64 → Int64 → Int32 → Int32 → Int32 → Int32 → Option (Int64 × St)) (σ : St) (x1 : Int32) (x2 : Int32) (x3 : Int64) (x5 : Int64) (x7 : Int32) (x8 : Int32) (x10 : Int32) (t0 : Int32) : Option (Int64 × St) :=
  fX9_harsh_b112 rc31 rc49 σ x1 x2 x3 x5 x7 x8 x10 t0 (0 : Int32)
def fX9_harsh_b91 (rc31 : St → Int32 → Int32 → Int64 → Int64 → Int32 → Option (Int64 × St)) (rc49 : St → Int32 → Int32 → Int64 → Int64 → Int32 → Int32 → Int32 → Int32 → Option (Int64 × St)) (σ : St) (x1 : Int32) (x2 : Int32) (x3 : Int64) (x5 : Int64) (x7 : Int32) (x9 : Int32) (x10 : Int32) (x11 : Int32) (t0 : Int32) (t1 : Int32) : Option (Int64 × St) :=
  if x10 = x1 then fX9_harsh_b111 rc31 rc49 σ x1 x2 x3 x5 x7 (t0 + t1) x10 x9 else if x11 < 0 then fX9_harsh_b111 rc31 rc49 σ x1 x2 x3 x5 x7 (t0 + t1) x10 x9 else fX9_harsh_b112 rc31 rc49 σ x1 x2 x3 x5 x7 (t0 + t1) x10 x9 (1 : Int32)
def fX9_harsh_b90 (rc31 : St → Int32 → Int32 → Int64 → Int64 → Int32 → Option (Int64 × St)) (rc49 : St → Int32 → Int32 → Int64 → Int64 → Int32 → Int32 → Int32 → Int32 → Option (Int64 × St)) (σ : St) (x1 : Int32) (x2 : Int32) (x3 : Int64) (x5 : Int64) (x7 : Int32) (x9 : Int32) (x10 : Int32) (x11 : Int32) (t0 : Int32) : Option (Int64 × St) :=
  fX9_harsh_b91 rc31 rc49 σ x1 x2 x3 x5 x7 x9 x10 x11 t0 (0 : Int32)
def fX9_harsh_b49 (rc31 : St → Int32 → Int32 → Int64 → Int64 → Int32 → Option (Int64 × St)) (rc49 : St → Int32 → Int32 → Int64 → Int64 → Int32 → Int32 → Int32 → Int32 → Option (Int64 × St)) (σ : St) (x1 : Int32) (x2 : Int32) (x3 : Int64) (x5 : Int64) (x7 : Int32) (x8 : Int32) (x9 : Int32) (x10 : Int32) : Option (Int64 × St) :=
  if (σ.2.1 0) ≤ x10 then Option.bind (fX9_at σ x1 x7) fun q2 => if ib q2.1 36 = true then if (q2.2.1 9 q2.1.toNatClampNeg) < 0 then fX9_harsh_b172 rc31 q2.2 x1 x2 x3 x5 x7 else if x9 ≤ 0 then fX9_harsh_b172 rc31 q2.2 x1 x2 x3 x5 x7 else if ¬ x9.toInt64 = 0 then fX9_harsh_b172 rc31 q2.2 x1 x2 (x3 + (((((60 : Int64) * ((q2.2.1 9 q2.1.toNatClampNeg).toInt64))) - (((((60 : Int64) * x8.toInt64)) / x9.toInt64))))) (x5 + (1 : Int64)) x7 else none else none else Option.bind (fX9_at σ x10 x7) fun q8 => if ib q8.1 36 = true then if x10 = x1 then fX9_harsh_b90 rc31 rc49 q8.2 x1 x2 x3 x5 x7 x9 x10 (q8.2.1 9 q8.1.toNatClampNeg) x8 else if (q8.2.1 9 q8.1.toNatClampNeg) < 0 then fX9_harsh_b90 rc31 rc49 q8.2 x1 x2 x3 x5 x7 x9 x10 (q8.2.1 9 q8.1.toNatClampNeg) x8 else fX9_harsh_b91 rc31 rc49 q8.2 x1 x2 x3 x5 x7 x9 x10 (q8.2.1 9 q8.1.toNatClampNeg) x8 (q8.2.1 9 q8.1.toNatClampNeg) else none
def fX9_harsh_l49 (rc31 : St → Int32 → Int32 → Int64 → Int64 → Int32 → Option (Int64 × St)) : Nat → St → Int32 → Int32 → Int64 → Int64 → Int32 → Int32 → Int32 → Int32 → Option (Int64 × St)
  | 0 => fun _ _ _ _ _ _ _ _ _ => none
  | n + 1 => fun σ x1 x2 x3 x5 x7 x8 x9 x10 => fX9_harsh_b49 rc31 (fX9_harsh_l49 rc31 n) σ x1 x2 x3 x5 x7 x8 x9 x10 
def fX9_harsh_b31 (rc31 : St → Int32 → Int32 → Int64 → Int64 → Int32 → Option (Int64 × St)) (σ : St) (x1 : Int32) (x2 : Int32) (x3 : Int64) (x5 : Int64) (x7 : Int32) : Option (Int64 × St) :=
  if (σ.2.1 1) ≤ x7 then if ((lg_cmp x5 (0 : Int64))) = 0 then some (x2.toInt64, σ) else Option.bind (fX9_lowest σ x3 (((60 : Int64) * x5)) x2) fun q3 => some (q3.1, q3.2) else fX9_harsh_l49 rc31 gF σ x1 x2 x3 x5 x7 (0 : Int32) (0 : Int32) (0 : Int32)
def fX9_harsh_l31 : Nat → St → Int32 → Int32 → Int64 → Int64 → Int32 → Option (Int64 × St)
  | 0 => fun _ _ _ _ _ _ => none
  | n + 1 => fun σ x1 x2 x3 x5 x7 => fX9_harsh_b31 (fX9_harsh_l31 n) σ x1 x2 x3 x5 x7 
def fX9_harsh (σ : St) (x1 : Int32) (x2 : Int32) : Option (Int64 × St) :=
  Option.bind (fX9_isJudge σ x1) fun q1 => if q1.1 = 0 then some ((-1000000000000000001 : Int64), q1.2) else Option.bind (fX9_isPart q1.2 x2) fun q4 => if q4.1 = 0 then some ((-1000000000000000002 : Int64), q4.2) else fX9_harsh_l31 gF q4.2 x1 x2 (0 : Int64) (0 : Int64) (0 : Int32)
def fX9_gave_b49 (rc5 : St → Int32 → Int32 → Int32 → Int32 → Option (Int32 × St)) (σ : St) (x1 : Int32) (x2 : Int32) (x4 : Int32) (t0 : Int32) : Option (Int32 × St) :=
  rc5 σ x1 x2 t0 (x4 + (1 : Int32))
def fX9_gave_b44 (rc5 : St → Int32 → Int32 → Int32 → Int32 → Option (Int32 × St)) (σ : St) (x1 : Int32) (x2 : Int32) (x4 : Int32) : Option (Int32 × St) :=
  fX9_gave_b49 rc5 σ x1 x2 x4 (1 : Int32)
def fX9_gave_b48 (rc5 : St → Int32 → Int32 → Int32 → Int32 → Option (Int32 × St)) (σ : St) (x1 : Int32) (x2 : Int32) (x4 : Int32) : Option (Int32 × St) :=
  fX9_gave_b49 rc5 σ x1 x2 x4 (0 : Int32)
def fX9_gave_b5 (rc5 : St → Int32 → Int32 → Int32 → Int32 → Option (Int32 × St)) (σ : St) (x1 : Int32) (x2 : Int32) (x3 : Int32) (x4 : Int32) : Option (Int32 × St) :=
  if (σ.2.1 1) ≤ x4 then if x3 = 0 ∨ x3 = 1 then some (x3, σ) else none else if x3 = 0 then if ib x4 6 = true then if (σ.1 6 x4.toNatClampNeg) = x2 then Option.bind (fX9_at σ x1 x4) fun q6 => if ib q6.1 36 = true then if (q6.2.1 9 q6.1.toNatClampNeg) < (4 : Int32) then fX9_gave_b48 rc5 q6.2 x1 x2 x4 else fX9_gave_b44 rc5 q6.2 x1 x2 x4 else none else fX9_gave_b48 rc5 σ x1 x2 x4 else none else fX9_gave_b44 rc5 σ x1 x2 x4
def fX9_gave_l5 : Nat → St → Int32 → Int32 → Int32 → Int32 → Option (Int32 × St)
  | 0 => fun _ _ _ _ _ => none
  | n + 1 => fun σ x1 x2 x3 x4 => fX9_gave_b5 (fX9_gave_l5 n) σ x1 x2 x3 x4 
def fX9_gave (σ : St) (x1 : Int32) (x2 : Int32) : Option (Int32 × St) :=
  fX9_gave_l5 gF σ x1 x2 (0 : Int32) (0 : Int32)
