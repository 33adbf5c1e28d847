def fX8_held_b72 (rc27 : St → Int32 → Int32 → Int32 → Option (Int32 × St)) (rc45 : St → Int32 → Int32 → Int32 → Int32 → Option (Int32 × St)) (σ : St) (x2 : Int32) (x3 : Int32) (x4 : Int32) (x5 : Int32) : Option (Int32 × St) :=
  rc45 σ x2 x3 x4 (x5 + (1 : Int32))
def fX8_held_b45 (rc27 : St → Int32 → Int32 → Int32 → Option (Int32 × St)) (rc45 : St → Int32 → Int32 → Int32 → Int32 → Option (Int32 × St)) (σ : St) (x2 : Int32) (x3 : Int32) (x4 : Int32) (x5 : Int32) : Option (Int32 × St) :=
  if (σ.2.1 1) ≤ x5 then rc27 σ x2 x3 (x4 + (1 : Int32)) else Option.bind (fX8_agreement σ x4 x5) fun q2 => if q2.1 = x2 then fX8_held_b72 rc27 rc45 q2.2 x2 (x3 + (1 : Int32)) x4 x5 else fX8_held_b72 rc27 rc45 q2.2 x2 x3 x4 x5
def fX8_held_l45 (rc27 : St → Int32 → Int32 → Int32 → Option (Int32 × St)) : Nat → St → Int32 → Int32 → Int32 → Int32 → Option (Int32 × St)
  | 0 => fun _ _ _ _ _ => none
  | n + 1 => fun σ x2 x3 x4 x5 => fX8_held_b45 rc27 (fX8_held_l45 rc27 n) σ x2 x3 x4 x5 
def fX8_held_b27 (rc27 : St → Int32 → Int32 → Int32 → Option (Int32 × St)) (σ : St) (x2 : Int32) (x3 : Int32) (x4 : Int32) : Option (Int32 × St) :=
  if (σ.2.1 1) ≤ x4 then some (x3, σ) else fX8_held_l45 rc27 gF σ x2 x3 x4 (x4 + (1 : Int32))
def fX8_held_l27 : Nat → St → Int32 → Int32 → Int32 → Option (Int32 × St)
  | 0 => fun _ _ _ _ => none
  | n + 1 => fun σ x2 x3 x4 => fX8_held_b27 (fX8_held_l27 n) σ x2 x3 x4 
def fX8_held_b21 (σ : St) (t0 : Int32) : Option (Int32 × St) :=
  fX8_held_l27 gF σ t0 (0 : Int32) (0 : Int32)
def fX8_held (σ : St) (x1 : Int32) : Option (Int32 × St) :=
  Option.bind (fX8_within σ x1 (0 : Int32) (1 : Int32)) fun q1 => if q1.1 = 0 then some ((-2 : Int32), q1.2) else if x1 = 0 then fX8_held_b21 q1.2 (1 : Int32) else fX8_held_b21 q1.2 (-1 : Int32)
def fX1_countAll_b4 (rc4 : St → Int32 → Int32 → Option (Int32 × St)) (σ : St) (x1 : Int32) (x2 : Int32) : Option (Int32 × St) :=
  if (6 : Int32) ≤ x2 then some (x1, σ) else Option.bind (fX1_countOf σ x2) fun q2 => rc4 q2.2 (x1 + q2.1) (x2 + (1 : Int32))
def fX1_countAll_l4 : Nat → St → Int32 → Int32 → Option (Int32 × St)
  | 0 => fun _ _ _ => none
  | n + 1 => fun σ x1 x2 => fX1_countAll_b4 (fX1_countAll_l4 n) σ x1 x2 
def fX1_countAll (σ : St) : Option (Int32 × St) :=
  fX1_countAll_l4 gF σ (0 : Int32) (0 : Int32)
def fX8_told (σ : St) (x1 : Int32) : Option (Int32 × St) :=
  if x1 = (0 : Int32) then some ((σ.2.1 0), σ) else if x1 = (1 : Int32) then some ((σ.2.1 1), σ) else if x1 = (2 : Int32) then some ((σ.2.1 2), σ) else if x1 = (3 : Int32) then some ((σ.2.1 3), σ) else if x1 = (4 : Int32) then Option.bind (fX1_countAll σ) fun q6 => some (q6.1, q6.2) else some ((-2 : Int32), σ)
def fX9_at (σ : St) (x0 : Int32) (x1 : Int32) : Option (Int32 × St) :=
  some (((((6 : Int32) * x0)) + x1), σ)
def fX9_in (σ : St) (x0 : Int64) (x2 : Int64) (x4 : Int64) : Option (Int32 × St) :=
  if (lg_cmp x0 x2) < 0 then some ((0 : Int32), σ) else if 0 < (lg_cmp x0 x4) then some ((0 : Int32), σ) else some ((1 : Int32), σ)
def fX9_judge_b63 (rc63 : St → Int32 → Option (Int32 × St)) (σ : St) (x3 : Int32) : Option (Int32 × St) :=
  if (6 : Int32) ≤ x3 then some ((((((uI σ 0 (((σ.2.1 0) + (1 : Int32))))).2.1 0)) - (1 : Int32)), (uI σ 0 (((σ.2.1 0) + (1 : Int32))))) else Option.bind (fX9_at σ (σ.2.1 0) x3) fun q2 => if ib q2.1 36 = true then rc63 (uA q2.2 9 q2.1.toNatClampNeg (-6 : Int32)) (x3 + (1 : Int32)) else none
def fX9_judge_l63 : Nat → St → Int32 → Option (Int32 × St)
  | 0 => fun _ _ => none
  | n + 1 => fun σ x3 => fX9_judge_b63 (fX9_judge_l63 n) σ x3 
def fX9_judge (σ : St) (x1 : Int32) (x2 : Int32) : Option (Int32 × St) :=
  Option.bind (fX9_in σ x1.toInt64 (-2 : Int64) (2 : Int64)) fun q1 => if q1.1 = 0 then some ((-2 : Int32), q1.2) else Option.bind (fX9_in q1.2 x2.toInt64 (0 : Int64) (2 : Int64)) fun q4 => if q4.1 = 0 then some ((-2 : Int32), q4.2) else if (q4.2.2.1 0) = (6 : Int32) then some ((-4 : Int32), q4.2) else if ib (q4.2.2.1 0) 6 = true then if ib ((((uA q4.2 1 (q4.2.2.1 0).toNatClampNeg x1)).2.1 0)) 6 = true then fX9_judge_l63 gF (uA ((uA q4.2 1 (q4.2.2.1 0).toNatClampNeg x1)) 2 ((((uA q4.2 1 (q4.2.2.1 0).toNatClampNeg x1)).2.1 0)).toNatClampNeg x2) (0 : Int32) else none else none
def fX9_isJudge (σ : St) (x1 : Int32) : Option (Int32 × St) :=
  Option.bind (fX9_in σ x1.toInt64 (0 : Int64) ((((σ.2.1 0) - (1 : Int32))).toInt64)) fun q1 => if q1.1 = 0 ∨ q1.1 = 1 then some (q1.1, q1.2) else none
def fX9_paper_b16 (σ : St) (x1 : Int32) (x2 : Int32) : Option (Int32 × St) :=
  Option.bind (fX9_in σ x1.toInt64 (0 : Int64) (5 : Int64)) fun q1 => if q1.1 = 0 then some ((-2 : Int32), q1.2) else if (q1.2.2.1 1) = (6 : Int32) then some ((-4 : Int32), q1.2) else if ib (q1.2.2.1 1) 6 = true then if ib ((((uA q1.2 5 (q1.2.2.1 1).toNatClampNeg x1)).2.1 1)) 6 = true then if ib ((((uA ((uA q1.2 5 (q1.2.2.1 1).toNatClampNeg x1)) 6 ((((uA q1.2 5 (q1.2.2.1 1).toNatClampNeg x1)).2.1 1)).toNatClampNeg x2)).2.1 1)) 6 = true then some ((((((uI ((uA ((uA ((uA q1.2 5 (q1.2.2.1 1).toNatClampNeg x1)) 6 ((((uA q1.2 5 (q1.2.2.1 1).toNatClampNeg x1)).2.1 1)).toNatClampNeg x2)) 8 ((((uA ((uA q1.2 5 (q1.2.2.1 1).toNatClampNeg x1)) 6 ((((uA q1.2 5 (q1.2.2.1 1).toNatClampNeg x1)).2.1 1)).toNatClampNeg x2)).2.1 1)).toNatClampNeg (-6 : Int32))) 1 ((((((uA ((uA ((uA q1.2 5 (q1.2.2.1 1).toNatClampNeg x1)) 6 ((((uA q1.2 5 (q1.2.2.1 1).toNatClampNeg x1)).2.1 1)).toNatClampNeg x2)) 8 ((((uA ((uA q1.2 5 (q1.2.2.1 1).toNatClampNeg x1)) 6 ((((uA q1.2 5 (q1.2.2.1 1).toNatClampNeg x1)).2.1 1)).toNatClampNeg x2)).2.1 1)).toNatClampNeg (-6 : Int32))).2.1 1)) + (1 : Int32))))).2.1 1)) - (1 : Int32)), (uI ((uA ((uA ((uA q1.2 5 (q1.2.2.1 1).toNatClampNeg x1)) 6 ((((uA q1.2 5 (q1.2.2.1 1).toNatClampNeg x1)).2.1 1)).toNatClampNeg x2)) 8 ((((uA ((uA q1.2 5 (q1.2.2.1 1).toNatClampNeg x1)) 6 ((((uA q1.2 5 (q1.2.2.1 1).toNatClampNeg x1)).2.1 1)).toNatClampNeg x2)).2.1 1)).toNatClampNeg (-6 : Int32))) 1 ((((((uA ((uA ((uA q1.2 5 (q1.2.2.1 1).toNatClampNeg x1)) 6 ((((uA q1.2 5 (q1.2.2.1 1).toNatClampNeg x1)).2.1 1)).toNatClampNeg x2)) 8 ((((uA ((uA q1.2 5 (q1.2.2.1 1).toNatClampNeg x1)) 6 ((((uA q1.2 5 (q1.2.2.1 1).toNatClampNeg x1)).2.1 1)).toNatClampNeg x2)).2.1 1)).toNatClampNeg (-6 : Int32))).2.1 1)) + (1 : Int32))))) else none else none else none
def fX9_paper (σ : St) (x1 : Int32) (x2 : Int32) : Option (Int32 × St) :=
  if x2 = (-6 : Int32) then fX9_paper_b16 σ x1 x2 else Option.bind (fX9_isJudge σ x2) fun q2 => if q2.1 = 0 then some ((-1 : Int32), q2.2) else fX9_paper_b16 q2.2 x1 x2
def fX9_tie (σ : St) (x1 : Int32) (x2 : Int32) (x3 : Int32) : Option (Int32 × St) :=
  Option.bind (fX9_isJudge σ x1) fun q1 => if q1.1 = 0 then some ((-1 : Int32), q1.2) else Option.bind (fX9_isJudge q1.2 x2) fun q4 => if q4.1 = 0 then some ((-1 : Int32), q4.2) else if x1 = x2 then some ((-1 : Int32), q4.2) else Option.bind (fX9_in q4.2 x3.toInt64 (-1 : Int64) (1 : Int64)) fun q8 => if q8.1 = 0 then some ((-2 : Int32), q8.2) else if ib (((((6 : Int32) * x1)) + x2)) 36 = true then if ib (((((6 : Int32) * x1)) + x2)) 36 = true then if ib (((((6 : Int32) * x2)) + x1)) 36 = true then some ((((q8.2.1 4 (((((6 : Int32) * x1)) + x2)).toNatClampNeg)) + (10 : Int32)), (uA ((uA q8.2 4 (((((6 : Int32) * x1)) + x2)).toNatClampNeg x3)) 4 (((((6 : Int32) * x2)) + x1)).toNatClampNeg x3)) else none else none else none
def fX9_isPaper (σ : St) (x1 : Int32) : Option (Int32 × St) :=
  Option.bind (fX9_in σ x1.toInt64 (0 : Int64) ((((σ.2.1 1) - (1 : Int32))).toInt64)) fun q1 => if q1.1 = 0 ∨ q1.1 = 1 then some (q1.1, q1.2) else none
def fX9_mark (σ : St) (x1 : Int32) (x2 : Int32) (x3 : Int32) : Option (Int32 × St) :=
  Option.bind (fX9_isJudge σ x1) fun q1 => if q1.1 = 0 then some ((-1 : Int32), q1.2) else Option.bind (fX9_isPaper q1.2 x2) fun q4 => if q4.1 = 0 then some ((-1 : Int32), q4.2) else Option.bind (fX9_in q4.2 x3.toInt64 (-1 : Int64) (5 : Int64)) fun q7 => if q7.1 = 0 then some ((-2 : Int32), q7.2) else if ib x2 6 = true then if (q7.2.1 6 x2.toNatClampNeg) = x1 then some ((-5 : Int32), q7.2) else Option.bind (fX9_at q7.2 x1 x2) fun q12 => if ib q12.1 36 = true then Option.bind (fX9_at q12.2 x1 x2) fun q15 => if 0 ≤ x3 then if ib q15.1 36 = true then some ((q12.2.1 9 q12.1.toNatClampNeg), (uA q15.2 9 q15.1.toNatClampNeg x3)) else none else if ib q15.1 36 = true then some ((q12.2.1 9 q12.1.toNatClampNeg), (uA q15.2 9 q15.1.toNatClampNeg (-6 : Int32))) else none else none else none
def fX9_set_b110 (σ : St) (x1 : Int32) (x2 : Int32) (x3 : Int32) (t0 : Int32) : Option (Int32 × St) :=
  if x1 = 0 then if ib x2 6 = true then some (t0, (uA σ 3 x2.toNatClampNeg x3)) else none else if x1 = (1 : Int32) then if ib x2 6 = true then some (t0, (uA σ 7 x2.toNatClampNeg x3)) else none else if 0 ≤ x3 then if ib x2 6 = true then some (t0, (uA σ 8 x2.toNatClampNeg x3)) else none else if ib x2 6 = true then some (t0, (uA σ 8 x2.toNatClampNeg (-6 : Int32))) else none
def fX9_set_b68 (σ : St) (x1 : Int32) (x2 : Int32) (x3 : Int32) (t0 : Int64) (t1 : Int64) (t2 : Int64) : Option (Int32 × St) :=
  Option.bind (fX9_in σ t0 t1 t2) fun q1 => if q1.1 = 0 then some ((-2 : Int32), q1.2) else if x1 = 0 then if ib x2 6 = true then fX9_set_b110 q1.2 x1 x2 x3 (q1.2.1 3 x2.toNatClampNeg) else none else if x1 = (1 : Int32) then if ib x2 6 = true then fX9_set_b110 q1.2 x1 x2 x3 (q1.2.1 7 x2.toNatClampNeg) else none else if ib x2 6 = true then fX9_set_b110 q1.2 x1 x2 x3 (q1.2.1 8 x2.toNatClampNeg) else none
def fX9_set_b54 (σ : St) (x1 : Int32) (x2 : Int32) (x3 : Int32) (t0 : Int64) (t1 : Int64) : Option (Int32 × St) :=
  if x1 = (2 : Int32) then fX9_set_b68 σ x1 x2 x3 t0 t1 (9 : Int64) else fX9_set_b68 σ x1 x2 x3 t0 t1 (63 : Int64)
def fX9_set_b40 (σ : St) (x1 : Int32) (x2 : Int32) (x3 : Int32) : Option (Int32 × St) :=
  if x1 = (2 : Int32) then fX9_set_b54 σ x1 x2 x3 x3.toInt64 (-1 : Int64) else fX9_set_b54 σ x1 x2 x3 x3.toInt64 (0 : Int64)
def fX9_set (σ : St) (x1 : Int32) (x2 : Int32) (x3 : Int32) : Option (Int32 × St) :=
  Option.bind (fX9_in σ x1.toInt64 (0 : Int64) (2 : Int64)) fun q1 => if q1.1 = 0 then some ((-2 : Int32), q1.2) else if x1 = 0 then Option.bind (fX9_isJudge q1.2 x2) fun q8 => if q8.1 = 0 then some ((-1 : Int32), q8.2) else fX9_set_b40 q8.2 x1 x2 x3 else Option.bind (fX9_isPaper q1.2 x2) fun q5 => if q5.1 = 0 then some ((-1 : Int32), q5.2) else fX9_set_b40 q5.2 x1 x2 x3
def fX9_say (σ : St) (x1 : Int32) : Option (Int32 × St) :=
  Option.bind (fX9_in σ x1.toInt64 (33 : Int64) (126 : Int64)) fun q1 => if q1.1 = 0 then some ((-2 : Int32), q1.2) else if (q1.2.2.1 2) = (40 : Int32) then some ((-4 : Int32), q1.2) else if ib (q1.2.2.1 2) 40 = true then some ((((uI ((uA q1.2 11 (q1.2.2.1 2).toNatClampNeg x1)) 2 ((((((uA q1.2 11 (q1.2.2.1 2).toNatClampNeg x1)).2.1 2)) + (1 : Int32))))).2.1 2), (uI ((uA q1.2 11 (q1.2.2.1 2).toNatClampNeg x1)) 2 ((((((uA q1.2 11 (q1.2.2.1 2).toNatClampNeg x1)).2.1 2)) + (1 : Int32))))) else none
def fX9_wipe (σ : St) : Option (Int32 × St) :=
  some ((σ.2.1 2), (uI σ 2 (0 : Int32)))
def fX9_isJoin_b24 (σ : St) : Option (Int32 × St) :=
  some ((1 : Int32), σ)
def fX9_isJoin (σ : St) (x0 : Int32) : Option (Int32 × St) :=
  if x0 = (97 : Int32) then fX9_isJoin_b24 σ else if x0 = (109 : Int32) then fX9_isJoin_b24 σ else if x0 = (108 : Int32) then fX9_isJoin_b24 σ else if x0 = (103 : Int32) then fX9_isJoin_b24 σ else some ((0 : Int32), σ)
def fX9_stepOf (σ : St) (x0 : Int32) (x1 : Int32) : Option (Int32 × St) :=
  Option.bind (fX9_in σ x1.toInt64 (48 : Int64) (57 : Int64)) fun q1 => if x0 = (0 : Int32) then Option.bind (fX9_isJoin q1.2 x1) fun q4 => if q4.1 = 0 then some ((-1 : Int32), q4.2) else some ((1 : Int32), q4.2) else if x0 = (1 : Int32) then if x1 = (62 : Int32) then some ((2 : Int32), q1.2) else some ((-1 : Int32), q1.2) else if x0 = (2 : Int32) then if q1.1 = 0 then some ((-1 : Int32), q1.2) else some ((3 : Int32), q1.2) else if x0 = (3 : Int32) then if x1 = (59 : Int32) then some ((0 : Int32), q1.2) else if x1 = (63 : Int32) then some ((5 : Int32), q1.2) else if q1.1 = 0 then some ((-1 : Int32), q1.2) else if x0 = (3 : Int32) then some ((4 : Int32), q1.2) else some ((-1 : Int32), q1.2) else if x0 = (4 : Int32) then if x1 = (59 : Int32) then some ((0 : Int32), q1.2) else if x1 = (63 : Int32) then some ((5 : Int32), q1.2) else if q1.1 = 0 then some ((-1 : Int32), q1.2) else if x0 = (3 : Int32) then some ((4 : Int32), q1.2) else some ((-1 : Int32), q1.2) else if x0 = (5 : Int32) then Option.bind (fX9_in q1.2 x1.toInt64 (49 : Int64) (51 : Int64)) fun q22 => if q22.1 = 0 then some ((-1 : Int32), q22.2) else some ((6 : Int32), q22.2) else if x0 = (6 : Int32) then if x1 = (59 : Int32) then some ((0 : Int32), q1.2) else some ((-1 : Int32), q1.2) else if x1 = (59 : Int32) then some ((0 : Int32), q1.2) else if x1 = (63 : Int32) then some ((5 : Int32), q1.2) else if q1.1 = 0 then some ((-1 : Int32), q1.2) else if x0 = (3 : Int32) then some ((4 : Int32), q1.2) else some ((-1 : Int32), q1.2)
