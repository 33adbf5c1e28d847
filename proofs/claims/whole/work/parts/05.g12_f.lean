def fX9_told_b44 (rc4 : St → Int32 → Int32 → Int32 → Option (Int32 × St)) (rc15 : St → Int32 → Int32 → Int32 → Int32 → Option (Int32 × St)) (σ : St) (x1 : Int32) (x3 : Int32) (x4 : Int32) (t0 : Int32) (t1 : Int32) : Option (Int32 × St) :=
  rc15 σ x1 (t0 + t1) x3 (x4 + (1 : Int32))
def fX9_told_b15 (rc4 : St → Int32 → Int32 → Int32 → Option (Int32 × St)) (rc15 : St → Int32 → Int32 → Int32 → Int32 → Option (Int32 × St)) (σ : St) (x1 : Int32) (x2 : Int32) (x3 : Int32) (x4 : Int32) : Option (Int32 × St) :=
  if (σ.2.1 1) ≤ x4 then rc4 σ x1 x2 (x3 + (1 : Int32)) else Option.bind (fX9_at σ x3 x4) fun q2 => if ib q2.1 36 = true then if (q2.2.1 9 q2.1.toNatClampNeg) < 0 then fX9_told_b44 rc4 rc15 q2.2 x1 x3 x4 x2 (0 : Int32) else fX9_told_b44 rc4 rc15 q2.2 x1 x3 x4 x2 (1 : Int32) else none
def fX9_told_l15 (rc4 : St → Int32 → Int32 → Int32 → Option (Int32 × St)) : Nat → St → Int32 → Int32 → Int32 → Int32 → Option (Int32 × St)
  | 0 => fun _ _ _ _ _ => none
  | n + 1 => fun σ x1 x2 x3 x4 => fX9_told_b15 rc4 (fX9_told_l15 rc4 n) σ x1 x2 x3 x4 
def fX9_told_b4 (rc4 : St → Int32 → Int32 → Int32 → Option (Int32 × St)) (σ : St) (x1 : Int32) (x2 : Int32) (x3 : Int32) : Option (Int32 × St) :=
  if (σ.2.1 0) ≤ x3 then if x1 = (0 : Int32) then some ((σ.2.1 0), σ) else if x1 = (1 : Int32) then some ((σ.2.1 1), σ) else if x1 = (2 : Int32) then some ((σ.2.1 2), σ) else if x1 = (3 : Int32) then some ((σ.2.1 3), σ) else if x1 = (4 : Int32) then some (x2, σ) else some ((-2 : Int32), σ) else fX9_told_l15 rc4 gF σ x1 x2 x3 (0 : Int32)
def fX9_told_l4 : Nat → St → Int32 → Int32 → Int32 → Option (Int32 × St)
  | 0 => fun _ _ _ _ => none
  | n + 1 => fun σ x1 x2 x3 => fX9_told_b4 (fX9_told_l4 n) σ x1 x2 x3 
def fX9_told (σ : St) (x1 : Int32) : Option (Int32 × St) :=
  fX9_told_l4 gF σ x1 (0 : Int32) (0 : Int32)
