/-! ===== match: both sides ===== -/
theorem sN_swap (f : Nat → Nat → Nat) (J : Nat) : ∀ P, sN (fun p => sN (fun j => f p j) J) P = sN (fun j => sN (fun p => f p j) P) J := by
  intro P
  induction P with
  | zero => simp only [sN]; rw [sN_const, Nat.zero_mul]
  | succ P ih =>
    simp only [sN]
    rw [ih, ← sN_add]
theorem sN_mono (f : Nat → Nat) {a b : Nat} (h : a ≤ b) : sN f a ≤ sN f b := by
  induction h with
  | refl => exact Nat.le_refl _
  | step _ ih => simp only [sN]; omega
theorem sN_pad (f : Nat → Nat) {J N : Nat} (h : J ≤ N) (hz : ∀ i, J ≤ i → f i = 0) : sN f N = sN f J := by
  induction h with
  | refl => rfl
  | step h' ih => simp only [sN]; rw [ih, hz _ h']; rfl
theorem sN_tS (f : Nat → Nat) {P : Nat} : ∀ m, m ≤ P → sN f (P - m) + tS P f m = sN f P := by
  intro m
  induction m with
  | zero => intro _; rfl
  | succ m ih =>
    intro h
    have e := ih (by omega)
    simp only [tS]
    rw [show P - m = (P - (m + 1)) + 1 by omega] at e
    simp only [sN] at e
    rw [show P - 1 - m = P - (m + 1) by omega]
    omega
theorem bits_sum : ∀ x, x < 64 → sN (fun j => bt x j * 2 ^ j) 6 = x := by decide +kernel
theorem plc_eq (p j : Nat) : plc p j = 64 ^ (5 - p) * 2 ^ j := by
  unfold plc
  rw [Nat.pow_add, Nat.mul_comm (5 - p) 6, Nat.pow_mul]
theorem row_code {x J p : Nat} (hx : x < 2 ^ J) (h6 : J ≤ 6) : sN (fun j => bt x j * plc p j) J = x * 64 ^ (5 - p) := by
  have h64 := two_pow6 h6
  have h1 : sN (fun j => bt x j * 2 ^ j) J = x := by
    rw [← sN_pad (fun j => bt x j * 2 ^ j) h6 (fun i hi => by rw [bt_out hx hi, Nat.zero_mul])]
    exact bits_sum x (by omega)
  rw [sN_congr (g := fun j => 64 ^ (5 - p) * (bt x j * 2 ^ j)) J (fun j _ => by rw [plc_eq]; exact Nat.mul_left_comm _ _ _), sN_mul, h1, Nat.mul_comm]
def bids (σ : St) (P J : Nat) (X : Nat → Nat) : Nat := sN (fun p => bo σ J p (X p)) P
def lexc (P : Nat) (X : Nat → Nat) : Nat := sN (fun p => X p * 64 ^ (5 - p)) P
theorem wt_eq (σ : St) {P J : Nat} (h6 : J ≤ 6) {X : Nat → Nat} (hX : ∀ p, p < P → X p < 2 ^ J) : wt σ P J X = 68719476736 * (bids σ P J X : Int) - (lexc P X : Int) := by
  unfold wt bids lexc
  rw [← sI_nat, ← sI_nat, ← sI_mul, ← sI_sub]
  refine sI_congr P (fun p hp => ?_)
  have hr := row_code (p := p) (hX p hp) h6
  unfold bo
  rw [← hr, ← sI_nat, ← sI_nat, ← sI_mul, ← sI_sub]
  refine sI_congr J (fun j _ => ?_)
  unfold wI
  rw [Int.mul_sub, Int.natCast_mul, Int.natCast_mul]
  congr 1
  rw [← Int.mul_assoc, Int.mul_comm]
theorem tail_code {P : Nat} (p6 : P ≤ 6) {X : Nat → Nat} (hX : ∀ p, p < P → X p < 64) : ∀ m, m ≤ P → tS P (fun p => X p * 64 ^ (5 - p)) m < 64 ^ (6 - P + m) := by
  intro m
  induction m with
  | zero => intro _; exact Nat.pow_pos (by omega)
  | succ m ih =>
    intro h
    have h1 := ih (by omega)
    have h2 := hX (P - 1 - m) (by omega)
    simp only [tS]
    rw [show 5 - (P - 1 - m) = 6 - P + m by omega, show 6 - P + (m + 1) = (6 - P + m) + 1 by omega, Nat.pow_succ]
    have h3 : X (P - 1 - m) * 64 ^ (6 - P + m) ≤ 63 * 64 ^ (6 - P + m) := Nat.mul_le_mul_right _ (by omega)
    omega
theorem code_lt {P : Nat} (p6 : P ≤ 6) {X : Nat → Nat} (hX : ∀ p, p < P → X p < 64) : lexc P X < 68719476736 := by
  have h := tail_code p6 hX P (Nat.le_refl P)
  have e := sN_tS (fun p => X p * 64 ^ (5 - p)) P (Nat.le_refl P)
  rw [Nat.sub_self] at e
  have e0 : sN (fun p => X p * 64 ^ (5 - p)) 0 = 0 := rfl
  rw [show 6 - P + P = 6 by omega] at h
  have h6 : (64 : Nat) ^ 6 = 68719476736 := by decide
  unfold lexc
  omega
theorem code_lex {P : Nat} (p6 : P ≤ 6) {X S : Nat → Nat} (hX : ∀ p, p < P → X p < 64) {p : Nat} (hp : p < P) (hpre : ∀ q, q < p → X q = S q) (hlt : X p < S p) : lexc P X < lexc P S := by
  have e1 := sN_tS (fun p => X p * 64 ^ (5 - p)) (P := P) (P - 1 - p) (by omega)
  have e2 := sN_tS (fun p => S p * 64 ^ (5 - p)) (P := P) (P - 1 - p) (by omega)
  rw [show P - (P - 1 - p) = p + 1 by omega] at e1 e2
  have t1 := tail_code p6 hX (P - 1 - p) (by omega)
  rw [show 6 - P + (P - 1 - p) = 5 - p by omega] at t1
  have d1 : sN (fun p => X p * 64 ^ (5 - p)) (p + 1) = sN (fun p => X p * 64 ^ (5 - p)) p + X p * 64 ^ (5 - p) := rfl
  have d2 : sN (fun p => S p * 64 ^ (5 - p)) (p + 1) = sN (fun p => S p * 64 ^ (5 - p)) p + S p * 64 ^ (5 - p) := rfl
  have d3 : sN (fun p => X p * 64 ^ (5 - p)) p = sN (fun p => S p * 64 ^ (5 - p)) p := sN_congr p (fun q hq => by rw [hpre q hq])
  have d4 : (X p + 1) * 64 ^ (5 - p) ≤ S p * 64 ^ (5 - p) := Nat.mul_le_mul_right _ hlt
  rw [Nat.add_mul, Nat.one_mul] at d4
  unfold lexc
  omega
/-- what the best of all givings brings -/
def Best (σ : St) (P J k l : Nat) (s : Nat → Nat) : Prop := Fs σ P J k l s ∧ ∀ X, Fs σ P J k l X → wt σ P J X ≤ wt σ P J s
theorem best_bids {σ : St} {P J k l : Nat} (p6 : P ≤ 6) (j6 : J ≤ 6) {s X : Nat → Nat} (hs : Best σ P J k l s) (hX : Fs σ P J k l X) : bids σ P J X ≤ bids σ P J s ∧ (bids σ P J X = bids σ P J s → ¬ lexc P X < lexc P s) := by
  have h := hs.2 X hX
  have h64 := two_pow6 j6
  rw [wt_eq σ j6 (fun p hp => (hX.1 p hp).1), wt_eq σ j6 (fun p hp => (hs.1.1 p hp).1)] at h
  have c1 := code_lt p6 (X := X) (fun p hp => by have := (hX.1 p hp).1; omega)
  have c2 := code_lt p6 (X := s) (fun p hp => by have := (hs.1.1 p hp).1; omega)
  omega
def Lp (s : Nat → Nat) (p j : Nat) : Nat := sN (fun q => bt (s q) j) p
theorem Lp_facts {σ : St} {P J k l : Nat} (j6 : J ≤ 6) {s : Nat → Nat} (hs : Fs σ P J k l s) {p : Nat} (hp : p ≤ P) : (∀ j, j < 6 → Lp s p j ≤ l) ∧ sN (Lp s p) 6 = k * p ∧ Cp σ P J k l (P - p) (Lp s p) s := by
  have hz : ∀ j, J ≤ j → ∀ q, q < P → bt (s q) j = 0 := fun j hj q hq => bt_out (hs.1 q hq).1 hj
  have hz2 : ∀ j, J ≤ j → ∀ n, n ≤ P → sN (fun q => bt (s q) j) n = 0 := fun j hj n hn => by
    rw [sN_congr (g := fun _ => 0) n (fun q hq => hz j hj q (by omega)), sN_const, Nat.zero_mul]
  refine ⟨?_, ?_, ⟨?_, ?_⟩⟩
  · intro j hj
    by_cases c : j < J
    · exact Nat.le_trans (sN_mono (fun q => bt (s q) j) hp) (hs.2 j c)
    · unfold Lp
      rw [hz2 j (by omega) p hp]
      exact Nat.zero_le l
  · unfold Lp
    rw [← sN_swap (fun q j => bt (s q) j) 6 p, sN_congr (g := fun _ => k) p (fun q hq => ?_), sN_const]
    rw [sN_pad (fun j => bt (s q) j) j6 (fun i hi => hz i hi q (by omega))]
    exact (hs.1 q (by omega)).2.1
  · intro i hi
    exact hs.1 (P - 1 - i) (by omega)
  · intro j hj
    have e := sN_tS (fun q => bt (s q) j) (P := P) (P - p) (by omega)
    rw [show P - (P - p) = p by omega] at e
    unfold Lp
    rw [e]
    by_cases c : j < J
    · exact hs.2 j c
    · rw [hz2 j (by omega) P (Nat.le_refl P)]
      exact Nat.zero_le l
theorem mix_fs {σ : St} {P J k l : Nat} (j6 : J ≤ 6) {s X : Nat → Nat} (hs : Fs σ P J k l s) {p : Nat} (hp : p ≤ P) (hX : Cp σ P J k l (P - p) (Lp s p) X) : Fs σ P J k l (fun q => if q < p then s q else X q) ∧ bids σ P J (fun q => if q < p then s q else X q) = sN (fun q => bo σ J q (s q)) p + tS P (fun q => bo σ J q (X q)) (P - p) := by
  have tl : ∀ f : Nat → Nat → Nat, sN (fun q => f q (if q < p then s q else X q)) P = sN (fun q => f q (s q)) p + tS P (fun q => f q (X q)) (P - p) := by
    intro f
    have e := sN_tS (fun q => f q (if q < p then s q else X q)) (P := P) (P - p) (by omega)
    rw [show P - (P - p) = p by omega] at e
    rw [← e, sN_congr (g := fun q => f q (s q)) p (fun q hq => by rw [if_pos hq]), tS_congr (g := fun q => f q (X q)) (P - p) (fun i hi => by rw [if_neg (show ¬ P - 1 - i < p by omega)])]
  refine ⟨⟨?_, ?_⟩, tl (fun q x => bo σ J q x)⟩
  · intro q hq
    by_cases c : q < p
    · simp only [if_pos c]
      exact hs.1 q hq
    · simp only [if_neg c]
      have := hX.1 (P - 1 - q) (by omega)
      rw [show P - 1 - (P - 1 - q) = q by omega] at this
      exact this
  · intro j hj
    rw [tl (fun _ x => bt x j)]
    exact hX.2 j (by omega)
theorem Cp_cons {σ : St} {P J k l m : Nat} (hmP : m < P) {p : Nat} (hpm : p = P - 1 - m) {L X : Nat → Nat} {y : Nat} (hy : y < 2 ^ J) (hf : ft σ J k p y) (hX : Cp σ P J k l m (fun j => L j + bt y j) X) : Cp σ P J k l (m + 1) L (up X p y) ∧ tS P (fun q => bo σ J q (up X p y q)) (m + 1) = bo σ J p y + tS P (fun q => bo σ J q (X q)) m := by
  have hne : ∀ i, i < m → ¬ P - 1 - i = p := fun i hi => by omega
  refine ⟨⟨?_, ?_⟩, ?_⟩
  · intro i hi
    by_cases z : i = m
    · subst z
      rw [← hpm, up_s]
      exact ⟨hy, hf⟩
    · rw [up_n _ _ (hne i (by omega))]
      exact hX.1 i (by omega)
  · intro j hj
    simp only [tS]
    rw [← hpm, up_s, tS_congr (g := fun q => bt (X q) j) m (fun i hi => by rw [up_n _ _ (hne i hi)])]
    have := hX.2 j hj
    have e : (fun j => L j + bt y j) j = L j + bt y j := rfl
    omega
  · simp only [tS]
    rw [← hpm, up_s, tS_congr (g := fun q => bo σ J q (X q)) m (fun i hi => by rw [up_n _ _ (hne i hi)])]
theorem row_best {σ μ' : St} {P J k l : Nat} (p6 : P ≤ 6) (j6 : J ≤ 6) (hR : Rows σ P J k l P μ') {s : Nat → Nat} (hs : Best σ P J k l s) {p : Nat} (hp : p ≤ P) : rwM μ' p (cd (Lp s p)) = nI (tS P (fun q => bo σ J q (s q)) (P - p)) ∧ tS P (fun q => bo σ J q (s q)) (P - p) ≤ 18 * (P - p) := by
  obtain ⟨l1, l2, l3⟩ := Lp_facts j6 hs.1 hp
  have hD := hR (P - p) (by omega)
  rw [show P - (P - p) = p by omega] at hD
  obtain ⟨-, d2, d3⟩ := hD (Lp s p) l1
  obtain ⟨v, v1, v2, v3⟩ := d2 s l3 (by rw [show P - (P - p) = p by omega]; exact l2)
  obtain ⟨X, x1, x2⟩ := d3 v v1 v2
  obtain ⟨m1, m2⟩ := mix_fs j6 hs.1 hp x1
  have hb := (best_bids p6 j6 hs m1).1
  rw [m2, x2] at hb
  have e := sN_tS (fun q => bo σ J q (s q)) (P := P) (P - p) (by omega)
  rw [show P - (P - p) = p by omega] at e
  have eb : bids σ P J s = sN (fun q => bo σ J q (s q)) P := rfl
  have hv : v = tS P (fun q => bo σ J q (s q)) (P - p) := by omega
  rw [← hv]
  exact ⟨v2, v1⟩
theorem srch_l90 {σ μ μ' : St} {J P S C k l : Nat} (hN : IvN σ μ J P S C) (hJ : IvJ σ μ J) (hP : IvP σ μ J P) (hM : sameM μ μ') (hk : k ≤ 3) (hl : l ≤ 4) (hR : Rows σ P J k l P μ') {s : Nat → Nat} (hs : Best σ P J k l s) {p : Nat} (hp : p < P) (rc81 : St → Int32 → Int32 → Int32 → Int32 → Int32 → Int32 → Option (Int32 × St)) (x3 : Int32) : ∀ (n x : Nat), x ≤ s p → s p - x < n → fX9_match_l90 rc81 n μ' (nI k) (nI l) x3 (nI (cd (Lp s p))) (nI x) (nI p) = rc81 μ' (nI k) (nI l) x3 (nI (cd (Lp s (p + 1)))) (nI (s p)) (nI (p + 1)) := by
  obtain ⟨n1, n2, n3, n4, n5, n6, n7, n8, n9, n10, n11, n12⟩ := id hN
  have h64 := two_pow6 n1
  have hsp := (hs.1.1 p hp).1
  obtain ⟨l1, l2, l3⟩ := Lp_facts n1 hs.1 (show p ≤ P by omega)
  obtain ⟨k1, k2, k3⟩ := Lp_facts n1 hs.1 (show p + 1 ≤ P by omega)
  have hl4 : ∀ j, j < 6 → Lp s p j ≤ 4 := fun j hj => by have := l1 j hj; omega
  have hlt := cd_lt hl4
  obtain ⟨rb1, rb2⟩ := row_best n2 n1 hR hs (show p ≤ P by omega)
  obtain ⟨rc1, rc2⟩ := row_best n2 n1 hR hs (show p + 1 ≤ P by omega)
  have hD : DS σ P J k l (P - 1 - p) (rwM μ' (p + 1)) := by
    have := hR (P - 1 - p) (by omega)
    rw [show P - (P - 1 - p) = p + 1 by omega] at this
    exact this
  rw [show P - (p + 1) = P - 1 - p by omega] at rc1 rc2
  have htl : tS P (fun q => bo σ J q (s q)) (P - p) = bo σ J p (s p) + tS P (fun q => bo σ J q (s q)) (P - 1 - p) := by
    rw [show P - p = (P - 1 - p) + 1 by omega]
    simp only [tS]
    rw [show P - 1 - (P - 1 - p) = p by omega]
  have hLs : ∀ j, Lp s (p + 1) j = Lp s p j + bt (s p) j := fun j => rfl
  have hft : ft σ J k p (s p) := (hs.1.1 p hp).2
  intro n
  induction n with
  | zero => intro x h1 h2; omega
  | succ n ih =>
    intro x h1 h2
    show fX9_match_b90 rc81 (fX9_match_l90 rc81 n) μ' _ _ _ _ _ _ = _
    unfold fX9_match_b90
    obtain ⟨r, r1, r2⟩ := brings_spec hN hJ hP hM hk hl hp (show P - 1 - p ≤ 6 by omega) hD l1 (show x < 2 ^ J by omega)
    rw [r1, b_some]
    dsimp only
    rw [ix16, if_pos (ib_nI (show 15625 * p + cd (Lp s p) < 109375 by omega) (by omega)), nI_clamp (by omega), show μ'.1 16 (15625 * p + cd (Lp s p)) = rwM μ' p (cd (Lp s p)) from rfl, rb1]
    by_cases c : x = s p
    · have hgood : Good σ J k l p (P - 1 - p) (rwM μ' (p + 1)) (Lp s p) x (tS P (fun q => bo σ J q (s q)) (P - p)) := by
        subst c
        refine ⟨_, rc2, hft, fun j hj => ?_, rc1, ?_⟩
        · rw [← hLs]; exact k1 j hj
        · rw [htl]; omega
      have hr : r = nI (tS P (fun q => bo σ J q (s q)) (P - p)) := by
        rcases r2 with ⟨-, q⟩ | ⟨v, q1, q2, v0, g1, g2, g3, g4, g5⟩
        · exact absurd hgood (q _)
        · rw [q2]
          obtain ⟨w0, f1, f2, f3, f4, f5⟩ := hgood
          rw [f4] at g4
          have := nI_inj (show w0 < 2 ^ 31 by omega) (show v0 < 2 ^ 31 by omega) g4
          congr 1
          omega
      have hld : ∀ i, i < 6 → Lp s p i + bt x i ≤ l := fun j hj => by rw [c, ← hLs]; exact k1 j hj
      rw [if_pos hr, loads_spec μ' hl4 (show x < 64 by omega) hl, b_some, dif_pos hld]
      dsimp only
      rw [show nI p + (1 : Int32) = nI (p + 1) from nI_1 p, c]
      rfl
    · have hne : ¬ r = nI (tS P (fun q => bo σ J q (s q)) (P - p)) := by
        intro hr
        rcases r2 with ⟨q, -⟩ | ⟨v, q1, q2, v0, g1, g2, g3, g4, g5⟩
        · rw [q] at hr
          exact nI_nem6 (show tS P (fun q => bo σ J q (s q)) (P - p) < 2 ^ 31 by omega) hr.symm
        · rw [q2] at hr
          have hv := nI_inj (show v < 2 ^ 31 by omega) (show tS P (fun q => bo σ J q (s q)) (P - p) < 2 ^ 31 by omega) hr
          obtain ⟨X, x1, x2⟩ := (hD (fun j => Lp s p j + bt x j) g3).2.2 v0 g1 g4
          obtain ⟨y1, y2⟩ := Cp_cons (show P - 1 - p < P by omega) (show p = P - 1 - (P - 1 - p) by omega) (show x < 2 ^ J by omega) g2 x1
          rw [show P - 1 - p + 1 = P - p by omega] at y1 y2
          obtain ⟨m1, m2⟩ := mix_fs n1 hs.1 (show p ≤ P by omega) y1
          have hb := (best_bids n2 n1 hs m1).2
          have e := sN_tS (fun q => bo σ J q (s q)) (P := P) (P - p) (by omega)
          rw [show P - (P - p) = p by omega] at e
          have eb : bids σ P J s = sN (fun q => bo σ J q (s q)) P := rfl
          refine hb (by omega) ?_
          refine code_lex n2 (fun q hq => Nat.lt_of_lt_of_le (m1.1 q hq).1 h64) hp ?_ ?_
          · intro q hq
            simp only [if_pos hq]
          · simp only [if_neg (Nat.lt_irrefl p)]
            rw [up_s]
            omega
      rw [if_neg hne, show nI x + (1 : Int32) = nI (x + 1) from nI_1 x]
      exact ih (x + 1) (by omega) (by omega)
theorem srch_l81 {σ μ μ' : St} {J P S C k l : Nat} (hN : IvN σ μ J P S C) (hJ : IvJ σ μ J) (hP : IvP σ μ J P) (hM : sameM μ μ') (hk : k ≤ 3) (hl : l ≤ 4) (hR : Rows σ P J k l P μ') {s : Nat → Nat} (hs : Best σ P J k l s) {pp : Nat} (hpp : pp < P) : ∀ (n p : Nat) (x : Nat), p ≤ pp + 1 → pp + 1 - p < n → (p = pp + 1 → x = s pp) → fX9_match_l81 n μ' (nI k) (nI l) (nI pp) (nI (cd (Lp s p))) (nI x) (nI p) = some (nI (s pp), μ') := by
  have n2 := hN.2.1
  have n1 := hN.1
  have h64 := two_pow6 n1
  intro n
  induction n with
  | zero => intro p x h1 h2; omega
  | succ n ih =>
    intro p x h1 h2 hx
    show fX9_match_b81 (fX9_match_l81 n) μ' _ _ _ _ _ _ = _
    unfold fX9_match_b81
    by_cases c : p = pp + 1
    · rw [if_pos (nI_lt (by omega) (by omega)), hx c]
    · have hp : p < P := by omega
      have hsp := (hs.1.1 p hp).1
      rw [if_neg (show ¬ nI pp < nI p from fun q => by have := Int32.lt_iff_toInt_lt.mp q; rw [nI_toInt (by omega), nI_toInt (by omega)] at this; omega)]
      refine Eq.trans (srch_l90 hN hJ hP hM hk hl hR hs hp (fX9_match_l81 n) (nI pp) gF 0 (Nat.zero_le _) (by simp [gF]; omega)) ?_
      exact ih (p + 1) (s p) (by omega) (by omega) (fun q => by rw [show p = pp by omega])
theorem together_spec {σ σ' μ : St} {J P S C : Nat} (hN : IvN σ μ J P S C) (hP : IvP σ μ J P) (hC : sameC σ σ') {s : Nat → Nat} (hset : ∀ p, p < 6 → σ'.1 27 p = nI (s p)) (h64 : ∀ p, p < P → s p < 64) : fX2_bidsTogether σ' = some (nI (bids σ P J s), σ') := by
  obtain ⟨n1, n2, n3, n4, n5, n6, n7, n8, n9, n10, n11, n12⟩ := id hN
  have inner : ∀ (rc4 : St → Int32 → Int32 → Option (Int32 × St)) (p : Nat), p < P → ∀ (A n j : Nat), j ≤ J → J - j < n → fX2_bidsTogether_l17 rc4 n σ' (nI (A + sN (fun j => bt (s p) j * bdv σ p j) j)) (nI p) (nI j) = rc4 σ' (nI (A + bo σ J p (s p))) (nI (p + 1)) := by
    intro rc4 p hp A n
    induction n with
    | zero => intro j h1 h2; omega
    | succ n ih =>
      intro j h1 h2
      show fX2_bidsTogether_b17 rc4 (fX2_bidsTogether_l17 rc4 n) σ' _ _ _ = _
      unfold fX2_bidsTogether_b17 fX2_bidsTogether_b55 fX4_bidOf
      rw [hC.2 0 (by omega), n5]
      by_cases e : j = J
      · subst e
        rw [if_pos (nI_le (Nat.le_refl j) (by omega)), show nI p + (1 : Int32) = nI (p + 1) from nI_1 p]
        rfl
      · have hjJ : j < J := by omega
        have hb := bt_lt (s p) j
        obtain ⟨b1, b2⟩ := bdv_val hP (show p < 6 by omega) (show j < 6 by omega)
        rw [if_neg (nI_ge hjJ (by omega)), if_pos (ib_nI (show p < 6 by omega) (by omega)), nI_clamp (n := p) (by omega), hset p (by omega), hasBit_spec σ' (h64 p hp) (show j < 6 by omega), b_some]
        dsimp only
        rw [at6, if_pos (ib_nI (show 6 * j + p < 36 by omega) (by omega)), nI_clamp (n := 6 * j + p) (by omega), hC.1 18 (by omega), b2, b_some, show nI j + (1 : Int32) = nI (j + 1) from nI_1 j, ← ih (j + 1) (by omega) (by omega)]
        dsimp only
        rw [show sN (fun j => bt (s p) j * bdv σ p j) (j + 1) = sN (fun j => bt (s p) j * bdv σ p j) j + bt (s p) j * bdv σ p j from rfl]
        by_cases c : bt (s p) j = 0
        · rw [if_pos ((nI_z (by omega)).mpr c), c, Nat.zero_mul]
          rw [show nI (A + sN (fun j => bt (s p) j * bdv σ p j) j) + (0 : Int32) = nI (A + sN (fun j => bt (s p) j * bdv σ p j) j) by simp]
          rfl
        · rw [if_neg (fun q => c ((nI_z (by omega)).mp q)), show bt (s p) j = 1 by omega, Nat.one_mul, nI_add, Nat.add_assoc]
  have outer : ∀ (n p : Nat), p ≤ P → P - p < n → fX2_bidsTogether_l4 n σ' (nI (sN (fun p => bo σ J p (s p)) p)) (nI p) = some (nI (bids σ P J s), σ') := by
    intro n
    induction n with
    | zero => intro p h1 h2; omega
    | succ n ih =>
      intro p h1 h2
      show fX2_bidsTogether_b4 (fX2_bidsTogether_l4 n) σ' _ _ = _
      unfold fX2_bidsTogether_b4
      rw [hC.2 1 (by omega), n7]
      by_cases e : p = P
      · subst e
        rw [if_pos (nI_le (Nat.le_refl p) (by omega))]
        rfl
      · rw [if_neg (nI_ge (show p < P by omega) (by omega))]
        exact (inner (fX2_bidsTogether_l4 n) p (by omega) (sN (fun p => bo σ J p (s p)) p) gF 0 (by omega) (by simp [gF]; omega)).trans (ih (p + 1) (by omega) (by omega))
  exact outer gF 0 (by omega) (by simp [gF]; omega)
theorem match_both {σ μ : St} (hI : Inv σ μ) {J P S C : Nat} (hN : IvN σ μ J P S C) (hJ : IvJ σ μ J) (hP : IvP σ μ J P) (a1 a2 a3 : Int32) (h3 : a3 = -1 ∨ ∃ p, p < P ∧ a3 = nI p) : ∃ (r : Int32) (σ' μ' : St), fX8_match_b18 σ a1 a2 a3 = some (r, σ') ∧ fX9_match_b15 μ a1 a2 a3 = some (r, μ') ∧ Inv σ' μ' := by
  obtain ⟨n1, n2, n3, n4, n5, n6, n7, n8, n9, n10, n11, n12⟩ := id hN
  have h64 := two_pow6 n1
  unfold fX8_match_b18 fX9_match_b15
  have f1 : (1 : Int32).toInt = 1 := rfl
  have f3 : (3 : Int32).toInt = 3 := rfl
  have f4 : (4 : Int32).toInt = 4 := rfl
  have g1 : (1 : Int64).toInt = 1 := rfl
  have g3 : (3 : Int64).toInt = 3 := rfl
  have g4 : (4 : Int64).toInt = 4 := rfl
  simp only [within_spec, in_spec, b_some, bI_ne0, i2l_toInt, f1, f3, f4, g1, g3, g4]
  by_cases c1 : 1 ≤ a1.toInt ∧ a1.toInt ≤ 3
  · simp only [if_pos c1]
    by_cases c2 : 1 ≤ a2.toInt ∧ a2.toInt ≤ 4
    · simp only [if_pos c2]
      obtain ⟨k, hk, rfl⟩ := nI_ex (N := 4) (x := a1) (by omega) (by omega)
      obtain ⟨l, hl, rfl⟩ := nI_ex (N := 5) (x := a2) (by omega) (by omega)
      obtain ⟨σ1, r, e1, e2, e3⟩ := find_spec hN hP (show k ≤ 3 by omega) (show l ≤ 4 by omega)
      obtain ⟨μ1, t1, t2, t3⟩ := table_spec hN hJ hP (show k ≤ 3 by omega) (show l ≤ 4 by omega)
      rw [e1, t1, b_some, b_some]
      dsimp only
      have e0 : μ1.1 16 (0 : Int32).toNatClampNeg = rwM μ1 0 0 := rfl
      rw [e0]
      rcases e3 with ⟨q1, q2⟩ | ⟨q1, s, q2, q3, q4⟩
      · have hD := t3 P (Nat.le_refl P)
        rw [Nat.sub_self] at hD
        have hneg : rwM μ1 0 0 = -6 := by
          obtain ⟨d1, -, d3⟩ := hD (fun _ => 0) (fun j _ => Nat.zero_le l)
          have ez : cd (fun _ => 0) = 0 := rfl
          rw [ez] at d1 d3
          rcases d1 with d1 | ⟨v, v1, v2⟩
          · exact d1
          · obtain ⟨X, x1, -⟩ := d3 v v1 v2
            exfalso
            refine q2 X ⟨fun p hp => ?_, fun j hj => ?_⟩
            · have := x1.1 (P - 1 - p) (by omega)
              rw [show P - 1 - (P - 1 - p) = p by omega] at this
              exact this
            · have h1 := x1.2 j (by omega)
              have h2 := sN_tS (fun q => bt (X q) j) (P := P) P (Nat.le_refl P)
              rw [Nat.sub_self] at h2
              have h3 : sN (fun q => bt (X q) j) 0 = 0 := rfl
              omega
        rw [if_pos q1, hneg, if_neg (show ¬ (0 : Int32) ≤ -6 by decide)]
        exact ⟨_, _, _, rfl, rfl, hI.same e2 t2⟩
      · have hB : Best σ P J k l s := ⟨q3, q4⟩
        obtain ⟨rb1, rb2⟩ := row_best n2 n1 t3 hB (show 0 ≤ P by omega)
        have ez : cd (Lp s 0) = 0 := rfl
        have htS := sN_tS (fun q => bo σ J q (s q)) (P := P) P (Nat.le_refl P)
        rw [Nat.sub_self] at htS
        have hz : sN (fun q => bo σ J q (s q)) 0 = 0 := rfl
        have hbd : tS P (fun q => bo σ J q (s q)) P = bids σ P J s := by
          show _ = sN (fun q => bo σ J q (s q)) P
          omega
        rw [show P - 0 = P from rfl] at rb1 rb2
        rw [ez, hbd] at rb1
        rw [hbd] at rb2
        rw [if_neg (show ¬ r = 0 by rw [q1]; decide), rb1, if_pos (nI_ge0 (by omega))]
        rcases h3 with h3 | ⟨p, hp, h3⟩
        · rw [if_pos h3, if_pos h3, together_spec hN hP e2 q2 (fun p hp => by have := (q3.1 p hp).1; omega), b_some]
          exact ⟨_, _, _, rfl, rfl, hI.same e2 t2⟩
        · have hne : ¬ a3 = -1 := fun q => by
            rw [h3] at q
            have := nI_toInt (n := p) (by omega)
            rw [q] at this
            have e : (-1 : Int32).toInt = -1 := rfl
            omega
          rw [if_neg hne, if_neg hne, h3, if_pos (ib_nI (show p < 6 by omega) (by omega)), nI_clamp (n := p) (by omega), q2 p (by omega)]
          refine ⟨_, _, _, rfl, ?_, hI.same e2 t2⟩
          exact srch_l81 hN hJ hP t2 (show k ≤ 3 by omega) (show l ≤ 4 by omega) t3 hB hp gF 0 0 (by omega) (by simp [gF]; omega) (fun q => by omega)
    · simp only [if_neg c2]
      exact ⟨_, _, _, rfl, rfl, hI⟩
  · simp only [if_neg c1]
    exact ⟨_, _, _, rfl, rfl, hI⟩
theorem op_match : Op_match Inv := by
  intro σ μ hI a1 a2 a3
  obtain ⟨J, P, S, C, hN, hJ, hP, hM, hR⟩ := id hI
  obtain ⟨n1, n2, n3, n4, n5, n6, n7, n8, n9, n10, n11, n12⟩ := id hN
  unfold fX8_match fX9_match
  simp only [hasP_spec n7 n2, isP_spec n8 n2, b_some, bI_ne0]
  by_cases c : a3 = -1
  · rw [if_pos c, if_pos c]
    exact match_both hI hN hJ hP a1 a2 a3 (Or.inl c)
  · rw [if_neg c, if_neg c]
    by_cases d : 0 ≤ a3.toInt ∧ a3.toInt < P
    · rw [if_pos d, if_pos d]
      obtain ⟨p, hp, h3⟩ := nI_ex (N := P) d (by omega)
      exact match_both hI hN hJ hP a1 a2 a3 (Or.inr ⟨p, hp, h3⟩)
    · rw [if_neg d, if_neg d]
      exact ⟨_, _, _, rfl, rfl, hI⟩
