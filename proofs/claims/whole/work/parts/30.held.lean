/-! ===== sums of marks, held ===== -/
def mv (σ : St) (j p : Nat) : Nat := if σ.1 19 (6 * j + p) = -6 then 0 else (σ.1 19 (6 * j + p)).toNatClampNeg
def MkOk (σ : St) : Prop := ∀ j p, j < 6 → p < 6 → σ.1 19 (6 * j + p) = -6 ∨ inR (σ.1 19 (6 * j + p)) 0 5
theorem mkok {σ μ : St} {J P : Nat} (hM : IvM σ μ J P) (h6 : J ≤ 6) : MkOk σ := by
  intro j p hj hp
  by_cases h : j < J
  · exact mk_or hM h h6 hp
  · exact Or.inl ((hM j p hj hp).2 (by omega))
theorem mv_val {σ : St} (hk : MkOk σ) {j p : Nat} (hj : j < 6) (hp : p < 6) : (cN σ j p = 0 ∧ mv σ j p = 0) ∨ (cN σ j p = 1 ∧ mv σ j p ≤ 5 ∧ σ.1 19 (6 * j + p) = nI (mv σ j p)) := by
  unfold cN mv
  by_cases h : σ.1 19 (6 * j + p) = -6
  · rw [if_pos h, if_pos h]; exact Or.inl ⟨rfl, rfl⟩
  · rw [if_neg h, if_neg h]
    rcases hk j p hj hp with q | q
    · exact absurd q h
    · obtain ⟨v, h1, h2⟩ := nI_rng (n := 5) q (by omega)
      rw [h2, nI_clamp (by omega)]
      exact Or.inr ⟨rfl, by omega, rfl⟩
theorem mv_le {σ : St} (hk : MkOk σ) {j p : Nat} (hj : j < 6) (hp : p < 6) : mv σ j p ≤ 5 := by
  rcases mv_val hk hj hp with ⟨-, q⟩ | ⟨-, q, -⟩ <;> omega
def sm (σ : St) (p : Nat) : Nat → Nat
  | 0 => 0
  | k + 1 => sm σ p k + mv σ k p
def cp (σ : St) (p : Nat) : Nat → Nat
  | 0 => 0
  | k + 1 => cp σ p k + cN σ k p
theorem cp6 (σ : St) (p : Nat) : cp σ p 6 = ct σ p := by simp only [cp, ct]; omega
theorem sm_le {σ : St} (hk : MkOk σ) {p : Nat} (hp : p < 6) : ∀ k, k ≤ 6 → sm σ p k ≤ 5 * k := by
  intro k
  induction k with
  | zero => intro _; simp [sm]
  | succ k ih =>
    intro h
    have := ih (by omega)
    have := mv_le hk (show k < 6 by omega) hp
    simp only [sm]
    omega
theorem cp_le (σ : St) (p : Nat) : ∀ k, cp σ p k ≤ k := by
  intro k
  induction k with
  | zero => simp [cp]
  | succ k ih =>
    have := cN_le σ k p
    simp only [cp]
    omega
theorem sumOf_l {σ : St} (hk : MkOk σ) {p : Nat} (hp : p < 6) : ∀ (n k : Nat), k ≤ 6 → 6 - k < n → fX1_sumOf_l4 n σ (nI p) (nI (sm σ p k)) (nI k) = some (nI (sm σ p 6), σ) := by
  intro n
  induction n with
  | zero => intro k h1 h2; omega
  | succ n ih =>
    intro k h1 h2
    show fX1_sumOf_b4 (fX1_sumOf_l4 n) σ (nI p) (nI (sm σ p k)) (nI k) = _
    unfold fX1_sumOf_b4 fX1_sumOf_b30
    by_cases h : k = 6
    · subst h
      rw [if_pos (show (6 : Int32) ≤ nI 6 by decide)]
    · have hlt : k < 6 := by omega
      rw [if_neg (show ¬ (6 : Int32) ≤ nI k from nI_ge (b := 6) hlt (by omega)), hasM_spec σ hlt hp, b_some, of_spec σ hlt hp, b_some, show nI k + (1 : Int32) = nI (k + 1) from nI_1 k, ← ih (k + 1) (by omega) (by omega)]
      dsimp only
      rcases mv_val hk hlt hp with ⟨q1, q2⟩ | ⟨q1, q2, q3⟩
      · rw [q1, if_pos (show nI 0 = (0 : Int32) from rfl)]
        simp only [sm, q2, Nat.add_zero]
        rw [show nI (sm σ p k) + (0 : Int32) = nI (sm σ p k) by simp]
      · rw [q1, if_neg (show ¬ nI 1 = (0 : Int32) by decide), q3, nI_add]
        rfl
theorem sumOf_spec {σ : St} (hk : MkOk σ) {p : Nat} (hp : p < 6) : fX1_sumOf σ (nI p) = some (nI (sm σ p 6), σ) := sumOf_l hk hp gF 0 (by omega) (by simp [gF])
theorem pre_out {σ μ : St} {J P : Nat} (hM : IvM σ μ J P) (h6 : J ≤ 6) {p : Nat} (hp : p < 6) : sm σ p J = sm σ p 6 ∧ cp σ p J = cp σ p 6 := by
  have z : ∀ k, J ≤ k → k < 6 → cN σ k p = 0 ∧ mv σ k p = 0 := by
    intro k h1 h2
    have e := (hM k p h2 hp).2 h1
    unfold cN mv
    rw [if_pos e, if_pos e]
    exact ⟨rfl, rfl⟩
  have : ∀ k, J ≤ k → k ≤ 6 → sm σ p J = sm σ p k ∧ cp σ p J = cp σ p k := by
    intro k
    induction k with
    | zero => intro h1 h2; rw [show J = 0 by omega]; exact ⟨rfl, rfl⟩
    | succ k ih =>
      intro h1 h2
      by_cases hk : J = k + 1
      · rw [hk]; exact ⟨rfl, rfl⟩
      · obtain ⟨a, b⟩ := ih (by omega) (by omega)
        obtain ⟨c, d⟩ := z k (by omega) (by omega)
        simp only [sm, cp, c, d, Nat.add_zero]
        exact ⟨a, b⟩
  exact this 6 h6 (Nat.le_refl 6)
theorem cmp_spec (σ : St) (x y : Int32) : fJ6_compare_7cf53 σ x y = some (if x.toInt < y.toInt then -1 else if x.toInt = y.toInt then 0 else 1, σ) := by
  unfold fJ6_compare_7cf53
  by_cases h : y ≤ x
  · have h' := Int32.le_iff_toInt_le.mp h
    rw [if_pos h, if_neg (show ¬ x.toInt < y.toInt by omega)]
    by_cases h2 : x = y
    · rw [if_pos h2, if_pos (by rw [h2])]
    · rw [if_neg h2, if_neg (fun q => h2 (Int32.toInt_inj.mp q))]
  · have h' : ¬ y.toInt ≤ x.toInt := fun q => h (Int32.le_iff_toInt_le.mpr q)
    rw [if_neg h, if_pos (by omega)]
/-- one pair: w = 0: they stand as the numbers do; else: the other way round -/
def gP (w : Nat) (σ : St) (x y : Nat) : Nat :=
  if w = 0 then (if (¬ σ.1 17 x = -6 ∧ ¬ σ.1 17 y = -6 ∧ ¬ ct σ x = 0 ∧ ¬ ct σ y = 0) ∧ ((sm σ y 6 * ct σ x < sm σ x 6 * ct σ y ∧ (σ.1 17 y).toInt < (σ.1 17 x).toInt) ∨ (sm σ x 6 * ct σ y < sm σ y 6 * ct σ x ∧ (σ.1 17 x).toInt < (σ.1 17 y).toInt)) then 1 else 0)
  else (if (¬ σ.1 17 x = -6 ∧ ¬ σ.1 17 y = -6 ∧ ¬ ct σ x = 0 ∧ ¬ ct σ y = 0) ∧ ((sm σ y 6 * ct σ x < sm σ x 6 * ct σ y ∧ (σ.1 17 x).toInt < (σ.1 17 y).toInt) ∨ (sm σ x 6 * ct σ y < sm σ y 6 * ct σ x ∧ (σ.1 17 y).toInt < (σ.1 17 x).toInt)) then 1 else 0)
theorem ite_iff {c d : Prop} [Decidable c] [Decidable d] (h : c ↔ d) : (if c then (1 : Nat) else 0) = if d then 1 else 0 := by
  by_cases hc : c
  · rw [if_pos hc, if_pos (h.mp hc)]
  · rw [if_neg hc, if_neg (fun q => hc (h.mpr q))]
theorem gP_symm (w : Nat) (σ : St) (x y : Nat) : gP w σ x y = gP w σ y x := by
  unfold gP
  by_cases hw : w = 0
  · rw [if_pos hw, if_pos hw]
    refine ite_iff ?_
    constructor
    · rintro ⟨⟨a, b, c, d⟩, e | e⟩
      · exact ⟨⟨b, a, d, c⟩, Or.inr e⟩
      · exact ⟨⟨b, a, d, c⟩, Or.inl e⟩
    · rintro ⟨⟨a, b, c, d⟩, e | e⟩
      · exact ⟨⟨b, a, d, c⟩, Or.inr e⟩
      · exact ⟨⟨b, a, d, c⟩, Or.inl e⟩
  · rw [if_neg hw, if_neg hw]
    refine ite_iff ?_
    constructor
    · rintro ⟨⟨a, b, c, d⟩, e | e⟩
      · exact ⟨⟨b, a, d, c⟩, Or.inr e⟩
      · exact ⟨⟨b, a, d, c⟩, Or.inl e⟩
    · rintro ⟨⟨a, b, c, d⟩, e | e⟩
      · exact ⟨⟨b, a, d, c⟩, Or.inr e⟩
      · exact ⟨⟨b, a, d, c⟩, Or.inl e⟩
theorem agr_spec {σ : St} (hk : MkOk σ) {x y : Nat} (hx : x < 6) (hy : y < 6) : ∃ r, fX8_agreement σ (nI x) (nI y) = some (r, σ) ∧ (r = 1 ↔ gP 0 σ x y = 1) ∧ (r = -1 ↔ gP 1 σ x y = 1) := by
  unfold fX8_agreement
  rw [if_pos (ib_nI hx (by omega)), if_pos (ib_nI hy (by omega)), nI_clamp (n := x) (by omega), nI_clamp (n := y) (by omega)]
  simp only [countOf_spec σ hx, countOf_spec σ hy, sumOf_spec hk hx, sumOf_spec hk hy, b_some, cmp_spec]
  have c1 := cp_le σ x 6
  have c2 := cp_le σ y 6
  rw [cp6] at c1 c2
  have s1 := sm_le hk hx 6 (by omega)
  have s2 := sm_le hk hy 6 (by omega)
  have m1 : sm σ x 6 * ct σ y ≤ 30 * 6 := Nat.mul_le_mul s1 c2
  have m2 : sm σ y 6 * ct σ x ≤ 30 * 6 := Nat.mul_le_mul s2 c1
  have t1 : (nI (sm σ x 6) * nI (ct σ y)).toInt = (sm σ x 6 * ct σ y : Nat) := by rw [pk_mul]; exact nI_toInt (by omega)
  have t2 : (nI (sm σ y 6) * nI (ct σ x)).toInt = (sm σ y 6 * ct σ x : Nat) := by rw [pk_mul]; exact nI_toInt (by omega)
  rw [t1, t2]
  have none0 : ∀ (q : ¬ (¬ σ.1 17 x = -6 ∧ ¬ σ.1 17 y = -6 ∧ ¬ ct σ x = 0 ∧ ¬ ct σ y = 0)), ((0 : Int32) = 1 ↔ gP 0 σ x y = 1) ∧ ((0 : Int32) = -1 ↔ gP 1 σ x y = 1) := by
    intro q
    unfold gP
    rw [if_pos rfl, if_neg (show ¬ (1 : Nat) = 0 by omega), if_neg (fun h => q h.1), if_neg (fun h => q h.1)]
    exact ⟨⟨fun h => absurd h (by decide), fun h => by omega⟩, ⟨fun h => absurd h (by decide), fun h => by omega⟩⟩
  by_cases d1 : σ.1 17 x = -6
  · rw [if_pos d1]; exact ⟨0, rfl, none0 (fun h => h.1 d1)⟩
  · rw [if_neg d1]
    by_cases d2 : σ.1 17 y = -6
    · rw [if_pos d2]; exact ⟨0, rfl, none0 (fun h => h.2.1 d2)⟩
    · rw [if_neg d2]
      by_cases d3 : ct σ x = 0
      · rw [if_pos ((nI_z (n := ct σ x) (by omega)).mpr d3)]; exact ⟨0, rfl, none0 (fun h => h.2.2.1 d3)⟩
      · rw [if_neg (fun h => d3 ((nI_z (n := ct σ x) (by omega)).mp h))]
        by_cases d4 : ct σ y = 0
        · rw [if_pos ((nI_z (n := ct σ y) (by omega)).mpr d4)]; exact ⟨0, rfl, none0 (fun h => h.2.2.2 d4)⟩
        · rw [if_neg (fun h => d4 ((nI_z (n := ct σ y) (by omega)).mp h))]
          refine ⟨_, rfl, ?_⟩
          unfold gP
          rw [if_pos rfl, if_neg (show ¬ (1 : Nat) = 0 by omega)]
          generalize sm σ x 6 * ct σ y = u at *
          generalize sm σ y 6 * ct σ x = v at *
          generalize (σ.1 17 x).toInt = lx
          generalize (σ.1 17 y).toInt = ly
          have hv : (¬ σ.1 17 x = -6 ∧ ¬ σ.1 17 y = -6 ∧ ¬ ct σ x = 0 ∧ ¬ ct σ y = 0) := ⟨d1, d2, d3, d4⟩
          have k1 : ((1 : Nat) = 1) := rfl
          rcases (show (u < v) ∨ (u = v) ∨ (v < u) by omega) with p | p | p <;> rcases (show (lx < ly) ∨ (lx = ly) ∨ (ly < lx) by omega) with q | q | q
          · rw [if_pos (show (u : Int) < v by omega), if_pos q, if_pos ⟨hv, Or.inr ⟨p, q⟩⟩, if_neg (fun h => by rcases h.2 with e | e <;> omega)]
            decide
          · rw [if_pos (show (u : Int) < v by omega), if_neg (by omega), if_pos q, if_neg (fun h => by rcases h.2 with e | e <;> omega), if_neg (fun h => by rcases h.2 with e | e <;> omega)]
            decide
          · rw [if_pos (show (u : Int) < v by omega), if_neg (by omega), if_neg (by omega), if_neg (fun h => by rcases h.2 with e | e <;> omega), if_pos ⟨hv, Or.inr ⟨p, q⟩⟩]
            decide
          · rw [if_neg (show ¬ (u : Int) < v by omega), if_pos (show (u : Int) = v by omega), if_pos q, if_neg (fun h => by rcases h.2 with e | e <;> omega), if_neg (fun h => by rcases h.2 with e | e <;> omega)]
            decide
          · rw [if_neg (show ¬ (u : Int) < v by omega), if_pos (show (u : Int) = v by omega), if_neg (show ¬ lx < ly by omega), if_pos q, if_neg (fun h => by rcases h.2 with e | e <;> omega), if_neg (fun h => by rcases h.2 with e | e <;> omega)]
            decide
          · rw [if_neg (show ¬ (u : Int) < v by omega), if_pos (show (u : Int) = v by omega), if_neg (show ¬ lx < ly by omega), if_neg (show ¬ lx = ly by omega), if_neg (fun h => by rcases h.2 with e | e <;> omega), if_neg (fun h => by rcases h.2 with e | e <;> omega)]
            decide
          · rw [if_neg (show ¬ (u : Int) < v by omega), if_neg (show ¬ (u : Int) = v by omega), if_pos q, if_neg (fun h => by rcases h.2 with e | e <;> omega), if_pos ⟨hv, Or.inl ⟨p, q⟩⟩]
            decide
          · rw [if_neg (show ¬ (u : Int) < v by omega), if_neg (show ¬ (u : Int) = v by omega), if_neg (show ¬ lx < ly by omega), if_pos q, if_neg (fun h => by rcases h.2 with e | e <;> omega), if_neg (fun h => by rcases h.2 with e | e <;> omega)]
            decide
          · rw [if_neg (show ¬ (u : Int) < v by omega), if_neg (show ¬ (u : Int) = v by omega), if_neg (show ¬ lx < ly by omega), if_neg (show ¬ lx = ly by omega), if_pos ⟨hv, Or.inl ⟨p, q⟩⟩, if_neg (fun h => by rcases h.2 with e | e <;> omega)]
            decide
theorem gP_le (w : Nat) (σ : St) (x y : Nat) : gP w σ x y ≤ 1 := by
  unfold gP
  repeat' split
  all_goals (try omega)
def hiC (w : Nat) (σ : St) (x : Nat) : Nat → Nat
  | 0 => 0
  | t + 1 => hiC w σ x t + (if x < t then gP w σ x t else 0)
def hoC (w : Nat) (σ : St) (P : Nat) : Nat → Nat
  | 0 => 0
  | x + 1 => hoC w σ P x + hiC w σ x P
def miC (w : Nat) (σ : St) (a : Nat) : Nat → Nat
  | 0 => 0
  | b + 1 => miC w σ a b + gP w σ a b
def moC (w : Nat) (σ : St) : Nat → Nat
  | 0 => 0
  | a + 1 => moC w σ a + miC w σ a a
theorem ho_mo (w : Nat) (σ : St) {P : Nat} (hP : P ≤ 6) : hoC w σ P P = moC w σ P := by
  have s := gP_symm w σ
  rcases (show P = 0 ∨ P = 1 ∨ P = 2 ∨ P = 3 ∨ P = 4 ∨ P = 5 ∨ P = 6 by omega) with rfl | rfl | rfl | rfl | rfl | rfl | rfl
  all_goals simp +decide only [hoC, moC, hiC, miC, ↓reduceIte, s 1 0, s 2 0, s 2 1, s 3 0, s 3 1, s 3 2, s 4 0, s 4 1, s 4 2, s 4 3, s 5 0, s 5 1, s 5 2, s 5 3, s 5 4]
  all_goals (try omega)
def due (w : Nat) : Int32 := if w = 0 then 1 else -1
theorem heldC_l45 {σ : St} (hk : MkOk σ) {P : Nat} (hP : σ.2.1 1 = nI P) (p6 : P ≤ 6) {w : Nat} (hw : w < 2) (rc : St → Int32 → Int32 → Int32 → Option (Int32 × St)) {x : Nat} (hx : x < P) (a : Nat) : ∀ (n t : Nat), x < t → t ≤ P → P - t < n → fX8_held_l45 rc n σ (due w) (nI (a + hiC w σ x t)) (nI x) (nI t) = rc σ (due w) (nI (a + hiC w σ x P)) (nI (x + 1)) := by
  intro n
  induction n with
  | zero => intro t h0 h1 h2; omega
  | succ n ih =>
    intro t h0 h1 h2
    show fX8_held_b45 rc (fX8_held_l45 rc n) σ (due w) (nI (a + hiC w σ x t)) (nI x) (nI t) = _
    unfold fX8_held_b45 fX8_held_b72
    rw [hP]
    by_cases ht : t = P
    · subst ht
      rw [if_pos (nI_le (Nat.le_refl t) (by omega)), show nI x + (1 : Int32) = nI (x + 1) from nI_1 x]
    · have hlt : t < P := by omega
      obtain ⟨r, e1, e2, e3⟩ := agr_spec hk (show x < 6 by omega) (show t < 6 by omega)
      have hl := gP_le w σ x t
      rw [if_neg (nI_ge hlt (by omega)), e1, b_some, show nI t + (1 : Int32) = nI (t + 1) from nI_1 t, ← ih (t + 1) (by omega) (by omega) (by omega)]
      dsimp only
      simp only [hiC, if_pos h0]
      have er : r = due w ↔ gP w σ x t = 1 := by
        unfold due
        rcases (show w = 0 ∨ w = 1 by omega) with rfl | rfl
        · rw [if_pos rfl]; exact e2
        · rw [if_neg (by omega)]; exact e3
      by_cases c : r = due w
      · rw [if_pos c, er.mp c, show nI (a + hiC w σ x t) + (1 : Int32) = nI (a + hiC w σ x t + 1) from nI_1 _, Nat.add_assoc]
      · rw [if_neg c, show gP w σ x t = 0 by have : ¬ gP w σ x t = 1 := fun q => c (er.mpr q); omega]
        rfl
theorem heldC_l27 {σ : St} (hk : MkOk σ) {P : Nat} (hP : σ.2.1 1 = nI P) (p6 : P ≤ 6) {w : Nat} (hw : w < 2) : ∀ (n x : Nat), x ≤ P → P - x < n → fX8_held_l27 n σ (due w) (nI (hoC w σ P x)) (nI x) = some (nI (hoC w σ P P), σ) := by
  intro n
  induction n with
  | zero => intro x h1 h2; omega
  | succ n ih =>
    intro x h1 h2
    show fX8_held_b27 (fX8_held_l27 n) σ (due w) (nI (hoC w σ P x)) (nI x) = _
    unfold fX8_held_b27
    rw [hP]
    by_cases hx : x = P
    · subst hx
      rw [if_pos (nI_le (Nat.le_refl x) (by omega))]
    · have hlt : x < P := by omega
      rw [if_neg (nI_ge hlt (by omega)), show nI x + (1 : Int32) = nI (x + 1) from nI_1 x]
      have z : ∀ t, t ≤ x + 1 → hiC w σ x t = 0 := by
        intro t
        induction t with
        | zero => intro _; rfl
        | succ t iht => intro h; simp only [hiC, iht (by omega)]; rw [if_neg (by omega)]
      have := heldC_l45 hk hP p6 hw (fX8_held_l27 n) hlt (hoC w σ P x) gF (x + 1) (by omega) (by omega) (by simp [gF]; omega)
      rw [z (x + 1) (Nat.le_refl _), Nat.add_zero] at this
      rw [this]
      exact ih (x + 1) (by omega) (by omega)
theorem heldC_spec {σ : St} (hk : MkOk σ) {P : Nat} (hP : σ.2.1 1 = nI P) (p6 : P ≤ 6) {w : Nat} (hw : w < 2) : fX8_held σ (nI w) = some (nI (hoC w σ P P), σ) := by
  unfold fX8_held fX8_held_b21
  have e := nI_toInt (n := w) (by omega)
  have f0 : (0 : Int32).toInt = 0 := rfl
  have f1 : (1 : Int32).toInt = 1 := rfl
  simp only [within_spec, b_some, bI_ne0]
  rw [if_pos (by omega)]
  have := heldC_l27 hk hP p6 hw gF 0 (by omega) (by simp [gF]; omega)
  rcases (show w = 0 ∨ w = 1 by omega) with rfl | rfl
  · rw [if_pos (show nI 0 = (0 : Int32) from rfl)]; exact this
  · rw [if_neg (show ¬ nI 1 = (0 : Int32) by decide)]; exact this
