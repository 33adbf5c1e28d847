/-! ===== marks: who marked, how many, their sum ===== -/
def hs (σ : St) (j p : Nat) : Prop := ¬ σ.1 19 (6 * j + p) = -6
def cN (σ : St) (j p : Nat) : Nat := if σ.1 19 (6 * j + p) = -6 then 0 else 1
theorem cN_le (σ : St) (j p : Nat) : cN σ j p ≤ 1 := by unfold cN; by_cases h : σ.1 19 (6 * j + p) = -6 <;> simp [h]
theorem of_spec (σ : St) {j p : Nat} (hj : j < 6) (hp : p < 6) : fX1_of σ (nI j) (nI p) = some (σ.1 19 (6 * j + p), σ) := by
  unfold fX1_of
  rw [at6, if_pos (ib_nI (show 6 * j + p < 36 by omega) (by omega)), nI_clamp (n := 6 * j + p) (by omega)]
theorem hasM_spec (σ : St) {j p : Nat} (hj : j < 6) (hp : p < 6) : fX1_has σ (nI j) (nI p) = some (nI (cN σ j p), σ) := by
  unfold fX1_has cN
  rw [of_spec σ hj hp, b_some]
  dsimp only
  by_cases h : σ.1 19 (6 * j + p) = -6
  · rw [if_pos h, if_pos h]; rfl
  · rw [if_neg h, if_neg h]; rfl
theorem nI_z {n : Nat} (h : n < 2 ^ 31) : nI n = 0 ↔ n = 0 := ⟨fun q => nI_inj (b := 0) h (by omega) q, fun q => by rw [q]; rfl⟩
/-- bits of the judges < k who marked p -/
def jb (σ : St) (p : Nat) : Nat → Nat
  | 0 => 0
  | k + 1 => jb σ p k + cN σ k p * 2 ^ k
theorem jb_lt (σ : St) (p : Nat) : ∀ k, jb σ p k < 2 ^ k := by
  intro k
  induction k with
  | zero => simp [jb]
  | succ k ih =>
    have h1 := cN_le σ k p
    have h2 : cN σ k p * 2 ^ k ≤ 1 * 2 ^ k := Nat.mul_le_mul_right _ h1
    simp only [jb, Nat.pow_succ]
    omega
theorem or_bit : ∀ k, k < 6 → ∀ b, b < 2 ^ k → nI b ||| ((1 : Int32) <<< (nI k &&& 31)) = nI (b + 2 ^ k) := by decide +kernel
theorem or_zero (x : Int32) : x ||| 0 = x := by simp
theorem judgesOf_l (σ : St) {p : Nat} (hp : p < 6) : ∀ (n k : Nat), k ≤ 6 → 6 - k < n → fX1_judgesOf_l4 n σ (nI p) (nI (jb σ p k)) (nI k) = some (nI (jb σ p 6), σ) := by
  intro n
  induction n with
  | zero => intro k h1 h2; omega
  | succ n ih =>
    intro k h1 h2
    show fX1_judgesOf_b4 (fX1_judgesOf_l4 n) σ (nI p) (nI (jb σ p k)) (nI k) = _
    unfold fX1_judgesOf_b4
    by_cases hk : k = 6
    · subst hk
      rw [if_pos (show (6 : Int32) ≤ nI 6 by decide)]
    · have hlt : k < 6 := by omega
      rw [if_neg (show ¬ (6 : Int32) ≤ nI k from nI_ge (b := 6) hlt (by omega)), hasM_spec σ hlt hp, b_some]
      dsimp only
      have hc := cN_le σ k p
      have e1 : nI k + (1 : Int32) = nI (k + 1) := nI_1 k
      unfold fX1_judgesOf_b27
      by_cases h : cN σ k p = 0
      · rw [if_pos ((nI_z (by omega)).mpr h), or_zero, e1, ← ih (k + 1) (by omega) (by omega)]
        simp only [jb, h, Nat.zero_mul, Nat.add_zero]
      · have h1' : cN σ k p = 1 := by omega
        rw [if_neg (fun q => h ((nI_z (by omega)).mp q)), or_bit k hlt _ (jb_lt σ p k), e1, ← ih (k + 1) (by omega) (by omega)]
        simp only [jb, h1', Nat.one_mul]
theorem judgesOf_spec (σ : St) {p : Nat} (hp : p < 6) : fX1_judgesOf σ (nI p) = some (nI (jb σ p 6), σ) := judgesOf_l σ hp gF 0 (by omega) (by simp [gF])
def pc6 (b : Nat) : Nat := b % 2 + b / 2 % 2 + b / 4 % 2 + b / 8 % 2 + b / 16 % 2 + b / 32 % 2
theorem bitC_0 : ∀ b, b < 64 → (fJ6_bitCount_0f7a4 sm0 (nI b)).map Prod.fst = some (nI (pc6 b)) := by decide +kernel
theorem bitC_spec (σ : St) {b : Nat} (hb : b < 64) : fJ6_bitCount_0f7a4 σ (nI b) = some (nI (pc6 b), σ) := by
  have h := bitC_0 b hb
  have e : fJ6_bitCount_0f7a4 σ (nI b) = (fJ6_bitCount_0f7a4 sm0 (nI b)).map (fun q => (q.1, σ)) := rfl
  rw [e]
  cases h2 : fJ6_bitCount_0f7a4 sm0 (nI b) with
  | none => rw [h2] at h; cases h
  | some q =>
    rw [h2] at h
    show some (q.1, σ) = _
    rw [show q.1 = nI (pc6 b) from Option.some.inj h]
/-- how many of the judges marked p -/
def ct (σ : St) (p : Nat) : Nat := cN σ 0 p + cN σ 1 p + cN σ 2 p + cN σ 3 p + cN σ 4 p + cN σ 5 p
theorem pc_jb (σ : St) (p : Nat) : pc6 (jb σ p 6) = ct σ p := by
  have h0 := cN_le σ 0 p
  have h1 := cN_le σ 1 p
  have h2 := cN_le σ 2 p
  have h3 := cN_le σ 3 p
  have h4 := cN_le σ 4 p
  have h5 := cN_le σ 5 p
  simp only [pc6, ct, jb]
  omega
theorem countOf_spec (σ : St) {p : Nat} (hp : p < 6) : fX1_countOf σ (nI p) = some (nI (ct σ p), σ) := by
  unfold fX1_countOf
  rw [judgesOf_spec σ hp, b_some]
  dsimp only
  rw [bitC_spec σ (jb_lt σ p 6), b_some, pc_jb]
/-- all marks of the papers < k -/
def ca (σ : St) : Nat → Nat
  | 0 => 0
  | k + 1 => ca σ k + ct σ k
theorem countAll_l (σ : St) : ∀ (n k : Nat), k ≤ 6 → 6 - k < n → fX1_countAll_l4 n σ (nI (ca σ k)) (nI k) = some (nI (ca σ 6), σ) := by
  intro n
  induction n with
  | zero => intro k h1 h2; omega
  | succ n ih =>
    intro k h1 h2
    show fX1_countAll_b4 (fX1_countAll_l4 n) σ (nI (ca σ k)) (nI k) = _
    unfold fX1_countAll_b4
    by_cases hk : k = 6
    · subst hk
      rw [if_pos (show (6 : Int32) ≤ nI 6 by decide)]
    · have hlt : k < 6 := by omega
      rw [if_neg (show ¬ (6 : Int32) ≤ nI k from nI_ge (b := 6) hlt (by omega)), countOf_spec σ hlt, b_some]
      dsimp only
      rw [nI_add, show nI k + (1 : Int32) = nI (k + 1) from nI_1 k]
      exact ih (k + 1) (by omega) (by omega)
theorem countAll_spec (σ : St) : fX1_countAll σ = some (nI (ca σ 6), σ) := countAll_l σ gF 0 (by omega) (by simp [gF])
/-! the reference's view of the same marks -/
theorem mk_facts {σ μ : St} {J P : Nat} (hM : IvM σ μ J P) {j p : Nat} (hj : j < J) (h6 : J ≤ 6) (hp : p < 6) : μ.1 9 (6 * j + p) = σ.1 19 (6 * j + p) ∧ (σ.1 19 (6 * j + p) = -6 ∨ (p < P ∧ inR (σ.1 19 (6 * j + p)) 0 5 ∧ ¬ μ.1 6 p = nI j)) := by
  obtain ⟨x1, x2⟩ := (hM j p (by omega) hp).1 hj
  rw [x1]
  exact ⟨rfl, x2⟩
theorem cN_out {σ μ : St} {J P : Nat} (hM : IvM σ μ J P) {j p : Nat} (hj : j < 6) (hp : p < 6) (h : J ≤ j ∨ P ≤ p) (h6 : J ≤ 6) : cN σ j p = 0 := by
  unfold cN
  rw [if_pos]
  by_cases hjJ : J ≤ j
  · exact (hM j p hj hp).2 hjJ
  · rcases (mk_facts hM (show j < J by omega) h6 hp).2 with q | ⟨q, -⟩
    · exact q
    · omega
theorem neg_cN {σ : St} {j p : Nat} (h : σ.1 19 (6 * j + p) = -6 ∨ inR (σ.1 19 (6 * j + p)) 0 5) : (σ.1 19 (6 * j + p) < 0 ↔ cN σ j p = 0) := by
  unfold cN
  rcases h with h | h
  · rw [if_pos h, h]
    exact ⟨fun _ => rfl, fun _ => by decide⟩
  · have h1 : ¬ σ.1 19 (6 * j + p) = -6 := fun q => by
      rw [q] at h
      exact absurd h.1 (by decide)
    rw [if_neg h1]
    refine ⟨fun q => ?_, fun q => by omega⟩
    have := Int32.lt_iff_toInt_lt.mp q
    have z : (0 : Int32).toInt = 0 := rfl
    have := h.1
    omega
theorem ge_cN {σ : St} {j p : Nat} (h : σ.1 19 (6 * j + p) = -6 ∨ inR (σ.1 19 (6 * j + p)) 0 5) : (0 ≤ σ.1 19 (6 * j + p) ↔ cN σ j p = 1) := by
  have h1 := neg_cN h
  have h2 := cN_le σ j p
  have h3 : (0 : Int32) ≤ σ.1 19 (6 * j + p) ↔ ¬ σ.1 19 (6 * j + p) < 0 := by
    rw [Int32.le_iff_toInt_le, Int32.lt_iff_toInt_lt]
    omega
  rw [h3, h1]
  omega
theorem mk_or {σ μ : St} {J P : Nat} (hM : IvM σ μ J P) {j p : Nat} (hj : j < J) (h6 : J ≤ 6) (hp : p < 6) : σ.1 19 (6 * j + p) = -6 ∨ inR (σ.1 19 (6 * j + p)) 0 5 := by
  rcases (mk_facts hM hj h6 hp).2 with q | ⟨-, q, -⟩
  · exact Or.inl q
  · exact Or.inr q
/-! told -/
def tr (σ : St) (j : Nat) : Nat → Nat
  | 0 => 0
  | p + 1 => tr σ j p + cN σ j p
def ta (σ : St) (P : Nat) : Nat → Nat
  | 0 => 0
  | j + 1 => ta σ P j + tr σ j P
theorem toldM_l15 {σ μ : St} {J P : Nat} (hM : IvM σ μ J P) (h6 : J ≤ 6) (p6 : P ≤ 6) (hP : μ.2.1 1 = nI P) (rc4 : St → Int32 → Int32 → Int32 → Option (Int32 × St)) {j : Nat} (hj : j < J) (x1 : Int32) (a : Nat) : ∀ (n p : Nat), p ≤ P → P - p < n → fX9_told_l15 rc4 n μ x1 (nI (a + tr σ j p)) (nI j) (nI p) = rc4 μ x1 (nI (a + tr σ j P)) (nI (j + 1)) := by
  intro n
  induction n with
  | zero => intro p h1 h2; omega
  | succ n ih =>
    intro p h1 h2
    show fX9_told_b15 rc4 (fX9_told_l15 rc4 n) μ x1 (nI (a + tr σ j p)) (nI j) (nI p) = _
    unfold fX9_told_b15
    rw [hP]
    by_cases hp : p = P
    · subst hp
      rw [if_pos (nI_le (Nat.le_refl p) (by omega)), show nI j + (1 : Int32) = nI (j + 1) from nI_1 j]
    · have hlt : p < P := by omega
      rw [if_neg (nI_ge hlt (by omega))]
      unfold fX9_at
      rw [b_some]
      dsimp only
      rw [at6', if_pos (ib_nI (show 6 * j + p < 36 by omega) (by omega)), nI_clamp (n := 6 * j + p) (by omega), (mk_facts hM hj h6 (show p < 6 by omega)).1]
      have hn := neg_cN (mk_or hM hj h6 (show p < 6 by omega))
      have hc := cN_le σ j p
      unfold fX9_told_b44
      rw [show nI p + (1 : Int32) = nI (p + 1) from nI_1 p, ← ih (p + 1) (by omega) (by omega)]
      by_cases h : cN σ j p = 0
      · rw [if_pos (hn.mpr h)]
        simp only [tr, h, Nat.add_zero]
        rw [show nI (a + tr σ j p) + (0 : Int32) = nI (a + tr σ j p) by simp]
      · rw [if_neg (fun q => h (hn.mp q))]
        simp only [tr, show cN σ j p = 1 by omega]
        rw [show nI (a + tr σ j p) + (1 : Int32) = nI (a + tr σ j p + 1) from nI_1 _, Nat.add_assoc]
theorem toldM_l4 {σ μ : St} {J P : Nat} (hM : IvM σ μ J P) (h6 : J ≤ 6) (p6 : P ≤ 6) (hJ : μ.2.1 0 = nI J) (hP : μ.2.1 1 = nI P) (x1 : Int32) : ∀ (n j : Nat), j ≤ J → J - j < n → fX9_told_l4 n μ x1 (nI (ta σ P j)) (nI j) = fX9_told_b4 (fX9_told_l4 0) μ x1 (nI (ta σ P J)) (nI J) := by
  intro n
  induction n with
  | zero => intro j h1 h2; omega
  | succ n ih =>
    intro j h1 h2
    show fX9_told_b4 (fX9_told_l4 n) μ x1 (nI (ta σ P j)) (nI j) = _
    by_cases hj : j = J
    · subst hj
      unfold fX9_told_b4
      rw [hJ, if_pos (nI_le (Nat.le_refl j) (by omega)), if_pos (nI_le (Nat.le_refl j) (by omega))]
    · have hlt : j < J := by omega
      rw [← ih (j + 1) (by omega) (by omega)]
      unfold fX9_told_b4
      rw [hJ, if_neg (nI_ge hlt (by omega))]
      have := toldM_l15 hM h6 p6 hP (fX9_told_l4 n) hlt x1 (ta σ P j) gF 0 (by omega) (by simp [gF]; omega)
      exact this
theorem ta_ca {σ μ : St} {J P : Nat} (hM : IvM σ μ J P) (h6 : J ≤ 6) (p6 : P ≤ 6) : ta σ P J = ca σ 6 := by
  have z : ∀ j p, j < 6 → p < 6 → J ≤ j ∨ P ≤ p → cN σ j p = 0 := fun j p h1 h2 h3 => cN_out hM h1 h2 h3 h6
  have e1 : ∀ j, j < 6 → tr σ j P = tr σ j 6 := by
    intro j hj
    have : ∀ k, P ≤ k → k ≤ 6 → tr σ j P = tr σ j k := by
      intro k
      induction k with
      | zero => intro h1 h2; rw [show P = 0 by omega]
      | succ k ih =>
        intro h1 h2
        by_cases hk : P = k + 1
        · rw [hk]
        · rw [ih (by omega) (by omega)]
          simp only [tr, z j k hj (by omega) (Or.inr (by omega)), Nat.add_zero]
    exact this 6 p6 (Nat.le_refl 6)
  have e2 : ∀ k, J ≤ k → k ≤ 6 → ta σ P J = ta σ P k := by
    intro k
    induction k with
    | zero => intro h1 h2; rw [show J = 0 by omega]
    | succ k ih =>
      intro h1 h2
      by_cases hk : J = k + 1
      · rw [hk]
      · rw [ih (by omega) (by omega)]
        simp only [ta]
        have : tr σ k P = 0 := by
          rw [e1 k (by omega)]
          simp only [tr, z k 0 (by omega) (by omega) (Or.inl (by omega)), z k 1 (by omega) (by omega) (Or.inl (by omega)), z k 2 (by omega) (by omega) (Or.inl (by omega)), z k 3 (by omega) (by omega) (Or.inl (by omega)), z k 4 (by omega) (by omega) (Or.inl (by omega)), z k 5 (by omega) (by omega) (Or.inl (by omega))]
        omega
  rw [e2 6 h6 (Nat.le_refl 6)]
  simp only [ta, e1 0 (by omega), e1 1 (by omega), e1 2 (by omega), e1 3 (by omega), e1 4 (by omega), e1 5 (by omega), tr, ca, ct]
  omega
theorem op_told : Op_told Inv := by
  intro σ μ hI a1
  obtain ⟨J, P, S, C, hN, hJ, hP, hM, hR⟩ := id hI
  obtain ⟨n1, n2, n3, n4, n5, n6, n7, n8, n9, n10, n11, n12⟩ := id hN
  have hm : fX9_told μ a1 = fX9_told_b4 (fX9_told_l4 0) μ a1 (nI (ta σ P J)) (nI J) := toldM_l4 hM n1 n2 n6 n8 a1 gF 0 (by omega) (by simp [gF]; omega)
  rw [hm]
  unfold fX9_told_b4 fX8_told
  rw [n6, if_pos (nI_le (Nat.le_refl J) (by omega)), countAll_spec, b_some, n5, n7, n8, n9, n10, n11, n12, ta_ca hM n1 n2]
  by_cases c0 : a1 = 0
  · rw [if_pos c0, if_pos c0]; exact ⟨_, _, _, rfl, rfl, hI⟩
  · rw [if_neg c0, if_neg c0]
    by_cases c1 : a1 = 1
    · rw [if_pos c1, if_pos c1]; exact ⟨_, _, _, rfl, rfl, hI⟩
    · rw [if_neg c1, if_neg c1]
      by_cases c2 : a1 = 2
      · rw [if_pos c2, if_pos c2]; exact ⟨_, _, _, rfl, rfl, hI⟩
      · rw [if_neg c2, if_neg c2]
        by_cases c3 : a1 = 3
        · rw [if_pos c3, if_pos c3]; exact ⟨_, _, _, rfl, rfl, hI⟩
        · rw [if_neg c3, if_neg c3]
          by_cases c4 : a1 = 4
          · rw [if_pos c4, if_pos c4]; exact ⟨_, _, _, rfl, rfl, hI⟩
          · rw [if_neg c4, if_neg c4]; exact ⟨_, _, _, rfl, rfl, hI⟩
