/-! ===== match: the reference's tables ===== -/
def cdF (L : Nat → Nat) : Nat → Nat → Nat
  | 0, _ => 0
  | m + 1, j => L j + 5 * cdF L m (j + 1)
def cd (L : Nat → Nat) : Nat := cdF L 6 0
def mdF (N : Nat → Nat) : Nat → Nat
  | 0 => 0
  | j + 1 => mdF N j + 5 ^ j * N j
theorem md_cd (N : Nat → Nat) : mdF N 6 = cd N := by
  simp only [mdF, cd, cdF, Nat.reduceAdd, Nat.reducePow]
  omega
theorem cdF_le (L : Nat → Nat) (h : ∀ j, j < 6 → L j ≤ 4) : ∀ m j, m + j ≤ 6 → cdF L m j < 5 ^ m := by
  intro m
  induction m with
  | zero => intro j _; exact Nat.lt_succ_self 0
  | succ m ih =>
    intro j hj
    have h1 := ih (j + 1) (by omega)
    have h2 := h j (by omega)
    simp only [cdF]
    rw [Nat.pow_succ]
    omega
theorem cd_lt {L : Nat → Nat} (h : ∀ j, j < 6 → L j ≤ 4) : cd L < 15625 := cdF_le L h 6 0 (by omega)
theorem p5 {m : Nat} (h : m ≤ 6) : 5 ^ m ≤ 15625 := by
  have : 5 ^ m ≤ 5 ^ 6 := Nat.pow_le_pow_right (by omega) h
  exact this
theorem cd_congr {L L' : Nat → Nat} (h : ∀ j, j < 6 → L j = L' j) : cd L = cd L' := by
  simp only [cd, cdF, Nat.zero_add]
  rw [h 0 (by omega), h 1 (by omega), h (1 + 1) (by omega), h (1 + 1 + 1) (by omega), h (1 + 1 + 1 + 1) (by omega), h (1 + 1 + 1 + 1 + 1) (by omega)]
theorem cd_inj {L L' : Nat → Nat} (h1 : ∀ j, j < 6 → L j ≤ 4) (h2 : ∀ j, j < 6 → L' j ≤ 4) (e : cd L = cd L') : ∀ j, j < 6 → L j = L' j := by
  have a0 := h1 0 (by omega)
  have a1 := h1 1 (by omega)
  have a2 := h1 2 (by omega)
  have a3 := h1 3 (by omega)
  have a4 := h1 4 (by omega)
  have a5 := h1 5 (by omega)
  have b0 := h2 0 (by omega)
  have b1 := h2 1 (by omega)
  have b2 := h2 2 (by omega)
  have b3 := h2 3 (by omega)
  have b4 := h2 4 (by omega)
  have b5 := h2 5 (by omega)
  simp only [cd, cdF, Nat.reduceAdd] at e
  intro j hj
  rcases (show j = 0 ∨ j = 1 ∨ j = 2 ∨ j = 3 ∨ j = 4 ∨ j = 5 by omega) with rfl | rfl | rfl | rfl | rfl | rfl <;> omega
def dgt (n : Nat) (j : Nat) : Nat := n / 5 ^ j % 5
theorem dgt_le (n j : Nat) : dgt n j ≤ 4 := by
  have : n / 5 ^ j % 5 < 5 := Nat.mod_lt _ (by omega)
  unfold dgt
  omega
theorem dgt_cd {n : Nat} (h : n < 15625) : cd (dgt n) = n := by
  have e2 : n / 25 = n / 5 / 5 := by omega
  have e3 : n / 125 = n / 25 / 5 := by omega
  have e4 : n / 625 = n / 125 / 5 := by omega
  have e5 : n / 3125 = n / 625 / 5 := by omega
  have d0 : dgt n 0 = n % 5 := by unfold dgt; rw [Nat.pow_zero, Nat.div_one]
  have d1 : dgt n 1 = n / 5 % 5 := rfl
  have d2 : dgt n 2 = n / 25 % 5 := rfl
  have d3 : dgt n 3 = n / 125 % 5 := rfl
  have d4 : dgt n 4 = n / 625 % 5 := rfl
  have d5 : dgt n 5 = n / 3125 % 5 := rfl
  simp only [cd, cdF, Nat.reduceAdd]
  omega
theorem loads_l (μ : St) {L : Nat → Nat} (hL : ∀ j, j < 6 → L j ≤ 4) {x l : Nat} (hx : x < 64) (hl : l ≤ 4) : ∀ (m n j : Nat), m + j = 6 → m < n → (∀ i, i < j → L i + bt x i ≤ l) → fX9_loadsBy_l12 n μ (nI x) (nI l) (nI (cdF L m j)) (nI (5 ^ j)) (nI (mdF (fun i => L i + bt x i) j)) (nI j) = some (if h : ∀ i, i < 6 → L i + bt x i ≤ l then nI (cd (fun i => L i + bt x i)) else -6, μ) := by
  intro m
  induction m with
  | zero =>
    intro n j h1 h2 h3
    obtain ⟨n, rfl⟩ : ∃ i, n = i + 1 := ⟨n - 1, by omega⟩
    obtain rfl : j = 6 := by omega
    show fX9_loadsBy_b12 (fX9_loadsBy_l12 n) μ _ _ _ _ _ _ = _
    unfold fX9_loadsBy_b12
    rw [if_pos (show (6 : Int32) ≤ nI 6 by decide), dif_pos h3, md_cd]
  | succ m ih =>
    intro n j h1 h2 h3
    obtain ⟨n, rfl⟩ : ∃ i, n = i + 1 := ⟨n - 1, by omega⟩
    show fX9_loadsBy_b12 (fX9_loadsBy_l12 n) μ _ _ _ _ _ _ = _
    unfold fX9_loadsBy_b12
    have hj6 : j < 6 := by omega
    have hLj := hL j hj6
    have hb := bt_lt x j
    have hlt := cdF_le L hL (m + 1) j (by omega)
    have hp5 := p5 (show m + 1 ≤ 6 by omega)
    have hp5' := p5 (show j ≤ 6 by omega)
    have e0 : cdF L (m + 1) j = L j + 5 * cdF L m (j + 1) := rfl
    have er : nI (cdF L (m + 1) j) - nI (cdF L (m + 1) j) / 5 * 5 = nI (L j) := by
      rw [show nI (cdF L (m + 1) j) - nI (cdF L (m + 1) j) / 5 * 5 = nI (cdF L (m + 1) j % 5) from pk_rem (d := 5) (by omega) (by omega) (by omega)]
      congr 1
      omega
    have ed : nI (cdF L (m + 1) j) / 5 = nI (cdF L m (j + 1)) := by
      rw [show nI (cdF L (m + 1) j) / 5 = nI (cdF L (m + 1) j / 5) from pk_div (d := 5) (by omega) (by omega) (by omega)]
      congr 1
      omega
    rw [if_neg (show ¬ (6 : Int32) ≤ nI j from nI_ge (b := 6) hj6 (by omega)), er, ed, bit_val x hx j hj6, nI_add, show nI j + (1 : Int32) = nI (j + 1) from nI_1 j, pk_mul, nI_add, show nI (5 ^ j) * (5 : Int32) = nI (5 ^ j * 5) from pk_mul _ 5, ← Nat.pow_succ]
    by_cases c : L j + bt x j ≤ l
    · rw [if_pos (nI_le c (by omega))]
      exact ih n (j + 1) (by omega) (by omega) (fun i hi => by
        by_cases q : i = j
        · subst q; exact c
        · exact h3 i (by omega))
    · rw [if_neg (nI_ge (by omega) (by omega)), dif_neg (fun q => c (q j hj6))]
theorem loads_spec (μ : St) {L : Nat → Nat} (hL : ∀ j, j < 6 → L j ≤ 4) {x l : Nat} (hx : x < 64) (hl : l ≤ 4) : fX9_loadsBy μ (nI (cd L)) (nI x) (nI l) = some (if h : ∀ i, i < 6 → L i + bt x i ≤ l then nI (cd (fun i => L i + bt x i)) else -6, μ) := loads_l μ hL hx hl 6 gF 0 rfl (by simp [gF]) (fun i h => absurd h (by omega))
theorem cdF_0 (L : Nat → Nat) : ∀ m j, cdF L m j = 0 → sN (fun i => L (j + i)) m = 0 := by
  intro m
  induction m with
  | zero => intro j _; rfl
  | succ m ih =>
    intro j h
    have e : cdF L (m + 1) j = L j + 5 * cdF L m (j + 1) := rfl
    have h1 := ih (j + 1) (by omega)
    have : ∀ k, sN (fun i => L (j + i)) (k + 1) = L j + sN (fun i => L (j + 1 + i)) k := by
      intro k
      induction k with
      | zero => simp [sN]
      | succ k ihk =>
        have e1 : sN (fun i => L (j + i)) (k + 1 + 1) = sN (fun i => L (j + i)) (k + 1) + L (j + (k + 1)) := rfl
        have e2 : sN (fun i => L (j + 1 + i)) (k + 1) = sN (fun i => L (j + 1 + i)) k + L (j + 1 + k) := rfl
        rw [e1, e2, ihk, show j + (k + 1) = j + 1 + k by omega]
        omega
    rw [this]
    omega
theorem total_l (μ : St) {L : Nat → Nat} (hL : ∀ j, j < 6 → L j ≤ 4) : ∀ (m n j a : Nat), m + j ≤ 6 → m < n → fX9_totalOf_l4 n μ (nI a) (nI (cdF L m j)) = some (nI (a + sN (fun i => L (j + i)) m), μ) := by
  have sh : ∀ j k, sN (fun i => L (j + i)) (k + 1) = L j + sN (fun i => L (j + 1 + i)) k := by
    intro j k
    induction k with
    | zero => simp [sN]
    | succ k ihk =>
      have e1 : sN (fun i => L (j + i)) (k + 1 + 1) = sN (fun i => L (j + i)) (k + 1) + L (j + (k + 1)) := rfl
      have e2 : sN (fun i => L (j + 1 + i)) (k + 1) = sN (fun i => L (j + 1 + i)) k + L (j + 1 + k) := rfl
      rw [e1, e2, ihk, show j + (k + 1) = j + 1 + k by omega]
      omega
  intro m
  induction m with
  | zero =>
    intro n j a h1 h2
    obtain ⟨n, rfl⟩ : ∃ i, n = i + 1 := ⟨n - 1, by omega⟩
    show fX9_totalOf_b4 (fX9_totalOf_l4 n) μ _ _ = _
    unfold fX9_totalOf_b4
    rw [show cdF L 0 j = 0 from rfl, if_pos (show nI 0 ≤ 0 by decide)]
    rfl
  | succ m ih =>
    intro n j a h1 h2
    obtain ⟨n, rfl⟩ : ∃ i, n = i + 1 := ⟨n - 1, by omega⟩
    show fX9_totalOf_b4 (fX9_totalOf_l4 n) μ _ _ = _
    unfold fX9_totalOf_b4
    have hLj := hL j (by omega)
    have hlt := cdF_le L hL (m + 1) j (by omega)
    have hp5 := p5 (show m + 1 ≤ 6 by omega)
    have e0 : cdF L (m + 1) j = L j + 5 * cdF L m (j + 1) := rfl
    by_cases c : cdF L (m + 1) j = 0
    · rw [c, if_pos (show nI 0 ≤ 0 by decide), cdF_0 L (m + 1) j c]
      rfl
    · have er : nI (cdF L (m + 1) j) - nI (cdF L (m + 1) j) / 5 * 5 = nI (L j) := by
        rw [show nI (cdF L (m + 1) j) - nI (cdF L (m + 1) j) / 5 * 5 = nI (cdF L (m + 1) j % 5) from pk_rem (d := 5) (by omega) (by omega) (by omega)]
        congr 1
        omega
      have ed : nI (cdF L (m + 1) j) / 5 = nI (cdF L m (j + 1)) := by
        rw [show nI (cdF L (m + 1) j) / 5 = nI (cdF L (m + 1) j / 5) from pk_div (d := 5) (by omega) (by omega) (by omega)]
        congr 1
        omega
      rw [if_neg (show ¬ nI (cdF L (m + 1) j) ≤ 0 from nI_ge (a := 0) (by omega) (by omega)), er, ed, nI_add, ih n (j + 1) (a + L j) (by omega) (by omega), sh, Nat.add_assoc]
theorem total_spec (μ : St) {L : Nat → Nat} (hL : ∀ j, j < 6 → L j ≤ 4) : fX9_totalOf μ (nI (cd L)) = some (nI (sN L 6), μ) := by
  have := total_l μ hL 6 gF 0 0 (by omega) (by simp [gF])
  rw [Nat.zero_add, sN_congr (g := L) 6 (fun i _ => by rw [Nat.zero_add])] at this
  exact this
def ft (σ : St) (J k p x : Nat) : Prop := sN (fun j => bt x j) J = k ∧ ∀ j, j < J → bt x j = 1 → al σ p j
theorem nb_sN (x : Nat) : ∀ m j, nb x m j = sN (fun i => bt x (j + i)) m := by
  have sh : ∀ j k, sN (fun i => bt x (j + i)) (k + 1) = bt x j + sN (fun i => bt x (j + 1 + i)) k := by
    intro j k
    induction k with
    | zero => simp [sN]
    | succ k ihk =>
      have e1 : sN (fun i => bt x (j + i)) (k + 1 + 1) = sN (fun i => bt x (j + i)) (k + 1) + bt x (j + (k + 1)) := rfl
      have e2 : sN (fun i => bt x (j + 1 + i)) (k + 1) = sN (fun i => bt x (j + 1 + i)) k + bt x (j + 1 + k) := rfl
      rw [e1, e2, ihk, show j + (k + 1) = j + 1 + k by omega]
      omega
  intro m
  induction m with
  | zero => intro j; rfl
  | succ m ih => intro j; rw [sh]; simp only [nb]; rw [ih]
theorem ones_J {x J : Nat} (hx : x < 2 ^ J) (h6 : J ≤ 6) : nb x 6 0 = sN (fun j => bt x j) J := by
  have h := nb_pad x J (6 - J) 0 (fun i hi => bt_out hx (by omega))
  rw [show J + (6 - J) = 6 by omega] at h
  rw [h, nb_sN]
  exact sN_congr J (fun i _ => by rw [Nat.zero_add])
theorem fit_l {σ μ μ' : St} {J P S C : Nat} (hN : IvN σ μ J P S C) (hJ : IvJ σ μ J) (hP : IvP σ μ J P) (hM : sameM μ μ') {p x : Nat} (hp : p < P) (hx : x < 64) : ∀ (m n j : Nat) (b : Prop), j + m = J → m < n → ∀ y : Int32, (y = 0 ∨ y = 1) → (y = 1 ↔ b) → ∃ r, fX9_isFit_l28 n μ' (nI p) (nI x) y (nI j) = some (r, μ') ∧ (r = 0 ∨ r = 1) ∧ (r = 1 ↔ b ∧ ∀ i, j ≤ i → i < J → bt x i = 1 → ¬ tI σ i p = -1) := by
  obtain ⟨n1, n2, n3, n4, n5, n6, n7, n8, n9, n10, n11, n12⟩ := id hN
  intro m
  induction m with
  | zero =>
    intro n j b h1 h2 y hy hb
    obtain ⟨n, rfl⟩ : ∃ i, n = i + 1 := ⟨n - 1, by omega⟩
    show ∃ r, fX9_isFit_b28 (fX9_isFit_l28 n) μ' _ _ _ _ = _ ∧ _
    unfold fX9_isFit_b28
    rw [hM.2 0 (by omega), n6, if_pos (nI_le (by omega) (by omega)), if_pos hy]
    refine ⟨y, rfl, hy, ?_⟩
    rw [hb]
    exact ⟨fun q => ⟨q, fun i hi hi2 => by omega⟩, fun q => q.1⟩
  | succ m ih =>
    intro n j b h1 h2 y hy hb
    obtain ⟨n, rfl⟩ : ∃ i, n = i + 1 := ⟨n - 1, by omega⟩
    show ∃ r, fX9_isFit_b28 (fX9_isFit_l28 n) μ' _ _ _ _ = _ ∧ _
    unfold fX9_isFit_b28 fX9_isFit_b61 fX9_isFit_b65 fX9_isFit_b66
    have hjJ : j < J := by omega
    have hbl := bt_lt x j
    rw [hM.2 0 (by omega), n6, if_neg (nI_ge hjJ (by omega)), bit_val x hx j (by omega), tieM_spec hM hJ hP n1 n2 hjJ hp, b_some, show nI j + (1 : Int32) = nI (j + 1) from nI_1 j]
    dsimp only
    have ht := tI_rng hJ hP n1 hjJ hp
    have neg : tI σ j p < 0 ↔ tI σ j p = -1 := by
      constructor
      · intro q
        have := Int32.lt_iff_toInt_lt.mp q
        have z : (0 : Int32).toInt = 0 := rfl
        exact Int32.toInt_inj.mp (by have e : (-1 : Int32).toInt = -1 := rfl; omega)
      · intro q; rw [q]; decide
    have fin0 : ∀ b' : Prop, (¬ b' ↔ ¬ (b ∧ (bt x j = 1 → ¬ tI σ j p = -1))) → ∀ y' : Int32, (y' = 0 ∨ y' = 1) → (y' = 1 ↔ b') → ∃ r, fX9_isFit_l28 n μ' (nI p) (nI x) y' (nI (j + 1)) = some (r, μ') ∧ (r = 0 ∨ r = 1) ∧ (r = 1 ↔ b ∧ ∀ i, j ≤ i → i < J → bt x i = 1 → ¬ tI σ i p = -1) := by
      intro b' hb' y' hy' hyb
      obtain ⟨r, r1, r2, r3⟩ := ih n (j + 1) b' (by omega) (by omega) y' hy' hyb
      refine ⟨r, r1, r2, ?_⟩
      rw [r3]
      have hb'' : b' ↔ (b ∧ (bt x j = 1 → ¬ tI σ j p = -1)) := by
        constructor
        · intro q
          by_cases z : b ∧ (bt x j = 1 → ¬ tI σ j p = -1)
          · exact z
          · exact absurd q (hb'.mpr z)
        · intro q
          by_cases z : b'
          · exact z
          · exact absurd q (hb'.mp z)
      rw [hb'']
      constructor
      · rintro ⟨⟨q1, q2⟩, q3⟩
        refine ⟨q1, fun i hi hi2 => ?_⟩
        by_cases z : i = j
        · subst z; exact q2
        · exact q3 i (by omega) hi2
      · rintro ⟨q1, q2⟩
        exact ⟨⟨q1, q2 j (Nat.le_refl j) hjJ⟩, fun i hi hi2 => q2 i (by omega) hi2⟩
    by_cases cy : y = 0
    · rw [if_pos cy]
      have hnb : ¬ b := fun q => by
        have := hb.mpr q
        rw [cy] at this
        exact absurd this (by decide)
      exact fin0 False ⟨fun _ q => hnb q.1, fun _ q => q⟩ 0 (Or.inl rfl) ⟨fun q => absurd q (by decide), fun q => q.elim⟩
    · have hy1 : y = 1 := by
        rcases hy with q | q
        · exact absurd q cy
        · exact q
      have hbt : b := hb.mp hy1
      rw [if_neg cy]
      by_cases cb : bt x j = 0
      · rw [if_pos ((nI_z (by omega)).mpr cb)]
        exact fin0 True ⟨fun q => absurd trivial q, fun q => absurd ⟨hbt, fun z => by omega⟩ q⟩ 1 (Or.inr rfl) ⟨fun _ => trivial, fun _ => rfl⟩
      · rw [if_neg (fun q => cb ((nI_z (by omega)).mp q))]
        by_cases ct : tI σ j p < 0
        · rw [if_pos ct]
          exact fin0 False ⟨fun _ q => q.2 (by omega) (neg.mp ct), fun _ q => q⟩ 0 (Or.inl rfl) ⟨fun q => absurd q (by decide), fun q => q.elim⟩
        · rw [if_neg ct]
          exact fin0 True ⟨fun q => absurd trivial q, fun q => absurd ⟨hbt, fun _ z => ct (neg.mpr z)⟩ q⟩ 1 (Or.inr rfl) ⟨fun _ => trivial, fun _ => rfl⟩
theorem wo_self : ∀ x, x < 64 → ∀ w, w < 6 → (x - bt x w * 2 ^ w = x ↔ bt x w = 0) := by decide +kernel
theorem fit_spec {σ μ μ' : St} {J P S C : Nat} (hN : IvN σ μ J P S C) (hJ : IvJ σ μ J) (hP : IvP σ μ J P) (hM : sameM μ μ') {p x k : Nat} (hk : k ≤ 3) (hp : p < P) (hx : x < 2 ^ J) : ∃ r, fX9_isFit μ' (nI p) (nI x) (nI k) = some (r, μ') ∧ (r = 0 ∨ r = 1) ∧ (r = 1 ↔ ft σ J k p x) := by
  obtain ⟨n1, n2, n3, n4, n5, n6, n7, n8, n9, n10, n11, n12⟩ := id hN
  have h64 := two_pow6 n1
  have hx64 : x < 64 := by omega
  unfold fX9_isFit fX9_isFit_b22 fX9_isFit_b23
  have hon := ones_J hx n1
  have hnl := nb_le x 6 0
  have hwl := wo_le σ p x
  rw [ones_spec μ' hx64, b_some, withoutM_spec hM hP n1 n2 hp hx64, b_some, hon]
  dsimp only
  rw [hon] at hnl
  have zero : ∀ q : ¬ ft σ J k p x, ∃ r, fX9_isFit_l28 gF μ' (nI p) (nI x) 0 0 = some (r, μ') ∧ (r = 0 ∨ r = 1) ∧ (r = 1 ↔ ft σ J k p x) := by
    intro q
    obtain ⟨r, r1, r2, r3⟩ := fit_l hN hJ hP hM hp hx64 J gF 0 False (by omega) (by simp [gF]; omega) 0 (Or.inl rfl) ⟨fun q => absurd q (by decide), fun q => q.elim⟩
    exact ⟨r, r1, r2, r3.trans ⟨fun z => z.1.elim, fun z => absurd z q⟩⟩
  by_cases c1 : sN (fun j => bt x j) J = k
  · rw [if_pos (by rw [c1])]
    obtain ⟨w1, w2⟩ := hP.2.1 p hp
    have hwo : wo σ p x = x ↔ ∀ j, j < J → bt x j = 1 → ¬ σ.1 15 p = nI j := by
      unfold wo
      by_cases h : σ.1 15 p = -6
      · rw [if_pos h]
        exact ⟨fun _ j hj _ q => nI_nem6 (show j < 2 ^ 31 by omega) (q.symm.trans h), fun _ => rfl⟩
      · rw [if_neg h]
        rcases w2 with q | ⟨w, hw, q⟩
        · exact absurd (w1.trans q) h
        · rw [w1, q, nI_clamp (by omega), wo_self x hx64 w (by omega)]
          have hb := bt_lt x w
          constructor
          · intro z j hj hbj e
            have : w = j := nI_inj (by omega) (by omega) e
            subst this
            omega
          · intro z
            by_cases zz : bt x w = 0
            · exact zz
            · exact absurd rfl (z w hw (by omega))
    by_cases c2 : wo σ p x = x
    · rw [if_pos (by rw [c2])]
      obtain ⟨r, r1, r2, r3⟩ := fit_l hN hJ hP hM hp hx64 J gF 0 True (by omega) (by simp [gF]; omega) 1 (Or.inr rfl) ⟨fun _ => trivial, fun _ => rfl⟩
      refine ⟨r, r1, r2, r3.trans ?_⟩
      constructor
      · rintro ⟨-, z⟩
        exact ⟨c1, fun j hj hb => ⟨hwo.mp c2 j hj hb, z j (by omega) hj hb⟩⟩
      · intro z
        exact ⟨trivial, fun i _ hi hb => (z.2 i hi hb).2⟩
    · rw [if_neg (fun q => c2 (nI_inj (by omega) (by omega) q))]
      exact zero (fun z => c2 (hwo.mpr (fun j hj hb => (z.2 j hj hb).1)))
  · rw [if_neg (fun q => c1 (nI_inj (by omega) (by omega) q))]
    exact zero (fun z => c1 z.1)
def bo (σ : St) (J p x : Nat) : Nat := sN (fun j => bt x j * bdv σ p j) J
theorem bo_le {σ μ : St} {J P : Nat} (hP : IvP σ μ J P) (h6 : J ≤ 6) {p : Nat} (hp : p < 6) (x : Nat) : bo σ J p x ≤ 18 := by
  have : ∀ n, n ≤ 6 → sN (fun j => bt x j * bdv σ p j) n ≤ 3 * n := by
    intro n
    induction n with
    | zero => intro _; exact Nat.le_refl 0
    | succ n ih =>
      intro h
      have h1 := ih (by omega)
      have h2 : bt x n * bdv σ p n ≤ 1 * 3 := Nat.mul_le_mul (by have := bt_lt x n; omega) (bdv_val hP hp (show n < 6 by omega)).1
      simp only [sN]
      omega
  have := this J h6
  unfold bo
  omega
theorem bids_spec {σ μ μ' : St} {J P S C : Nat} (hN : IvN σ μ J P S C) (hP : IvP σ μ J P) (hM : sameM μ μ') {p x : Nat} (hp : p < P) (hx : x < 64) : fX9_bidsOf μ' (nI p) (nI x) = some (nI (bo σ J p x), μ') := by
  obtain ⟨n1, n2, n3, n4, n5, n6, n7, n8, n9, n10, n11, n12⟩ := id hN
  have h : ∀ n j, j ≤ J → J - j < n → fX9_bidsOf_l5 n μ' (nI p) (nI x) (nI (sN (fun j => bt x j * bdv σ p j) j)) (nI j) = some (nI (bo σ J p x), μ') := by
    intro n
    induction n with
    | zero => intro j h1 h2; omega
    | succ n ih =>
      intro j h1 h2
      show fX9_bidsOf_b5 (fX9_bidsOf_l5 n) μ' _ _ _ _ = _
      unfold fX9_bidsOf_b5 fX9_bidsOf_b40 fX9_at
      rw [hM.2 0 (by omega), n6]
      by_cases e : j = J
      · subst e
        rw [if_pos (nI_le (Nat.le_refl j) (by omega))]
        rfl
      · have hjJ : j < J := by omega
        have hb := bt_lt x j
        obtain ⟨b1, b2⟩ := bdv_val hP (show p < 6 by omega) (show j < 6 by omega)
        rw [if_neg (nI_ge hjJ (by omega)), bit_val x hx j (by omega), b_some]
        dsimp only
        rw [at6', if_pos (ib_nI (show 6 * j + p < 36 by omega) (by omega)), nI_clamp (n := 6 * j + p) (by omega), hM.1 10 (by omega), ← (hP.2.2.2.2 (6 * j + p) (by omega)).1, b2, show nI j + (1 : Int32) = nI (j + 1) from nI_1 j, ← ih (j + 1) (by omega) (by omega)]
        simp only [sN]
        by_cases c : bt x j = 0
        · rw [if_neg (show ¬ nI (bt x j) = 1 by rw [c]; decide), c, Nat.zero_mul, Nat.add_zero]
          rw [show nI (sN (fun j => bt x j * bdv σ p j) j) + (0 : Int32) = nI (sN (fun j => bt x j * bdv σ p j) j) by simp]
          rfl
        · rw [if_pos (show nI (bt x j) = 1 by rw [show bt x j = 1 by omega]; rfl), show bt x j = 1 by omega, Nat.one_mul, nI_add]
  exact h gF 0 (by omega) (by simp [gF]; omega)
