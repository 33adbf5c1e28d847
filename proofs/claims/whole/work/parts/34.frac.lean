/-! ===== fractions in lowest terms ===== -/
theorem lT {n : Nat} (h : n < 2 ^ 63) : (lN n).toInt = (n : Int) := Int64.toInt_ofNat_of_lt h
theorem lN_inj {a b : Nat} (ha : a < 2 ^ 63) (hb : b < 2 ^ 63) (h : lN a = lN b) : a = b := by
  have h1 := lT ha
  have h2 := lT hb
  rw [h] at h1
  omega
theorem lN_z {a : Nat} (ha : a < 2 ^ 63) : lN a = 0 ↔ a = 0 := ⟨fun q => lN_inj (b := 0) ha (by omega) q, fun q => by rw [q]; rfl⟩
theorem l_div {a b : Nat} (ha : a < 2 ^ 63) (hb : b < 2 ^ 63) : lN a / lN b = lN (a / b) := by
  refine Int64.toInt_inj.mp ?_
  have h1 : (a / b : Nat) < 2 ^ 63 := Nat.lt_of_le_of_lt (Nat.div_le_self a b) ha
  rw [Int64.toInt_div_of_ne_right, lT ha, lT hb, lT h1]
  · exact (Int.ofNat_tdiv a b).symm
  · intro q
    have := lT hb
    rw [q] at this
    have e : (-1 : Int64).toInt = -1 := rfl
    omega
theorem l_rem {a b : Nat} (ha : a < 2 ^ 63) (hb : b < 2 ^ 63) : lN a - lN a / lN b * lN b = lN (a % b) := by
  rw [l_div ha hb, lN_mul, lN_sub (Nat.div_mul_le_self a b)]
  congr 1
  have := Nat.div_add_mod a b
  rw [Nat.mul_comm] at this
  omega
def fin : Nat → Nat → Nat → Prop
  | 0, _, b => b = 0
  | k + 1, a, b => b = 0 ∨ fin k b (a % b)
def fp : Nat → Nat × Nat
  | 0 => (1, 2)
  | n + 1 => ((fp n).2, (fp n).1 + (fp n).2)
theorem fin_up : ∀ k a b, fin k a b → fin (k + 1) a b := by
  intro k
  induction k with
  | zero => intro a b h; exact Or.inl h
  | succ k ih =>
    intro a b h
    rcases h with h | h
    · exact Or.inl h
    · exact Or.inr (ih _ _ h)
theorem fin_fp : ∀ n, (∀ a b, b ≤ a → a < (fp n).1 → fin n a b) ∧ (∀ a b, b ≤ a → a < (fp n).2 → fin (n + 1) a b) := by
  intro n
  induction n with
  | zero =>
    refine ⟨fun a b h1 h2 => ?_, fun a b h1 h2 => ?_⟩
    · have : a < 1 := h2
      show b = 0
      omega
    · have : a < 2 := h2
      by_cases hb : b = 0
      · exact Or.inl hb
      · refine Or.inr ?_
        show a % b = 0
        have e1 : b = 1 := by omega
        rw [e1]
        exact Nat.mod_one a
  | succ n ih =>
    refine ⟨fun a b h1 h2 => ih.2 a b h1 h2, fun a b h1 h2 => ?_⟩
    have h2' : a < (fp n).1 + (fp n).2 := h2
    by_cases hb : b = 0
    · exact Or.inl hb
    · refine Or.inr ?_
      have hm : a % b < b := Nat.mod_lt a (by omega)
      by_cases c : b < (fp n).2
      · exact ih.2 b (a % b) (by omega) c
      · by_cases hr : a % b = 0
        · exact Or.inl hr
        · refine Or.inr ?_
          have hm2 : b % (a % b) < a % b := Nat.mod_lt b (by omega)
          refine ih.1 (a % b) (b % (a % b)) (by omega) ?_
          have : b * 1 ≤ b * (a / b) := Nat.mul_le_mul_left b (Nat.div_pos h1 (by omega))
          have := Nat.div_add_mod a b
          omega
theorem fp_rat : ∀ n, 3 * (fp n).1 ≤ 2 * (fp n).2 ∧ (fp n).2 ≤ 2 * (fp n).1 := by
  intro n
  induction n with
  | zero => exact ⟨by decide, by decide⟩
  | succ n ih =>
    show 3 * (fp n).2 ≤ 2 * ((fp n).1 + (fp n).2) ∧ (fp n).1 + (fp n).2 ≤ 2 * (fp n).2
    omega
theorem fp_four : ∀ k, 4 ^ k ≤ (fp (3 * k)).1 := by
  intro k
  induction k with
  | zero => exact Nat.le_refl 1
  | succ k ih =>
    have h := fp_rat (3 * k)
    have e : (fp (3 * (k + 1))).1 = (fp (3 * k)).2 + ((fp (3 * k)).1 + (fp (3 * k)).2) := rfl
    rw [e, Nat.pow_succ]
    omega
theorem fin_all {a b : Nat} (ha : a < 2 ^ 57) (hb : b < 2 ^ 57) : fin 88 a b := by
  have h87 : ∀ a b, b ≤ a → a < 2 ^ 57 → fin 87 a b := fun a b h1 h2 => (fin_fp 87).1 a b h1 (Nat.lt_of_lt_of_le h2 (Nat.le_trans (show 2 ^ 57 ≤ 4 ^ 29 by decide) (fp_four 29)))
  by_cases h : b ≤ a
  · exact fin_up 87 a b (h87 a b h ha)
  · by_cases hb0 : b = 0
    · exact Or.inl hb0
    · refine Or.inr ?_
      rw [Nat.mod_eq_of_lt (show a < b by omega)]
      exact h87 b a (by omega) hb
theorem gcd_step {a b : Nat} : Nat.gcd a b = Nat.gcd b (a % b) := by
  rw [Nat.gcd_comm a b, Nat.gcd_rec b a, Nat.gcd_comm]
theorem gcdC_l (σ : St) : ∀ (k n a b s : Nat), fin k a b → a < 2 ^ 57 → b < 2 ^ 57 → s + k < 100 → k < n → fX8_greatestDivisor_l3 n σ (lN a) (lN b) (nI s) = some (lN (Nat.gcd a b), σ) := by
  intro k
  induction k with
  | zero =>
    intro n a b s hf ha hb hs hn
    obtain ⟨n, rfl⟩ : ∃ m, n = m + 1 := ⟨n - 1, by omega⟩
    have hf : b = 0 := hf
    subst hf
    show fX8_greatestDivisor_b3 _ σ _ _ _ = _
    unfold fX8_greatestDivisor_b3
    rw [if_neg (show ¬ (100 : Int32) ≤ nI s from nI_ge (b := 100) (by omega) (by omega)), if_pos (show lg_cmp (lN 0) 0 = 0 from (lg_cmp_eq _ _).mpr rfl), Nat.gcd_zero_right]
  | succ k ih =>
    intro n a b s hf ha hb hs hn
    obtain ⟨n, rfl⟩ : ∃ m, n = m + 1 := ⟨n - 1, by omega⟩
    show fX8_greatestDivisor_b3 _ σ _ _ _ = _
    unfold fX8_greatestDivisor_b3
    rw [if_neg (show ¬ (100 : Int32) ≤ nI s from nI_ge (b := 100) (by omega) (by omega))]
    by_cases hb0 : b = 0
    · subst hb0
      rw [if_pos (show lg_cmp (lN 0) 0 = 0 from (lg_cmp_eq _ _).mpr rfl), Nat.gcd_zero_right]
    · have hz : ¬ lN b = 0 := fun q => hb0 ((lN_z (by omega)).mp q)
      rw [if_neg (fun q => hz ((lg_cmp_eq _ _).mp q)), if_pos hz, l_rem (by omega) (by omega), show nI s + (1 : Int32) = nI (s + 1) from nI_1 s, gcd_step]
      have hm : a % b < b := Nat.mod_lt a (by omega)
      rcases hf with hf | hf
      · exact absurd hf hb0
      · exact ih n b (a % b) (s + 1) hf hb (by omega) (by omega) (by omega)
theorem gcdC_spec (σ : St) {a b : Nat} (ha : a < 2 ^ 57) (hb : b < 2 ^ 57) : fX8_greatestDivisor σ (lN a) (lN b) = some (lN (Nat.gcd a b), σ) := gcdC_l σ 88 gF a b 0 (fin_all ha hb) ha hb (by omega) (by simp [gF])
/-- a fraction's part, in lowest terms -/
def FR (u : Int) (b : Nat) (part : Int32) : Int64 := if part = 0 then Int64.ofInt (u / (Nat.gcd u.natAbs b : Int)) else lN (b / Nat.gcd u.natAbs b)
theorem absC {U : Int64} {u : Int} (hU : U.toInt = u) (h1 : u.natAbs < 2 ^ 57) : (if 0 < U then U else -U) = lN u.natAbs := by
  refine Int64.toInt_inj.mp ?_
  rw [lT (by omega)]
  have z : (0 : Int64).toInt = 0 := rfl
  by_cases h : 0 < U
  · have := Int64.lt_iff_toInt_lt.mp h
    rw [if_pos h, hU]
    omega
  · have h' : ¬ (0 : Int64).toInt < U.toInt := fun q => h (Int64.lt_iff_toInt_lt.mpr q)
    rw [if_neg h, Int64.toInt_neg, hU, Int.bmod_eq_of_le (by omega) (by omega)]
    omega
theorem absM {U : Int64} {u : Int} (hU : U.toInt = u) (h1 : u.natAbs < 2 ^ 57) (h : ¬ 0 ≤ lg_cmp U 0) : -U = lN u.natAbs ∧ u < 0 := by
  have z : (0 : Int64).toInt = 0 := rfl
  have h' : ¬ (0 : Int64).toInt ≤ U.toInt := fun q => h ((lg_cmp_ge _ _).mpr (Int64.le_iff_toInt_le.mpr q))
  refine ⟨Int64.toInt_inj.mp ?_, by omega⟩
  rw [lT (by omega), Int64.toInt_neg, hU, Int.bmod_eq_of_le (by omega) (by omega)]
  omega
theorem divU {U : Int64} {u : Int} (hU : U.toInt = u) (h1 : u.natAbs < 2 ^ 57) {g : Nat} (hg : g ∣ u.natAbs) (hg0 : 0 < g) (hgb : g < 2 ^ 57) : U / lN g = Int64.ofInt (u / (g : Int)) := by
  have hd : (g : Int) ∣ u := Int.dvd_natAbs.mp (Int.natCast_dvd_natCast.mpr hg)
  refine Int64.toInt_inj.mp ?_
  have hq : (u / (g : Int)).natAbs ≤ u.natAbs := by
    obtain ⟨c, rfl⟩ := hd
    rw [Int.mul_ediv_cancel_left _ (by omega), Int.natAbs_mul]
    have : 1 * c.natAbs ≤ (g : Int).natAbs * c.natAbs := Nat.mul_le_mul_right _ (by omega)
    omega
  rw [Int64.toInt_div_of_ne_right, hU, lT (by omega), Int64.toInt_ofInt_of_le (by omega) (by omega)]
  · exact Int.tdiv_eq_ediv_of_dvd hd
  · intro q
    have := lT (n := g) (by omega)
    rw [q] at this
    have e : (-1 : Int64).toInt = -1 := rfl
    omega
theorem tell_spec (σ : St) {U : Int64} {u : Int} (hU : U.toInt = u) (h1 : u.natAbs < 2 ^ 57) {b : Nat} (hb0 : 0 < b) (hb : b < 2 ^ 57) (part : Int32) : fX8_tell σ U (lN b) part = some (FR u b part, σ) := by
  unfold fX8_tell fX8_tell_b29 FR
  rw [absC hU h1, gcdC_spec σ h1 hb, b_some]
  dsimp only
  have hgp : 0 < Nat.gcd u.natAbs b := Nat.gcd_pos_of_pos_right _ hb0
  have hgl : Nat.gcd u.natAbs b ≤ b := Nat.le_of_dvd hb0 (Nat.gcd_dvd_right _ _)
  have hbz : ¬ lN b = 0 := fun q => by have := (lN_z (by omega)).mp q; omega
  have hgz : ¬ lN (Nat.gcd u.natAbs b) = 0 := fun q => by have := (lN_z (by omega)).mp q; omega
  have z : (0 : Int64).toInt = 0 := rfl
  by_cases c : U = 0
  · have hu : u = 0 := by rw [← hU, c]; rfl
    subst hu
    rw [if_pos ((lg_cmp_eq _ _).mpr c)]
    simp only [Int.natAbs_zero, Nat.gcd_zero_left, Int.zero_ediv, Nat.div_self hb0]
    by_cases cp : part = 0
    · rw [if_pos cp, if_pos cp]; rfl
    · rw [if_neg cp, if_neg cp]; rfl
  · rw [if_neg (fun q => c ((lg_cmp_eq _ _).mp q)), if_neg (fun q => hbz ((lg_cmp_eq _ _).mp q)), if_neg (fun q => hgz ((lg_cmp_eq _ _).mp q)), if_pos hgz, divU hU h1 (Nat.gcd_dvd_left _ _) hgp (by omega), l_div (by omega) (by omega)]
    by_cases cp : part = 0
    · rw [if_pos cp, if_pos cp]
    · rw [if_neg cp, if_neg cp]
      rw [if_pos hgz]
theorem tell_zero (σ : St) {U : Int64} {u : Int} (hU : U.toInt = u) (h1 : u.natAbs < 2 ^ 57) (part : Int32) : fX8_tell σ U (lN 0) part = some (if part = 0 then 0 else 1, σ) := by
  unfold fX8_tell fX8_tell_b29
  rw [absC hU h1, gcdC_spec σ h1 (by omega), b_some]
  dsimp only
  have e : (if lg_cmp U 0 = 0 then (if part = 0 then some ((0 : Int64), σ) else some (1, σ)) else (if part = 0 then some ((0 : Int64), σ) else some (1, σ))) = some (if part = 0 then (0 : Int64) else 1, σ) := by
    by_cases cp : part = 0
    · simp [cp]
    · simp [cp]
  rw [if_pos (show lg_cmp (lN 0) 0 = 0 from (lg_cmp_eq _ _).mpr rfl)]
  exact e
theorem lowM_l (μ : St) (U : Int64) (L : Int64) (part : Int32) : ∀ (k n a b : Nat), fin k a b → a < 2 ^ 57 → b < 2 ^ 57 → (0 < a ∨ 0 < b) → k < n → fX9_lowest_l17 n μ U L part (lN a) (lN b) = some (if part = 0 then U / lN (Nat.gcd a b) else L / lN (Nat.gcd a b), μ) := by
  intro k
  induction k with
  | zero =>
    intro n a b hf ha hb hp hn
    obtain ⟨n, rfl⟩ : ∃ m, n = m + 1 := ⟨n - 1, by omega⟩
    have hf : b = 0 := hf
    subst hf
    show fX9_lowest_b17 _ μ _ _ _ _ _ = _
    unfold fX9_lowest_b17
    have hz : ¬ lN a = 0 := fun q => by have := (lN_z (by omega)).mp q; omega
    rw [if_pos (show lg_cmp (lN 0) 0 = 0 from (lg_cmp_eq _ _).mpr rfl), Nat.gcd_zero_right, if_pos hz, if_pos hz]
    by_cases cp : part = 0
    · rw [if_pos cp, if_pos cp]
    · rw [if_neg cp, if_neg cp]
  | succ k ih =>
    intro n a b hf ha hb hp hn
    obtain ⟨n, rfl⟩ : ∃ m, n = m + 1 := ⟨n - 1, by omega⟩
    show fX9_lowest_b17 _ μ _ _ _ _ _ = _
    unfold fX9_lowest_b17
    by_cases hb0 : b = 0
    · subst hb0
      have hz : ¬ lN a = 0 := fun q => by have := (lN_z (by omega)).mp q; omega
      rw [if_pos (show lg_cmp (lN 0) 0 = 0 from (lg_cmp_eq _ _).mpr rfl), Nat.gcd_zero_right, if_pos hz, if_pos hz]
      by_cases cp : part = 0
      · rw [if_pos cp, if_pos cp]
      · rw [if_neg cp, if_neg cp]
    · have hz : ¬ lN b = 0 := fun q => hb0 ((lN_z (by omega)).mp q)
      rw [if_neg (fun q => hz ((lg_cmp_eq _ _).mp q)), if_pos hz, l_rem (by omega) (by omega), gcd_step]
      have hm : a % b < b := Nat.mod_lt a (by omega)
      rcases hf with hf | hf
      · exact absurd hf hb0
      · exact ih n b (a % b) hf hb (by omega) (Or.inl (by omega)) (by omega)
theorem low_spec (μ : St) {U : Int64} {u : Int} (hU : U.toInt = u) (h1 : u.natAbs < 2 ^ 57) {b : Nat} (hb0 : 0 < b) (hb : b < 2 ^ 57) (part : Int32) : fX9_lowest μ U (lN b) part = some (FR u b part, μ) := by
  have hgp : 0 < Nat.gcd u.natAbs b := Nat.gcd_pos_of_pos_right _ hb0
  have hgl : Nat.gcd u.natAbs b ≤ b := Nat.le_of_dvd hb0 (Nat.gcd_dvd_right _ _)
  have h := lowM_l μ U (lN b) part 88 gF u.natAbs b (fin_all h1 hb) h1 hb (Or.inr hb0) (by simp [gF])
  have hU' : fX9_lowest μ U (lN b) part = fX9_lowest_l17 gF μ U (lN b) part (lN u.natAbs) (lN b) := by
    unfold fX9_lowest fX9_lowest_b12
    by_cases c : 0 ≤ lg_cmp U 0
    · have c' := Int64.le_iff_toInt_le.mp ((lg_cmp_ge _ _).mp c)
      have z : (0 : Int64).toInt = 0 := rfl
      have e : U = lN u.natAbs := Int64.toInt_inj.mp (by rw [lT (by omega), hU]; omega)
      rw [if_pos c, ← e]
    · rw [if_neg c, (absM hU h1 c).1]
  rw [hU', h, divU hU h1 (Nat.gcd_dvd_left _ _) hgp (by omega), l_div (by omega) (by omega)]
  rfl
theorem FR_scale (u : Int) (b : Nat) (part : Int32) {k : Nat} (hk : 0 < k) (hb : 0 < b) : FR ((k : Int) * u) (k * b) part = FR u b part := by
  unfold FR
  have e : Nat.gcd ((k : Int) * u).natAbs (k * b) = k * Nat.gcd u.natAbs b := by
    rw [Int.natAbs_mul, Int.natAbs_natCast, Nat.gcd_mul_left]
  have hgp : 0 < Nat.gcd u.natAbs b := Nat.gcd_pos_of_pos_right _ hb
  rw [e, Int.natCast_mul, Int.mul_ediv_mul_of_pos _ _ (by omega), Nat.mul_div_mul_left _ _ hk]
