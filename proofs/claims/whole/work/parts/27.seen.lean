/-! ===== seen ===== -/
theorem key_eq : ∀ a, a < 64 → ∀ b, b < 64 → ((nI a &&& nI b = nI b) ↔ (nI b &&& (nI a ^^^ (-1 : Int32)) = 0)) := by decide +kernel
theorem nI_rng {x : Int32} {n : Nat} (h : inR x 0 n) (hn : n < 2 ^ 30) : ∃ k, k < n + 1 ∧ x = nI k := nI_ex (N := n + 1) ⟨h.1, by have := h.2; omega⟩ (by omega)
def kb (σ : St) (w : Int32) : Nat → Int32
  | 0 => 0
  | k + 1 => if (σ.1 12 k &&& w) = w then kb σ w k ||| ((1 : Int32) <<< (nI k &&& 31)) else kb σ w k
theorem withKeys_l {σ : St} {J : Nat} (hJ : σ.2.1 0 = nI J) (h6 : J ≤ 6) (w : Int32) : ∀ (n k : Nat), k ≤ J → J - k < n → fX0_withKeys_l4 n σ w (kb σ w k) (nI k) = some (kb σ w J, σ) := by
  intro n
  induction n with
  | zero => intro k h1 h2; omega
  | succ n ih =>
    intro k h1 h2
    show fX0_withKeys_b4 (fX0_withKeys_l4 n) σ w (kb σ w k) (nI k) = _
    unfold fX0_withKeys_b4 fX0_withKeys_b30
    rw [hJ]
    by_cases hk : k = J
    · subst hk
      rw [if_pos (nI_le (Nat.le_refl k) (by omega))]
    · have hlt : k < J := by omega
      rw [if_neg (nI_ge hlt (by omega)), if_pos (ib_nI (show k < 6 by omega) (by omega)), nI_clamp (n := k) (by omega), show nI k + (1 : Int32) = nI (k + 1) from nI_1 k, ← ih (k + 1) (by omega) (by omega)]
      simp only [kb]
      by_cases c : (σ.1 12 k &&& w) = w
      · rw [if_pos c, if_pos c]
      · rw [if_neg c, if_neg c]
theorem seenM_l {σ μ : St} {J p : Nat} (hJ : μ.2.1 0 = nI J) (h6 : J ≤ 6) (hp : p < 6) (hk3 : ∀ i, i < 6 → σ.1 12 i = μ.1 3 i ∧ inR (μ.1 3 i) 0 63) (hk7 : inR (μ.1 7 p) 0 63) (x2 : Int32) : ∀ (n k : Nat), k ≤ J → J - k < n → fX9_seen_l28 n μ (nI p) x2 (kb σ (μ.1 7 p) k) (nI k) = fX9_seen_b28 (fX9_seen_l28 0) μ (nI p) x2 (kb σ (μ.1 7 p) J) (nI J) := by
  intro n
  induction n with
  | zero => intro k h1 h2; omega
  | succ n ih =>
    intro k h1 h2
    show fX9_seen_b28 (fX9_seen_l28 n) μ (nI p) x2 (kb σ (μ.1 7 p) k) (nI k) = _
    by_cases hk : k = J
    · subst hk
      unfold fX9_seen_b28
      rw [hJ, if_pos (nI_le (Nat.le_refl k) (by omega)), if_pos (nI_le (Nat.le_refl k) (by omega))]
    · have hlt : k < J := by omega
      rw [← ih (k + 1) (by omega) (by omega)]
      unfold fX9_seen_b28 fX9_seen_b65
      rw [hJ, if_neg (nI_ge hlt (by omega)), if_pos (ib_nI (show p < 6 by omega) (by omega)), if_pos (ib_nI (show k < 6 by omega) (by omega)), nI_clamp (n := k) (by omega), nI_clamp (n := p) (by omega), show nI k + (1 : Int32) = nI (k + 1) from nI_1 k]
      simp only [kb]
      obtain ⟨e1, e2⟩ := hk3 k (by omega)
      obtain ⟨a, ha, ea⟩ := nI_rng (n := 63) e2 (by omega)
      obtain ⟨b, hb, eb⟩ := nI_rng (n := 63) hk7 (by omega)
      rw [e1, ea, eb]
      have hq := key_eq a (by omega) b (by omega)
      by_cases c : (nI a &&& nI b) = nI b
      · rw [if_pos c, if_pos (hq.mp c)]
      · rw [if_neg c, if_neg (fun q => c (hq.mpr q)), or_zero]
theorem op_seen : Op_seen Inv := by
  intro σ μ hI a1 a2
  obtain ⟨J, P, S, C, hN, hJ, hP, hM, hR⟩ := id hI
  obtain ⟨n1, n2, n3, n4, n5, n6, n7, n8, n9, n10, n11, n12⟩ := id hN
  unfold fX8_seen fX9_seen
  simp only [hasP_spec n7 n2, isP_spec n8 n2, within_spec, in_spec, b_some, bI_ne0, i2l_toInt]
  by_cases c1 : 0 ≤ a1.toInt ∧ a1.toInt < P
  · rw [if_pos c1, if_pos c1]
    by_cases c2 : (0 : Int32).toInt ≤ a2.toInt ∧ a2.toInt ≤ (1 : Int32).toInt
    · rw [if_pos c2, if_pos (show (0 : Int64).toInt ≤ a2.toInt ∧ a2.toInt ≤ (1 : Int64).toInt from c2)]
      obtain ⟨p, hp, rfl⟩ := nI_ex c1 (by omega)
      obtain ⟨k1, k2⟩ := hP.2.2.1 p (by omega)
      have hm := seenM_l (σ := σ) n6 n1 (show p < 6 by omega) hJ.2.2.1 k2 a2 gF 0 (by omega) (by simp [gF]; omega)
      have hw : fX0_withKeys σ (μ.1 7 p) = some (kb σ (μ.1 7 p) J, σ) := withKeys_l n5 n1 (μ.1 7 p) gF 0 (by omega) (by simp [gF]; omega)
      have hm' : fX9_seen_l28 gF μ (nI p) a2 0 0 = fX9_seen_b28 (fX9_seen_l28 0) μ (nI p) a2 (kb σ (μ.1 7 p) J) (nI J) := hm
      have hib : ib (nI p) 6 = true := ib_nI (by omega) (by omega)
      rw [hm', if_pos hib, nI_clamp (n := p) (by omega), k1, hw, b_some]
      unfold fX9_seen_b28 fX9_seen_b100 fX9_seen_b101
      dsimp only
      rw [n6, if_pos (nI_le (Nat.le_refl J) (by omega)), if_pos hib, if_pos hib, if_pos hib, nI_clamp (n := p) (by omega), (hP.2.1 p hp).1]
      have z1 : ¬ (1 : Int32) = 0 := by decide
      by_cases d0 : a2 = 0
      · rw [if_pos d0, if_pos d0, if_pos d0]
        refine ⟨_, _, _, rfl, ?_, hI⟩
        by_cases d1 : μ.1 6 p = -6
        · rw [if_pos d1]
        · rw [if_neg d1]
          by_cases d2 : kb σ (μ.1 7 p) J = (1 : Int32) <<< (μ.1 6 p &&& 31)
          · rw [if_pos d2]
          · rw [if_neg d2]
      · rw [if_neg d0, if_neg d0, if_neg d0, if_pos rfl, if_neg z1]
        by_cases d1 : μ.1 6 p = -6
        · rw [if_pos d1, if_pos d1]
          exact ⟨_, _, _, rfl, rfl, hI⟩
        · rw [if_neg d1, if_neg d1]
          by_cases d2 : kb σ (μ.1 7 p) J = (1 : Int32) <<< (μ.1 6 p &&& 31)
          · rw [if_pos d2, if_pos d2]; exact ⟨_, _, _, rfl, rfl, hI⟩
          · rw [if_neg d2, if_neg d2]; exact ⟨_, _, _, rfl, rfl, hI⟩
    · rw [if_neg c2, if_neg (show ¬ ((0 : Int64).toInt ≤ a2.toInt ∧ a2.toInt ≤ (1 : Int64).toInt) from c2)]
      exact ⟨_, _, _, rfl, rfl, hI⟩
  · rw [if_neg c1, if_neg c1]
    exact ⟨_, _, _, rfl, rfl, hI⟩
