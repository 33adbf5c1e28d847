/-! ===== rounds ===== -/
def tm (m a r : Nat) : Nat → Nat
  | 0 => 0
  | k + 1 => tm m a r k + m ^ k * a ^ (r - 1 - k)
theorem tm_scale (K m a r : Nat) : ∀ k, k ≤ r → tm (K * m) (K * a) r k = K ^ (r - 1) * tm m a r k := by
  intro k
  induction k with
  | zero => intro _; rfl
  | succ k ih =>
    intro h
    simp only [tm]
    rw [ih (by omega), Nat.mul_add, Nat.mul_pow, Nat.mul_pow, Nat.mul_mul_mul_comm, ← Nat.pow_add, show k + (r - 1 - k) = r - 1 by omega]
theorem tm_le {m a : Nat} (h : m ≤ a) (r : Nat) : ∀ k, k ≤ r → tm m a r k ≤ k * a ^ (r - 1) := by
  intro k
  induction k with
  | zero => intro _; simp [tm]
  | succ k ih =>
    intro hk
    simp only [tm]
    have h1 := ih (by omega)
    have h2 : m ^ k * a ^ (r - 1 - k) ≤ a ^ k * a ^ (r - 1 - k) := Nat.mul_le_mul_right _ (Nat.pow_le_pow_left h k)
    rw [← Nat.pow_add, show k + (r - 1 - k) = r - 1 by omega] at h2
    rw [Nat.add_mul, Nat.one_mul]
    omega
theorem roundsC_l {σ μ : St} {J P S C : Nat} (hN : IvN σ μ J P S C) (hP : IvP σ μ J P) {p s r : Nat} (hp : p < P) (hs : s < 64) (hr : r < 5) (hr1 : 1 ≤ r) (part : Int32) (m : Nat) : ∀ (n k : Nat) (σ0 : St), k ≤ r → r - k < n → sameC σ σ0 → fX8_rounds_l123 n σ0 (nI p) (nI s) (nI r) part (lN m) (lN (tm m 16384 r k)) (nI k) = Option.bind (fX8_tell σ0 (lN (nS σ p s * tm m 16384 r r)) (lN (16384 ^ (r - 1))) part) fun q => some (q.1, q.2) := by
  obtain ⟨n1, n2, n3, n4, n5, n6, n7, n8, n9, n10, n11, n12⟩ := id hN
  intro n
  induction n with
  | zero => intro k σ0 h1 h2; omega
  | succ n ih =>
    intro k σ0 h1 h2 h0
    show fX8_rounds_b123 (fX8_rounds_l123 n) σ0 _ _ _ _ _ _ _ = _
    unfold fX8_rounds_b123
    have e1 : nI r - 1 = nI (r - 1) := pk_sub (b := 1) (by omega)
    have hwl := wo_le σ p s
    rw [e1, show (16384 : Int64) = lN 16384 from rfl]
    by_cases h : k = r
    · subst h
      have hnl := nb_le (wo σ p s) 6 0
      rw [if_pos (nI_le (Nat.le_refl k) (by omega)), withoutC_spec h0 hP n1 n2 hp hs, b_some]
      dsimp only
      rw [bitC_spec σ0 (show wo σ p s < 64 by omega), b_some]
      dsimp only
      rw [powC_spec σ0 16384 (by omega), b_some]
      dsimp only
      rw [← nb_pc (wo σ p s) (by omega), n2l (by omega), lN_mul]
      rfl
    · rw [if_neg (nI_ge (by omega) (by omega)), powC_spec σ0 m (by omega), b_some]
      dsimp only
      rw [pk_sub (by omega), powC_spec σ0 16384 (by omega), b_some]
      dsimp only
      rw [lN_mul, lN_add, show nI k + (1 : Int32) = nI (k + 1) from nI_1 k]
      exact ih (k + 1) σ0 (by omega) (by omega) h0
theorem roundsM_l {σ μ : St} {J P S C : Nat} (hN : IvN σ μ J P S C) (hP : IvP σ μ J P) {p s r : Nat} (hp : p < P) (hs : s < 64) (hr : r < 5) (hr1 : 1 ≤ r) (part : Int32) (m a : Nat) : ∀ (n k : Nat) (μ0 : St), k ≤ r → r - k < n → sameM μ μ0 → fX9_rounds_l121 n μ0 (nI p) (nI s) (nI r) part (lN a) (lN m) (lN (tm m a r k)) (nI k) = Option.bind (fX9_lowest μ0 (lN (tm m a r r * nS σ p s)) (lN (a ^ (r - 1))) part) fun q => some (q.1, q.2) := by
  obtain ⟨n1, n2, n3, n4, n5, n6, n7, n8, n9, n10, n11, n12⟩ := id hN
  intro n
  induction n with
  | zero => intro k σ0 h1 h2; omega
  | succ n ih =>
    intro k μ0 h1 h2 h0
    show fX9_rounds_b121 (fX9_rounds_l121 n) μ0 _ _ _ _ _ _ _ _ = _
    unfold fX9_rounds_b121
    have e1 : nI r - 1 = nI (r - 1) := pk_sub (b := 1) (by omega)
    have hwl := wo_le σ p s
    rw [e1]
    by_cases h : k = r
    · subst h
      have hnl := nb_le (wo σ p s) 6 0
      rw [if_pos (nI_le (Nat.le_refl k) (by omega)), withoutM_spec h0 hP n1 n2 hp hs, b_some]
      dsimp only
      rw [ones_spec μ0 (show wo σ p s < 64 by omega), b_some]
      dsimp only
      rw [powM_spec μ0 a (by omega), b_some]
      dsimp only
      rw [n2l (by omega), lN_mul]
      rfl
    · rw [if_neg (nI_ge (by omega) (by omega)), powM_spec μ0 m (by omega), b_some]
      dsimp only
      rw [pk_sub (by omega), powM_spec μ0 a (by omega), b_some]
      dsimp only
      rw [lN_mul, lN_add, show nI k + (1 : Int32) = nI (k + 1) from nI_1 k]
      exact ih (k + 1) μ0 (by omega) (by omega) h0
theorem p14 {r : Nat} (hr : r ≤ 4) : 16384 ^ r ≤ 2 ^ 56 := by
  rcases (show r = 0 ∨ r = 1 ∨ r = 2 ∨ r = 3 ∨ r = 4 by omega) with rfl | rfl | rfl | rfl | rfl <;> decide
theorem p14' {r : Nat} (hr : r ≤ 3) : 16384 ^ r ≤ 2 ^ 42 := by
  rcases (show r = 0 ∨ r = 1 ∨ r = 2 ∨ r = 3 by omega) with rfl | rfl | rfl | rfl <;> decide
theorem op_rounds : Op_rounds Inv := by
  intro σ μ hI a1 a2 a3 a4 a5
  obtain ⟨J, P, S, C, hN, hJ, hP, hM, hR⟩ := id hI
  obtain ⟨n1, n2, n3, n4, n5, n6, n7, n8, n9, n10, n11, n12⟩ := id hN
  have h64 := two_pow6 n1
  have f0 : (0 : Int32).toInt = 0 := rfl
  have f1 : (1 : Int32).toInt = 1 := rfl
  have f4 : (4 : Int32).toInt = 4 := rfl
  have g0 : (0 : Int64).toInt = 0 := rfl
  have g1 : (1 : Int64).toInt = 1 := rfl
  have g4 : (4 : Int64).toInt = 4 := rfl
  unfold fX8_rounds fX9_rounds fX8_rounds_b39 fX8_rounds_b40
  simp only [hasP_spec n7 n2, isP_spec n8 n2, in_spec, within_spec, i2l_toInt, f0, f1, f4, g0, g1, g4, areJ_spec n5 n1, isSet_spec n6 n1, part_spec, partM_spec, b_some, bI_ne0, refusal_spec n11, n12, i10, ↓reduceIte]
  by_cases c : 0 ≤ a1.toInt ∧ a1.toInt < P
  · simp only [if_pos c]
    by_cases c2 : 0 ≤ a2.toInt ∧ a2.toInt < (2 ^ J : Nat)
    · simp only [if_pos c2]
      by_cases c3 : 1 ≤ a3.toInt ∧ a3.toInt ≤ 4
      · simp only [if_pos c3]
        by_cases c4 : 0 ≤ a4.toInt ∧ a4.toInt ≤ 1
        · simp only [if_pos c4]
          by_cases d : 0 ≤ a5.toInt ∧ a5.toInt < 2
          · simp only [if_pos d]
            by_cases e : nI C = 0
            · simp only [if_pos e, im3, ↓reduceIte, lost3]
              exact ⟨_, _, _, rfl, rfl, hI⟩
            · simp only [if_neg e, ↓reduceIte]
              obtain ⟨p, hp, rfl⟩ := nI_ex (N := P) c (by omega)
              obtain ⟨s, hs, rfl⟩ := nI_ex (N := 2 ^ J) c2 (by omega)
              obtain ⟨r, hr, rfl⟩ := nI_ex (N := 5) (x := a3) (by omega) (by omega)
              have hr1 : 1 ≤ r := by rw [nI_toInt (by omega)] at c3; omega
              obtain ⟨σ1, x1, x2⟩ := tkC hN hJ hP hR hp hs (sameC.rf σ)
              obtain ⟨μ1, y1, y2⟩ := tkM hN hJ hP hR hp hs (sameM.rf μ)
              have eall := allOf_spec hN hP hp hs (sameM.rf μ)
              obtain ⟨hk, hall, hpos, hpos2, hle2, hl, hle⟩ := odds_num hN hJ hR (p := p) hs
              have hnS := nS_le σ p s
              rw [x1, eall, b_some, b_some]
              dsimp only
              rw [y1, b_some]
              dsimp only
              have lC := roundsC_l hN hP hp (show s < 64 by omega) hr hr1 a5 (16384 - 4 ^ (6 - nS σ p s) * Rt σ C p s) gF 0 σ1 (by omega) (by simp [gF]; omega) x2
              have lM := roundsM_l hN hP hp (show s < 64 by omega) hr hr1 a5 (4 ^ (nS σ p s + 1) - Rt σ C p s) (4 ^ (nS σ p s + 1)) gF 0 μ1 (by omega) (by simp [gF]; omega) y2
              rw [show (16384 : Int64) = lN 16384 from rfl, lN_sub hle, lN_sub hl]
              have hm : 16384 - 4 ^ (6 - nS σ p s) * Rt σ C p s = 4 ^ (6 - nS σ p s) * (4 ^ (nS σ p s + 1) - Rt σ C p s) := by rw [Nat.mul_sub, hall]
              generalize 4 ^ (6 - nS σ p s) = K at *
              generalize 4 ^ (nS σ p s + 1) = A at *
              generalize Rt σ C p s = a at *
              have hmA : A - a ≤ A := by omega
              by_cases z : a4 = 0
              · rw [if_pos z, if_pos z]
                have hb1 := p14 (show r ≤ 4 by omega)
                have hb2 : (16384 - K * a) ^ r ≤ 16384 ^ r := Nat.pow_le_pow_left (by omega) r
                have hb3 : A ^ r ≤ 16384 ^ r := Nat.pow_le_pow_left hle2 r
                have hb4 : (A - a) ^ r ≤ A ^ r := Nat.pow_le_pow_left hmA r
                have hb5 : 0 < A ^ r := Nat.pow_pos hpos2
                have hb6 : 0 < K ^ r := Nat.pow_pos hpos
                have hnum : 16384 ^ r - (16384 - K * a) ^ r = K ^ r * (A ^ r - (A - a) ^ r) := by
                  rw [hm, ← hall, Nat.mul_pow, Nat.mul_pow, Nat.mul_sub]
                refine ⟨FR ((A ^ r - (A - a) ^ r : Nat) : Int) (A ^ r) a5, σ1, μ1, ?_, ?_, hI.same x2 y2⟩
                · rw [powC_spec σ1 16384 (by omega), b_some]
                  dsimp only
                  rw [powC_spec σ1 (16384 - K * a) (by omega), b_some]
                  dsimp only
                  rw [lN_sub hb2, tell_spec σ1 (lT (n := 16384 ^ r - (16384 - K * a) ^ r) (by omega)) (by omega) (by omega) (by omega), b_some]
                  dsimp only
                  rw [hnum, ← hall, Nat.mul_pow, Int.natCast_mul, FR_scale _ _ a5 hb6 hb5]
                · rw [powM_spec μ1 A (by omega), b_some]
                  dsimp only
                  rw [powM_spec μ1 (A - a) (by omega), b_some]
                  dsimp only
                  rw [powM_spec μ1 A (by omega), b_some]
                  dsimp only
                  rw [lN_sub hb4, low_spec μ1 (lT (n := A ^ r - (A - a) ^ r) (by omega)) (by omega) hb5 (by omega), b_some]
              · rw [if_neg z, if_neg z]
                have hb1 := p14' (show r - 1 ≤ 3 by omega)
                have ht1 := tm_le (show 16384 - K * a ≤ 16384 by omega) r r (Nat.le_refl r)
                have ht2 := tm_le hmA r r (Nat.le_refl r)
                have hb3 : A ^ (r - 1) ≤ 16384 ^ (r - 1) := Nat.pow_le_pow_left hle2 (r - 1)
                have hb5 : 0 < A ^ (r - 1) := Nat.pow_pos hpos2
                have hb6 : 0 < K ^ (r - 1) := Nat.pow_pos hpos
                have hb7 : 0 < 16384 ^ (r - 1) := Nat.pow_pos (by omega)
                have q1 : r * 16384 ^ (r - 1) ≤ 4 * 2 ^ 42 := Nat.mul_le_mul (by omega) hb1
                have q2 : r * A ^ (r - 1) ≤ 4 * 2 ^ 42 := Nat.mul_le_mul (by omega) (by omega)
                have q3 : nS σ p s * tm (16384 - K * a) 16384 r r ≤ 6 * (4 * 2 ^ 42) := Nat.mul_le_mul hnS (by omega)
                have q4 : tm (A - a) A r r * nS σ p s ≤ (4 * 2 ^ 42) * 6 := Nat.mul_le_mul (by omega) hnS
                have hnum : nS σ p s * tm (16384 - K * a) 16384 r r = K ^ (r - 1) * (tm (A - a) A r r * nS σ p s) := by
                  rw [hm, ← hall, tm_scale K (A - a) A r r (Nat.le_refl r), Nat.mul_comm, Nat.mul_assoc]
                refine ⟨FR ((tm (A - a) A r r * nS σ p s : Nat) : Int) (A ^ (r - 1)) a5, σ1, μ1, ?_, ?_, hI.same x2 y2⟩
                · refine lC.trans ?_
                  rw [tell_spec σ1 (lT (n := nS σ p s * tm (16384 - K * a) 16384 r r) (by omega)) (by omega) hb7 (by omega), b_some]
                  dsimp only
                  rw [hnum, ← hall, Nat.mul_pow, Int.natCast_mul, FR_scale _ _ a5 hb6 hb5]
                · refine lM.trans ?_
                  rw [low_spec μ1 (lT (n := tm (A - a) A r r * nS σ p s) (by omega)) (by omega) hb5 (by omega), b_some]
          · simp only [if_neg d, im2, ↓reduceIte, lost2]
            exact ⟨_, _, _, rfl, rfl, hI⟩
        · simp only [if_neg c4, im2, ↓reduceIte, lost2]
          exact ⟨_, _, _, rfl, rfl, hI⟩
      · simp only [if_neg c3, im2, ↓reduceIte, lost2]
        exact ⟨_, _, _, rfl, rfl, hI⟩
    · simp only [if_neg c2, im2, ↓reduceIte, lost2]
      exact ⟨_, _, _, rfl, rfl, hI⟩
  · simp only [if_neg c, im1, ↓reduceIte, lost1, ite_self]
    exact ⟨_, _, _, rfl, rfl, hI⟩
