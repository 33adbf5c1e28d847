/-! ===== lot, right, more ===== -/
theorem lot_num {K1 K2 A B a b : Nat} (h1 : K1 * A = 16384) (h2 : K2 * B = 16384) (ha : a ≤ A) (hb : b ≤ B) : K1 * a * (16384 - K2 * b) + K2 * b * (16384 - K1 * a) = K1 * K2 * (a * (B - b) + b * (A - a)) ∧ K1 * K2 * (A * B) = 268435456 := by
  have e1 : 16384 - K2 * b = K2 * (B - b) := by rw [Nat.mul_sub, h2]
  have e2 : 16384 - K1 * a = K1 * (A - a) := by rw [Nat.mul_sub, h1]
  constructor
  · rw [e1, e2, Nat.mul_add]
    congr 1
    · rw [Nat.mul_mul_mul_comm]
    · rw [Nat.mul_comm K1 K2, Nat.mul_mul_mul_comm]
  · rw [Nat.mul_mul_mul_comm, h1, h2]
theorem op_lot : Op_lot Inv := by
  intro σ μ hI a1 a2 a3 a4
  obtain ⟨J, P, S, C, hN, hJ, hP, hM, hR⟩ := id hI
  obtain ⟨n1, n2, n3, n4, n5, n6, n7, n8, n9, n10, n11, n12⟩ := id hN
  have h64 := two_pow6 n1
  unfold fX8_lot fX9_lot fX8_lot_b37 fX8_lot_b38
  simp only [hasP_spec n7 n2, isP_spec n8 n2, areJ_spec n5 n1, isSet_spec n6 n1, part_spec, partM_spec, b_some, bI_ne0, refusal_spec n11, n12, i10, ↓reduceIte]
  by_cases c : 0 ≤ a1.toInt ∧ a1.toInt < P
  · simp only [if_pos c]
    by_cases c2 : 0 ≤ a2.toInt ∧ a2.toInt < (2 ^ J : Nat)
    · simp only [if_pos c2]
      by_cases c3 : 0 ≤ a3.toInt ∧ a3.toInt < (2 ^ J : Nat)
      · simp only [if_pos c3]
        by_cases d : 0 ≤ a4.toInt ∧ a4.toInt < 2
        · simp only [if_pos d]
          by_cases e : nI C = 0
          · simp only [if_pos e, im3, ↓reduceIte, lost3]
            exact ⟨_, _, _, rfl, rfl, hI⟩
          · simp only [if_neg e, ↓reduceIte]
            obtain ⟨p, hp, rfl⟩ := nI_ex (N := P) c (by omega)
            obtain ⟨s, hs, rfl⟩ := nI_ex (N := 2 ^ J) c2 (by omega)
            obtain ⟨t, ht, rfl⟩ := nI_ex (N := 2 ^ J) c3 (by omega)
            obtain ⟨σ1, x1, x2⟩ := tkC hN hJ hP hR hp hs (sameC.rf σ)
            obtain ⟨σ2, x3, x4⟩ := tkC hN hJ hP hR hp ht x2
            obtain ⟨μ1, y1, y2⟩ := tkM hN hJ hP hR hp hs (sameM.rf μ)
            obtain ⟨μ2, y3, y4⟩ := tkM hN hJ hP hR hp ht y2
            obtain ⟨hk, hall, hpos, hpos2, hle2, hl, hle⟩ := odds_num hN hJ hR (p := p) hs
            obtain ⟨gk, gall, gpos, gpos2, gle2, gl, gle⟩ := odds_num hN hJ hR (p := p) ht
            have num := lot_num hall gall hl gl
            have e1 := allOf_spec hN hP hp hs y4
            have e2 := allOf_spec hN hP hp ht y4
            rw [x1, y1, b_some, b_some]
            dsimp only
            rw [x3, y3, b_some, b_some]
            dsimp only
            rw [e1, b_some]
            dsimp only
            rw [e2, b_some]
            dsimp only
            generalize 4 ^ (6 - nS σ p s) = K1 at *
            generalize 4 ^ (6 - nS σ p t) = K2 at *
            generalize 4 ^ (nS σ p s + 1) = A at *
            generalize 4 ^ (nS σ p t + 1) = B at *
            generalize Rt σ C p s = a at *
            generalize Rt σ C p t = b at *
            have b1 : a * (B - b) ≤ 16384 * 16384 := Nat.mul_le_mul (by omega) (by omega)
            have b2 : b * (A - a) ≤ 16384 * 16384 := Nat.mul_le_mul (by omega) (by omega)
            have b3 : A * B ≤ 16384 * 16384 := Nat.mul_le_mul (by omega) (by omega)
            have b4 : K1 * a * (16384 - K2 * b) ≤ 16384 * 16384 := Nat.mul_le_mul (by omega) (by omega)
            have b5 : K2 * b * (16384 - K1 * a) ≤ 16384 * 16384 := Nat.mul_le_mul (by omega) (by omega)
            have b6 : 0 < A * B := Nat.mul_pos hpos2 gpos2
            refine ⟨FR ((a * (B - b) + b * (A - a) : Nat) : Int) (A * B) a4, σ2, μ2, ?_, ?_, hI.same x4 y4⟩
            · rw [show (16384 : Int64) = lN 16384 from rfl, lN_sub gle, lN_sub hle, lN_mul, lN_mul, lN_add, show (268435456 : Int64) = lN 268435456 from rfl, tell_spec σ2 (lT (n := K1 * a * (16384 - K2 * b) + K2 * b * (16384 - K1 * a)) (by omega)) (by omega) (by omega) (by omega), b_some]
              dsimp only
              rw [num.1, ← num.2, Int.natCast_mul, FR_scale _ _ a4 (Nat.mul_pos hpos gpos) b6]
            · rw [lN_sub gl, lN_sub hl, lN_mul, lN_mul, lN_add, lN_mul, low_spec μ2 (lT (n := a * (B - b) + b * (A - a)) (by omega)) (by omega) b6 (by omega), b_some]
        · simp only [if_neg d, im2, ↓reduceIte, lost2]
          exact ⟨_, _, _, rfl, rfl, hI⟩
      · simp only [if_neg c3, im2, ↓reduceIte, lost2]
        exact ⟨_, _, _, rfl, rfl, hI⟩
    · simp only [if_neg c2, im2, ↓reduceIte, lost2]
      exact ⟨_, _, _, rfl, rfl, hI⟩
  · simp only [if_neg c, im1, ↓reduceIte, lost1, ite_self]
    exact ⟨_, _, _, rfl, rfl, hI⟩
/-! right -/
def rs (σ : St) (C : Nat) (bar : Int32) (s : Nat) : Nat → Nat
  | 0 => 0
  | p + 1 => rs σ C bar s p + (if σ.1 14 p < bar then 16384 - 4 ^ (6 - nS σ p s) * Rt σ C p s else 4 ^ (6 - nS σ p s) * Rt σ C p s)
theorem rs_le {σ μ : St} {J P S C : Nat} (hN : IvN σ μ J P S C) (hJ : IvJ σ μ J) (hR : IvR σ μ S C) {s : Nat} (hs : s < 2 ^ J) (bar : Int32) : ∀ p, rs σ C bar s p ≤ 16384 * p := by
  intro p
  induction p with
  | zero => exact Nat.le_refl 0
  | succ p ih =>
    obtain ⟨hk, hall, hpos, hpos2, hle2, hl, hle⟩ := odds_num hN hJ hR (p := p) hs
    simp only [rs]
    by_cases c : σ.1 14 p < bar
    · rw [if_pos c]; omega
    · rw [if_neg c]; omega
theorem rightC_l {σ μ : St} {J P S C : Nat} (hN : IvN σ μ J P S C) (hJ : IvJ σ μ J) (hP : IvP σ μ J P) (hR : IvR σ μ S C) {s : Nat} (hs : s < 2 ^ J) (bar : Int32) : ∀ (n p : Nat) (σ0 : St), p ≤ P → P - p < n → sameC σ σ0 → ∃ σ', fX3_waysRight_l5 n σ0 bar (nI s) (lN (rs σ C bar s p)) (nI p) = some (lN (rs σ C bar s P), σ') ∧ sameC σ σ' := by
  obtain ⟨n1, n2, n3, n4, n5, n6, n7, n8, n9, n10, n11, n12⟩ := id hN
  intro n
  induction n with
  | zero => intro p σ0 h1 h2; omega
  | succ n ih =>
    intro p σ0 h1 h2 h0
    show ∃ σ', fX3_waysRight_b5 (fX3_waysRight_l5 n) σ0 _ _ _ _ = _ ∧ _
    unfold fX3_waysRight_b5 fX3_waysRight_b52
    rw [h0.2 1 (by omega), n7]
    by_cases h : p = P
    · subst h
      rw [if_pos (nI_le (Nat.le_refl p) (by omega))]
      exact ⟨σ0, rfl, h0⟩
    · have hp : p < P := by omega
      obtain ⟨σ1, x1, x2⟩ := tkC hN hJ hP hR hp hs h0
      obtain ⟨hk, hall, hpos, hpos2, hle2, hl, hle⟩ := odds_num hN hJ hR (p := p) hs
      obtain ⟨σ2, z1, z2⟩ := ih (p + 1) σ1 (by omega) (by omega) x2
      refine ⟨σ2, ?_, z2⟩
      rw [← z1, if_neg (nI_ge hp (by omega)), x1, b_some]
      dsimp only
      rw [if_pos (ib_nI (show p < 6 by omega) (by omega)), nI_clamp (n := p) (by omega), x2.1 14 (by omega), show nI p + (1 : Int32) = nI (p + 1) from nI_1 p, show (16384 : Int64) = lN 16384 from rfl, lN_sub hle, lN_add, lN_add]
      simp only [rs]
      by_cases c : σ.1 14 p < bar
      · rw [if_pos c, if_pos c]
      · rw [if_neg c, if_neg c]
theorem rightM_l {σ μ : St} {J P S C : Nat} (hN : IvN σ μ J P S C) (hJ : IvJ σ μ J) (hP : IvP σ μ J P) (hR : IvR σ μ S C) {s : Nat} (hs : s < 2 ^ J) (bar : Int32) : ∀ (n p : Nat) (μ0 : St), p ≤ P → P - p < n → sameM μ μ0 → ∃ μ', fX9_rightOf_l15 n μ0 bar (nI s) (lN 16384) (lN (rs σ C bar s p)) (nI p) = some (lN (rs σ C bar s P), μ') ∧ sameM μ μ' := by
  obtain ⟨n1, n2, n3, n4, n5, n6, n7, n8, n9, n10, n11, n12⟩ := id hN
  intro n
  induction n with
  | zero => intro p σ0 h1 h2; omega
  | succ n ih =>
    intro p μ0 h1 h2 h0
    show ∃ σ', fX9_rightOf_b15 (fX9_rightOf_l15 n) μ0 _ _ _ _ _ = _ ∧ _
    unfold fX9_rightOf_b15 fX9_rightOf_b65
    rw [h0.2 1 (by omega), n8]
    by_cases h : p = P
    · subst h
      rw [if_pos (nI_le (Nat.le_refl p) (by omega))]
      exact ⟨μ0, rfl, h0⟩
    · have hp : p < P := by omega
      obtain ⟨μ1, x1, x2⟩ := tkM hN hJ hP hR hp hs h0
      have hall' := allOf_spec hN hP hp hs x2
      obtain ⟨hk, hall, hpos, hpos2, hle2, hl, hle⟩ := odds_num hN hJ hR (p := p) hs
      obtain ⟨μ2, z1, z2⟩ := ih (p + 1) μ1 (by omega) (by omega) x2
      refine ⟨μ2, ?_, z2⟩
      have hdiv : 16384 / 4 ^ (nS σ p s + 1) = 4 ^ (6 - nS σ p s) := by rw [← hall, Nat.mul_div_cancel _ hpos2]
      rw [← z1, if_neg (nI_ge hp (by omega)), x1, b_some]
      dsimp only
      rw [hall', b_some]
      dsimp only
      rw [if_pos (show ¬ lN (4 ^ (nS σ p s + 1)) = 0 from fun q => by have := (lN_z (by omega)).mp q; omega), if_pos (ib_nI (show p < 6 by omega) (by omega)), nI_clamp (n := p) (by omega), x2.1 5 (by omega), show nI p + (1 : Int32) = nI (p + 1) from nI_1 p, l_div (by omega) (by omega), hdiv, lN_mul, Nat.mul_comm (Rt σ C p s), lN_sub hle, lN_add, lN_add, ← (hP.1 p hp).1]
      simp only [rs]
      by_cases c : σ.1 14 p < bar
      · rw [if_pos c, if_pos c]
      · rw [if_neg c, if_neg c]
theorem rightC_spec {σ μ σ0 : St} {J P S C : Nat} (hN : IvN σ μ J P S C) (hJ : IvJ σ μ J) (hP : IvP σ μ J P) (hR : IvR σ μ S C) {s : Nat} (hs : s < 2 ^ J) (bar : Int32) (h0 : sameC σ σ0) : ∃ σ', fX3_waysRight σ0 bar (nI s) = some (lN (rs σ C bar s P), σ') ∧ sameC σ σ' := rightC_l hN hJ hP hR hs bar gF 0 σ0 (by omega) (by have := hN.2.1; simp [gF]; omega) h0
theorem rightM_spec {σ μ μ0 : St} {J P S C : Nat} (hN : IvN σ μ J P S C) (hJ : IvJ σ μ J) (hP : IvP σ μ J P) (hR : IvR σ μ S C) {s : Nat} (hs : s < 2 ^ J) (bar : Int32) (h0 : sameM μ μ0) : ∃ μ', fX9_rightOf μ0 bar (nI s) = some (lN (rs σ C bar s P), μ') ∧ sameM μ μ' := by
  unfold fX9_rightOf
  rw [show fX9_power μ0 4 7 = _ from powM_spec μ0 4 (r := 7) (by omega), b_some]
  exact rightM_l hN hJ hP hR hs bar gF 0 μ0 (by omega) (by have := hN.2.1; simp [gF]; omega) h0
theorem bar_spec (σ : St) (x : Int32) : fX8_isBar σ x = some (bI (1 ≤ x.toInt ∧ x.toInt ≤ 5), σ) := by
  unfold fX8_isBar
  rw [within_spec]
  show (if _ ∨ _ then _ else _) = _
  rw [bI_guard]
  rfl
theorem op_right : Op_right Inv := by
  intro σ μ hI a1 a2 a3
  obtain ⟨J, P, S, C, hN, hJ, hP, hM, hR⟩ := id hI
  obtain ⟨n1, n2, n3, n4, n5, n6, n7, n8, n9, n10, n11, n12⟩ := id hN
  have h64 := two_pow6 n1
  have g1 : (1 : Int64).toInt = 1 := rfl
  have g5 : (5 : Int64).toInt = 5 := rfl
  unfold fX8_right fX9_right fX8_right_b28 fX8_right_b29
  simp only [bar_spec, in_spec, i2l_toInt, g1, g5, areJ_spec n5 n1, isSet_spec n6 n1, part_spec, partM_spec, b_some, bI_ne0, refusal_1 n11, n12, i10, ↓reduceIte]
  by_cases c : 1 ≤ a1.toInt ∧ a1.toInt ≤ 5
  · simp only [if_pos c]
    by_cases c2 : 0 ≤ a2.toInt ∧ a2.toInt < (2 ^ J : Nat)
    · simp only [if_pos c2]
      by_cases d : 0 ≤ a3.toInt ∧ a3.toInt < 2
      · simp only [if_pos d]
        by_cases e : nI C = 0
        · simp only [if_pos e, im3, ↓reduceIte, lost3]
          exact ⟨_, _, _, rfl, rfl, hI⟩
        · simp only [if_neg e, ↓reduceIte]
          obtain ⟨s, hs, rfl⟩ := nI_ex (N := 2 ^ J) c2 (by omega)
          obtain ⟨σ1, x1, x2⟩ := rightC_spec hN hJ hP hR hs a1 (sameC.rf σ)
          obtain ⟨μ1, y1, y2⟩ := rightM_spec hN hJ hP hR hs a1 (sameM.rf μ)
          have hl := rs_le hN hJ hR hs a1 P
          rw [x1, y1, b_some, b_some]
          dsimp only
          refine ⟨FR (rs σ C a1 s P) 16384 a3, σ1, μ1, ?_, ?_, hI.same x2 y2⟩
          · rw [show (16384 : Int64) = lN 16384 from rfl, tell_spec σ1 (lT (n := rs σ C a1 s P) (by omega)) (by omega) (by omega) (by omega), b_some]
          · rw [show fX9_power μ1 4 7 = _ from powM_spec μ1 4 (r := 7) (by omega), b_some]
            dsimp only
            rw [show (4 : Nat) ^ 7 = 16384 from rfl, low_spec μ1 (lT (n := rs σ C a1 s P) (by omega)) (by omega) (by omega) (by omega), b_some]
      · simp only [if_neg d, im2, ↓reduceIte, lost2]
        exact ⟨_, _, _, rfl, rfl, hI⟩
    · simp only [if_neg c2, im2, ↓reduceIte, lost2]
      exact ⟨_, _, _, rfl, rfl, hI⟩
  · simp only [if_neg c, im2, ↓reduceIte, lost2]
    exact ⟨_, _, _, rfl, rfl, hI⟩
/-! more -/
theorem or_val : ∀ s, s < 64 → ∀ j, j < 6 → bt s j = 0 → nI s ||| ((1 : Int32) <<< (nI j &&& 31)) = nI (s + 2 ^ j) := by decide +kernel
theorem or_lt : ∀ J, J < 7 → ∀ s, s < 2 ^ J → ∀ j, j < J → bt s j = 0 → s + 2 ^ j < 2 ^ J := by decide +kernel
theorem sub_toInt {a b : Nat} (ha : a < 2 ^ 40) (hb : b < 2 ^ 40) : (lN a - lN b).toInt = (a : Int) - b := by
  rw [Int64.toInt_sub, lT (by omega), lT (by omega), Int.bmod_eq_of_le (by omega) (by omega)]
theorem op_more : Op_more Inv := by
  intro σ μ hI a1 a2 a3 a4
  obtain ⟨J, P, S, C, hN, hJ, hP, hM, hR⟩ := id hI
  obtain ⟨n1, n2, n3, n4, n5, n6, n7, n8, n9, n10, n11, n12⟩ := id hN
  have h64 := two_pow6 n1
  have g1 : (1 : Int64).toInt = 1 := rfl
  have g5 : (5 : Int64).toInt = 5 := rfl
  have hbit : fX8_hasBit σ a3 a1 = some (if (a3 >>> (a1 &&& 31)) &&& 1 = 1 then 1 else 0, σ) := by
    unfold fX8_hasBit
    by_cases q : (a3 >>> (a1 &&& 31)) &&& 1 = 1
    · rw [if_pos q, if_pos q]
    · rw [if_neg q, if_neg q]
  unfold fX8_more fX9_more fX8_more_b27 fX8_more_b28 fX8_more_b60 fX8_more_b61
  simp only [bar_spec, has_spec n5 n1, isJ_spec n6 n1, hbit, in_spec, i2l_toInt, g1, g5, areJ_spec n5 n1, isSet_spec n6 n1, part_spec, partM_spec, b_some, bI_ne0, refusal_spec n11, n12, i10, ↓reduceIte]
  by_cases k : 0 ≤ a1.toInt ∧ a1.toInt < J
  · simp only [if_pos k]
    by_cases c : 1 ≤ a2.toInt ∧ a2.toInt ≤ 5
    · simp only [if_pos c]
      by_cases c2 : 0 ≤ a3.toInt ∧ a3.toInt < (2 ^ J : Nat)
      · simp only [if_pos c2]
        by_cases d : 0 ≤ a4.toInt ∧ a4.toInt < 2
        · simp only [if_pos d]
          by_cases q : (a3 >>> (a1 &&& 31)) &&& 1 = 1
          · simp only [if_pos q, i10, im2, ↓reduceIte, lost2]
            exact ⟨_, _, _, rfl, rfl, hI⟩
          · simp only [if_neg q, ↓reduceIte]
            by_cases e : nI C = 0
            · simp only [if_pos e, im3, ↓reduceIte, lost3]
              exact ⟨_, _, _, rfl, rfl, hI⟩
            · simp only [if_neg e, ↓reduceIte]
              obtain ⟨j, hj, rfl⟩ := nI_ex (N := J) k (by omega)
              obtain ⟨s, hs, rfl⟩ := nI_ex (N := 2 ^ J) c2 (by omega)
              have hb := bt_lt s j
              have hbz : bt s j = 0 := by
                rw [bit_val s (by omega) j (by omega)] at q
                by_cases z : bt s j = 0
                · exact z
                · exact absurd (by rw [show bt s j = 1 by omega]; rfl) q
              have hs2 := or_lt J (by omega) s hs j hj hbz
              rw [or_val s (by omega) j (by omega) hbz]
              obtain ⟨σ1, x1, x2⟩ := rightC_spec hN hJ hP hR hs2 a2 (sameC.rf σ)
              obtain ⟨σ2, x3, x4⟩ := rightC_spec hN hJ hP hR hs a2 x2
              obtain ⟨μ1, y1, y2⟩ := rightM_spec hN hJ hP hR hs2 a2 (sameM.rf μ)
              obtain ⟨μ2, y3, y4⟩ := rightM_spec hN hJ hP hR hs a2 y2
              have hl := rs_le hN hJ hR hs a2 P
              have hl2 := rs_le hN hJ hR hs2 a2 P
              have hU := sub_toInt (a := rs σ C a2 (s + 2 ^ j) P) (b := rs σ C a2 s P) (by omega) (by omega)
              rw [x1, y1, b_some, b_some]
              dsimp only
              rw [x3, y3, b_some, b_some]
              dsimp only
              refine ⟨FR ((rs σ C a2 (s + 2 ^ j) P : Int) - rs σ C a2 s P) 16384 a4, σ2, μ2, ?_, ?_, hI.same x4 y4⟩
              · rw [show (16384 : Int64) = lN 16384 from rfl, tell_spec σ2 hU (by omega) (by omega) (by omega), b_some]
              · rw [show fX9_power μ2 4 7 = _ from powM_spec μ2 4 (r := 7) (by omega), b_some]
                dsimp only
                rw [show (4 : Nat) ^ 7 = 16384 from rfl, low_spec μ2 hU (by omega) (by omega) (by omega), b_some]
        · by_cases q : (a3 >>> (a1 &&& 31)) &&& 1 = 1
          · simp only [if_pos q, if_neg d, im2, ↓reduceIte, lost2]
            exact ⟨_, _, _, rfl, rfl, hI⟩
          · simp only [if_neg q, if_neg d, im2, ↓reduceIte, lost2]
            exact ⟨_, _, _, rfl, rfl, hI⟩
      · simp only [if_neg c2, im2, ↓reduceIte, lost2]
        exact ⟨_, _, _, rfl, rfl, hI⟩
    · simp only [if_neg c, im2, ↓reduceIte, lost2]
      exact ⟨_, _, _, rfl, rfl, hI⟩
  · simp only [if_neg k, im1, ↓reduceIte, lost1, ite_self]
    exact ⟨_, _, _, rfl, rfl, hI⟩
