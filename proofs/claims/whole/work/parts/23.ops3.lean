/-! ===== tie, mark, set, say, wipe, bid ===== -/
theorem Inv_tie {σ μ : St} (h : Inv σ μ) (i : Nat) {v : Int32} (hv : inR v (-1) 1) : Inv (uA σ 13 i v) (uA μ 4 i v) := by
  obtain ⟨J, P, S, C, hN, ⟨j1, j2, j3, j4⟩, hP, hM, hR⟩ := h
  exact ⟨J, P, S, C, hN, ⟨j1, j2, j3, upd_all (f := σ.1 13) (g := μ.1 4) (Q := fun x => inR x (-1) 1) j4 hv⟩, hP, hM, hR⟩
theorem Inv_jkey {σ μ : St} (h : Inv σ μ) (i : Nat) {v : Int32} (hv : inR v 0 63) : Inv (uA σ 12 i v) (uA μ 3 i v) := by
  obtain ⟨J, P, S, C, hN, ⟨j1, j2, j3, j4⟩, hP, hM, hR⟩ := h
  exact ⟨J, P, S, C, hN, ⟨j1, j2, upd_all (f := σ.1 12) (g := μ.1 3) (Q := fun x => inR x 0 63) j3 hv, j4⟩, hP, hM, hR⟩
theorem Inv_pkey {σ μ : St} (h : Inv σ μ) (i : Nat) {v : Int32} (hv : inR v 0 63) : Inv (uA σ 16 i v) (uA μ 7 i v) := by
  obtain ⟨J, P, S, C, hN, hJ, ⟨p1, p2, p3, p4, p5⟩, hM, hR⟩ := h
  exact ⟨J, P, S, C, hN, hJ, ⟨p1, p2, upd_all (f := σ.1 16) (g := μ.1 7) (Q := fun x => inR x 0 63) p3 hv, p4, p5⟩, hM, hR⟩
theorem Inv_later {σ μ : St} (h : Inv σ μ) (i : Nat) {v : Int32} (hv : v = -6 ∨ inR v 0 9) : Inv (uA σ 17 i v) (uA μ 8 i v) := by
  obtain ⟨J, P, S, C, hN, hJ, ⟨p1, p2, p3, p4, p5⟩, hM, hR⟩ := h
  exact ⟨J, P, S, C, hN, hJ, ⟨p1, p2, p3, upd_all (f := σ.1 17) (g := μ.1 8) (Q := fun x => x = -6 ∨ inR x 0 9) p4 hv, p5⟩, hM, hR⟩
theorem Inv_bid {σ μ : St} (h : Inv σ μ) (i : Nat) {v : Int32} (hv : inR v 0 3) : Inv (uA σ 18 i v) (uA μ 10 i v) := by
  obtain ⟨J, P, S, C, hN, hJ, ⟨p1, p2, p3, p4, p5⟩, hM, hR⟩ := h
  exact ⟨J, P, S, C, hN, hJ, ⟨p1, p2, p3, p4, upd_all (f := σ.1 18) (g := μ.1 10) (Q := fun x => inR x 0 3) p5 hv⟩, hM, hR⟩
theorem Inv_mark {σ μ : St} {J P S C : Nat} (hN : IvN σ μ J P S C) (hJ : IvJ σ μ J) (hP : IvP σ μ J P) (hM : IvM σ μ J P) (hR : IvR σ μ S C) {j0 p0 : Nat} (hj0 : j0 < J) (hp0 : p0 < P) {v : Int32} (hv : v = -6 ∨ inR v 0 5) (hw : ¬ μ.1 6 p0 = nI j0) : Inv (uA σ 19 (6 * j0 + p0) v) (uA μ 9 (6 * j0 + p0) v) := by
  obtain ⟨n1, n2, -⟩ := id hN
  refine ⟨J, P, S, C, hN, hJ, hP, ?_, hR⟩
  intro j p hj hp
  show (j < J → upd (σ.1 19) (6 * j0 + p0) v (6 * j + p) = upd (μ.1 9) (6 * j0 + p0) v (6 * j + p) ∧ (upd (μ.1 9) (6 * j0 + p0) v (6 * j + p) = -6 ∨ p < P ∧ inR (upd (μ.1 9) (6 * j0 + p0) v (6 * j + p)) 0 5 ∧ ¬ μ.1 6 p = nI j)) ∧ (J ≤ j → upd (σ.1 19) (6 * j0 + p0) v (6 * j + p) = -6)
  obtain ⟨x1, x2⟩ := hM j p hj hp
  by_cases h : 6 * j + p = 6 * j0 + p0
  · have e1 : j = j0 := by omega
    have e2 : p = p0 := by omega
    subst e1
    subst e2
    rw [pk_us, pk_us]
    refine ⟨fun _ => ⟨rfl, ?_⟩, fun q => by omega⟩
    rcases hv with hv | hv
    · exact Or.inl hv
    · exact Or.inr ⟨hp0, hv, hw⟩
  · rw [pk_un h, pk_un h]
    exact ⟨x1, x2⟩
theorem tieOf_spec {σ : St} {J : Nat} (hJ : σ.2.1 0 = nI J) (h6 : J ≤ 6) {a b : Nat} (ha : a < J) (hb : b < J) : fX0_tieOf σ (nI a) (nI b) = some (σ.1 13 (6 * a + b), σ) := by
  unfold fX0_tieOf
  have e1 := nI_toInt (n := a) (by omega)
  have e2 := nI_toInt (n := b) (by omega)
  simp only [has_spec hJ h6, b_some, bI_ne0]
  rw [if_pos (by omega), if_pos (by omega), at6, if_pos (ib_nI (show 6 * a + b < 36 by omega) (by omega)), nI_clamp (n := 6 * a + b) (by omega)]
theorem op_tie : Op_tie Inv := by
  intro σ μ hI a1 a2 a3
  obtain ⟨J, P, S, C, hN, hJ, hP, hM, hR⟩ := id hI
  obtain ⟨n1, n2, n3, n4, n5, n6, n7, n8, n9, n10, n11, n12⟩ := id hN
  unfold fX8_tie fX9_tie
  simp only [has_spec n5 n1, isJ_spec n6 n1, within_spec, in_spec, b_some, bI_ne0, i2l_toInt]
  by_cases c1 : 0 ≤ a1.toInt ∧ a1.toInt < J
  · rw [if_pos c1, if_pos c1]
    by_cases c2 : 0 ≤ a2.toInt ∧ a2.toInt < J
    · rw [if_pos c2, if_pos c2]
      by_cases c3 : a1 = a2
      · rw [if_pos c3, if_pos c3]
        exact ⟨_, _, _, rfl, rfl, hI⟩
      · rw [if_neg c3, if_neg c3]
        by_cases c4 : (-1 : Int32).toInt ≤ a3.toInt ∧ a3.toInt ≤ (1 : Int32).toInt
        · rw [if_pos c4, if_pos (show (-1 : Int64).toInt ≤ a3.toInt ∧ a3.toInt ≤ (1 : Int64).toInt from c4)]
          obtain ⟨a, ha, rfl⟩ := nI_ex c1 (by omega)
          obtain ⟨b, hb, rfl⟩ := nI_ex c2 (by omega)
          rw [tieOf_spec n5 n1 ha hb, b_some]
          unfold fX0_putTie
          dsimp only
          rw [at6, at6, at6', at6', if_pos (ib_nI (show 6 * a + b < 36 by omega) (by omega)), if_pos (ib_nI (show 6 * b + a < 36 by omega) (by omega)), if_pos (ib_nI (show 6 * a + b < 36 by omega) (by omega)), if_pos (ib_nI (show 6 * a + b < 36 by omega) (by omega)), if_pos (ib_nI (show 6 * b + a < 36 by omega) (by omega)), nI_clamp (n := 6 * a + b) (by omega), nI_clamp (n := 6 * b + a) (by omega)]
          refine ⟨_, _, _, rfl, ?_, Inv_tie (Inv_tie hI (6 * a + b) c4) (6 * b + a) c4⟩
          rw [(hJ.2.2.2 (6 * a + b) (by omega)).1]
        · rw [if_neg c4, if_neg (show ¬ ((-1 : Int64).toInt ≤ a3.toInt ∧ a3.toInt ≤ (1 : Int64).toInt) from c4)]
          exact ⟨_, _, _, rfl, rfl, hI⟩
    · rw [if_neg c2, if_neg c2]
      exact ⟨_, _, _, rfl, rfl, hI⟩
  · rw [if_neg c1, if_neg c1]
    exact ⟨_, _, _, rfl, rfl, hI⟩
theorem op_mark : Op_mark Inv := by
  intro σ μ hI a1 a2 a3
  obtain ⟨J, P, S, C, hN, hJ, hP, hM, hR⟩ := id hI
  obtain ⟨n1, n2, n3, n4, n5, n6, n7, n8, n9, n10, n11, n12⟩ := id hN
  unfold fX8_mark fX9_mark
  simp only [has_spec n5 n1, hasP_spec n7 n2, isJ_spec n6 n1, isP_spec n8 n2, within_spec, in_spec, b_some, bI_ne0, i2l_toInt]
  by_cases c1 : 0 ≤ a1.toInt ∧ a1.toInt < J
  · rw [if_pos c1, if_pos c1]
    by_cases c2 : 0 ≤ a2.toInt ∧ a2.toInt < P
    · rw [if_pos c2, if_pos c2]
      by_cases c4 : (-1 : Int32).toInt ≤ a3.toInt ∧ a3.toInt ≤ (5 : Int32).toInt
      · rw [if_pos c4, if_pos (show (-1 : Int64).toInt ≤ a3.toInt ∧ a3.toInt ≤ (5 : Int64).toInt from c4)]
        obtain ⟨a, ha, rfl⟩ := nI_ex c1 (by omega)
        obtain ⟨b, hb, rfl⟩ := nI_ex c2 (by omega)
        rw [if_pos (ib_nI (show b < 6 by omega) (by omega)), if_pos (ib_nI (show b < 6 by omega) (by omega)), nI_clamp (n := b) (by omega), (hP.2.1 b hb).1]
        by_cases c5 : μ.1 6 b = nI a
        · rw [if_pos c5, if_pos c5]
          exact ⟨_, _, _, rfl, rfl, hI⟩
        · rw [if_neg c5, if_neg c5]
          unfold fX9_at
          simp only [b_some]
          have hm := ((hM a b (by omega) (by omega)).1 ha).1
          rw [at6, at6', if_pos (ib_nI (show 6 * a + b < 36 by omega) (by omega)), if_pos (ib_nI (show 6 * a + b < 36 by omega) (by omega)), if_pos (ib_nI (show 6 * a + b < 36 by omega) (by omega)), nI_clamp (n := 6 * a + b) (by omega)]
          unfold fX8_mark_b76 fX8_replace_19
          rw [if_pos (ib_nI (show 6 * a + b < 36 by omega) (by omega)), if_pos (ib_nI (show 6 * a + b < 36 by omega) (by omega)), if_pos (ib_nI (show 6 * a + b < 36 by omega) (by omega)), if_pos (ib_nI (show 6 * a + b < 36 by omega) (by omega)), nI_clamp (n := 6 * a + b) (by omega), hm]
          by_cases c6 : a3 = -1
          · subst c6
            rw [if_pos rfl, if_neg (by decide)]
            exact ⟨_, _, _, rfl, rfl, Inv_mark hN hJ hP hM hR ha hb (Or.inl rfl) c5⟩
          · have c7 : 0 ≤ a3.toInt := by
              have e : (-1 : Int32).toInt = -1 := rfl
              have : ¬ a3.toInt = (-1 : Int32).toInt := fun q => c6 (Int32.toInt_inj.mp q)
              omega
            rw [if_neg c6, if_pos (show (0 : Int32) ≤ a3 from Int32.le_iff_toInt_le.mpr c7)]
            exact ⟨_, _, _, rfl, rfl, Inv_mark hN hJ hP hM hR ha hb (Or.inr ⟨c7, c4.2⟩) c5⟩
      · rw [if_neg c4, if_neg (show ¬ ((-1 : Int64).toInt ≤ a3.toInt ∧ a3.toInt ≤ (5 : Int64).toInt) from c4)]
        exact ⟨_, _, _, rfl, rfl, hI⟩
    · rw [if_neg c2, if_neg c2]
      exact ⟨_, _, _, rfl, rfl, hI⟩
  · rw [if_neg c1, if_neg c1]
    exact ⟨_, _, _, rfl, rfl, hI⟩
theorem op_bid : Op_bid Inv := by
  intro σ μ hI a1 a2 a3
  obtain ⟨J, P, S, C, hN, hJ, hP, hM, hR⟩ := id hI
  obtain ⟨n1, n2, n3, n4, n5, n6, n7, n8, n9, n10, n11, n12⟩ := id hN
  unfold fX8_bid fX9_bid
  simp only [has_spec n5 n1, hasP_spec n7 n2, isJ_spec n6 n1, isP_spec n8 n2, within_spec, in_spec, b_some, bI_ne0, i2l_toInt]
  by_cases c1 : 0 ≤ a1.toInt ∧ a1.toInt < J
  · rw [if_pos c1, if_pos c1]
    by_cases c2 : 0 ≤ a2.toInt ∧ a2.toInt < P
    · rw [if_pos c2, if_pos c2]
      by_cases c4 : (0 : Int32).toInt ≤ a3.toInt ∧ a3.toInt ≤ (3 : Int32).toInt
      · rw [if_pos c4, if_pos (show (0 : Int64).toInt ≤ a3.toInt ∧ a3.toInt ≤ (3 : Int64).toInt from c4)]
        obtain ⟨a, ha, rfl⟩ := nI_ex c1 (by omega)
        obtain ⟨b, hb, rfl⟩ := nI_ex c2 (by omega)
        unfold fX9_at fX8_replace_18
        simp only [b_some]
        rw [at6, at6', if_pos (ib_nI (show 6 * a + b < 36 by omega) (by omega)), if_pos (ib_nI (show 6 * a + b < 36 by omega) (by omega)), if_pos (ib_nI (show 6 * a + b < 36 by omega) (by omega)), if_pos (ib_nI (show 6 * a + b < 36 by omega) (by omega)), nI_clamp (n := 6 * a + b) (by omega), (hP.2.2.2.2 (6 * a + b) (by omega)).1]
        exact ⟨_, _, _, rfl, rfl, Inv_bid hI (6 * a + b) c4⟩
      · rw [if_neg c4, if_neg (show ¬ ((0 : Int64).toInt ≤ a3.toInt ∧ a3.toInt ≤ (3 : Int64).toInt) from c4)]
        exact ⟨_, _, _, rfl, rfl, hI⟩
    · rw [if_neg c2, if_neg c2]
      exact ⟨_, _, _, rfl, rfl, hI⟩
  · rw [if_neg c1, if_neg c1]
    exact ⟨_, _, _, rfl, rfl, hI⟩
theorem op_wipe : Op_wipe Inv := by
  intro σ μ hI
  obtain ⟨J, P, S, C, hN, hJ, hP, hM, hR⟩ := id hI
  obtain ⟨n1, n2, n3, n4, n5, n6, n7, n8, n9, n10, n11, n12⟩ := id hN
  refine ⟨nI S, uI σ 2 0, uI μ 2 0, ?_, ?_, J, P, 0, C, ⟨n1, n2, by omega, n4, n5, n6, n7, n8, rfl, rfl, n11, n12⟩, hJ, hP, hM, ⟨fun i h => absurd h (by omega), hR.2⟩⟩
  · unfold fX8_wipe fX6_clear
    rw [n9]
    rfl
  · unfold fX9_wipe
    rw [n10]
theorem op_say : Op_say Inv := by
  intro σ μ hI a1
  obtain ⟨J, P, S, C, hN, hJ, hP, hM, hR⟩ := id hI
  obtain ⟨n1, n2, n3, n4, n5, n6, n7, n8, n9, n10, n11, n12⟩ := id hN
  unfold fX8_say fX9_say fX6_add
  simp only [within_spec, in_spec, b_some, bI_ne0, i2l_toInt, uA_I, uI_same, n9, n10]
  by_cases c1 : (33 : Int32).toInt ≤ a1.toInt ∧ a1.toInt ≤ (126 : Int32).toInt
  · rw [if_pos c1, if_pos (show (33 : Int64).toInt ≤ a1.toInt ∧ a1.toInt ≤ (126 : Int64).toInt from c1)]
    by_cases h : S < 40
    · rw [if_pos (show nI S < (40 : Int32) from nI_lt (b := 40) h (by omega)), if_pos (ib_nI h (by omega)), if_neg (show ¬ nI S = (40 : Int32) from fun q => by have := nI_inj (b := 40) (by omega) (by omega) q; omega), if_pos (ib_nI h (by omega)), nI_clamp (n := S) (by omega)]
      rw [show nI S + (1 : Int32) = nI (S + 1) from nI_1 S]
      refine ⟨_, _, _, rfl, rfl, J, P, S + 1, C, ⟨n1, n2, by omega, n4, n5, n6, n7, n8, rfl, rfl, n11, n12⟩, hJ, hP, hM, ⟨fun i hi => ?_, hR.2⟩⟩
      show upd (σ.1 21) S a1 i = upd (μ.1 11) S a1 i
      by_cases hiS : i = S
      · subst hiS
        rw [pk_us, pk_us]
      · rw [pk_un hiS, pk_un hiS]
        exact hR.1 i (by omega)
    · have : S = 40 := by omega
      subst this
      rw [if_neg (show ¬ nI 40 < (40 : Int32) by decide), if_pos (show nI 40 = (40 : Int32) from rfl)]
      exact ⟨_, _, _, rfl, rfl, hI⟩
  · rw [if_neg c1, if_neg (show ¬ ((33 : Int64).toInt ≤ a1.toInt ∧ a1.toInt ≤ (126 : Int64).toInt) from c1)]
    exact ⟨_, _, _, rfl, rfl, hI⟩
