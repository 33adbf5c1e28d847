/-! ===== match: find ===== -/
theorem sN_zero (f : Nat → Nat) : ∀ n, sN f n = 0 → ∀ i, i < n → f i = 0 := by
  intro n
  induction n with
  | zero => intro _ i hi; omega
  | succ n ih =>
    intro h i hi
    simp only [sN] at h
    by_cases c : i = n
    · subst c; omega
    · exact ih (by omega) i (by omega)
theorem sN_pos (f : Nat → Nat) : ∀ n, 0 < sN f n → ∃ i, i < n ∧ 0 < f i := by
  intro n
  induction n with
  | zero => intro h; exact absurd h (by simp [sN])
  | succ n ih =>
    intro h
    simp only [sN] at h
    by_cases c : 0 < f n
    · exact ⟨n, by omega, c⟩
    · obtain ⟨i, h1, h2⟩ := ih (by omega)
      exact ⟨i, by omega, h2⟩
theorem sN_const (k : Nat) : ∀ n, sN (fun _ => k) n = k * n := by
  intro n
  induction n with
  | zero => rfl
  | succ n ih => simp only [sN]; rw [ih, Nat.mul_succ]
def FI (σ : St) (P J k l t : Nat) (σ' : St) : Prop := ∃ (s wn ld : Nat → Nat) (Pi : Nat → Int) (M : Int), Ar σ σ' s wn ld ∧ Gd σ P J k s wn ∧ (∀ j, j < J → ld j = sN (fun q => bt (s q) j) P) ∧ (∀ j, j < 6 → ld j ≤ l) ∧ Pot (Ec σ P J s) Pi ∧ (∀ j, j < J → (ld j < l → Pi (6 + j) ≤ M) ∧ (0 < ld j → M ≤ Pi (6 + j))) ∧ sN wn P + t = k * P
def Rs (σ : St) (P J k l : Nat) (σ' : St) (r : Int32) : Prop := sameC σ σ' ∧ ((r = 0 ∧ ∀ X, ¬ Fs σ P J k l X) ∨ (r = 1 ∧ ∃ s, (∀ p, p < 6 → σ'.1 27 p = nI (s p)) ∧ Fs σ P J k l s ∧ ∀ X, Fs σ P J k l X → wt σ P J X ≤ wt σ P J s))
theorem find_l {σ μ : St} {J P S C k l : Nat} (hN : IvN σ μ J P S C) (hP : IvP σ μ J P) (hk : k ≤ 3) (hl : l ≤ 4) : ∀ (n t : Nat) (σ' : St), t ≤ k * P → k * P - t < n → FI σ P J k l t σ' → ∃ σ'' r, fX2_find_l26 n σ' (nI k) (nI l) (nI t) = some (r, σ'') ∧ Rs σ P J k l σ'' r := by
  obtain ⟨n1, n2, n3, n4, n5, n6, n7, n8, n9, n10, n11, n12⟩ := id hN
  have hE := Ec_ok hP n1 n2
  have hkP : k * P ≤ 3 * 6 := Nat.mul_le_mul hk n2
  have h64J := two_pow6 n1
  intro n
  induction n with
  | zero => intro t σ' h1 h2; omega
  | succ n ih =>
    intro t σ' h1 h2 hI
    obtain ⟨s, wn, ld, Pi, M, hA, hG, hL, hL6, hPot, hM, hT⟩ := hI
    obtain ⟨hA1, hA2, hA3, hA4⟩ := id hA
    obtain ⟨hG1, hG2, hG3, hG4⟩ := id hG
    show ∃ σ'' r, fX2_find_b26 (fX2_find_l26 n) σ' (nI k) (nI l) (nI t) = _ ∧ _
    unfold fX2_find_b26
    rw [hA1.2 1 (by omega), n7, pk_mul]
    by_cases h : t = k * P
    · rw [if_pos (nI_le (by omega) (by omega))]
      have hz := sN_zero wn P (by omega)
      have hfs : Fs σ P J k l s := by
        refine ⟨fun p hp => ⟨hG1 p (by omega), ?_, hG3 p hp⟩, fun j hj => ?_⟩
        · have := hG2 p hp
          have := hz p hp
          omega
        · rw [← hL j hj]; exact hL6 j (by omega)
      refine ⟨σ', 1, rfl, hA1, Or.inr ⟨rfl, s, hA2, hfs, fun X hX => ?_⟩⟩
      refine opt_all hPot hfs (M := M) ?_ hX
      intro j hj
      rw [← hL j hj]
      exact hM j hj
    · rw [if_neg (nI_ge (by omega) (by omega))]
      obtain ⟨p0, hp0, hw0⟩ := sN_pos wn P (by omega)
      obtain ⟨σ1, a1, a2, a3⟩ := spread_spec hN hP hA1 hA2 (fun p hp => by have := hG1 p hp; omega) hA3 (fun p hp => by have := hG4 p hp; omega) hPot
      rw [a1, b_some]
      dsimp only
      have hs1 := hA1.tr a2.1
      have hld1 : ∀ j, j < 6 → σ1.1 29 j = nI (ld j) := fun j hj => by rw [a2.2.2.2]; exact hA4 j hj
      have hvU : ∀ j, j < J → UU ≤ vl σ1 (6 + j) := by
        intro j hj
        by_cases q : vl σ1 (6 + j) = UU
        · rw [q]; exact Int.le_refl _
        · have := a3.2.2.1 (6 + j) (by omega) q
          unfold UU
          omega
      obtain ⟨r, b1, b2⟩ := best_spec (show σ1.2.1 0 = nI J by rw [hs1.2 0 (by omega)]; exact n5) n1 (show l < 100 by omega) hld1 (fun j hj => by have := hL6 j hj; omega) hvU
      rw [b1, b_some]
      dsimp only
      rcases b2 with ⟨c1, c2⟩ | ⟨b, c1, c2, c3, c4, c5⟩
      · rw [if_pos c1]
        refine ⟨σ1, 0, rfl, hs1, Or.inl ⟨rfl, fun X hX => ?_⟩⟩
        exact no_full n2 n1 a3 hG2 (fun j hj hq => c2 j hj (by rw [hL j hj]; exact hq)) hp0 hw0 (fun p j hp hj => wI_rng hP (by omega) (by omega)) hX
      · have hb6 : b < 6 := by omega
        rw [if_neg (show ¬ r = -6 by rw [c2]; exact nI_nem6 (by omega)), c2]
        unfold fX2_change
        rw [if_pos (ib_nI hb6 (by omega)), if_pos (ib_nI hb6 (by omega)), nI_clamp (n := b) (by omega), hld1 b hb6, show nI (ld b) + (1 : Int32) = nI (ld b + 1) from nI_1 _]
        obtain ⟨t', hlk⟩ := a3.2.1
        have hMb := (hM b c1).1 c3
        have hAr : Ar σ (uA σ1 29 b (nI (ld b + 1))) s wn (up ld b (ld b + 1)) := by
          refine ⟨sC_uA hs1 (by omega) _ _, ?_, ?_, ?_⟩
          · intro p hp
            show σ1.1 27 p = _
            rw [a2.2.1]; exact hA2 p hp
          · intro p hp
            show σ1.1 28 p = _
            rw [a2.2.2.1]; exact hA3 p hp
          · intro j hj
            show upd (σ1.1 29) b (nI (ld b + 1)) j = _
            by_cases z : j = b
            · subst z; rw [pk_us, up_s]
            · rw [pk_un z, up_n _ _ z]; exact hld1 j hj
        obtain ⟨σ2, s2, wn2, d1, d2, d3, d4, d5, d6⟩ := chg_l hN hP (k := k) hlk (D := M - vl σ1 (6 + b)) hPot (LD := up ld b (ld b + 1)) gF 0 b (uA σ1 29 b (nI (ld b + 1))) s (by have := jc_le t' hb6; omega) (by simp [gF]) c1 (fun v _ => rfl) hAr hG (by
          intro j hj
          by_cases z : j = b
          · subst z; rw [up_s, if_pos rfl, hL j hj]
          · rw [up_n _ _ z, if_neg z, hL j hj]; rfl) (nP_pot (hE s) a3 hPot _) c4 (by omega) (fun q hq _ => rfl)
        rw [show fX2_change_l14 gF (uA σ1 29 b (nI (ld b + 1))) (nI b) 0 = _ from d1, b_some]
        dsimp only
        rw [show nI t + (1 : Int32) = nI (t + 1) from nI_1 t]
        refine ih (t + 1) σ2 (by omega) (by omega) ⟨s2, wn2, up ld b (ld b + 1), nP (vl σ1) Pi (M - vl σ1 (6 + b)), vl σ1 (6 + b), d2, d3, d4, ?_, d5, ?_, by omega⟩
        · intro j hj
          have := hL6 j hj
          by_cases z : j = b
          · subst z; rw [up_s]; omega
          · rw [up_n _ _ z]; exact this
        · intro j hj
          by_cases z : j = b
          · subst z
            rw [nP_eq (vl σ1) Pi _ (6 + j) c4 (by omega)]
            exact ⟨fun _ => Int.le_refl _, fun _ => Int.le_refl _⟩
          · rw [up_n _ _ z]
            obtain ⟨m1, m2⟩ := hM j hj
            constructor
            · intro q
              have := m1 q
              have h5 := c5 j hj q
              exact nP_le _ _ _ _ _ (by omega) (fun _ => h5)
            · intro q
              have := m2 q
              have h6 := (nP_ge (vl σ1) Pi (M - vl σ1 (6 + b)) (6 + j)).1
              omega
theorem bt_0 (j : Nat) : bt 0 j = 0 := by unfold bt; rw [Nat.zero_div]
theorem sN_bt0 (n : Nat) : sN (fun j => bt 0 j) n = 0 := by
  rw [sN_congr (g := fun _ => 0) n (fun j _ => bt_0 j), sN_const, Nat.zero_mul]
theorem find_spec {σ μ : St} {J P S C k l : Nat} (hN : IvN σ μ J P S C) (hP : IvP σ μ J P) (hk : k ≤ 3) (hl : l ≤ 4) : ∃ σ'' r, fX2_find σ (nI k) (nI l) = some (r, σ'') ∧ Rs σ P J k l σ'' r := by
  obtain ⟨n1, n2, n3, n4, n5, n6, n7, n8, n9, n10, n11, n12⟩ := id hN
  have hkP : k * P ≤ 3 * 6 := Nat.mul_le_mul hk n2
  obtain ⟨σ1, a1, a2, a3, a4⟩ := fill27_spec σ 0
  obtain ⟨σ2, b1, b2, b3, b4⟩ := fill29_spec σ1 0
  obtain ⟨σ3, c1, c2, c3, c4⟩ := fill28_spec σ2 (nI k)
  have hI : FI σ P J k l 0 σ3 := by
    refine ⟨fun _ => 0, fun _ => k, fun _ => 0, fun v => if v < 6 then 0 else 274877906944, 274877906944, ⟨⟨?_, ?_⟩, ?_, ?_, ?_⟩, ⟨?_, ?_, ?_, ?_⟩, ?_, ?_, ?_, ?_, ?_⟩
    · intro a ha
      rw [c3 a (by omega), b3 a (by omega), a3 a (by omega)]
    · intro a ha
      rw [c4, b4, a4]
    · intro p hp
      rw [c3 27 (by omega), b3 27 (by omega), a2 p hp]
      rfl
    · intro p hp
      exact c2 p hp
    · intro j hj
      rw [c3 29 (by omega), b2 j hj]
      rfl
    · intro p hp
      exact Nat.pow_pos (by omega)
    · intro p hp
      show k + sN (fun j => bt 0 j) J = k
      rw [sN_bt0]
      rfl
    · intro p hp j hj hx
      have hx' : bt 0 j = 1 := hx
      rw [bt_0] at hx'
      omega
    · intro p hp
      exact hk
    · intro j hj
      show 0 = sN (fun _ => bt 0 j) P
      rw [bt_0, sN_const, Nat.zero_mul]
    · intro j hj
      exact Nat.zero_le l
    · rintro a b u v g ⟨h1, h2, h3⟩
      have hw := wI_rng hP (show a < 6 by omega) (show b < 6 by omega)
      rcases h3 with ⟨k1, k2, k3, k4⟩ | ⟨k1, k0, k2, k3, k4⟩
      · have k1' : bt 0 b = 1 := k1
        rw [bt_0] at k1'
        omega
      · subst k2
        subst k3
        subst k4
        dsimp only
        rw [if_pos (show u < 6 by omega), if_neg (show ¬ 6 + b < 6 by omega)]
        omega
    · intro j hj
      refine ⟨fun _ => ?_, fun q => absurd q (Nat.lt_irrefl 0)⟩
      dsimp only
      rw [if_neg (show ¬ 6 + j < 6 by omega)]
      exact Int.le_refl _
    · rw [sN_const]
      rfl
  obtain ⟨σ4, r, d1, d2⟩ := find_l hN hP hk hl gF 0 σ3 (by omega) (by simp [gF]; omega) hI
  refine ⟨σ4, r, ?_, d2⟩
  unfold fX2_find
  rw [a1, b_some]
  dsimp only
  rw [b1, b_some]
  dsimp only
  rw [c1, b_some]
  exact d1
