/-! ===== joined in the reference; parts ===== -/
def mp (T : Nat → Nat) (B : Nat) : Nat → Nat
  | 0 => B
  | k + 1 => if T k &&& mp T B k = 0 then mp T B k else mp T B k ||| T k
theorem mp_lt {T : Nat → Nat} (hT : ∀ p, p < 6 → T p < 64) {B : Nat} (h0 : B < 64) : ∀ k, k ≤ 6 → mp T B k < 64 := by
  intro k
  induction k with
  | zero => intro _; exact h0
  | succ k ih =>
    intro h
    simp only [mp]
    by_cases c : T k &&& mp T B k = 0
    · rw [if_pos c]; exact ih (by omega)
    · rw [if_neg c]; exact (bw _ (ih (by omega)) _ (hT k (by omega))).2.2.1
theorem mp_up (T : Nat → Nat) (B : Nat) : ∀ k, sb B (mp T B k) := by
  intro k
  induction k with
  | zero => exact sb.rf _
  | succ k ih =>
    simp only [mp]
    by_cases c : T k &&& mp T B k = 0
    · rw [if_pos c]; exact ih
    · rw [if_neg c]; exact ih.tr (sb.l _ _)
theorem mp_in (T : Nat → Nat) (B : Nat) : ∀ k p, p < k → T p &&& B ≠ 0 → sb (T p) (mp T B k) := by
  intro k
  induction k with
  | zero => intro p h; omega
  | succ k ih =>
    intro p hp hn
    simp only [mp]
    by_cases hpk : p = k
    · subst hpk
      rw [if_neg (and_mono (mp_up T B p) hn)]
      exact sb.r _ _
    · have h1 := ih p (by omega) hn
      by_cases c : T k &&& mp T B k = 0
      · rw [if_pos c]; exact h1
      · rw [if_neg c]; exact h1.tr (sb.l _ _)
theorem mp_min {T : Nat → Nat} {B Z : Nat} (h0 : sb B Z) : ∀ k, (∀ p, p < k → T p &&& Z ≠ 0 → sb (T p) Z) → sb (mp T B k) Z := by
  intro k
  induction k with
  | zero => intro _; exact h0
  | succ k ih =>
    intro h
    have h1 := ih (fun p hp => h p (by omega))
    simp only [mp]
    by_cases c : T k &&& mp T B k = 0
    · rw [if_pos c]; exact h1
    · rw [if_neg c]; exact sb.or h1 (h k (by omega) (and_mono h1 c))
theorem jb_out {σ μ : St} {J P : Nat} (hM : IvM σ μ J P) (h6 : J ≤ 6) {p : Nat} (hp : p < 6) : jb σ p J = jb σ p 6 := by
  have : ∀ k, J ≤ k → k ≤ 6 → jb σ p J = jb σ p k := by
    intro k
    induction k with
    | zero => intro h1 h2; rw [show J = 0 by omega]
    | succ k ih =>
      intro h1 h2
      by_cases hk : J = k + 1
      · rw [hk]
      · rw [ih (by omega) (by omega)]
        simp only [jb, cN_out hM (show k < 6 by omega) hp (Or.inl (by omega)) h6, Nat.zero_mul, Nat.add_zero]
  exact this 6 h6 (Nat.le_refl 6)
theorem jb_bit (σ : St) (p : Nat) : ∀ k j, j < k → ((jb σ p k).testBit j = true ↔ cN σ j p = 1) := by
  intro k
  induction k with
  | zero => intro j h; omega
  | succ k ih =>
    intro j hj
    simp only [jb]
    have hl := jb_lt σ p k
    have hc := cN_le σ k p
    rcases (show cN σ k p = 0 ∨ cN σ k p = 1 by omega) with e | e
    · rw [e, Nat.zero_mul, Nat.add_zero]
      by_cases hjk : j = k
      · subst hjk
        rw [Nat.testBit_lt_two_pow hl, e]
        simp
      · exact ih j (by omega)
    · rw [e, Nat.one_mul, Nat.add_comm]
      by_cases hjk : j = k
      · subst hjk
        rw [Nat.testBit_two_pow_add_eq, Nat.testBit_lt_two_pow hl, e]
        simp
      · rw [Nat.testBit_two_pow_add_gt (by omega)]
        exact ih j (by omega)
section JM
variable {σ μ : St} {J P : Nat}
theorem joinedM_l68 (hM : IvM σ μ J P) (hJ : μ.2.1 0 = nI J) (h6 : J ≤ 6) {rc43 : St → Int32 → Int32 → Option (Int32 × St)} {rc53 : St → Int32 → Int32 → Int32 → Option (Int32 × St)} {B W p : Nat} (hB : B < 64) (hp : p < 6) : ∀ (n j : Nat), j ≤ J → J - j < n → fX9_joinedOf_l68 rc43 rc53 n μ (nI B) (nI W) (nI p) (nI (jb σ p j)) (nI j) = rc53 μ (nI (if jb σ p 6 &&& B = 0 then B else B ||| jb σ p 6)) (nI W) (nI (p + 1)) := by
  intro n
  induction n with
  | zero => intro j h1 h2; omega
  | succ n ih =>
    intro j h1 h2
    show fX9_joinedOf_b68 rc43 rc53 (fX9_joinedOf_l68 rc43 rc53 n) μ (nI B) (nI W) (nI p) (nI (jb σ p j)) (nI j) = _
    unfold fX9_joinedOf_b68 fX9_joinedOf_b125 fX9_joinedOf_b102
    rw [hJ]
    by_cases hj : j = J
    · subst hj
      have hb := jb_lt σ p 6
      rw [if_pos (nI_le (Nat.le_refl j) (by omega)), jb_out hM h6 hp, (bw _ hb _ hB).2.1, or_zero, (bw _ hB _ hb).1, show nI p + (1 : Int32) = nI (p + 1) from nI_1 p]
      have hz := nI_z (n := jb σ p 6 &&& B) (by have := (bw _ hb _ hB).2.2.2; omega)
      by_cases c : jb σ p 6 &&& B = 0
      · rw [if_pos (hz.mpr c), if_pos c]
      · rw [if_neg (fun q => c (hz.mp q)), if_neg c]
    · have hlt : j < J := by omega
      rw [if_neg (nI_ge hlt (by omega))]
      unfold fX9_at
      rw [b_some]
      dsimp only
      rw [at6', if_pos (ib_nI (show 6 * j + p < 36 by omega) (by omega)), nI_clamp (n := 6 * j + p) (by omega), (mk_facts hM hlt h6 hp).1, show nI j + (1 : Int32) = nI (j + 1) from nI_1 j, ← ih (j + 1) (by omega) (by omega)]
      have hn := neg_cN (mk_or hM hlt h6 hp)
      have hc := cN_le σ j p
      by_cases h : cN σ j p = 0
      · rw [if_pos (hn.mpr h), or_zero]
        simp only [jb, h, Nat.zero_mul, Nat.add_zero]
      · rw [if_neg (fun q => h (hn.mp q)), or_bit j (by omega) _ (jb_lt σ p j)]
        simp only [jb, show cN σ j p = 1 by omega, Nat.one_mul]
theorem joinedM_l53 (hM : IvM σ μ J P) (hJ : μ.2.1 0 = nI J) (hP : μ.2.1 1 = nI P) (h6 : J ≤ 6) (p6 : P ≤ 6) {rc43 : St → Int32 → Int32 → Option (Int32 × St)} {B W : Nat} (hB : B < 64) : ∀ (n p : Nat), p ≤ P → P - p < n → fX9_joinedOf_l53 rc43 n μ (nI (mp (fun p => jb σ p 6) B p)) (nI W) (nI p) = rc43 μ (nI (mp (fun p => jb σ p 6) B P)) (nI W) := by
  have hT : ∀ p, p < 6 → (fun p => jb σ p 6) p < 64 := fun p _ => jb_lt σ p 6
  intro n
  induction n with
  | zero => intro p h1 h2; omega
  | succ n ih =>
    intro p h1 h2
    show fX9_joinedOf_b53 rc43 (fX9_joinedOf_l53 rc43 n) μ (nI (mp (fun p => jb σ p 6) B p)) (nI W) (nI p) = _
    unfold fX9_joinedOf_b53
    rw [hP]
    by_cases hp : p = P
    · subst hp
      rw [if_pos (nI_le (Nat.le_refl p) (by omega))]
    · have hlt : p < P := by omega
      rw [if_neg (nI_ge hlt (by omega))]
      have := joinedM_l68 hM hJ h6 (rc43 := rc43) (rc53 := fX9_joinedOf_l53 rc43 n) (W := W) (mp_lt hT hB p (by omega)) (show p < 6 by omega) gF 0 (by omega) (by simp [gF]; omega)
      exact (show _ = _ from this).trans (ih (p + 1) (by omega) (by omega))
theorem joinedM_l43 (hM : IvM σ μ J P) (hJ : μ.2.1 0 = nI J) (hP : μ.2.1 1 = nI P) (h6 : J ≤ 6) (p6 : P ≤ 6) {j : Nat} : ∀ (n B W : Nat), B < 64 → W < 64 → 2 * (7 - pc6 B) + (if W = B then 0 else 1) < n → sb (2 ^ j) B → (W = B → clo (fun p => jb σ p 6) B) → (∀ Z, clo (fun p => jb σ p 6) Z → sb (2 ^ j) Z → sb B Z) → ∃ X, fX9_joinedOf_l43 n μ (nI B) (nI W) = some (nI X, μ) ∧ isC (fun p => jb σ p 6) j X := by
  have hT : ∀ p, p < 6 → (fun p => jb σ p 6) p < 64 := fun p _ => jb_lt σ p 6
  intro n
  induction n with
  | zero => intro B W h1 h2 h3; omega
  | succ n ih =>
    intro B W hB hW hm hj hc hmin
    show ∃ X, fX9_joinedOf_b43 (fX9_joinedOf_l43 n) μ (nI B) (nI W) = some (nI X, μ) ∧ _
    unfold fX9_joinedOf_b43
    by_cases e : W = B
    · rw [if_pos (by rw [e])]
      exact ⟨B, rfl, hB, hj, hc e, hmin⟩
    · rw [if_neg (fun q => e (nI_inj (by omega) (by omega) q))]
      have hl := joinedM_l53 hM hJ hP h6 p6 (rc43 := fX9_joinedOf_l43 n) (W := B) hB gF 0 (by omega) (by simp [gF]; omega)
      have hB' := mp_lt hT hB P p6
      have hup := mp_up (fun p => jb σ p 6) B P
      rw [if_neg e] at hm
      have hp6 := pc_le B hB
      have g1 : 2 * (7 - pc6 (mp (fun p => jb σ p 6) B P)) + (if B = mp (fun p => jb σ p 6) B P then 0 else 1) < n := by
        by_cases q : B = mp (fun p => jb σ p 6) B P
        · rw [if_pos q, ← q]; omega
        · rw [if_neg q]
          have := pc_gr B hB _ hB' (or_of_sb hup) q
          have := pc_le _ hB'
          omega
      have g2 : B = mp (fun p => jb σ p 6) B P → clo (fun p => jb σ p 6) (mp (fun p => jb σ p 6) B P) := by
        intro q p hp hn
        rw [← q] at hn ⊢
        by_cases hpP : p < P
        · have := mp_in (fun p => jb σ p 6) B P p hpP hn
          rw [← q] at this
          exact this
        · have z : jb σ p 6 = 0 := by
            simp only [jb, cN_out hM (show 0 < 6 by omega) hp (Or.inr (by omega)) h6, cN_out hM (show 1 < 6 by omega) hp (Or.inr (by omega)) h6, cN_out hM (show 2 < 6 by omega) hp (Or.inr (by omega)) h6, cN_out hM (show 3 < 6 by omega) hp (Or.inr (by omega)) h6, cN_out hM (show 4 < 6 by omega) hp (Or.inr (by omega)) h6, cN_out hM (show 5 < 6 by omega) hp (Or.inr (by omega)) h6]
          show sb (jb σ p 6) B
          rw [z]
          exact sb.z _
      obtain ⟨X, x1, x2⟩ := ih (mp (fun p => jb σ p 6) B P) B hB' hB g1 (hj.tr hup) g2 (fun Z hZ hz => mp_min (hmin Z hZ hz) P (fun p hp hn => hZ p (by omega) hn))
      exact ⟨X, (show _ = _ from hl).trans x1, x2⟩
def b0 (σ : St) (j : Nat) : Nat → Nat
  | 0 => 0
  | k + 1 => if cN σ j k = 1 then 2 ^ j else b0 σ j k
theorem b0_or (σ : St) (j : Nat) : ∀ k, b0 σ j k = 0 ∨ b0 σ j k = 2 ^ j := by
  intro k
  induction k with
  | zero => exact Or.inl rfl
  | succ k ih =>
    simp only [b0]
    by_cases c : cN σ j k = 1
    · rw [if_pos c]; exact Or.inr rfl
    · rw [if_neg c]; exact ih
theorem b0_iff (σ : St) (j : Nat) : ∀ k, b0 σ j k = 2 ^ j ↔ ∃ p, p < k ∧ cN σ j p = 1 := by
  intro k
  induction k with
  | zero =>
    have : 0 < 2 ^ j := Nat.two_pow_pos j
    simp only [b0]
    exact ⟨fun h => by omega, fun ⟨p, h, _⟩ => by omega⟩
  | succ k ih =>
    simp only [b0]
    by_cases c : cN σ j k = 1
    · rw [if_pos c]
      exact ⟨fun _ => ⟨k, by omega, c⟩, fun _ => rfl⟩
    · rw [if_neg c, ih]
      constructor
      · rintro ⟨p, h1, h2⟩; exact ⟨p, by omega, h2⟩
      · rintro ⟨p, h1, h2⟩
        refine ⟨p, ?_, h2⟩
        by_cases q : p = k
        · subst q; exact absurd h2 c
        · omega
theorem orself : ∀ j, j < 6 → nI (2 ^ j) ||| nI (2 ^ j) = nI (2 ^ j) ∧ nI 0 ||| nI (2 ^ j) = nI (2 ^ j) := by decide +kernel
theorem joinedM_l4 (hM : IvM σ μ J P) (hP : μ.2.1 1 = nI P) (h6 : J ≤ 6) (p6 : P ≤ 6) {j : Nat} (hj : j < J) : ∀ (n p : Nat), p ≤ P → P - p < n → fX9_joinedOf_l4 n μ (nI j) (nI (b0 σ j p)) (nI p) = fX9_joinedOf_l43 gF μ (nI (b0 σ j P)) 0 := by
  intro n
  induction n with
  | zero => intro p h1 h2; omega
  | succ n ih =>
    intro p h1 h2
    show fX9_joinedOf_b4 (fX9_joinedOf_l4 n) μ (nI j) (nI (b0 σ j p)) (nI p) = _
    unfold fX9_joinedOf_b4 fX9_joinedOf_b33
    rw [hP]
    by_cases hp : p = P
    · subst hp
      rw [if_pos (nI_le (Nat.le_refl p) (by omega))]
    · have hlt : p < P := by omega
      rw [if_neg (nI_ge hlt (by omega))]
      unfold fX9_at
      rw [b_some]
      dsimp only
      rw [at6', if_pos (ib_nI (show 6 * j + p < 36 by omega) (by omega)), nI_clamp (n := 6 * j + p) (by omega), (mk_facts hM hj h6 (show p < 6 by omega)).1, show nI p + (1 : Int32) = nI (p + 1) from nI_1 p, ← ih (p + 1) (by omega) (by omega), (shl1 j (by omega)).1]
      have hn := neg_cN (mk_or hM hj h6 (show p < 6 by omega))
      have hc := cN_le σ j p
      simp only [b0]
      by_cases h : cN σ j p = 0
      · rw [if_pos (hn.mpr h), or_zero, if_neg (by omega)]
      · rw [if_neg (fun q => h (hn.mp q)), if_pos (by omega)]
        rcases b0_or σ j p with q | q
        · rw [q, (orself j (by omega)).2]
        · rw [q, (orself j (by omega)).1]
theorem joinedM_spec (hM : IvM σ μ J P) (hJ : μ.2.1 0 = nI J) (hP : μ.2.1 1 = nI P) (h6 : J ≤ 6) (p6 : P ≤ 6) {j : Nat} (hj : j < J) : fX9_joinedOf μ (nI j) = some (nI (rd (fun p => jb σ p 6) j 6).1, μ) := by
  have hT : ∀ p, p < 6 → (fun p => jb σ p 6) p < 64 := fun p _ => jb_lt σ p 6
  have h1 : fX9_joinedOf μ (nI j) = _ := joinedM_l4 hM hP h6 p6 hj gF 0 (by omega) (by simp [gF]; omega)
  rw [h1]
  by_cases hm : ∃ p, p < 6 ∧ (jb σ p 6).testBit j = true
  · have hb : b0 σ j P = 2 ^ j := by
      refine (b0_iff σ j P).mpr ?_
      obtain ⟨p, hp, hq⟩ := hm
      have hc := (jb_bit σ p 6 j (by omega)).mp hq
      refine ⟨p, ?_, hc⟩
      by_cases q : p < P
      · exact q
      · rw [cN_out hM (show j < 6 by omega) hp (Or.inr (by omega)) h6] at hc
        omega
    rw [hb]
    have hs := shl1 j (by omega)
    have h2p : 0 < 2 ^ j := Nat.two_pow_pos j
    obtain ⟨X, x1, x2⟩ := joinedM_l43 hM hJ hP h6 p6 gF (2 ^ j) 0 hs.2.1 (by omega) (by simp [gF]; have := pc_le _ hs.2.1; split <;> omega) (sb.rf _) (fun q => by omega) (fun Z _ h => h)
    have e := isC_eq x2 (rd_comp hT (show j < 6 by omega) hm)
    rw [← e]
    exact x1
  · have hb : b0 σ j P = 0 := by
      rcases b0_or σ j P with q | q
      · exact q
      · obtain ⟨p, hp, hc⟩ := (b0_iff σ j P).mp q
        exact absurd ⟨p, by omega, (jb_bit σ p 6 j (by omega)).mpr hc⟩ hm
    rw [hb, rd_none hm 6]
    rfl
end JM
theorem op_joined : Op_joined Inv := by
  intro σ μ hI a1
  obtain ⟨J, P, S, C, hN, hJ, hP, hM, hR⟩ := id hI
  obtain ⟨n1, n2, n3, n4, n5, n6, n7, n8, n9, n10, n11, n12⟩ := id hN
  unfold fX8_joined fX9_joined
  simp only [has_spec n5 n1, isJ_spec n6 n1, b_some, bI_ne0]
  by_cases c1 : 0 ≤ a1.toInt ∧ a1.toInt < J
  · rw [if_pos c1, if_pos c1]
    obtain ⟨j, hj, rfl⟩ := nI_ex c1 (by omega)
    rw [joinedC_spec σ (show j < 6 by omega), joinedM_spec hM n6 n8 n1 n2 hj]
    exact ⟨_, _, _, rfl, rfl, hI⟩
  · rw [if_neg c1, if_neg c1]
    exact ⟨_, _, _, rfl, rfl, hI⟩
theorem low_bit : ∀ b, b < 64 → ∀ j, j < 6 → ((nI b &&& (-nI b)) = ((1 : Int32) <<< (nI j &&& 31)) ↔ (b.testBit j = true ∧ (nI b &&& (((1 : Int32) <<< (nI j &&& 31)) - 1)) = 0)) := by decide +kernel
theorem parts_l {σ μ : St} {J P : Nat} (hM : IvM σ μ J P) (hJ1 : σ.2.1 0 = nI J) (hJ : μ.2.1 0 = nI J) (hP : μ.2.1 1 = nI P) (h6 : J ≤ 6) (p6 : P ≤ 6) : ∀ (n j : Nat) (x : Int32), j ≤ J → J - j < n → Rl σ μ (fX8_parts_l4 n σ x (nI j)) (fX9_parts_l4 n μ x (nI j)) := by
  have hT : ∀ p, p < 6 → (fun p => jb σ p 6) p < 64 := fun p _ => jb_lt σ p 6
  intro n
  induction n with
  | zero => intro j x h1 h2; omega
  | succ n ih =>
    intro j x h1 h2
    show Rl σ μ (fX8_parts_b4 (fX8_parts_l4 n) σ x (nI j)) (fX9_parts_b4 (fX9_parts_l4 n) μ x (nI j))
    unfold fX8_parts_b4 fX9_parts_b4 fX8_parts_b37 fX9_parts_b37 fX9_parts_b38
    rw [hJ1, hJ]
    by_cases hj : j = J
    · subst hj
      rw [if_pos (nI_le (Nat.le_refl j) (by omega)), if_pos (nI_le (Nat.le_refl j) (by omega))]
      exact ⟨_, rfl, rfl⟩
    · have hlt : j < J := by omega
      rw [if_neg (nI_ge hlt (by omega)), if_neg (nI_ge hlt (by omega)), joinedC_spec σ (show j < 6 by omega), joinedM_spec hM hJ hP h6 p6 hlt, b_some, b_some, show nI j + (1 : Int32) = nI (j + 1) from nI_1 j]
      dsimp only
      have hX := (rd_lt hT (show j < 6 by omega) 6).1
      have hl := low_bit _ hX j (by omega)
      have a0 : x + (0 : Int32) = x := by simp
      rw [a0]
      have hin : ¬ (rd (fun p => jb σ p 6) j 6).1 = 0 → (rd (fun p => jb σ p 6) j 6).1.testBit j = true := by
        intro h
        by_cases hm : ∃ p, p < 6 ∧ (jb σ p 6).testBit j = true
        · exact sb_pow.mp (rd_comp hT (show j < 6 by omega) hm).2.1
        · rw [rd_none hm 6] at h; exact absurd rfl h
      by_cases c0 : (rd (fun p => jb σ p 6) j 6).1 = 0
      · rw [if_neg (fun q => by have := (hl.mp q).1; rw [c0] at this; simp at this), if_pos ((nI_z (by omega)).mpr c0)]
        exact ih (j + 1) x (by omega) (by omega)
      · rw [if_neg (show ¬ nI (rd (fun p => jb σ p 6) j 6).1 = 0 from fun q => c0 ((nI_z (by omega)).mp q))]
        by_cases c1 : (nI (rd (fun p => jb σ p 6) j 6).1 &&& (((1 : Int32) <<< (nI j &&& 31)) - 1)) = 0
        · rw [if_pos (hl.mpr ⟨hin c0, c1⟩), if_pos c1]
          exact ih (j + 1) (x + 1) (by omega) (by omega)
        · rw [if_neg (fun q => c1 (hl.mp q).2), if_neg c1]
          exact ih (j + 1) x (by omega) (by omega)
theorem op_parts : Op_parts Inv := by
  intro σ μ hI
  obtain ⟨J, P, S, C, hN, hJ, hP, hM, hR⟩ := id hI
  obtain ⟨n1, n2, n3, n4, n5, n6, n7, n8, n9, n10, n11, n12⟩ := id hN
  obtain ⟨r, e1, e2⟩ := parts_l hM n5 n6 n8 n1 n2 gF 0 0 (by omega) (by simp [gF]; omega)
  exact ⟨r, σ, μ, e1, e2, hI⟩
