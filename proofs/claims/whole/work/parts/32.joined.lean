/-! ===== joined and parts: sets of judges as numbers below 64 ===== -/
theorem bw : ∀ a, a < 64 → ∀ b, b < 64 → nI a ||| nI b = nI (a ||| b) ∧ nI a &&& nI b = nI (a &&& b) ∧ a ||| b < 64 ∧ a &&& b < 64 := by decide +kernel
theorem pc_gr : ∀ a, a < 64 → ∀ b, b < 64 → a ||| b = b → a ≠ b → pc6 a < pc6 b := by decide +kernel
theorem pc_le : ∀ a, a < 64 → pc6 a ≤ 6 := by decide +kernel
theorem shl1 : ∀ j, j < 6 → (1 : Int32) <<< (nI j &&& 31) = nI (2 ^ j) ∧ 2 ^ j < 64 ∧ 1 ≤ pc6 (2 ^ j) := by decide +kernel
def sb (a b : Nat) : Prop := ∀ i, a.testBit i = true → b.testBit i = true
theorem sb.rf (a : Nat) : sb a a := fun _ h => h
theorem sb.tr {a b c : Nat} (h1 : sb a b) (h2 : sb b c) : sb a c := fun i h => h2 i (h1 i h)
theorem sb.l (a b : Nat) : sb a (a ||| b) := fun i h => by rw [Nat.testBit_or, h]; rfl
theorem sb.r (a b : Nat) : sb b (a ||| b) := fun i h => by rw [Nat.testBit_or, h]; simp
theorem sb.or {a b c : Nat} (h1 : sb a c) (h2 : sb b c) : sb (a ||| b) c := fun i h => by
  rw [Nat.testBit_or, Bool.or_eq_true] at h
  exact h.elim (h1 i) (h2 i)
theorem sb.eq {a b : Nat} (h1 : sb a b) (h2 : sb b a) : a = b := Nat.eq_of_testBit_eq fun i => by
  cases ha : a.testBit i with
  | true => rw [h1 i ha]
  | false =>
    cases hb : b.testBit i with
    | true => rw [h2 i hb] at ha; cases ha
    | false => rfl
theorem sb.z (b : Nat) : sb 0 b := fun i h => by simp at h
theorem and_ne {a b : Nat} : a &&& b ≠ 0 ↔ ∃ i, a.testBit i = true ∧ b.testBit i = true := by
  constructor
  · intro h
    obtain ⟨i, hi⟩ := Nat.exists_testBit_of_ne_zero h
    rw [Nat.testBit_and, Bool.and_eq_true] at hi
    exact ⟨i, hi⟩
  · rintro ⟨i, h1, h2⟩ q
    have : (a &&& b).testBit i = true := by rw [Nat.testBit_and, h1, h2]; rfl
    rw [q] at this
    simp at this
theorem and_mono {t a b : Nat} (h : sb a b) (q : t &&& a ≠ 0) : t &&& b ≠ 0 := by
  obtain ⟨i, h1, h2⟩ := and_ne.mp q
  exact and_ne.mpr ⟨i, h1, h i h2⟩
theorem or_of_sb {a b : Nat} (h : sb a b) : a ||| b = b := sb.eq (sb.or h (sb.rf b)) (sb.r a b)
theorem sb_pow {j X : Nat} : sb (2 ^ j) X ↔ X.testBit j = true := by
  constructor
  · intro h; exact h j (by simp)
  · intro h i hi
    rw [Nat.testBit_two_pow] at hi
    have : j = i := by simpa using hi
    rw [← this]; exact h
def clo (T : Nat → Nat) (X : Nat) : Prop := ∀ p, p < 6 → T p &&& X ≠ 0 → sb (T p) X
/-- the part of j: closed, with j, and within every such -/
def isC (T : Nat → Nat) (j X : Nat) : Prop := X < 64 ∧ sb (2 ^ j) X ∧ clo T X ∧ ∀ Z, clo T Z → sb (2 ^ j) Z → sb X Z
theorem isC_eq {T : Nat → Nat} {j X Y : Nat} (h1 : isC T j X) (h2 : isC T j Y) : X = Y := sb.eq (h1.2.2.2 Y h2.2.2.1 h2.2.1) (h2.2.2.2 X h1.2.2.1 h1.2.1)
def cr (T : Nat → Nat) (N P0 : Nat) : Nat → Nat
  | 0 => P0
  | k + 1 => if T k &&& N = 0 then cr T N P0 k else cr T N P0 k ||| T k
theorem cr_lt {T : Nat → Nat} (hT : ∀ p, p < 6 → T p < 64) {N P0 : Nat} (h0 : P0 < 64) : ∀ k, k ≤ 6 → cr T N P0 k < 64 := by
  intro k
  induction k with
  | zero => intro _; exact h0
  | succ k ih =>
    intro h
    simp only [cr]
    by_cases c : T k &&& N = 0
    · rw [if_pos c]; exact ih (by omega)
    · rw [if_neg c]; exact (bw _ (ih (by omega)) _ (hT k (by omega))).2.2.1
theorem cr_up (T : Nat → Nat) (N P0 : Nat) : ∀ k, sb P0 (cr T N P0 k) := by
  intro k
  induction k with
  | zero => exact sb.rf _
  | succ k ih =>
    simp only [cr]
    by_cases c : T k &&& N = 0
    · rw [if_pos c]; exact ih
    · rw [if_neg c]; exact ih.tr (sb.l _ _)
theorem cr_in (T : Nat → Nat) (N P0 : Nat) : ∀ k p, p < k → T p &&& N ≠ 0 → sb (T p) (cr T N P0 k) := by
  intro k
  induction k with
  | zero => intro p h; omega
  | succ k ih =>
    intro p hp hn
    simp only [cr]
    by_cases c : T k &&& N = 0
    · rw [if_pos c]
      by_cases hpk : p = k
      · subst hpk; exact absurd c hn
      · exact ih p (by omega) hn
    · rw [if_neg c]
      by_cases hpk : p = k
      · subst hpk; exact sb.r _ _
      · exact (ih p (by omega) hn).tr (sb.l _ _)
theorem cr_min {T : Nat → Nat} {N P0 Z : Nat} (h0 : sb P0 Z) : ∀ k, (∀ p, p < k → T p &&& N ≠ 0 → sb (T p) Z) → sb (cr T N P0 k) Z := by
  intro k
  induction k with
  | zero => intro _; exact h0
  | succ k ih =>
    intro h
    simp only [cr]
    by_cases c : T k &&& N = 0
    · rw [if_pos c]; exact ih (fun p hp => h p (by omega))
    · rw [if_neg c]; exact sb.or (ih (fun p hp => h p (by omega))) (h k (by omega) c)
/-- the class's rounds: the part, and next -/
def rd (T : Nat → Nat) (j : Nat) : Nat → Nat × Nat
  | 0 => (0, 2 ^ j)
  | r + 1 => (cr T (rd T j r).2 (rd T j r).1 6, (rd T j r).2 ||| cr T (rd T j r).2 (rd T j r).1 6)
theorem rd_lt {T : Nat → Nat} (hT : ∀ p, p < 6 → T p < 64) {j : Nat} (hj : j < 6) : ∀ r, (rd T j r).1 < 64 ∧ (rd T j r).2 < 64 := by
  intro r
  induction r with
  | zero => exact ⟨by simp [rd], (shl1 j hj).2.1⟩
  | succ r ih =>
    have h1 := cr_lt hT (N := (rd T j r).2) ih.1 6 (Nat.le_refl 6)
    exact ⟨h1, (bw _ ih.2 _ h1).2.2.1⟩
theorem rd_facts (T : Nat → Nat) (j : Nat) : ∀ r, sb (2 ^ j) (rd T j r).2 ∧ sb (rd T j r).1 (rd T j r).2 ∧ sb (rd T j r).2 (2 ^ j ||| (rd T j r).1) ∧ ∀ Z, clo T Z → sb (2 ^ j) Z → sb (rd T j r).2 Z := by
  intro r
  induction r with
  | zero => exact ⟨sb.rf _, sb.z _, sb.l _ _, fun Z _ h => h⟩
  | succ r ih =>
    obtain ⟨a, b, c, d⟩ := ih
    refine ⟨a.tr (sb.l _ _), sb.r _ _, ?_, fun Z hZ hj => ?_⟩
    · refine sb.or (c.tr (sb.or (sb.l _ _) ?_)) (sb.r _ _)
      exact (cr_up T (rd T j r).2 (rd T j r).1 6).tr (sb.r _ _)
    · have h1 := d Z hZ hj
      exact sb.or h1 (cr_min (b.tr h1) 6 (fun p hp hn => hZ p hp (and_mono h1 hn)))
theorem rd_grow (T : Nat → Nat) (j r : Nat) : sb (rd T j r).2 (rd T j (r + 1)).2 := sb.l _ _
theorem rd_stop {T : Nat → Nat} {j r : Nat} (h : (rd T j (r + 1)).2 = (rd T j r).2) : clo T (rd T j r).2 := by
  intro p hp hn
  have h1 := cr_in T (rd T j r).2 (rd T j r).1 6 p hp hn
  have h2 : sb (rd T j (r + 1)).1 (rd T j (r + 1)).2 := (rd_facts T j (r + 1)).2.1
  rw [← h]
  exact h1.tr h2
theorem rd_still {T : Nat → Nat} {j r : Nat} (h : clo T (rd T j r).2) : (rd T j (r + 1)).2 = (rd T j r).2 := by
  refine sb.eq (sb.or (sb.rf _) ?_) (sb.l _ _)
  exact cr_min (rd_facts T j r).2.1 6 (fun p hp hn => h p hp hn)
theorem rd_closed {T : Nat → Nat} (hT : ∀ p, p < 6 → T p < 64) {j : Nat} (hj : j < 6) : clo T (rd T j 5).2 := by
  have key : ∀ r, r ≤ 5 → clo T (rd T j r).2 ∨ r + 1 ≤ pc6 (rd T j r).2 := by
    intro r
    induction r with
    | zero => intro _; exact Or.inr (shl1 j hj).2.2
    | succ r ih =>
      intro hr
      rcases ih (by omega) with h | h
      · left
        rw [rd_still h]; exact h
      · by_cases e : (rd T j (r + 1)).2 = (rd T j r).2
        · left
          rw [e]; exact rd_stop e
        · right
          have := pc_gr _ (rd_lt hT hj r).2 _ (rd_lt hT hj (r + 1)).2 (or_of_sb (rd_grow T j r)) (fun q => e q.symm)
          omega
  rcases key 5 (Nat.le_refl 5) with h | h
  · exact h
  · by_cases e : (rd T j 6).2 = (rd T j 5).2
    · exact rd_stop e
    · have h1 := pc_gr _ (rd_lt hT hj 5).2 _ (rd_lt hT hj 6).2 (or_of_sb (rd_grow T j 5)) (fun q => e q.symm)
      have h2 := pc_le _ (rd_lt hT hj 6).2
      omega
theorem rd_comp {T : Nat → Nat} (hT : ∀ p, p < 6 → T p < 64) {j : Nat} (hj : j < 6) (hm : ∃ p, p < 6 ∧ (T p).testBit j = true) : isC T j (rd T j 6).1 := by
  have hc := rd_closed hT hj
  have e := rd_still hc
  have hN : (rd T j 6).2 = (rd T j 5).2 := e
  obtain ⟨f1, f2, f3, f4⟩ := rd_facts T j 6
  obtain ⟨p, hp, hpj⟩ := hm
  have g1 : (rd T j 5).2.testBit j = true := sb_pow.mp (rd_facts T j 5).1
  have hin : sb (T p) (rd T j 6).1 := cr_in T (rd T j 5).2 (rd T j 5).1 6 p hp (and_ne.mpr ⟨j, hpj, g1⟩)
  have hj1 : sb (2 ^ j) (rd T j 6).1 := sb_pow.mpr (hin j hpj)
  have heq : (rd T j 6).1 = (rd T j 6).2 := sb.eq f2 (f3.tr (sb.or hj1 (sb.rf _)))
  refine ⟨(rd_lt hT hj 6).1, hj1, ?_, fun Z hZ hz => f2.tr (f4 Z hZ hz)⟩
  rw [heq, hN]
  exact hc
theorem rd_none {T : Nat → Nat} {j : Nat} (hm : ¬ ∃ p, p < 6 ∧ (T p).testBit j = true) : ∀ r, rd T j r = (0, 2 ^ j) := by
  intro r
  induction r with
  | zero => rfl
  | succ r ih =>
    have z : ∀ k, k ≤ 6 → cr T (2 ^ j) 0 k = 0 := by
      intro k
      induction k with
      | zero => intro _; rfl
      | succ k ihk =>
        intro hk
        simp only [cr]
        rw [if_pos, ihk (by omega)]
        by_cases c : T k &&& 2 ^ j = 0
        · exact c
        · obtain ⟨i, h1, h2⟩ := and_ne.mp c
          rw [Nat.testBit_two_pow] at h2
          have : j = i := by simpa using h2
          exact absurd ⟨k, by omega, by rw [this]; exact h1⟩ hm
    simp only [rd, ih, z 6 (Nat.le_refl 6)]
    simp
/-! the class -/
theorem joinedC_l19 {σ : St} {rc : St → Int32 → Int32 → Int32 → Option (Int32 × St)} (x4 : Int32) {N P0 : Nat} (hN : N < 64) (hP : P0 < 64) : ∀ (n k : Nat), k ≤ 6 → 6 - k < n → fX1_joinedWith_l19 rc n σ (nI (cr (fun p => jb σ p 6) N P0 k)) (nI N) x4 (nI k) = rc σ (nI (cr (fun p => jb σ p 6) N P0 6)) (nI (N ||| cr (fun p => jb σ p 6) N P0 6)) (x4 + 1) := by
  have hT : ∀ p, p < 6 → (fun p => jb σ p 6) p < 64 := fun p _ => jb_lt σ p 6
  intro n
  induction n with
  | zero => intro k h1 h2; omega
  | succ n ih =>
    intro k h1 h2
    show fX1_joinedWith_b19 rc (fX1_joinedWith_l19 rc n) σ (nI (cr (fun p => jb σ p 6) N P0 k)) (nI N) x4 (nI k) = _
    unfold fX1_joinedWith_b19 fX1_joinedWith_b46
    have hc := cr_lt hT (N := N) hP k h1
    by_cases hk : k = 6
    · subst hk
      rw [if_pos (show (6 : Int32) ≤ nI 6 by decide), (bw _ hN _ hc).1]
    · have hlt : k < 6 := by omega
      have hj := jb_lt σ k 6
      rw [if_neg (show ¬ (6 : Int32) ≤ nI k from nI_ge (b := 6) hlt (by omega)), judgesOf_spec σ hlt, b_some, show nI k + (1 : Int32) = nI (k + 1) from nI_1 k, ← ih (k + 1) (by omega) (by omega)]
      dsimp only
      rw [(bw _ hj _ hN).2.1, (bw _ hc _ hj).1]
      simp only [cr]
      have hz := nI_z (n := jb σ k 6 &&& N) (by have := (bw _ hj _ hN).2.2.2; omega)
      by_cases c : jb σ k 6 &&& N = 0
      · rw [if_pos (hz.mpr c), if_pos c]
      · rw [if_neg (fun q => c (hz.mp q)), if_neg c]
theorem joinedC_l9 {σ : St} {j : Nat} (hj : j < 6) : ∀ (n r : Nat), r ≤ 6 → 6 - r < n → fX1_joinedWith_l9 n σ (nI (rd (fun p => jb σ p 6) j r).1) (nI (rd (fun p => jb σ p 6) j r).2) (nI r) = some (nI (rd (fun p => jb σ p 6) j 6).1, σ) := by
  have hT : ∀ p, p < 6 → (fun p => jb σ p 6) p < 64 := fun p _ => jb_lt σ p 6
  intro n
  induction n with
  | zero => intro r h1 h2; omega
  | succ n ih =>
    intro r h1 h2
    show fX1_joinedWith_b9 (fX1_joinedWith_l9 n) σ (nI (rd (fun p => jb σ p 6) j r).1) (nI (rd (fun p => jb σ p 6) j r).2) (nI r) = _
    unfold fX1_joinedWith_b9
    by_cases hr : r = 6
    · subst hr
      rw [if_pos (show (6 : Int32) ≤ nI 6 by decide)]
    · have hlt : r < 6 := by omega
      rw [if_neg (show ¬ (6 : Int32) ≤ nI r from nI_ge (b := 6) hlt (by omega))]
      have := joinedC_l19 (σ := σ) (rc := fX1_joinedWith_l9 n) (nI r) (rd_lt hT hj r).2 (rd_lt hT hj r).1 gF 0 (by omega) (by simp [gF])
      refine (show _ = _ from this).trans ?_
      rw [show nI r + (1 : Int32) = nI (r + 1) from nI_1 r]
      exact ih (r + 1) (by omega) (by omega)
theorem joinedC_spec (σ : St) {j : Nat} (hj : j < 6) : fX1_joinedWith σ (nI j) = some (nI (rd (fun p => jb σ p 6) j 6).1, σ) := by
  have := joinedC_l9 (σ := σ) hj gF 0 (by omega) (by simp [gF])
  unfold fX1_joinedWith
  rw [(shl1 j hj).1]
  exact this
