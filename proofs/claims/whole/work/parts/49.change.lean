/-! ===== match: the end of a chain, and the change along it ===== -/
theorem best_l {σ σ' : St} {J l : Nat} (hn : σ'.2.1 0 = nI J) (h6 : J ≤ 6) (hl : l < 100) {ld : Nat → Nat} (hld : ∀ j, j < 6 → σ'.1 29 j = nI (ld j)) (hl6 : ∀ j, j < 6 → ld j < 100) (hv : ∀ j, j < J → UU ≤ vl σ' (6 + j)) : ∀ (n j : Nat) (b : Int32) (m : Int64), j ≤ J → J - j < n → ((b = -6 ∧ m.toInt = UU ∧ ∀ i, i < j → ld i < l → vl σ' (6 + i) = UU) ∨ (∃ i, i < j ∧ b = nI i ∧ ld i < l ∧ m.toInt = vl σ' (6 + i) ∧ ¬ vl σ' (6 + i) = UU ∧ ∀ i', i' < j → ld i' < l → vl σ' (6 + i') ≤ vl σ' (6 + i))) → ∃ r, fX2_bestEnd_l10 n σ' (nI l) b m (nI j) = some (r, σ') ∧ ((r = -6 ∧ ∀ i, i < J → ld i < l → vl σ' (6 + i) = UU) ∨ (∃ i, i < J ∧ r = nI i ∧ ld i < l ∧ ¬ vl σ' (6 + i) = UU ∧ ∀ i', i' < J → ld i' < l → vl σ' (6 + i') ≤ vl σ' (6 + i))) := by
  intro n
  induction n with
  | zero => intro j b m h1 h2; omega
  | succ n ih =>
    intro j b m h1 h2 hI
    show ∃ r, fX2_bestEnd_b10 (fX2_bestEnd_l10 n) σ' (nI l) b m (nI j) = _ ∧ _
    unfold fX2_bestEnd_b10 fX2_bestEnd_b56
    rw [hn]
    by_cases h : j = J
    · subst h
      rw [if_pos (nI_le (Nat.le_refl j) (by omega))]
      refine ⟨b, rfl, ?_⟩
      rcases hI with ⟨a1, a2, a3⟩ | ⟨i, a1, a2, a3, a4, a5, a6⟩
      · exact Or.inl ⟨a1, a3⟩
      · exact Or.inr ⟨i, a1, a2, a3, a5, a6⟩
    · have hj6 : j < 6 := by omega
      have h100 := hl6 j hj6
      have hvj := hv j (by omega)
      rw [if_neg (nI_ge (show j < J by omega) (by omega)), if_pos (ib_nI hj6 (by omega)), if_pos (ib_nI hj6 (by omega)), if_pos (ib_nI hj6 (by omega)), nI_clamp (n := j) (by omega), hld j hj6, show nI j + (1 : Int32) = nI (j + 1) from nI_1 j]
      have ez : (σ'.2.2 31 j).toInt = vl σ' (6 + j) := (vl_J σ' j).symm
      by_cases c : l ≤ ld j
      · rw [if_pos (nI_le c (by omega))]
        refine ih (j + 1) b m (by omega) (by omega) ?_
        rcases hI with ⟨a1, a2, a3⟩ | ⟨i, a1, a2, a3, a4, a5, a6⟩
        · refine Or.inl ⟨a1, a2, fun i hi hq => ?_⟩
          by_cases q : i = j
          · subst q; omega
          · exact a3 i (by omega) hq
        · refine Or.inr ⟨i, by omega, a2, a3, a4, a5, fun i' hi hq => ?_⟩
          by_cases q : i' = j
          · subst q; omega
          · exact a6 i' (by omega) hq
      · rw [if_neg (nI_ge (by omega) (by omega))]
        by_cases d : lg_cmp (σ'.2.2 31 j) m ≤ 0
        · rw [if_pos d]
          have d' : vl σ' (6 + j) ≤ m.toInt := by
            have : ¬ 0 < lg_cmp (σ'.2.2 31 j) m := fun q => by
              have q1 := Int32.lt_iff_toInt_lt.mp q
              have q2 := Int32.le_iff_toInt_le.mp d
              omega
            have : ¬ m.toInt < (σ'.2.2 31 j).toInt := fun q => this ((lgt _ _).mpr q)
            omega
          refine ih (j + 1) b m (by omega) (by omega) ?_
          rcases hI with ⟨a1, a2, a3⟩ | ⟨i, a1, a2, a3, a4, a5, a6⟩
          · refine Or.inl ⟨a1, a2, fun i hi hq => ?_⟩
            by_cases q : i = j
            · subst q; omega
            · exact a3 i (by omega) hq
          · refine Or.inr ⟨i, by omega, a2, a3, a4, a5, fun i' hi hq => ?_⟩
            by_cases q : i' = j
            · subst q; omega
            · exact a6 i' (by omega) hq
        · rw [if_neg d]
          have d' : m.toInt < vl σ' (6 + j) := by
            have : 0 < lg_cmp (σ'.2.2 31 j) m := by
              refine Int32.lt_iff_toInt_lt.mpr ?_
              have : ¬ (lg_cmp (σ'.2.2 31 j) m).toInt ≤ (0 : Int32).toInt := fun q => d (Int32.le_iff_toInt_le.mpr q)
              omega
            have := (lgt _ _).mp this
            omega
          refine ih (j + 1) (nI j) (σ'.2.2 31 j) (by omega) (by omega) ?_
          right
          refine ⟨j, by omega, rfl, by omega, ez, ?_, fun i' hi hq => ?_⟩
          · rcases hI with ⟨a1, a2, a3⟩ | ⟨i, a1, a2, a3, a4, a5, a6⟩
            · omega
            · have := hv i (by omega)
              omega
          · by_cases q : i' = j
            · subst q; exact Int.le_refl _
            · rcases hI with ⟨a1, a2, a3⟩ | ⟨i, a1, a2, a3, a4, a5, a6⟩
              · have := a3 i' (by omega) hq
                omega
              · have := a6 i' (by omega) hq
                omega
theorem best_spec {σ' : St} {J l : Nat} (hn : σ'.2.1 0 = nI J) (h6 : J ≤ 6) (hl : l < 100) {ld : Nat → Nat} (hld : ∀ j, j < 6 → σ'.1 29 j = nI (ld j)) (hl6 : ∀ j, j < 6 → ld j < 100) (hv : ∀ j, j < J → UU ≤ vl σ' (6 + j)) : ∃ r, fX2_bestEnd σ' (nI l) = some (r, σ') ∧ ((r = -6 ∧ ∀ i, i < J → ld i < l → vl σ' (6 + i) = UU) ∨ (∃ i, i < J ∧ r = nI i ∧ ld i < l ∧ ¬ vl σ' (6 + i) = UU ∧ ∀ i', i' < J → ld i' < l → vl σ' (6 + i') ≤ vl σ' (6 + i))) := best_l (σ := σ') hn h6 hl hld hl6 hv gF 0 (-6) (-1152921504606846976) (by omega) (by simp [gF]; omega) (Or.inl ⟨rfl, rfl, fun i h => absurd h (by omega)⟩)
/-! bits that are set and taken away -/
theorem addb_val : ∀ x, x < 64 → ∀ c, c < 6 → bt x c = 0 → ∀ j, j < 6 → bt (x + 2 ^ c) j = if j = c then 1 else bt x j := by decide +kernel
theorem delb_val : ∀ x, x < 64 → ∀ c, c < 6 → bt x c = 1 → ∀ j, j < 6 → bt (x - bt x c * 2 ^ c) j = if j = c then 0 else bt x j := by decide +kernel
theorem sN_inc (f g : Nat → Nat) (i : Nat) : ∀ n, (∀ j, j < n → g j = if j = i then f j + 1 else f j) → sN g n = sN f n + (if i < n then 1 else 0) := by
  intro n
  induction n with
  | zero => intro _; rw [if_neg (by omega)]; rfl
  | succ n ih =>
    intro h
    simp only [sN]
    rw [ih (fun j hj => h j (by omega)), h n (by omega)]
    by_cases c : n = i
    · subst c
      rw [if_pos rfl, if_neg (show ¬ n < n by omega), if_pos (show n < n + 1 by omega)]
      omega
    · rw [if_neg c]
      by_cases d : i < n
      · rw [if_pos d, if_pos (show i < n + 1 by omega)]; omega
      · rw [if_neg d, if_neg (show ¬ i < n + 1 by omega)]; omega
theorem flip_add {s : Nat → Nat} {P J p c : Nat} (hp : p < P) (hc : c < J) (j6 : J ≤ 6) (h64 : s p < 64) (hb : bt (s p) c = 0) : (∀ q j, j < 6 → bt (up s p (s p + 2 ^ c) q) j = if q = p ∧ j = c then 1 else bt (s q) j) ∧ (∀ q, sN (fun j => bt (up s p (s p + 2 ^ c) q) j) J = sN (fun j => bt (s q) j) J + (if q = p then 1 else 0)) ∧ (∀ j, j < J → sN (fun q => bt (up s p (s p + 2 ^ c) q) j) P = sN (fun q => bt (s q) j) P + (if j = c then 1 else 0)) := by
  have h1 : ∀ q j, j < 6 → bt (up s p (s p + 2 ^ c) q) j = if q = p ∧ j = c then 1 else bt (s q) j := by
    intro q j hj
    by_cases e : q = p
    · subst e
      rw [up_s, addb_val _ h64 c (by omega) hb j hj]
      by_cases e2 : j = c
      · rw [if_pos e2, if_pos ⟨rfl, e2⟩]
      · rw [if_neg e2, if_neg (fun z => e2 z.2)]
    · rw [up_n _ _ e, if_neg (fun z => e z.1)]
  refine ⟨h1, ?_, ?_⟩
  · intro q
    by_cases e : q = p
    · subst e
      rw [if_pos rfl, sN_inc (fun j => bt (s q) j) (fun j => bt (up s q (s q + 2 ^ c) q) j) c J (fun j hj => by
        show bt (up s q (s q + 2 ^ c) q) j = if j = c then bt (s q) j + 1 else bt (s q) j
        rw [h1 q j (by omega)]
        by_cases e2 : j = c
        · rw [if_pos ⟨rfl, e2⟩, if_pos e2, e2, hb]
        · rw [if_neg (fun z => e2 z.2), if_neg e2]), if_pos hc]
    · rw [if_neg e, up_n _ _ e]
      rfl
  · intro j hj
    by_cases e : j = c
    · subst e
      rw [if_pos rfl, sN_inc (fun q => bt (s q) j) (fun q => bt (up s p (s p + 2 ^ j) q) j) p P (fun q hq => by
        show bt (up s p (s p + 2 ^ j) q) j = if q = p then bt (s q) j + 1 else bt (s q) j
        rw [h1 q j (by omega)]
        by_cases e2 : q = p
        · rw [if_pos ⟨e2, rfl⟩, if_pos e2, e2, hb]
        · rw [if_neg (fun z => e2 z.1), if_neg e2]), if_pos hp]
    · rw [if_neg e, Nat.add_zero]
      exact sN_congr P (fun q hq => by rw [h1 q j (by omega), if_neg (fun z => e z.2)])
theorem flip_del {s : Nat → Nat} {P J p c : Nat} (hp : p < P) (hc : c < J) (j6 : J ≤ 6) (h64 : s p < 64) (hb : bt (s p) c = 1) : (∀ q j, j < 6 → bt (up s p (s p - bt (s p) c * 2 ^ c) q) j = if q = p ∧ j = c then 0 else bt (s q) j) ∧ (∀ q, sN (fun j => bt (up s p (s p - bt (s p) c * 2 ^ c) q) j) J + (if q = p then 1 else 0) = sN (fun j => bt (s q) j) J) ∧ (∀ j, j < J → sN (fun q => bt (up s p (s p - bt (s p) c * 2 ^ c) q) j) P + (if j = c then 1 else 0) = sN (fun q => bt (s q) j) P) := by
  have h1 : ∀ q j, j < 6 → bt (up s p (s p - bt (s p) c * 2 ^ c) q) j = if q = p ∧ j = c then 0 else bt (s q) j := by
    intro q j hj
    by_cases e : q = p
    · subst e
      rw [up_s, delb_val _ h64 c (by omega) hb j hj]
      by_cases e2 : j = c
      · rw [if_pos e2, if_pos ⟨rfl, e2⟩]
      · rw [if_neg e2, if_neg (fun z => e2 z.2)]
    · rw [up_n _ _ e, if_neg (fun z => e z.1)]
  refine ⟨h1, ?_, ?_⟩
  · intro q
    by_cases e : q = p
    · subst e
      rw [if_pos rfl]
      have := sN_inc (fun j => bt (up s q (s q - bt (s q) c * 2 ^ c) q) j) (fun j => bt (s q) j) c J (fun j hj => by
        show bt (s q) j = if j = c then bt (up s q (s q - bt (s q) c * 2 ^ c) q) j + 1 else bt (up s q (s q - bt (s q) c * 2 ^ c) q) j
        rw [h1 q j (by omega)]
        by_cases e2 : j = c
        · rw [if_pos e2, if_pos ⟨rfl, e2⟩, e2, hb]
        · rw [if_neg e2, if_neg (fun z => e2 z.2)])
      rw [if_pos hc] at this
      exact this.symm
    · rw [if_neg e, up_n _ _ e]
      rfl
  · intro j hj
    by_cases e : j = c
    · subst e
      rw [if_pos rfl]
      have := sN_inc (fun q => bt (up s p (s p - bt (s p) j * 2 ^ j) q) j) (fun q => bt (s q) j) p P (fun q hq => by
        show bt (s q) j = if q = p then bt (up s p (s p - bt (s p) j * 2 ^ j) q) j + 1 else bt (up s p (s p - bt (s p) j * 2 ^ j) q) j
        rw [h1 q j (by omega)]
        by_cases e2 : q = p
        · rw [if_pos e2, if_pos ⟨e2, rfl⟩, e2, hb]
        · rw [if_neg e2, if_neg (fun z => e2 z.1)])
      rw [if_pos hp] at this
      exact this.symm
    · rw [if_neg e, Nat.add_zero]
      exact sN_congr P (fun q hq => by rw [h1 q j (by omega), if_neg (fun z => e z.2)])
theorem Pot_flip {σ : St} {P J : Nat} {s s' : Nat → Nat} {Pi : Nat → Int} (h : Pot (Ec σ P J s) Pi) (hf : ∀ q j, q < P → j < J → bt (s' q) j = bt (s q) j ∨ Pi (6 + j) = Pi q + wI σ q j) : Pot (Ec σ P J s') Pi := by
  rintro a b u v g ⟨h1, h2, h3⟩
  rcases hf a b h1 h2 with e | e
  · rw [e] at h3
    exact h a b u v g ⟨h1, h2, h3⟩
  · rcases h3 with ⟨k1, k2, k3, k4⟩ | ⟨k1, k0, k2, k3, k4⟩
    · subst k2
      subst k3
      subst k4
      omega
    · subst k2
      subst k3
      subst k4
      omega
