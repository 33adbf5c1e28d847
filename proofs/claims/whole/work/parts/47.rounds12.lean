theorem Fr.rf (σ : St) : Fr σ σ := ⟨sameC.rf σ, rfl, rfl, rfl⟩
theorem Fr.tr {a b c : St} (h1 : Fr a b) (h2 : Fr b c) : Fr a c := ⟨h1.1.tr h2.1, h2.2.1.trans h1.2.1, h2.2.2.1.trans h1.2.2.1, h2.2.2.2.trans h1.2.2.2⟩
/-- the state in the midst of a round of the spreading -/
def SI (E : Nat → Nat → Nat → Nat → Int → Prop) (Pi : Nat → Int) (rt : Nat → Prop) (σb : St) (i p q N : Nat) (x1 : Int32) (σ' : St) : Prop := Fr σb σ' ∧ (x1 = 0 ∨ x1 = 1) ∧ ∃ n, n ≤ N ∧ BI E Pi rt i p q (x1 = 1) n (vl σ') (pl σ')
theorem relax {σ σb σ' μ : St} {J P S C : Nat} (hN : IvN σ μ J P S C) (hP : IvP σ μ J P) (h0 : sameC σ σb) {s : Nat → Nat} (hset : ∀ p, p < 6 → σb.1 27 p = nI (s p)) (h64 : ∀ p, p < 6 → s p < 64) {Pi : Nat → Int} (hPot : Pot (Ec σ P J s) Pi) {rt : Nat → Prop} {r p j : Nat} (hr : r < 12) (hp : p < P) (hj : j < J) {x1 : Int32} {N : Nat} (hNl : N < 1000) (hI : SI (Ec σ P J s) Pi rt σb (r + 1) p j N x1 σ') (rc68 : St → Int32 → Int32 → Option (Unit × St)) (rc82 : St → Int32 → Int32 → Int32 → Option (Unit × St)) (rc96 : St → Int32 → Int32 → Int32 → Int32 → Option (Unit × St)) : ∃ σ'' x1', fX2_spreadChains_b96 rc68 rc82 rc96 σ' x1 (nI r) (nI p) (nI j) = rc96 σ'' x1' (nI r) (nI p) (nI (j + 1)) ∧ (x1' = 1 → x1 = 1 ∨ r + 1 < 12) ∧ SI (Ec σ P J s) Pi rt σb (r + 1) p (j + 1) (N + 1) x1' σ'' := by
  obtain ⟨n1, n2, n3, n4, n5, n6, n7, n8, n9, n10, n11, n12⟩ := id hN
  obtain ⟨hF, hx, n, hn, hB⟩ := hI
  have hs' := h0.tr hF.1
  have hE := Ec_ok hP n1 n2 s
  have hbd : ∀ v, v < 12 → ¬ vl σ' v = UU → -274877906944000 ≤ vl σ' v ∧ vl σ' v ≤ 274877906944000 := by
    obtain ⟨A, rd, t, T, h1, h2, h3, h4, h5, h6, h7⟩ := hB
    intro v hv hq
    have := h6 v hv hq
    omega
  unfold fX2_spreadChains_b96 fX2_spreadChains_b140
  have hb := bt_lt (s p) j
  rw [hs'.2 0 (by omega), n5, if_neg (nI_ge hj (by omega)), if_pos (ib_nI (show p < 6 by omega) (by omega)), nI_clamp (n := p) (by omega), hF.2.1, hset p (by omega), hasBit_spec σ' (h64 p (by omega)) (show j < 6 by omega), b_some, show nI j + (1 : Int32) = nI (j + 1) from nI_1 j]
  dsimp only
  have or0 : x1 ||| 0 = x1 := or_zero x1
  have or1 : x1 ||| 1 = 1 := by
    rcases hx with rfl | rfl <;> decide
  by_cases c : bt (s p) j = 0
  · rw [if_pos ((nI_z (by omega)).mpr c)]
    rcases giveTo_spec hs' n5 hP n1 n2 hp hj (hbd p (by omega)) with ⟨e1, e2⟩ | ⟨σ2, e1, e2, e3, e4, e5, e6, e7⟩
    · rw [e1, b_some]
      dsimp only
      rw [or0]
      refine ⟨σ', x1, rfl, fun q => Or.inl q, hF, hx, n, by omega, BI_skip hB ?_⟩
      rintro u v g ⟨k1, k2, k3⟩ hu
      rcases k3 with ⟨k3, k4, k5, k6⟩ | ⟨k3, k0, k4, k5, k6⟩
      · omega
      · subst k4
        subst k5
        subst k6
        exact e2 k0 hu
    · rw [e1, b_some]
      dsimp only
      rw [or1]
      obtain ⟨b1, b2⟩ := BI_imp hE hPot (show n < 1000 by omega) hB (u := p) (v := 6 + j) (g := wI σ p j) ⟨hp, hj, Or.inr ⟨c, e3, rfl, rfl, rfl⟩⟩ e4 e5
      refine ⟨σ2, 1, rfl, fun _ => Or.inr b2, hF.tr e2, Or.inr rfl, n + 1, by omega, ?_⟩
      rw [e6, e7]
      exact BI_more ⟨fun _ => trivial, fun _ => rfl⟩ (Nat.le_refl _) b1
  · rw [if_neg (fun q => c ((nI_z (by omega)).mp q))]
    rcases giveUp_spec hs' hP n1 n2 hp hj (hbd (6 + j) (by omega)) with ⟨e1, e2⟩ | ⟨σ2, e1, e2, e4, e5, e6, e7⟩
    · rw [e1, b_some]
      dsimp only
      rw [or0]
      refine ⟨σ', x1, rfl, fun q => Or.inl q, hF, hx, n, by omega, BI_skip hB ?_⟩
      rintro u v g ⟨k1, k2, k3⟩ hu
      rcases k3 with ⟨k3, k4, k5, k6⟩ | ⟨k3, k0, k4, k5, k6⟩
      · subst k4
        subst k5
        subst k6
        exact e2 hu
      · omega
    · rw [e1, b_some]
      dsimp only
      rw [or1]
      obtain ⟨b1, b2⟩ := BI_imp hE hPot (show n < 1000 by omega) hB (u := 6 + j) (v := p) (g := - wI σ p j) ⟨hp, hj, Or.inl ⟨by omega, rfl, rfl, rfl⟩⟩ e4 e5
      refine ⟨σ2, 1, rfl, fun _ => Or.inr b2, hF.tr e2, Or.inr rfl, n + 1, by omega, ?_⟩
      rw [e6, e7]
      exact BI_more ⟨fun _ => trivial, fun _ => rfl⟩ (Nat.le_refl _) b1
theorem sp_l96 {σ σb μ : St} {J P S C : Nat} (hN : IvN σ μ J P S C) (hP : IvP σ μ J P) (h0 : sameC σ σb) {s : Nat → Nat} (hset : ∀ p, p < 6 → σb.1 27 p = nI (s p)) (h64 : ∀ p, p < 6 → s p < 64) {Pi : Nat → Int} (hPot : Pot (Ec σ P J s) Pi) {rt : Nat → Prop} {r p : Nat} (hr : r < 12) (hp : p < P) {N : Nat} (hNl : N + J < 1000) (rc68 : St → Int32 → Int32 → Option (Unit × St)) (rc82 : St → Int32 → Int32 → Int32 → Option (Unit × St)) : ∀ (n j : Nat) (σ' : St) (x1 : Int32), j ≤ J → J - j < n → SI (Ec σ P J s) Pi rt σb (r + 1) p j (N + j) x1 σ' → ∃ σ'' x1', fX2_spreadChains_l96 rc68 rc82 n σ' x1 (nI r) (nI p) (nI j) = rc82 σ'' x1' (nI r) (nI (p + 1)) ∧ (x1' = 1 → x1 = 1 ∨ r + 1 < 12) ∧ SI (Ec σ P J s) Pi rt σb (r + 1) (p + 1) 0 (N + J) x1' σ'' := by
  obtain ⟨n1, n2, n3, n4, n5, n6, n7, n8, n9, n10, n11, n12⟩ := id hN
  intro n
  induction n with
  | zero => intro j σ' x1 h1 h2; omega
  | succ n ih =>
    intro j σ' x1 h1 h2 hI
    show ∃ σ'' x1', fX2_spreadChains_b96 rc68 rc82 (fX2_spreadChains_l96 rc68 rc82 n) σ' x1 (nI r) (nI p) (nI j) = _ ∧ _
    by_cases h : j = J
    · subst h
      unfold fX2_spreadChains_b96
      rw [(h0.tr hI.1.1).2 0 (by omega), n5, if_pos (nI_le (Nat.le_refl j) (by omega)), show nI p + (1 : Int32) = nI (p + 1) from nI_1 p]
      obtain ⟨k1, k2, m, k3, k4⟩ := hI
      exact ⟨σ', x1, rfl, fun q => Or.inl q, k1, k2, m, k3, BI_row (Ec_ok hP n1 n2 s) k4⟩
    · obtain ⟨σ1, x2, a1, a2, a3⟩ := relax hN hP h0 hset h64 hPot hr hp (show j < J by omega) (show N + j < 1000 by omega) hI rc68 rc82 (fX2_spreadChains_l96 rc68 rc82 n)
      obtain ⟨σ2, x3, b1, b2, b3⟩ := ih (j + 1) σ1 x2 (by omega) (by omega) a3
      refine ⟨σ2, x3, a1.trans b1, fun q => ?_, b3⟩
      rcases b2 q with b2 | b2
      · exact a2 b2
      · exact Or.inr b2
theorem sp_l82 {σ σb μ : St} {J P S C : Nat} (hN : IvN σ μ J P S C) (hP : IvP σ μ J P) (h0 : sameC σ σb) {s : Nat → Nat} (hset : ∀ p, p < 6 → σb.1 27 p = nI (s p)) (h64 : ∀ p, p < 6 → s p < 64) {Pi : Nat → Int} (hPot : Pot (Ec σ P J s) Pi) {rt : Nat → Prop} {r : Nat} (hr : r < 12) {N : Nat} (hNl : N + 36 < 1000) (rc68 : St → Int32 → Int32 → Option (Unit × St)) : ∀ (n p : Nat) (σ' : St) (x1 : Int32), p ≤ P → P - p < n → SI (Ec σ P J s) Pi rt σb (r + 1) p 0 (N + 6 * p) x1 σ' → ∃ σ'' x1', fX2_spreadChains_l82 rc68 n σ' x1 (nI r) (nI p) = rc68 σ'' x1' (nI (r + 1)) ∧ (x1' = 1 → x1 = 1 ∨ r + 1 < 12) ∧ SI (Ec σ P J s) Pi rt σb (r + 1) P 0 (N + 36) x1' σ'' := by
  obtain ⟨n1, n2, n3, n4, n5, n6, n7, n8, n9, n10, n11, n12⟩ := id hN
  intro n
  induction n with
  | zero => intro j σ' x1 h1 h2; omega
  | succ n ih =>
    intro p σ' x1 h1 h2 hI
    show ∃ σ'' x1', fX2_spreadChains_b82 rc68 (fX2_spreadChains_l82 rc68 n) σ' x1 (nI r) (nI p) = _ ∧ _
    unfold fX2_spreadChains_b82
    rw [(h0.tr hI.1.1).2 1 (by omega), n7]
    by_cases h : p = P
    · subst h
      rw [if_pos (nI_le (Nat.le_refl p) (by omega)), show nI r + (1 : Int32) = nI (r + 1) from nI_1 r]
      obtain ⟨k1, k2, m, k3, k4⟩ := hI
      exact ⟨σ', x1, rfl, fun q => Or.inl q, k1, k2, m, by omega, k4⟩
    · rw [if_neg (nI_ge (show p < P by omega) (by omega))]
      obtain ⟨σ1, x2, a1, a2, a3⟩ := sp_l96 hN hP h0 hset h64 hPot hr (show p < P by omega) (show N + 6 * p + J < 1000 by omega) rc68 (fX2_spreadChains_l82 rc68 n) gF 0 σ' x1 (by omega) (by simp [gF]; omega) hI
      obtain ⟨k1, k2, m, k3, k4⟩ := a3
      obtain ⟨σ2, x3, b1, b2, b3⟩ := ih (p + 1) σ1 x2 (by omega) (by omega) ⟨k1, k2, m, by omega, k4⟩
      refine ⟨σ2, x3, a1.trans b1, fun q => ?_, b3⟩
      rcases b2 q with b2 | b2
      · exact a2 b2
      · exact Or.inr b2
theorem sp_l68 {σ σb μ : St} {J P S C : Nat} (hN : IvN σ μ J P S C) (hP : IvP σ μ J P) (h0 : sameC σ σb) {s : Nat → Nat} (hset : ∀ p, p < 6 → σb.1 27 p = nI (s p)) (h64 : ∀ p, p < 6 → s p < 64) {Pi : Nat → Int} (hPot : Pot (Ec σ P J s) Pi) {rt : Nat → Prop} : ∀ (n r : Nat) (σ' : St) (x1 : Int32), r ≤ 12 → 12 - r < n → (x1 = 1 → r < 12) → SI (Ec σ P J s) Pi rt σb r P 0 (36 * r) x1 σ' → ∃ σ'', fX2_spreadChains_l68 n σ' x1 (nI r) = some ((), σ'') ∧ Fr σb σ'' ∧ Sp (Ec σ P J s) rt (vl σ'') (pl σ'') := by
  obtain ⟨n1, n2, n3, n4, n5, n6, n7, n8, n9, n10, n11, n12⟩ := id hN
  have hE := Ec_ok hP n1 n2 s
  intro n
  induction n with
  | zero => intro j σ' x1 h1 h2; omega
  | succ n ih =>
    intro r σ' x1 h1 h2 hx1 hI
    show ∃ σ'', fX2_spreadChains_b68 (fX2_spreadChains_l68 n) σ' x1 (nI r) = _ ∧ _
    unfold fX2_spreadChains_b68
    obtain ⟨k1, k2, m, k3, k4⟩ := id hI
    by_cases h : r = 12
    · subst h
      rw [if_pos (show (12 : Int32) ≤ nI 12 by decide)]
      have hx : ¬ x1 = 1 := fun q => by have := hx1 q; omega
      exact ⟨σ', rfl, k1, BI_sp hE (by omega) hx k4⟩
    · rw [if_neg (show ¬ (12 : Int32) ≤ nI r from nI_ge (b := 12) (by omega) (by omega))]
      by_cases hz : x1 = 0
      · rw [if_pos hz]
        have hx : ¬ x1 = 1 := fun q => by rw [hz] at q; exact absurd q (by decide)
        exact ⟨σ', rfl, k1, BI_sp hE (by omega) hx k4⟩
      · rw [if_neg hz]
        have hI' : SI (Ec σ P J s) Pi rt σb (r + 1) 0 0 (36 * r + 6 * 0) 0 σ' := ⟨k1, Or.inl rfl, m, by omega, BI_more ⟨fun q => absurd q (by decide), fun q => q.elim⟩ (Nat.le_refl _) (BI_next hE k4)⟩
        obtain ⟨σ1, x2, a1, a2, a3⟩ := sp_l82 hN hP h0 hset h64 hPot (show r < 12 by omega) (show 36 * r + 36 < 1000 by omega) (fX2_spreadChains_l68 n) gF 0 σ' 0 (by omega) (by simp [gF]; omega) hI'
        obtain ⟨σ2, b1, b2⟩ := ih (r + 1) σ1 x2 (by omega) (by omega) (fun q => by
          rcases a2 q with a2 | a2
          · exact absurd a2 (by decide)
          · exact a2) (by rw [show 36 * (r + 1) = 36 * r + 36 by omega]; exact a3)
        exact ⟨σ2, a1.trans b1, b2⟩
theorem sp_l2 {σ : St} {wn : Nat → Nat} (hw : ∀ p, p < 6 → σ.1 28 p = nI (wn p)) (hw6 : ∀ p, p < 6 → wn p < 100) : ∀ (n k : Nat) (σ' : St), k ≤ 6 → 6 - k < n → σ'.1 = σ.1 → σ'.2.1 = σ.2.1 → (∀ v, v < k → (σ'.2.2 30 v).toInt = if 0 < wn v then 0 else UU) → ∃ σ1, σ1.1 = σ.1 ∧ σ1.2.1 = σ.2.1 ∧ (∀ v, v < 6 → (σ1.2.2 30 v).toInt = if 0 < wn v then 0 else UU) ∧ fX2_spreadChains_l2 n σ' (nI k) = (Option.bind (fJ7_fill_d0a16_31 σ1 (-1152921504606846976 : Int64)) fun q2 => Option.bind (fJ7_fill_53178_32 q2.2 (-6 : Int32)) fun q4 => Option.bind (fJ7_fill_53178_33 q4.2 (-6 : Int32)) fun q6 => fX2_spreadChains_l68 gF q6.2 (1 : Int32) (0 : Int32)) := by
  intro n
  induction n with
  | zero => intro j σ' h1 h2; omega
  | succ n ih =>
    intro k σ' h1 h2 e1 e2 e3
    show ∃ σ1, _ ∧ _ ∧ _ ∧ fX2_spreadChains_b2 (fX2_spreadChains_l2 n) σ' (nI k) = _
    unfold fX2_spreadChains_b2 fX2_spreadChains_b29
    by_cases h : k = 6
    · subst h
      rw [if_pos (show (6 : Int32) ≤ nI 6 by decide)]
      exact ⟨σ', e1, e2, e3, rfl⟩
    · have hk6 : k < 6 := by omega
      rw [if_neg (show ¬ (6 : Int32) ≤ nI k from nI_ge (b := 6) (by omega) (by omega)), if_pos (ib_nI hk6 (by omega)), if_pos (ib_nI hk6 (by omega)), if_pos (ib_nI hk6 (by omega)), nI_clamp (n := k) (by omega), show nI k + (1 : Int32) = nI (k + 1) from nI_1 k, e1, hw k hk6]
      have st : ∀ x : Int64, x.toInt = (if 0 < wn k then 0 else UU) → ∃ σ1, σ1.1 = σ.1 ∧ σ1.2.1 = σ.2.1 ∧ (∀ v, v < 6 → (σ1.2.2 30 v).toInt = if 0 < wn v then 0 else UU) ∧ fX2_spreadChains_l2 n (uL σ' 30 k x) (nI (k + 1)) = (Option.bind (fJ7_fill_d0a16_31 σ1 (-1152921504606846976 : Int64)) fun q2 => Option.bind (fJ7_fill_53178_32 q2.2 (-6 : Int32)) fun q4 => Option.bind (fJ7_fill_53178_33 q4.2 (-6 : Int32)) fun q6 => fX2_spreadChains_l68 gF q6.2 (1 : Int32) (0 : Int32)) := by
        intro x hx
        refine ih (k + 1) (uL σ' 30 k x) (by omega) (by omega) e1 e2 ?_
        intro v hv
        show (vp_updL (σ'.2.2 30) k x v).toInt = _
        by_cases e : v = k
        · subst e; rw [pk_uLs]; exact hx
        · rw [pk_uLn e]; exact e3 v (by omega)
      by_cases c : 0 < wn k
      · rw [if_neg (show ¬ nI (wn k) ≤ 0 from nI_ge (a := 0) c (by have := hw6 k hk6; omega))]
        exact st 0 (by rw [if_pos c]; rfl)
      · rw [if_pos (show nI (wn k) ≤ 0 from nI_le (b := 0) (by omega) (by omega))]
        exact st _ (by rw [if_neg c]; rfl)
theorem spread_spec {σ σb μ : St} {J P S C : Nat} (hN : IvN σ μ J P S C) (hP : IvP σ μ J P) (h0 : sameC σ σb) {s : Nat → Nat} (hset : ∀ p, p < 6 → σb.1 27 p = nI (s p)) (h64 : ∀ p, p < 6 → s p < 64) {wn : Nat → Nat} (hw : ∀ p, p < 6 → σb.1 28 p = nI (wn p)) (hw6 : ∀ p, p < 6 → wn p < 100) {Pi : Nat → Int} (hPot : Pot (Ec σ P J s) Pi) : ∃ σ'', fX2_spreadChains σb = some ((), σ'') ∧ Fr σb σ'' ∧ Sp (Ec σ P J s) (fun v => v < 6 ∧ 0 < wn v) (vl σ'') (pl σ'') := by
  obtain ⟨n1, n2, n3, n4, n5, n6, n7, n8, n9, n10, n11, n12⟩ := id hN
  have hE := Ec_ok hP n1 n2 s
  obtain ⟨σ1, a1, a2, a3, a4⟩ := sp_l2 hw hw6 gF 0 σb (by omega) (by simp [gF]) rfl rfl (fun v h => absurd h (by omega))
  obtain ⟨σ2, b1, b2, b3, b4, b5⟩ := fillL_spec σ1 (-1152921504606846976)
  obtain ⟨σ3, c1, c2, c3, c4⟩ := fill32_spec σ2 (-6)
  obtain ⟨σ4, d1, d2, d3, d4⟩ := fill33_spec σ3 (-6)
  have k4 : ∀ a, ¬ a = 32 → ¬ a = 33 → σ4.1 a = σb.1 a := fun a h1 h2 => by rw [d3 a h2, c3 a h1, b3, a1]
  have hF : Fr σb σ4 := by
    refine ⟨⟨fun k hk => k4 k (by omega) (by omega), fun k hk => ?_⟩, k4 27 (by omega) (by omega), k4 28 (by omega) (by omega), k4 29 (by omega) (by omega)⟩
    rw [d4, c4, b4, a2]
  have hI : SI (Ec σ P J s) Pi (fun v => v < 6 ∧ 0 < wn v) σb 0 P 0 (36 * 0) 1 σ4 := by
    refine ⟨hF, Or.inr rfl, 0, by omega, BI_more ⟨fun _ => trivial, fun _ => rfl⟩ (Nat.le_refl 0) (BI_0 hE ?_ ?_)⟩
    · intro v hv
      by_cases h : v < 6
      · rw [vl_P _ h, d4, c4, b5, a3 v h]
        by_cases c : 0 < wn v
        · exact Or.inl ⟨⟨h, c⟩, if_pos c⟩
        · exact Or.inr ⟨fun q => c q.2, if_neg c⟩
      · obtain ⟨i, rfl⟩ := nd_J h
        right
        refine ⟨fun q => h q.1, ?_⟩
        rw [vl_J, d4, c4, b2 i (by omega)]
        rfl
    · intro v hv
      by_cases h : v < 6
      · rw [pl_P _ h, d3 32 (by omega), c2 v h, if_pos rfl]
      · obtain ⟨i, rfl⟩ := nd_J h
        rw [pl_J, d2 i (by omega), if_pos rfl]
  obtain ⟨σ5, e1, e2, e3⟩ := sp_l68 hN hP h0 hset h64 hPot gF 0 σ4 1 (by omega) (by simp [gF]) (fun _ => by omega) hI
  refine ⟨σ5, ?_, e2, e3⟩
  refine Eq.trans (show fX2_spreadChains σb = _ from a4) ?_
  rw [b1, b_some]
  dsimp only
  rw [c1, b_some]
  dsimp only
  rw [d1, b_some]
  exact e1
