/-! ===== rule ===== -/
def jn (x : Int32) : Prop := x = 97 ∨ x = 109 ∨ x = 108 ∨ x = 103
def sz (s : Nat) : Nat := if s = 0 then 0 else 1
def RI (σ0 μ0 σ μ : St) (s cl : Nat) : Prop :=
  (∀ k, k ≠ 22 → k ≠ 23 → k ≠ 24 → σ.1 k = σ0.1 k) ∧ (∀ k, k ≠ 3 → σ.2.1 k = σ0.2.1 k) ∧ (∀ k, k ≠ 12 → k ≠ 13 → k ≠ 14 → μ.1 k = μ0.1 k) ∧ (∀ k, k ≠ 3 → μ.2.1 k = μ0.2.1 k) ∧
  σ.2.1 3 = nI (cl + sz s) ∧ μ.2.1 3 = nI cl ∧
  (∀ t, t < cl + sz s → σ.1 22 t = μ.1 12 t ∧ jn (μ.1 12 t)) ∧ (∀ t, t < cl + sz s → σ.1 23 t = μ.1 13 t ∧ inR (μ.1 13 t) 0 99) ∧ (∀ t, t < cl + sz s → σ.1 24 t = μ.1 14 t ∧ inR (μ.1 14 t) 1 4) ∧
  (s = 1 ∨ s = 2 → μ.1 13 cl = 0) ∧ (s = 3 → inR (μ.1 13 cl) 0 9)
def off (s : Nat) : Nat := if s = 0 then 0 else if s = 1 then 1 else if s = 2 then 2 else if s = 3 then 3 else if s = 4 then 4 else if s = 5 then 4 else 5
theorem af_cases {s : Nat} {c : Int32} (hs : s < 7) (h : af s c < 7) :
    (af s c = 1 ∧ s = 0 ∧ jn c) ∨ (af s c = 2 ∧ s = 1) ∨ (af s c = 3 ∧ s = 2 ∧ 48 ≤ c.toInt ∧ c.toInt ≤ 57) ∨ (af s c = 4 ∧ s = 3 ∧ 48 ≤ c.toInt ∧ c.toInt ≤ 57) ∨ (af s c = 5 ∧ (s = 3 ∨ s = 4)) ∨ (af s c = 6 ∧ s = 5 ∧ 49 ≤ c.toInt ∧ c.toInt ≤ 51) ∨ (af s c = 0 ∧ (s = 3 ∨ s = 4 ∨ s = 6)) := by
  rcases (show s = 0 ∨ s = 1 ∨ s = 2 ∨ s = 3 ∨ s = 4 ∨ s = 5 ∨ s = 6 by omega) with rfl | rfl | rfl | rfl | rfl | rfl | rfl
  · simp only [af] at h ⊢
    by_cases c1 : c = 97 ∨ c = 109 ∨ c = 108 ∨ c = 103
    · simp [c1, jn]
    · simp [c1] at h
  · simp only [af] at h ⊢
    by_cases c1 : c = 62
    · simp [c1]
    · simp [c1] at h
  · simp only [af] at h ⊢
    by_cases c1 : 48 ≤ c.toInt ∧ c.toInt ≤ 57
    · simp [c1]
    · simp [c1] at h
  · simp only [af] at h ⊢
    by_cases c1 : 48 ≤ c.toInt ∧ c.toInt ≤ 57
    · simp [c1]
    · by_cases c2 : c = 63
      · subst c2; simp
      · by_cases c3 : c = 59
        · subst c3; simp
        · simp [c1, c2, c3] at h
  · simp only [af] at h ⊢
    by_cases c2 : c = 63
    · simp [c2]
    · by_cases c3 : c = 59
      · subst c3; simp
      · simp [c2, c3] at h
  · simp only [af] at h ⊢
    by_cases c1 : 49 ≤ c.toInt ∧ c.toInt ≤ 51
    · simp [c1]
    · simp [c1] at h
  · simp only [af] at h ⊢
    by_cases c3 : c = 59
    · simp [c3]
    · simp [c3] at h
theorem begin_spec {σ : St} {k : Nat} (hk : σ.2.1 3 = nI k) (h : k < 10) (c : Int32) : fX5_begin σ c = some ((), uI (uA (uA (uA σ 22 k c) 23 k 0) 24 k 4) 3 (nI (k + 1))) := by
  unfold fX5_begin
  simp only [uA_I, hk]
  rw [if_pos (ib_nI h (by omega)), if_pos (ib_nI h (by omega)), if_pos (ib_nI h (by omega)), nI_clamp (n := k) (by omega), show nI k + (1 : Int32) = nI (k + 1) from nI_1 k]
theorem goOn_num (σ : St) {k : Nat} (h : k < 10) {s : Nat} (hs : s = 3 ∨ s = 4) (d : Int32) : fX5_goOn σ (nI k) (nI s) d = some ((), uA σ 23 k (10 * σ.1 23 k + d)) := by
  unfold fX5_goOn fX5_goOn_b10
  rw [if_pos (ib_nI h (by omega)), if_pos (ib_nI h (by omega)), nI_clamp (n := k) (by omega)]
  rcases hs with rfl | rfl
  · rw [if_pos (show nI 3 = (3 : Int32) from rfl)]
  · rw [if_neg (by decide), if_pos (show nI 4 = (4 : Int32) from rfl)]
theorem goOn_coin (σ : St) {k : Nat} (h : k < 10) (d : Int32) : fX5_goOn σ (nI k) (nI 6) d = some ((), uA σ 24 k d) := by
  unfold fX5_goOn
  rw [if_neg (by decide), if_neg (by decide), if_pos (show nI 6 = (6 : Int32) from rfl), if_pos (ib_nI h (by omega)), nI_clamp (n := k) (by omega)]
theorem goOn_else (σ : St) (x : Int32) {s : Nat} (hs : s = 2 ∨ s = 5 ∨ s = 0) (d : Int32) : fX5_goOn σ x (nI s) d = some ((), σ) := by
  unfold fX5_goOn
  rcases hs with rfl | rfl | rfl
  · rw [if_neg (by decide), if_neg (by decide), if_neg (by decide)]
  · rw [if_neg (by decide), if_neg (by decide), if_neg (by decide)]
  · rw [if_neg (by decide), if_neg (by decide), if_neg (by decide)]
theorem num_eq (x c : Int32) : (10 : Int32) * x + c - 48 = 10 * x + (c - 48) := by
  rw [Int32.sub_eq_add_neg, Int32.sub_eq_add_neg, Int32.add_assoc]
theorem dig_rng {c : Int32} (h : 48 ≤ c.toInt ∧ c.toInt ≤ 57) : ∃ d, d < 10 ∧ c - 48 = nI d := by
  obtain ⟨k, h1, rfl⟩ := nI_ex (x := c) (N := 58) ⟨by omega, by omega⟩ (by omega)
  have := nI_toInt (n := k) (by omega)
  refine ⟨k - 48, by omega, ?_⟩
  exact pk_sub (a := k) (b := 48) (by omega)
theorem coin_rng {c : Int32} (h : 49 ≤ c.toInt ∧ c.toInt ≤ 51) : inR (c - 48) 1 4 := by
  obtain ⟨k, h1, rfl⟩ := nI_ex (x := c) (N := 52) ⟨by omega, by omega⟩ (by omega)
  have e := nI_toInt (n := k) (by omega)
  have e2 : nI k - (48 : Int32) = nI (k - 48) := pk_sub (a := k) (b := 48) (by omega)
  unfold inR
  rw [e2, nI_toInt (n := k - 48) (by omega)]
  omega
theorem inR_nI {n : Nat} {b : Int} (h : (n : Int) ≤ b) (hn : n < 2 ^ 31) : inR (nI n) 0 b := by
  unfold inR
  rw [nI_toInt hn]
  omega
/-- one sign more -/
theorem rule_step {σ0 μ0 σ μ : St} {s cl i S : Nat} {c : Int32} (hs : s < 7) (h7 : af s c < 7) (hR : RI σ0 μ0 σ μ s cl) (hp : 4 * cl + off s ≤ i) (hi : i < S) (h40 : S ≤ 40) :
    ∃ (σ' μ' : St) (cl' : Nat), RI σ0 μ0 σ' μ' (af s c) cl' ∧ 4 * cl' + off (af s c) ≤ i + 1 ∧
      (∀ rc : St → Int32 → Int32 → Option (Unit × St), (if afI (af s c) = 1 then if (10 : Int32) ≤ σ.2.1 3 then fX5_read_4_b55 rc σ (afI (af s c)) (nI i) c else Option.bind (fX5_begin σ c) fun q7 => fX5_read_4_b78 rc q7.2 (afI (af s c)) (nI i) else fX5_read_4_b55 rc σ (afI (af s c)) (nI i) c) = rc σ' (nI (af s c)) (nI (i + 1))) ∧
      (∀ rc : St → Int32 → Int32 → Option (Int32 × St), (if afI (af s c) = 1 then if ib (μ.2.1 3) 12 = true then if ib ((uA μ 12 (μ.2.1 3).toNatClampNeg c).2.1 3) 12 = true then if ib ((uA (uA μ 12 (μ.2.1 3).toNatClampNeg c) 13 ((uA μ 12 (μ.2.1 3).toNatClampNeg c).2.1 3).toNatClampNeg 0).2.1 3) 12 = true then fX9_rule_b153 rc (uA (uA (uA μ 12 (μ.2.1 3).toNatClampNeg c) 13 ((uA μ 12 (μ.2.1 3).toNatClampNeg c).2.1 3).toNatClampNeg 0) 14 ((uA (uA μ 12 (μ.2.1 3).toNatClampNeg c) 13 ((uA μ 12 (μ.2.1 3).toNatClampNeg c).2.1 3).toNatClampNeg 0).2.1 3).toNatClampNeg 4) (afI (af s c)) (nI i) else none else none else none else if afI (af s c) = 3 then fX9_rule_b88 rc μ (afI (af s c)) (nI i) c else if afI (af s c) = 4 then fX9_rule_b88 rc μ (afI (af s c)) (nI i) c else if afI (af s c) = 6 then if ib (μ.2.1 3) 12 = true then fX9_rule_b153 rc (uA μ 14 (μ.2.1 3).toNatClampNeg (c - 48)) (afI (af s c)) (nI i) else none else if afI (af s c) = 0 then fX9_rule_b153 rc (uI μ 3 (μ.2.1 3 + 1)) (afI (af s c)) (nI i) else fX9_rule_b153 rc μ (afI (af s c)) (nI i)) = rc μ' (nI (af s c)) (nI (i + 1))) := by
  obtain ⟨a1, a2, a3, a4, a5, a6, a7, a8, a9, a10, a11⟩ := hR
  have ei : nI i + (1 : Int32) = nI (i + 1) := nI_1 i
  rw [afI_n h7]
  simp only [uA_I, a6, fX9_rule_b153, fX9_rule_b88, fX5_read_4_b55, fX5_read_4_b78, ei]
  have hcl : cl < 10 := by
    have : off s ≤ i := by omega
    omega
  have hib : ib (nI cl) 12 = true := ib_nI (by omega) (by omega)
  have hcc : (nI cl).toNatClampNeg = cl := nI_clamp (by omega)
  rw [hcc]
  simp only [hib, ↓reduceIte]
  have noj : s ≠ 0 → σ.2.1 3 = nI (cl + 1) := fun q => by rw [a5]; simp [sz, q]
  have posc : s ≠ 0 → ¬ σ.2.1 3 ≤ 0 := fun q => by rw [noj q]; exact nI_nle (by omega) (by omega)
  have subc : s ≠ 0 → σ.2.1 3 - 1 = nI cl := fun q => by rw [noj q]; exact nI_pred cl
  rcases af_cases hs h7 with ⟨e, hs0, hj⟩ | ⟨e, hs0⟩ | ⟨e, hs0, hd⟩ | ⟨e, hs0, hd⟩ | ⟨e, hs0⟩ | ⟨e, hs0, hd⟩ | ⟨e, hs0⟩
  · -- a join
    rw [e]
    subst hs0
    have h3 : σ.2.1 3 = nI cl := by rw [a5]; simp [sz]
    refine ⟨uI (uA (uA (uA σ 22 cl c) 23 cl 0) 24 cl 4) 3 (nI (cl + 1)), uA (uA (uA μ 12 cl c) 13 cl 0) 14 cl 4, cl, ?_, by simp [off] at hp ⊢; omega, fun rc => ?_, fun rc => ?_⟩
    · refine ⟨fun k k1 k2 k3 => ?_, fun k hk => ?_, fun k k1 k2 k3 => ?_, fun k hk => a4 k hk, ?_, a6, ?_, ?_, ?_, fun _ => ?_, fun q => by omega⟩
      · rw [uI_A, uA_ne _ _ _ k3, uA_ne _ _ _ k2, uA_ne _ _ _ k1]; exact a1 k k1 k2 k3
      · rw [uI_ne _ _ hk]; exact a2 k hk
      · rw [uA_ne _ _ _ k3, uA_ne _ _ _ k2, uA_ne _ _ _ k1]; exact a3 k k1 k2 k3
      · exact uI_same _ _ _
      · exact upd_last (f := σ.1 22) (g := μ.1 12) (Q := jn) (fun t ht => a7 t (by omega)) hj
      · exact upd_last (f := σ.1 23) (g := μ.1 13) (Q := fun x => inR x 0 99) (fun t ht => a8 t (by omega)) (inR0 (by omega) (by omega))
      · exact upd_last (f := σ.1 24) (g := μ.1 14) (Q := fun x => inR x 1 4) (fun t ht => a9 t (by omega)) ⟨by decide, by decide⟩
      · exact pk_us
    · rw [if_pos (show nI 1 = (1 : Int32) from rfl), h3, if_neg (show ¬ (10 : Int32) ≤ nI cl from nI_ge (b := 10) hcl (by omega)), begin_spec h3 hcl, b_some]
    · rw [if_pos (show nI 1 = (1 : Int32) from rfl)]
  · -- the >
    rw [e]
    subst hs0
    refine ⟨σ, μ, cl, ⟨a1, a2, a3, a4, a5, a6, a7, a8, a9, fun _ => a10 (Or.inl rfl), fun q => by omega⟩, by simp [off] at hp ⊢; omega, fun rc => ?_, fun rc => ?_⟩
    · rw [if_neg (by decide), if_neg (posc (by omega)), subc (by omega), goOn_else σ _ (Or.inl rfl), b_some]
    · rw [if_neg (by decide), if_neg (by decide), if_neg (by decide), if_neg (by decide), if_neg (by decide)]
  · -- a first digit
    rw [e]
    subst hs0
    obtain ⟨d, hd1, hd2⟩ := dig_rng hd
    have z := a10 (Or.inr rfl)
    obtain ⟨y1, y2⟩ := a8 cl (by simp [sz])
    refine ⟨uA σ 23 cl (10 * σ.1 23 cl + (c - 48)), uA μ 13 cl (10 * μ.1 13 cl + (c - 48)), cl, ?_, by simp [off] at hp ⊢; omega, fun rc => ?_, fun rc => ?_⟩
    · have ev : 10 * μ.1 13 cl + (c - 48) = nI d := by rw [z, hd2]; show nI 10 * nI 0 + nI d = _; rw [pk_mul, nI_add]; simp
      refine ⟨fun k k1 k2 k3 => ?_, a2, fun k k1 k2 k3 => ?_, a4, a5, a6, a7, ?_, a9, fun q => by omega, fun _ => ?_⟩
      · rw [uA_ne _ _ _ k2]; exact a1 k k1 k2 k3
      · rw [uA_ne _ _ _ k2]; exact a3 k k1 k2 k3
      · rw [y1]
        exact upd_all (f := σ.1 23) (g := μ.1 13) (Q := fun x => inR x 0 99) a8 (by rw [ev]; exact inR_nI (by omega) (by omega))
      · show inR (upd (μ.1 13) cl (10 * μ.1 13 cl + (c - 48)) cl) 0 9
        rw [pk_us, ev]
        exact inR_nI (by omega) (by omega)
    · rw [if_neg (by decide), if_neg (posc (by omega)), subc (by omega), goOn_num σ hcl (Or.inl rfl), b_some]
    · rw [if_neg (by decide), if_pos (show nI 3 = (3 : Int32) from rfl), num_eq]
  · -- a second digit
    rw [e]
    subst hs0
    obtain ⟨d, hd1, hd2⟩ := dig_rng hd
    obtain ⟨v, hv1, hv2⟩ := nI_rng (n := 9) (a11 rfl) (by omega)
    obtain ⟨y1, y2⟩ := a8 cl (by simp [sz])
    refine ⟨uA σ 23 cl (10 * σ.1 23 cl + (c - 48)), uA μ 13 cl (10 * μ.1 13 cl + (c - 48)), cl, ?_, by simp [off] at hp ⊢; omega, fun rc => ?_, fun rc => ?_⟩
    · have ev : 10 * μ.1 13 cl + (c - 48) = nI (10 * v + d) := by rw [hv2, hd2]; show nI 10 * nI v + nI d = _; rw [pk_mul, nI_add]
      refine ⟨fun k k1 k2 k3 => ?_, a2, fun k k1 k2 k3 => ?_, a4, a5, a6, a7, ?_, a9, fun q => by omega, fun q => by omega⟩
      · rw [uA_ne _ _ _ k2]; exact a1 k k1 k2 k3
      · rw [uA_ne _ _ _ k2]; exact a3 k k1 k2 k3
      · rw [y1]
        exact upd_all (f := σ.1 23) (g := μ.1 13) (Q := fun x => inR x 0 99) a8 (by rw [ev]; exact inR_nI (by omega) (by omega))
    · rw [if_neg (by decide), if_neg (posc (by omega)), subc (by omega), goOn_num σ hcl (Or.inr rfl), b_some]
    · rw [if_neg (by decide), if_neg (by decide), if_pos (show nI 4 = (4 : Int32) from rfl), num_eq]
  · -- the ?
    rw [e]
    have hs1 : s ≠ 0 := by omega
    have e5 : sz s = 1 := by simp [sz, hs1]
    rw [e5] at a5 a7 a8 a9
    refine ⟨σ, μ, cl, ⟨a1, a2, a3, a4, a5, a6, a7, a8, a9, fun q => by omega, fun q => by omega⟩, ?_, fun rc => ?_, fun rc => ?_⟩
    · rcases hs0 with rfl | rfl <;> (simp [off] at hp ⊢; omega)
    · rw [if_neg (by decide), if_neg (posc hs1), subc hs1, goOn_else σ _ (Or.inr (Or.inl rfl)), b_some]
    · rw [if_neg (by decide), if_neg (by decide), if_neg (by decide), if_neg (by decide), if_neg (by decide)]
  · -- the coin
    rw [e]
    subst hs0
    obtain ⟨y1, y2⟩ := a9 cl (by simp [sz])
    refine ⟨uA σ 24 cl (c - 48), uA μ 14 cl (c - 48), cl, ?_, by simp [off] at hp ⊢; omega, fun rc => ?_, fun rc => ?_⟩
    · refine ⟨fun k k1 k2 k3 => ?_, a2, fun k k1 k2 k3 => ?_, a4, a5, a6, a7, a8, ?_, fun q => by omega, fun q => by omega⟩
      · rw [uA_ne _ _ _ k3]; exact a1 k k1 k2 k3
      · rw [uA_ne _ _ _ k3]; exact a3 k k1 k2 k3
      · exact upd_all (f := σ.1 24) (g := μ.1 14) (Q := fun x => inR x 1 4) a9 (coin_rng hd)
    · rw [if_neg (by decide), if_neg (posc (by omega)), subc (by omega), goOn_coin σ hcl, b_some]
    · rw [if_neg (by decide), if_neg (by decide), if_neg (by decide), if_pos (show nI 6 = (6 : Int32) from rfl)]
  · -- the ;
    rw [e]
    have hs1 : s ≠ 0 := by omega
    have e5 : sz s = 1 := by simp [sz, hs1]
    rw [e5] at a5 a7 a8 a9
    refine ⟨σ, uI μ 3 (nI (cl + 1)), cl + 1, ⟨a1, a2, a3, fun k hk => by rw [uI_ne _ _ hk]; exact a4 k hk, a5, uI_same _ _ _, a7, a8, a9, fun q => by omega, fun q => by omega⟩, ?_, fun rc => ?_, fun rc => ?_⟩
    · rcases hs0 with rfl | rfl | rfl <;> (simp [off] at hp ⊢; omega)
    · rw [if_neg (by decide), if_neg (posc hs1), subc hs1, goOn_else σ _ (Or.inr (Or.inr rfl)), b_some]
    · rw [if_neg (by decide), if_neg (by decide), if_neg (by decide), if_neg (by decide), if_pos (show nI 0 = (0 : Int32) from rfl), show nI cl + (1 : Int32) = nI (cl + 1) from nI_1 cl]
theorem rule_l {σ0 μ0 : St} {S : Nat} (h40 : S ≤ 40) (hS1 : σ0.2.1 2 = nI S) (hS2 : μ0.2.1 2 = nI S) (hsg : ∀ i, i < S → σ0.1 21 i = μ0.1 11 i) : ∀ (n s cl i : Nat) (σ μ : St), s < 7 → i ≤ S → S - i < n → RI σ0 μ0 σ μ s cl → 4 * cl + off s ≤ i → ffr (σ0.1 21) S n s i = none →
    ∃ (σ' μ' : St) (s' cl' : Nat), fX5_read_4_l9 n σ (nI s) (nI i) = some ((), σ') ∧ fX9_rule_l19 n μ (nI s) (nI i) = some (nI (cl' + 1), uI (uI μ' 3 (nI (cl' + 1))) 2 0) ∧ RI σ0 μ0 σ' μ' s' cl' ∧ (s' = 3 ∨ s' = 4 ∨ s' = 6) ∧ cl' ≤ 9 := by
  intro n
  induction n with
  | zero => intro s cl i σ μ h0 h1 h2; omega
  | succ n ih =>
    intro s cl i σ μ h0 h1 h2 hR hp hf
    show ∃ (σ' μ' : St) (s' cl' : Nat), fX5_read_4_b9 (fX5_read_4_l9 n) σ (nI s) (nI i) = some ((), σ') ∧ fX9_rule_b19 (fX9_rule_l19 n) μ (nI s) (nI i) = _ ∧ _
    have hs1 : σ.2.1 2 = nI S := by rw [hR.2.1 2 (by decide)]; exact hS1
    have hs2 : μ.2.1 2 = nI S := by rw [hR.2.2.2.1 2 (by decide)]; exact hS2
    have g1 : σ.1 21 = σ0.1 21 := hR.1 21 (by decide) (by decide) (by decide)
    have g2 : μ.1 11 = μ0.1 11 := hR.2.2.1 11 (by decide) (by decide) (by decide)
    unfold fX5_read_4_b9 fX9_rule_b19
    rw [hs1, hs2]
    simp only [ffr] at hf
    by_cases hi : i = S
    · subst hi
      rw [if_pos (Nat.le_refl i)] at hf
      rw [if_pos (nI_le (Nat.le_refl i) (by omega)), if_pos (nI_le (Nat.le_refl i) (by omega))]
      have hs : s = 3 ∨ s = 4 ∨ s = 6 := by
        by_cases q : s = 3 ∨ s = 4 ∨ s = 6
        · exact q
        · rw [if_neg q] at hf; cases hf
      refine ⟨σ, μ, s, cl, rfl, ?_, hR, hs, ?_⟩
      · rw [hR.2.2.2.2.2.1, show nI cl + (1 : Int32) = nI (cl + 1) from nI_1 cl, uI_ne _ _ (by decide), uI_same]
      · rcases hs with rfl | rfl | rfl <;> (simp [off] at hp; omega)
    · have hlt : i < S := by omega
      rw [if_neg (show ¬ S ≤ i by omega)] at hf
      have h7 : af s (σ0.1 21 i) < 7 := by
        have := af_le s (σ0.1 21 i)
        by_cases q : af s (σ0.1 21 i) = 7
        · rw [if_pos q] at hf; cases hf
        · omega
      rw [if_neg (by omega)] at hf
      obtain ⟨σ', μ', cl', hR', hp', k1, k2⟩ := rule_step h0 h7 hR hp hlt h40
      rw [if_neg (nI_ge hlt (by omega)), if_neg (nI_ge hlt (by omega)), if_pos (ib_nI (show i < 40 by omega) (by omega)), if_pos (ib_nI (show i < 40 by omega) (by omega)), nI_clamp (n := i) (by omega), g1, g2, ← hsg i hlt, after_spec σ _ s h0, step_spec μ _ s h0, b_some, b_some]
      obtain ⟨σ2, μ2, s2, cl2, r1, r2, r3⟩ := ih (af s (σ0.1 21 i)) cl' (i + 1) σ' μ' h7 (by omega) (by omega) hR' hp' hf
      refine ⟨σ2, μ2, s2, cl2, ?_, ?_, r3⟩
      · exact (k1 (fX5_read_4_l9 n)).trans r1
      · exact (k2 (fX9_rule_l19 n)).trans r2
theorem op_rule : Op_rule Inv := by
  intro σ μ hI
  obtain ⟨J, P, S, C, hN, hJ, hP, hM, hR⟩ := id hI
  obtain ⟨n1, n2, n3, n4, n5, n6, n7, n8, n9, n10, n11, n12⟩ := id hN
  have e1 : fX6_firstFault σ = _ := firstFault_l n9 n3 gF 0 0 (by omega) (by omega) (by simp [gF]; omega)
  have e2 : fX9_fault μ = _ := faultM_l n10 n3 gF 0 0 (by omega) (by omega) (by simp [gF]; omega)
  unfold fX8_rule fX9_rule
  rw [e1, b_some, e2, b_some, ← ffr_eq (fun i hi => hR.1 i hi)]
  dsimp only
  cases hf : ffr (σ.1 21) S gF 0 0 with
  | some k =>
    have hk : k ≤ 40 := by
      have : ∀ n s i k, ffr (σ.1 21) S n s i = some k → i ≤ 40 → k ≤ 40 := by
        intro n
        induction n with
        | zero => intro s i k h; cases h
        | succ n ih =>
          intro s i k h hi
          simp only [ffr] at h
          by_cases c1 : S ≤ i
          · rw [if_pos c1] at h
            by_cases c2 : s = 3 ∨ s = 4 ∨ s = 6
            · rw [if_pos c2] at h; cases h
            · rw [if_neg c2] at h; cases h; omega
          · rw [if_neg c1] at h
            by_cases c2 : af s (σ.1 21 i) = 7
            · rw [if_pos c2] at h; cases h; omega
            · rw [if_neg c2] at h; exact ih _ _ _ h (by omega)
      exact this gF 0 0 k hf (by omega)
    rw [if_neg (show ¬ ffI (some k) = -6 from nI_nem6 (by omega)), if_neg (show ¬ ffI (some k) < 0 from nI_pos (by omega))]
    exact ⟨_, _, _, rfl, rfl, hI⟩
  | none =>
    rw [if_pos (show ffI none = -6 from rfl), if_pos (show ffI none < 0 by decide)]
    have hRI : RI σ μ (uI σ 3 0) (uI μ 3 0) 0 0 := ⟨fun _ _ _ _ => rfl, fun k hk => uI_ne _ _ hk, fun _ _ _ _ => rfl, fun k hk => uI_ne _ _ hk, uI_same _ _ _, uI_same _ _ _, fun t h => absurd h (by simp [sz]), fun t h => absurd h (by simp [sz]), fun t h => absurd h (by simp [sz]), fun q => by omega, fun q => by omega⟩
    obtain ⟨σ', μ', s', cl, r1, r2, ⟨b1, b2, b3, b4, b5, b6, b7, b8, b9, -, -⟩, hs', hcl⟩ := rule_l n3 n9 n10 hR.1 gF 0 0 0 (uI σ 3 0) (uI μ 3 0) (by omega) (by omega) (by simp [gF]; omega) hRI (by simp [off]) hf
    have esz : sz s' = 1 := by rcases hs' with rfl | rfl | rfl <;> rfl
    rw [esz] at b5 b7 b8 b9
    have r1' : fX5_read_4 σ = some ((), σ') := r1
    rw [r1', b_some]
    unfold fX6_clear
    rw [b_some]
    dsimp only
    have h3 : (uI σ' 2 0).2.1 3 = nI (cl + 1) := by rw [uI_ne _ _ (by decide)]; exact b5
    refine ⟨nI (cl + 1), uI σ' 2 0, uI (uI μ' 3 (nI (cl + 1))) 2 0, by rw [h3], r2, J, P, 0, cl + 1, ?_, ?_, ?_, ?_, ?_⟩
    · have q : ∀ k, k ≠ 3 → k ≠ 2 → (uI σ' 2 0).2.1 k = σ.2.1 k := fun k h1 h2 => by rw [uI_ne _ _ h2]; exact b2 k h1
      have q' : ∀ k, k ≠ 3 → k ≠ 2 → (uI (uI μ' 3 (nI (cl + 1))) 2 0).2.1 k = μ.2.1 k := fun k h1 h2 => by rw [uI_ne _ _ h2, uI_ne _ _ h1]; exact b4 k h1
      exact ⟨n1, n2, by omega, by omega, by rw [q 0 (by decide) (by decide)]; exact n5, by rw [q' 0 (by decide) (by decide)]; exact n6, by rw [q 1 (by decide) (by decide)]; exact n7, by rw [q' 1 (by decide) (by decide)]; exact n8, uI_same _ _ _, uI_same _ _ _, h3, by rw [uI_ne _ _ (by decide)]; exact uI_same _ _ _⟩
    · unfold IvJ at *
      simp only [uI_A]
      rw [b1 10 (by decide) (by decide) (by decide), b1 11 (by decide) (by decide) (by decide), b1 12 (by decide) (by decide) (by decide), b1 13 (by decide) (by decide) (by decide), b3 1 (by decide) (by decide) (by decide), b3 2 (by decide) (by decide) (by decide), b3 3 (by decide) (by decide) (by decide), b3 4 (by decide) (by decide) (by decide)]
      exact hJ
    · unfold IvP at *
      simp only [uI_A]
      rw [b1 14 (by decide) (by decide) (by decide), b1 15 (by decide) (by decide) (by decide), b1 16 (by decide) (by decide) (by decide), b1 17 (by decide) (by decide) (by decide), b1 18 (by decide) (by decide) (by decide), b3 5 (by decide) (by decide) (by decide), b3 6 (by decide) (by decide) (by decide), b3 7 (by decide) (by decide) (by decide), b3 8 (by decide) (by decide) (by decide), b3 10 (by decide) (by decide) (by decide)]
      exact hP
    · unfold IvM at *
      simp only [uI_A]
      rw [b1 19 (by decide) (by decide) (by decide), b3 9 (by decide) (by decide) (by decide), b3 6 (by decide) (by decide) (by decide)]
      exact hM
    · exact ⟨fun i h => absurd h (by omega), b7, b8, b9⟩
