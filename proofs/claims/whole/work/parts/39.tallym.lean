/-! the reference's tally -/
def ls (c : Nat → Nat) : Nat → Nat
  | 0 => 9
  | k + 1 => if 0 < c k ∧ k < ls c k then k else ls c k
def gr (c : Nat → Nat) : Nat → Nat
  | 0 => 0
  | k + 1 => if 0 < c k then k else gr c k
def md (c : Nat → Nat) (pl : Nat) : Nat → Nat
  | 0 => 0
  | k + 1 => if pre c k ≤ pl then k else md c pl k
theorem ls_le (c : Nat → Nat) : ∀ k, k ≤ 9 → ls c k ≤ 9 := by
  intro k
  induction k with
  | zero => intro _; exact Nat.le_refl 9
  | succ k ih =>
    intro h
    have := ih (by omega)
    unfold ls
    by_cases d : 0 < c k ∧ k < ls c k
    · rw [if_pos d]; omega
    · rw [if_neg d]; omega
theorem ls_inv (c : Nat → Nat) : ∀ k, k ≤ 6 → (pre c k = 0 ∧ ls c k = 9) ∨ (0 < pre c k ∧ ls c k < k ∧ 0 < c (ls c k) ∧ pre c (ls c k) = 0) := by
  intro k
  induction k with
  | zero => intro _; exact Or.inl ⟨rfl, rfl⟩
  | succ k ih =>
    intro h
    have e1 : pre c (k + 1) = pre c k + c k := rfl
    have e2 : ls c (k + 1) = if 0 < c k ∧ k < ls c k then k else ls c k := rfl
    rcases ih (by omega) with ⟨i1, i2⟩ | ⟨i1, i2, i3, i4⟩
    · by_cases d : 0 < c k
      · rw [e2, if_pos ⟨d, by omega⟩]
        exact Or.inr ⟨by omega, by omega, d, i1⟩
      · rw [e2, if_neg (fun q => d q.1)]
        exact Or.inl ⟨by omega, i2⟩
    · rw [e2, if_neg (fun q => by omega)]
      exact Or.inr ⟨by omega, by omega, i3, i4⟩
theorem ls_fb (c : Nat → Nat) (h0 : 0 < pre c 6) : ls c 6 = fb c 0 := by
  rcases ls_inv c 6 (by omega) with ⟨i1, i2⟩ | ⟨i1, i2, i3, i4⟩
  · omega
  · have p1 : pre c 1 = pre c 0 + c 0 := rfl
    have p2 : pre c 2 = pre c 1 + c 1 := rfl
    have p3 : pre c 3 = pre c 2 + c 2 := rfl
    have p4 : pre c 4 = pre c 3 + c 3 := rfl
    have p5 : pre c 5 = pre c 4 + c 4 := rfl
    have p6 : pre c 6 = pre c 5 + c 5 := rfl
    simp only [fb, fbf, Nat.reduceAdd]
    generalize ls c 6 = r at *
    rcases (show r = 0 ∨ r = 1 ∨ r = 2 ∨ r = 3 ∨ r = 4 ∨ r = 5 by omega) with rfl | rfl | rfl | rfl | rfl | rfl
    all_goals repeat' split
    all_goals omega
theorem gr_fb (c : Nat → Nat) (h0 : 0 < pre c 6) : gr c 6 = fb c (pre c 6 - 1) := by
  have p0 : pre c 0 = 0 := rfl
  have p1 : pre c 1 = pre c 0 + c 0 := rfl
  have p2 : pre c 2 = pre c 1 + c 1 := rfl
  have p3 : pre c 3 = pre c 2 + c 2 := rfl
  have p4 : pre c 4 = pre c 3 + c 3 := rfl
  have p5 : pre c 5 = pre c 4 + c 4 := rfl
  have p6 : pre c 6 = pre c 5 + c 5 := rfl
  simp only [gr, fb, fbf, Nat.reduceAdd]
  repeat' split
  all_goals omega
theorem md_fb (c : Nat → Nat) {pl : Nat} (hp : pl < pre c 6) : md c pl 6 = fb c pl := by
  have p0 : pre c 0 = 0 := rfl
  have p1 : pre c 1 = pre c 0 + c 0 := rfl
  have p2 : pre c 2 = pre c 1 + c 1 := rfl
  have p3 : pre c 3 = pre c 2 + c 2 := rfl
  have p4 : pre c 4 = pre c 3 + c 3 := rfl
  have p5 : pre c 5 = pre c 4 + c 4 := rfl
  have p6 : pre c 6 = pre c 5 + c 5 := rfl
  simp only [md, fb, fbf, Nat.reduceAdd]
  repeat' split
  all_goals omega
theorem join_l {μ : St} {c : Nat → Nat} (hT : TA (μ.1 15) c) (hc : pre c 6 ≤ 6) (h0 : 0 < pre c 6) (jn : Int32) : ∀ n k, k ≤ 6 → 6 - k < n → fX9_joinOf_l18 n μ jn (nI (pre c 6)) (nI (wsu c k)) (nI (ls c k)) (nI (gr c k)) (nI (md c ((pre c 6 - 1) / 2) k)) (nI (pre c k)) (nI k) = fX9_joinOf_b18 (fX9_joinOf_l18 0) μ jn (nI (pre c 6)) (nI (wsu c 6)) (nI (ls c 6)) (nI (gr c 6)) (nI (md c ((pre c 6 - 1) / 2) 6)) (nI (pre c 6)) (nI 6) := by
  have e1 : nI (pre c 6) - 1 = nI (pre c 6 - 1) := pk_sub (b := 1) (by omega)
  have e2 : nI (pre c 6 - 1) / 2 = nI ((pre c 6 - 1) / 2) := pk_div (d := 2) (by omega) (by omega) (by omega)
  intro n
  induction n with
  | zero => intro k h1 h2; omega
  | succ n ih =>
    intro k h1 h2
    show fX9_joinOf_b18 (fX9_joinOf_l18 n) μ jn _ _ _ _ _ _ _ = _
    by_cases h : k = 6
    · subst h
      unfold fX9_joinOf_b18
      rw [if_pos (show (6 : Int32) ≤ nI 6 by decide), if_pos (show (6 : Int32) ≤ nI 6 by decide)]
    · rw [← ih (k + 1) (by omega) (by omega)]
      unfold fX9_joinOf_b18 fX9_joinOf_b60 fX9_joinOf_b62 fX9_joinOf_b81 fX9_joinOf_b100
      have hm := pre_mono c (show k + 1 ≤ 6 by omega)
      have hm' : pre c (k + 1) = pre c k + c k := rfl
      have hl := ls_le c k (by omega)
      rw [if_neg (show ¬ (6 : Int32) ≤ nI k from nI_ge (b := 6) (by omega) (by omega))]
      simp only [if_pos (ib_nI (show k < 6 by omega) (show (6 : Nat) < 2 ^ 31 by omega)), nI_clamp (show k < 2 ^ 31 by omega), hT k (by omega), pk_mul, nI_add, show nI k + (1 : Int32) = nI (k + 1) from nI_1 k, e1, e2]
      rw [show wsu c (k + 1) = wsu c k + k * c k from rfl, show ls c (k + 1) = (if 0 < c k ∧ k < ls c k then k else ls c k) from rfl, show gr c (k + 1) = (if 0 < c k then k else gr c k) from rfl, show md c ((pre c 6 - 1) / 2) (k + 1) = (if pre c k ≤ (pre c 6 - 1) / 2 then k else md c ((pre c 6 - 1) / 2) k) from rfl, hm']
      by_cases d1 : 0 < c k
      · have d1' : ¬ nI (c k) ≤ 0 := nI_ge (a := 0) d1 (by omega)
        rw [if_neg d1', if_pos d1]
        by_cases d2 : k < ls c k
        · rw [if_neg (nI_ge d2 (by omega)), if_neg d1', if_pos (show 0 < c k ∧ k < ls c k from ⟨d1, d2⟩)]
          by_cases d3 : pre c k ≤ (pre c 6 - 1) / 2
          · rw [if_neg (show ¬ nI ((pre c 6 - 1) / 2) < nI (pre c k) from fun q => by have := Int32.lt_iff_toInt_lt.mp q; rw [nI_toInt (by omega), nI_toInt (by omega)] at this; omega), if_pos d3]
          · rw [if_pos (nI_lt (by omega) (by omega)), if_neg d3]
        · rw [if_pos (nI_le (by omega) (by omega)), if_neg d1', if_neg (show ¬ (0 < c k ∧ k < ls c k) from fun q => d2 q.2)]
          by_cases d3 : pre c k ≤ (pre c 6 - 1) / 2
          · rw [if_neg (show ¬ nI ((pre c 6 - 1) / 2) < nI (pre c k) from fun q => by have := Int32.lt_iff_toInt_lt.mp q; rw [nI_toInt (by omega), nI_toInt (by omega)] at this; omega), if_pos d3]
          · rw [if_pos (nI_lt (by omega) (by omega)), if_neg d3]
      · have d1' : nI (c k) ≤ 0 := nI_le (b := 0) (by omega) (by omega)
        rw [if_pos d1', if_neg d1, if_pos d1', if_neg (show ¬ (0 < c k ∧ k < ls c k) from fun q => d1 q.1)]
        by_cases d3 : pre c k ≤ (pre c 6 - 1) / 2
        · rw [if_neg (show ¬ nI ((pre c 6 - 1) / 2) < nI (pre c k) from fun q => by have := Int32.lt_iff_toInt_lt.mp q; rw [nI_toInt (by omega), nI_toInt (by omega)] at this; omega), if_pos d3]
        · rw [if_pos (nI_lt (by omega) (by omega)), if_neg d3]
theorem joinOf_spec {μ : St} {c : Nat → Nat} (hT : TA (μ.1 15) c) (hc : pre c 6 ≤ 6) (h0 : 0 < pre c 6) {jn : Int32} (hj : jn = 97 ∨ jn = 109 ∨ jn = 108 ∨ jn = 103) : fX9_joinOf μ jn (nI (pre c 6)) = some (nI (te jn c), μ) := by
  refine Eq.trans (show fX9_joinOf μ jn (nI (pre c 6)) = _ from join_l hT hc h0 jn gF 0 (by omega) (by simp [gF])) ?_
  unfold fX9_joinOf_b18 te
  have hw := wsu_le c hc
  have ten : ∀ x : Nat, (10 : Int32) * nI x = nI (10 * x) := fun x => pk_mul 10 x
  rw [if_pos (show (6 : Int32) ≤ nI 6 by decide), ten, ten, ten, ten, ls_fb c h0, gr_fb c h0, md_fb c (pl := (pre c 6 - 1) / 2) (by omega)]
  rcases hj with rfl | rfl | rfl | rfl
  · rw [if_pos rfl, if_pos rfl, if_pos (show ¬ nI (pre c 6) = 0 from fun q => by have := (nI_z (by omega)).mp q; omega), pk_div (by omega) h0 (by omega)]
  · rw [if_neg (by decide), if_pos rfl, if_neg (by decide), if_neg (by decide), if_pos rfl]
  · rw [if_neg (by decide), if_neg (by decide), if_pos rfl, if_neg (by decide), if_pos rfl]
  · rw [if_neg (by decide), if_neg (by decide), if_neg (by decide), if_neg (by decide), if_neg (by decide), if_neg (by decide)]
theorem yesOf_l27 {σ μ μ' : St} {S C : Nat} (hs : sameM μ μ') (hn : μ.2.1 3 = nI C) (hR : IvR σ μ S C) (hC : C ≤ 10) {c : Nat → Nat} (hT : TA (μ'.1 15) c) (hc : pre c 6 ≤ 6) (h0 : 0 < pre c 6) : ∀ m n k, k + m = C → m < n → fX9_yesOf_l27 n μ' (nI (pre c 6)) (nI k) = some (nI (qv (σ.1 22) (σ.1 23) (σ.1 24) c m k), μ') := by
  have hn' : μ'.2.1 3 = nI C := (hs.2 3 (by omega)).trans hn
  intro m
  induction m with
  | zero =>
    intro n k h1 h2
    obtain ⟨n, rfl⟩ : ∃ i, n = i + 1 := ⟨n - 1, by omega⟩
    show fX9_yesOf_b27 _ μ' _ _ = _
    unfold fX9_yesOf_b27
    rw [hn', if_pos (nI_le (by omega) (by omega))]
    rfl
  | succ m ih =>
    intro n k h1 h2
    obtain ⟨n, rfl⟩ : ∃ i, n = i + 1 := ⟨n - 1, by omega⟩
    show fX9_yesOf_b27 _ μ' _ _ = _
    unfold fX9_yesOf_b27
    obtain ⟨j1, j2⟩ := hR.2.1 k (by omega)
    rw [hn', if_neg (nI_ge (by omega) (by omega)), if_neg (show ¬ nI (pre c 6) ≤ 0 from nI_ge (a := 0) (by omega) (by omega)), if_pos (ib_nI (show k < 12 by omega) (by omega)), nI_clamp (n := k) (by omega), hs.1 12 (by omega), joinOf_spec hT hc h0 j2, b_some]
    dsimp only
    rw [if_pos (ib_nI (show k < 12 by omega) (by omega)), if_pos (ib_nI (show k < 12 by omega) (by omega)), show nI k + (1 : Int32) = nI (k + 1) from nI_1 k, hs.1 13 (by omega), hs.1 14 (by omega), ← (hR.2.2.1 k (by omega)).1, ← j1]
    unfold qv
    by_cases d : nI (te (σ.1 22 k) c) ≤ σ.1 23 k
    · rw [if_pos d, if_pos d]
      exact ih n (k + 1) (by omega) (by omega)
    · rw [if_neg d, if_neg d]
      obtain ⟨d1, d2⟩ := hR.2.2.2 k (by omega)
      obtain ⟨d, e1, e2⟩ := nI_rng (n := 4) (x := μ.1 14 k) ⟨by have := d2.1; omega, d2.2⟩ (by omega)
      rw [d1, e2, nI_clamp (by omega)]
theorem yesOf_spec {σ μ μ' : St} {S C : Nat} (hs : sameM μ μ') (hn : μ.2.1 3 = nI C) (hR : IvR σ μ S C) (hC : C ≤ 10) {c : Nat → Nat} (hT : TA (μ'.1 15) c) (hc : pre c 6 ≤ 6) : fX9_yesOf μ' = some (nI (qn σ C c), μ') := by
  have h : ∀ n k, k ≤ 6 → 6 - k < n → fX9_yesOf_l4 n μ' (nI (pre c k)) (nI k) = fX9_yesOf_l27 gF μ' (nI (pre c 6)) 0 := by
    intro n
    induction n with
    | zero => intro k h1 h2; omega
    | succ n ih =>
      intro k h1 h2
      show fX9_yesOf_b4 (fX9_yesOf_l4 n) μ' _ _ = _
      unfold fX9_yesOf_b4
      by_cases h : k = 6
      · subst h
        rw [if_pos (show (6 : Int32) ≤ nI 6 by decide)]
      · rw [if_neg (show ¬ (6 : Int32) ≤ nI k from nI_ge (b := 6) (by omega) (by omega)), if_pos (ib_nI (show k < 6 by omega) (by omega)), nI_clamp (n := k) (by omega), hT k (by omega), nI_add, show nI k + (1 : Int32) = nI (k + 1) from nI_1 k]
        exact ih (k + 1) (by omega) (by omega)
  refine Eq.trans (show fX9_yesOf μ' = _ from h gF 0 (by omega) (by simp [gF])) ?_
  unfold qn
  by_cases h0 : pre c 6 = 0
  · rw [if_pos h0, h0]
    show fX9_yesOf_b27 _ μ' (nI 0) 0 = _
    unfold fX9_yesOf_b27
    by_cases q : μ'.2.1 3 ≤ 0
    · rw [if_pos q]; rfl
    · rw [if_neg q, if_pos (show nI 0 ≤ 0 by decide)]; rfl
  · rw [if_neg h0]
    exact yesOf_l27 hs hn hR hC hT hc (by omega) C gF 0 (by omega) (by simp [gF]; omega)
theorem given_l {μ : St} : ∀ (n k : Nat) (μ' : St), k ≤ 6 → 6 - k < n → sameM μ μ' → (∀ v, v < k → μ'.1 15 v = 0) → ∃ μ'', fX9_clearGiven_l2 n μ' (nI k) = some ((), μ'') ∧ TA (μ''.1 15) (fun _ => 0) ∧ sameM μ μ'' := by
  intro n
  induction n with
  | zero => intro k μ' h1 h2; omega
  | succ n ih =>
    intro k μ' h1 h2 hs hz
    show ∃ μ'', fX9_clearGiven_b2 (fX9_clearGiven_l2 n) μ' (nI k) = some ((), μ'') ∧ _
    unfold fX9_clearGiven_b2
    by_cases h : k = 6
    · subst h
      rw [if_pos (show (6 : Int32) ≤ nI 6 by decide)]
      exact ⟨μ', rfl, hz, hs⟩
    · rw [if_neg (show ¬ (6 : Int32) ≤ nI k from nI_ge (b := 6) (by omega) (by omega)), if_pos (ib_nI (show k < 6 by omega) (by omega)), nI_clamp (n := k) (by omega), show nI k + (1 : Int32) = nI (k + 1) from nI_1 k]
      refine ih (k + 1) _ (by omega) (by omega) (sM_uA hs (by omega) _ _) ?_
      intro v hv
      show upd (μ'.1 15) k 0 v = 0
      by_cases e : v = k
      · subst e; exact pk_us
      · rw [pk_un e]; exact hz v (by omega)
theorem given_spec {μ μ' : St} (hs : sameM μ μ') : ∃ μ'', fX9_clearGiven μ' = some ((), μ'') ∧ TA (μ''.1 15) (fun _ => 0) ∧ sameM μ μ'' := given_l gF 0 μ' (by omega) (by simp [gF]) hs (fun v h => absurd h (by omega))
