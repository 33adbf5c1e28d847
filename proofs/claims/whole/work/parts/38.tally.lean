/-! ===== tallies, and what a rule makes of them ===== -/
theorem sC_uA {σ0 σ : St} (hs : sameC σ0 σ) {k : Nat} (hk : k = 20 ∨ 25 ≤ k) (i : Nat) (v : Int32) : sameC σ0 (uA σ k i v) := ⟨fun j hj => (uA_ne σ i v (by omega)).trans (hs.1 j hj), fun j hj => hs.2 j hj⟩
theorem sC_uI {σ0 σ : St} (hs : sameC σ0 σ) {k : Nat} (hk : 4 ≤ k) (v : Int32) : sameC σ0 (uI σ k v) := ⟨fun j hj => hs.1 j hj, fun j hj => (uI_ne σ v (by omega)).trans (hs.2 j hj)⟩
theorem sC_uL {σ0 σ : St} (hs : sameC σ0 σ) (k i : Nat) (v : Int64) : sameC σ0 (uL σ k i v) := ⟨fun j hj => hs.1 j hj, fun j hj => hs.2 j hj⟩
theorem sM_uA {σ0 σ : St} (hs : sameM σ0 σ) {k : Nat} (hk : 15 ≤ k) (i : Nat) (v : Int32) : sameM σ0 (uA σ k i v) := ⟨fun j hj => (uA_ne σ i v (by omega)).trans (hs.1 j hj), fun j hj => hs.2 j hj⟩
def pre (c : Nat → Nat) : Nat → Nat
  | 0 => 0
  | k + 1 => pre c k + c k
def wsu (c : Nat → Nat) : Nat → Nat
  | 0 => 0
  | k + 1 => wsu c k + k * c k
theorem pre_mono (c : Nat → Nat) {a b : Nat} (h : a ≤ b) : pre c a ≤ pre c b := by
  induction h with
  | refl => exact Nat.le_refl _
  | step _ ih => simp only [pre]; omega
theorem wsu_le (c : Nat → Nat) (h : pre c 6 ≤ 6) : wsu c 6 ≤ 30 := by
  simp only [pre, wsu] at *
  omega
def inc (c : Nat → Nat) (v : Nat) : Nat → Nat := fun u => if u = v then c u + 1 else c u
theorem inc_pre (c : Nat → Nat) {v : Nat} (hv : v < 6) : pre (inc c v) 6 = pre c 6 + 1 ∧ wsu (inc c v) 6 = wsu c 6 + v := by
  rcases (show v = 0 ∨ v = 1 ∨ v = 2 ∨ v = 3 ∨ v = 4 ∨ v = 5 by omega) with rfl | rfl | rfl | rfl | rfl | rfl
  all_goals simp +decide only [pre, wsu, inc, ↓reduceIte]
  all_goals omega
def fbf (c : Nat → Nat) (pl : Nat) : Nat → Nat → Nat
  | 0, _ => 5
  | m + 1, k => if pre c (k + 1) ≤ pl then fbf c pl m (k + 1) else k
def fb (c : Nat → Nat) (pl : Nat) : Nat := fbf c pl 5 0
theorem fbf_le (c : Nat → Nat) (pl : Nat) : ∀ m k, m + k = 5 → fbf c pl m k ≤ 5 := by
  intro m
  induction m with
  | zero => intro k _; exact Nat.le_refl 5
  | succ m ih =>
    intro k h
    unfold fbf
    by_cases c' : pre c (k + 1) ≤ pl
    · rw [if_pos c']; exact ih (k + 1) (by omega)
    · rw [if_neg c']; omega
theorem fb_le (c : Nat → Nat) (pl : Nat) : fb c pl ≤ 5 := fbf_le c pl 5 0 rfl
/-- ten times what a join makes of the marks -/
def te (jn : Int32) (c : Nat → Nat) : Nat := if jn = 97 then 10 * wsu c 6 / pre c 6 else if jn = 108 then 10 * fb c 0 else if jn = 109 then 10 * fb c ((pre c 6 - 1) / 2) else 10 * fb c (pre c 6 - 1)
def TA (f : Nat → Int32) (c : Nat → Nat) : Prop := ∀ v, v < 6 → f v = nI (c v)
theorem TA_inc {f : Nat → Int32} {c : Nat → Nat} (h : TA f c) {v : Nat} : TA (upd f v (f v + 1)) (inc c v) := by
  intro u hu
  unfold inc
  by_cases e : u = v
  · subst e
    rw [pk_us, if_pos rfl, h u hu]
    exact nI_1 _
  · rw [pk_un e, if_neg e, h u hu]
def qv (A B D : Nat → Int32) (c : Nat → Nat) : Nat → Nat → Nat
  | 0, _ => 0
  | m + 1, k => if nI (te (A k) c) ≤ B k then qv A B D c m (k + 1) else (D k).toNatClampNeg
def qn (σ : St) (C : Nat) (c : Nat → Nat) : Nat := if pre c 6 = 0 then 0 else qv (σ.1 22) (σ.1 23) (σ.1 24) c C 0
theorem qv_le {σ μ : St} {S C : Nat} (hR : IvR σ μ S C) (c : Nat → Nat) : ∀ m k, k + m = C → qv (σ.1 22) (σ.1 23) (σ.1 24) c m k ≤ 4 := by
  intro m
  induction m with
  | zero => intro k _; exact Nat.zero_le 4
  | succ m ih =>
    intro k h
    unfold qv
    by_cases c' : nI (te (σ.1 22 k) c) ≤ σ.1 23 k
    · rw [if_pos c']; exact ih (k + 1) (by omega)
    · rw [if_neg c']
      obtain ⟨d1, d2⟩ := hR.2.2.2 k (by omega)
      obtain ⟨d, e1, e2⟩ := nI_rng (n := 4) (x := μ.1 14 k) ⟨by have := d2.1; omega, d2.2⟩ (by omega)
      rw [d1, e2, nI_clamp (by omega)]
      omega
theorem qn_le {σ μ : St} {S C : Nat} (hR : IvR σ μ S C) (c : Nat → Nat) : qn σ C c ≤ 4 := by
  unfold qn
  by_cases h : pre c 6 = 0
  · rw [if_pos h]; omega
  · rw [if_neg h]; exact qv_le hR c C 0 (by omega)
def TO_8 (σ : St) (c : Nat → Nat) : Prop := TA (σ.1 20) c ∧ σ.2.1 4 = nI (pre c 6) ∧ σ.2.1 5 = nI (wsu c 6)
theorem fb_l_8 {σ : St} {c : Nat → Nat} (hT : TA (σ.1 20) c) (hc : pre c 6 ≤ 6) {pl : Nat} (hpl : pl < 100) : ∀ m n k, m + k = 5 → m < n → fX7_fromBelow_8_l4 n σ (nI pl) (nI (pre c k)) (nI k) = some (nI (fbf c pl m k), σ) := by
  intro m
  induction m with
  | zero =>
    intro n k h1 h2
    obtain ⟨n, rfl⟩ : ∃ i, n = i + 1 := ⟨n - 1, by omega⟩
    show fX7_fromBelow_8_b4 _ σ _ _ _ = _
    unfold fX7_fromBelow_8_b4
    rw [show k = 5 by omega, if_pos (show (5 : Int32) ≤ nI 5 by decide)]
    rfl
  | succ m ih =>
    intro n k h1 h2
    obtain ⟨n, rfl⟩ : ∃ i, n = i + 1 := ⟨n - 1, by omega⟩
    show fX7_fromBelow_8_b4 _ σ _ _ _ = _
    unfold fX7_fromBelow_8_b4
    have hm := pre_mono c (show k + 1 ≤ 6 by omega)
    rw [if_neg (show ¬ (5 : Int32) ≤ nI k from nI_ge (b := 5) (by omega) (by omega)), if_pos (ib_nI (show k < 6 by omega) (by omega)), nI_clamp (n := k) (by omega), hT k (by omega), nI_add, show nI k + (1 : Int32) = nI (k + 1) from nI_1 k]
    show (if nI (pre c (k + 1)) ≤ nI pl then fX7_fromBelow_8_l4 n σ (nI pl) (nI (pre c (k + 1))) (nI (k + 1)) else _) = _
    unfold fbf
    by_cases d : pre c (k + 1) ≤ pl
    · rw [if_pos d, if_pos (nI_le d (by omega))]
      exact ih n (k + 1) (by omega) (by omega)
    · rw [if_neg d, if_neg (nI_ge (by omega) (by omega))]
theorem fb_spec_8 {σ : St} {c : Nat → Nat} (hT : TA (σ.1 20) c) (hc : pre c 6 ≤ 6) {pl : Nat} (hpl : pl < 100) : fX7_fromBelow_8 σ (nI pl) = some (nI (fb c pl), σ) := fb_l_8 hT hc hpl 5 gF 0 rfl (by simp [gF])
theorem te_spec_8 {σ : St} {c : Nat → Nat} (hT : TO_8 σ c) (hc : pre c 6 ≤ 6) (h0 : 0 < pre c 6) (jn : Int32) : fX7_tenths_8 σ jn = some (nI (te jn c), σ) := by
  obtain ⟨t1, t2, t3⟩ := hT
  unfold fX7_tenths_8 te
  have hw := wsu_le c hc
  have ten : ∀ x : Nat, (10 : Int32) * nI x = nI (10 * x) := fun x => pk_mul 10 x
  have e1 : nI (pre c 6) - 1 = nI (pre c 6 - 1) := pk_sub (b := 1) (by omega)
  have e2 : nI (pre c 6 - 1) / 2 = nI ((pre c 6 - 1) / 2) := pk_div (d := 2) (by omega) (by omega) (by omega)
  rw [t2, t3]
  by_cases c1 : jn = 97
  · rw [if_pos c1, if_pos c1, if_neg (show ¬ nI (pre c 6) ≤ 0 from nI_ge (a := 0) (by omega) (by omega)), if_pos (show ¬ nI (pre c 6) = 0 from fun q => by have := (nI_z (by omega)).mp q; omega), ten, pk_div (by omega) h0 (by omega)]
  · rw [if_neg c1, if_neg c1]
    by_cases c2 : jn = 108
    · rw [if_pos c2, if_pos c2, show fX7_fromBelow_8 σ 0 = _ from fb_spec_8 t1 hc (pl := 0) (by omega), b_some]
      dsimp only
      rw [ten]
    · rw [if_neg c2, if_neg c2]
      by_cases c3 : jn = 109
      · rw [if_pos c3, if_pos c3, e1, e2, fb_spec_8 t1 hc (by omega), b_some]
        dsimp only
        rw [ten]
      · rw [if_neg c3, if_neg c3, e1, fb_spec_8 t1 hc (by omega), b_some]
        dsimp only
        rw [ten]
theorem qv_l_8 {σ0 σ μ : St} {S C : Nat} (hs : sameC σ0 σ) (hn : σ0.2.1 3 = nI C) (hR : IvR σ0 μ S C) (hC : C ≤ 10) {c : Nat → Nat} (hT : TO_8 σ c) (hc : pre c 6 ≤ 6) (h0 : 0 < pre c 6) : ∀ m n k, k + m = C → m < n → fX5_quarters_8_l11 n σ (nI k) = some (nI (qv (σ0.1 22) (σ0.1 23) (σ0.1 24) c m k), σ) := by
  have hn' : σ.2.1 3 = nI C := (hs.2 3 (by omega)).trans hn
  intro m
  induction m with
  | zero =>
    intro n k h1 h2
    obtain ⟨n, rfl⟩ : ∃ i, n = i + 1 := ⟨n - 1, by omega⟩
    show fX5_quarters_8_b11 _ σ _ = _
    unfold fX5_quarters_8_b11
    rw [hn', if_pos (nI_le (by omega) (by omega))]
    rfl
  | succ m ih =>
    intro n k h1 h2
    obtain ⟨n, rfl⟩ : ∃ i, n = i + 1 := ⟨n - 1, by omega⟩
    show fX5_quarters_8_b11 _ σ _ = _
    unfold fX5_quarters_8_b11
    rw [hn', if_neg (nI_ge (by omega) (by omega)), if_pos (ib_nI (show k < 10 by omega) (by omega)), nI_clamp (n := k) (by omega), te_spec_8 hT hc h0, b_some]
    dsimp only
    rw [if_pos (ib_nI (show k < 10 by omega) (by omega)), if_pos (ib_nI (show k < 10 by omega) (by omega)), show nI k + (1 : Int32) = nI (k + 1) from nI_1 k, hs.1 22 (by omega), hs.1 23 (by omega), hs.1 24 (by omega)]
    unfold qv
    by_cases d : nI (te (σ0.1 22 k) c) ≤ σ0.1 23 k
    · rw [if_pos d, if_pos d]
      exact ih n (k + 1) (by omega) (by omega)
    · rw [if_neg d, if_neg d]
      obtain ⟨d1, d2⟩ := hR.2.2.2 k (by omega)
      obtain ⟨d, e1, e2⟩ := nI_rng (n := 4) (x := μ.1 14 k) ⟨by have := d2.1; omega, d2.2⟩ (by omega)
      rw [d1, e2, nI_clamp (by omega)]
theorem qn_spec_8 {σ0 σ μ : St} {S C : Nat} (hs : sameC σ0 σ) (hn : σ0.2.1 3 = nI C) (hR : IvR σ0 μ S C) (hC : C ≤ 10) {c : Nat → Nat} (hT : TO_8 σ c) (hc : pre c 6 ≤ 6) : fX5_quarters_8 σ = some (nI (qn σ0 C c), σ) := by
  unfold fX5_quarters_8 qn
  rw [hT.2.1]
  by_cases h0 : pre c 6 = 0
  · rw [if_pos h0, h0, if_neg (by decide)]
    rfl
  · rw [if_neg h0, if_pos (show 0 < nI (pre c 6) from nI_lt (a := 0) (by omega) (by omega))]
    exact qv_l_8 hs hn hR hC hT hc (by omega) C gF 0 (by omega) (by simp [gF]; omega)
theorem put_spec_8 {σ0 σ : St} (hs : sameC σ0 σ) {c : Nat → Nat} (hT : TO_8 σ c) {v : Nat} (hv : v < 6) : ∃ σ', fX7_put_8 σ (nI v) 1 = some ((), σ') ∧ TO_8 σ' (inc c v) ∧ sameC σ0 σ' ∧ σ'.1 25 = σ.1 25 := by
  obtain ⟨t1, t2, t3⟩ := hT
  obtain ⟨p1, p2⟩ := inc_pre c hv
  unfold fX7_put_8
  rw [if_pos (ib_nI (show v < 6 by omega) (by omega)), if_pos (ib_nI (show v < 6 by omega) (by omega)), nI_clamp (n := v) (by omega)]
  refine ⟨_, rfl, ⟨?_, ?_, ?_⟩, ?_, ?_⟩
  · exact TA_inc t1
  · refine Eq.trans (show _ = σ.2.1 4 + 1 from rfl) ?_
    rw [t2, p1]
    exact nI_1 _
  · refine Eq.trans (show _ = σ.2.1 5 + nI v * 1 from rfl) ?_
    rw [t3, p2, show nI v * (1 : Int32) = nI (v * 1) from pk_mul v 1, Nat.mul_one, nI_add]
  · exact sC_uI (sC_uI (sC_uA hs (by omega) _ _) (by omega) _) (by omega) _
  · rfl
theorem fill_l_8 {σ0 : St} : ∀ (n k : Nat) (σ : St), k ≤ 6 → 6 - k < n → sameC σ0 σ → (∀ v, v < k → σ.1 20 v = 0) → ∃ σ', fJ7_fill_53178_20_l5 n σ 0 (nI k) 6 = some ((), σ') ∧ (∀ v, v < 6 → σ'.1 20 v = 0) ∧ sameC σ0 σ' := by
  intro n
  induction n with
  | zero => intro k σ h1 h2; omega
  | succ n ih =>
    intro k σ h1 h2 hs hz
    show ∃ σ', fJ7_fill_53178_20_b5 (fJ7_fill_53178_20_l5 n) σ 0 (nI k) 6 = some ((), σ') ∧ _
    unfold fJ7_fill_53178_20_b5
    by_cases h : k = 6
    · subst h
      rw [if_pos (show (6 : Int32) ≤ nI 6 by decide)]
      exact ⟨σ, rfl, hz, hs⟩
    · rw [if_neg (show ¬ (6 : Int32) ≤ nI k from nI_ge (b := 6) (by omega) (by omega)), if_pos (ib_nI (show k < 6 by omega) (by omega)), nI_clamp (n := k) (by omega), show nI k + (1 : Int32) = nI (k + 1) from nI_1 k]
      refine ih (k + 1) _ (by omega) (by omega) (sC_uA hs (by omega) _ _) ?_
      intro v hv
      show upd (σ.1 20) k 0 v = 0
      by_cases e : v = k
      · subst e; exact pk_us
      · rw [pk_un e]; exact hz v (by omega)
theorem clear_spec_8 {σ0 σ : St} (hs : sameC σ0 σ) : ∃ σ', fX7_clear_8 σ = some ((), σ') ∧ TO_8 σ' (fun _ => 0) ∧ sameC σ0 σ' := by
  obtain ⟨σ', e1, e2, e3⟩ := fill_l_8 gF 0 σ (by omega) (by simp [gF]) hs (fun v h => absurd h (by omega))
  unfold fX7_clear_8
  rw [show fJ7_fill_53178_20 σ 0 = _ from e1, b_some]
  exact ⟨_, rfl, ⟨fun v hv => e2 v hv, rfl, rfl⟩, sC_uI (sC_uI e3 (by omega) _) (by omega) _⟩
def TO_9 (σ : St) (c : Nat → Nat) : Prop := TA (σ.1 26) c ∧ σ.2.1 6 = nI (pre c 6) ∧ σ.2.1 7 = nI (wsu c 6)
theorem fb_l_9 {σ : St} {c : Nat → Nat} (hT : TA (σ.1 26) c) (hc : pre c 6 ≤ 6) {pl : Nat} (hpl : pl < 100) : ∀ m n k, m + k = 5 → m < n → fX7_fromBelow_9_l4 n σ (nI pl) (nI (pre c k)) (nI k) = some (nI (fbf c pl m k), σ) := by
  intro m
  induction m with
  | zero =>
    intro n k h1 h2
    obtain ⟨n, rfl⟩ : ∃ i, n = i + 1 := ⟨n - 1, by omega⟩
    show fX7_fromBelow_9_b4 _ σ _ _ _ = _
    unfold fX7_fromBelow_9_b4
    rw [show k = 5 by omega, if_pos (show (5 : Int32) ≤ nI 5 by decide)]
    rfl
  | succ m ih =>
    intro n k h1 h2
    obtain ⟨n, rfl⟩ : ∃ i, n = i + 1 := ⟨n - 1, by omega⟩
    show fX7_fromBelow_9_b4 _ σ _ _ _ = _
    unfold fX7_fromBelow_9_b4
    have hm := pre_mono c (show k + 1 ≤ 6 by omega)
    rw [if_neg (show ¬ (5 : Int32) ≤ nI k from nI_ge (b := 5) (by omega) (by omega)), if_pos (ib_nI (show k < 6 by omega) (by omega)), nI_clamp (n := k) (by omega), hT k (by omega), nI_add, show nI k + (1 : Int32) = nI (k + 1) from nI_1 k]
    show (if nI (pre c (k + 1)) ≤ nI pl then fX7_fromBelow_9_l4 n σ (nI pl) (nI (pre c (k + 1))) (nI (k + 1)) else _) = _
    unfold fbf
    by_cases d : pre c (k + 1) ≤ pl
    · rw [if_pos d, if_pos (nI_le d (by omega))]
      exact ih n (k + 1) (by omega) (by omega)
    · rw [if_neg d, if_neg (nI_ge (by omega) (by omega))]
theorem fb_spec_9 {σ : St} {c : Nat → Nat} (hT : TA (σ.1 26) c) (hc : pre c 6 ≤ 6) {pl : Nat} (hpl : pl < 100) : fX7_fromBelow_9 σ (nI pl) = some (nI (fb c pl), σ) := fb_l_9 hT hc hpl 5 gF 0 rfl (by simp [gF])
theorem te_spec_9 {σ : St} {c : Nat → Nat} (hT : TO_9 σ c) (hc : pre c 6 ≤ 6) (h0 : 0 < pre c 6) (jn : Int32) : fX7_tenths_9 σ jn = some (nI (te jn c), σ) := by
  obtain ⟨t1, t2, t3⟩ := hT
  unfold fX7_tenths_9 te
  have hw := wsu_le c hc
  have ten : ∀ x : Nat, (10 : Int32) * nI x = nI (10 * x) := fun x => pk_mul 10 x
  have e1 : nI (pre c 6) - 1 = nI (pre c 6 - 1) := pk_sub (b := 1) (by omega)
  have e2 : nI (pre c 6 - 1) / 2 = nI ((pre c 6 - 1) / 2) := pk_div (d := 2) (by omega) (by omega) (by omega)
  rw [t2, t3]
  by_cases c1 : jn = 97
  · rw [if_pos c1, if_pos c1, if_neg (show ¬ nI (pre c 6) ≤ 0 from nI_ge (a := 0) (by omega) (by omega)), if_pos (show ¬ nI (pre c 6) = 0 from fun q => by have := (nI_z (by omega)).mp q; omega), ten, pk_div (by omega) h0 (by omega)]
  · rw [if_neg c1, if_neg c1]
    by_cases c2 : jn = 108
    · rw [if_pos c2, if_pos c2, show fX7_fromBelow_9 σ 0 = _ from fb_spec_9 t1 hc (pl := 0) (by omega), b_some]
      dsimp only
      rw [ten]
    · rw [if_neg c2, if_neg c2]
      by_cases c3 : jn = 109
      · rw [if_pos c3, if_pos c3, e1, e2, fb_spec_9 t1 hc (by omega), b_some]
        dsimp only
        rw [ten]
      · rw [if_neg c3, if_neg c3, e1, fb_spec_9 t1 hc (by omega), b_some]
        dsimp only
        rw [ten]
theorem qv_l_9 {σ0 σ μ : St} {S C : Nat} (hs : sameC σ0 σ) (hn : σ0.2.1 3 = nI C) (hR : IvR σ0 μ S C) (hC : C ≤ 10) {c : Nat → Nat} (hT : TO_9 σ c) (hc : pre c 6 ≤ 6) (h0 : 0 < pre c 6) : ∀ m n k, k + m = C → m < n → fX5_quarters_9_l11 n σ (nI k) = some (nI (qv (σ0.1 22) (σ0.1 23) (σ0.1 24) c m k), σ) := by
  have hn' : σ.2.1 3 = nI C := (hs.2 3 (by omega)).trans hn
  intro m
  induction m with
  | zero =>
    intro n k h1 h2
    obtain ⟨n, rfl⟩ : ∃ i, n = i + 1 := ⟨n - 1, by omega⟩
    show fX5_quarters_9_b11 _ σ _ = _
    unfold fX5_quarters_9_b11
    rw [hn', if_pos (nI_le (by omega) (by omega))]
    rfl
  | succ m ih =>
    intro n k h1 h2
    obtain ⟨n, rfl⟩ : ∃ i, n = i + 1 := ⟨n - 1, by omega⟩
    show fX5_quarters_9_b11 _ σ _ = _
    unfold fX5_quarters_9_b11
    rw [hn', if_neg (nI_ge (by omega) (by omega)), if_pos (ib_nI (show k < 10 by omega) (by omega)), nI_clamp (n := k) (by omega), te_spec_9 hT hc h0, b_some]
    dsimp only
    rw [if_pos (ib_nI (show k < 10 by omega) (by omega)), if_pos (ib_nI (show k < 10 by omega) (by omega)), show nI k + (1 : Int32) = nI (k + 1) from nI_1 k, hs.1 22 (by omega), hs.1 23 (by omega), hs.1 24 (by omega)]
    unfold qv
    by_cases d : nI (te (σ0.1 22 k) c) ≤ σ0.1 23 k
    · rw [if_pos d, if_pos d]
      exact ih n (k + 1) (by omega) (by omega)
    · rw [if_neg d, if_neg d]
      obtain ⟨d1, d2⟩ := hR.2.2.2 k (by omega)
      obtain ⟨d, e1, e2⟩ := nI_rng (n := 4) (x := μ.1 14 k) ⟨by have := d2.1; omega, d2.2⟩ (by omega)
      rw [d1, e2, nI_clamp (by omega)]
theorem qn_spec_9 {σ0 σ μ : St} {S C : Nat} (hs : sameC σ0 σ) (hn : σ0.2.1 3 = nI C) (hR : IvR σ0 μ S C) (hC : C ≤ 10) {c : Nat → Nat} (hT : TO_9 σ c) (hc : pre c 6 ≤ 6) : fX5_quarters_9 σ = some (nI (qn σ0 C c), σ) := by
  unfold fX5_quarters_9 qn
  rw [hT.2.1]
  by_cases h0 : pre c 6 = 0
  · rw [if_pos h0, h0, if_neg (by decide)]
    rfl
  · rw [if_neg h0, if_pos (show 0 < nI (pre c 6) from nI_lt (a := 0) (by omega) (by omega))]
    exact qv_l_9 hs hn hR hC hT hc (by omega) C gF 0 (by omega) (by simp [gF]; omega)
theorem put_spec_9 {σ0 σ : St} (hs : sameC σ0 σ) {c : Nat → Nat} (hT : TO_9 σ c) {v : Nat} (hv : v < 6) : ∃ σ', fX7_put_9 σ (nI v) 1 = some ((), σ') ∧ TO_9 σ' (inc c v) ∧ sameC σ0 σ' ∧ σ'.1 25 = σ.1 25 := by
  obtain ⟨t1, t2, t3⟩ := hT
  obtain ⟨p1, p2⟩ := inc_pre c hv
  unfold fX7_put_9
  rw [if_pos (ib_nI (show v < 6 by omega) (by omega)), if_pos (ib_nI (show v < 6 by omega) (by omega)), nI_clamp (n := v) (by omega)]
  refine ⟨_, rfl, ⟨?_, ?_, ?_⟩, ?_, ?_⟩
  · exact TA_inc t1
  · refine Eq.trans (show _ = σ.2.1 6 + 1 from rfl) ?_
    rw [t2, p1]
    exact nI_1 _
  · refine Eq.trans (show _ = σ.2.1 7 + nI v * 1 from rfl) ?_
    rw [t3, p2, show nI v * (1 : Int32) = nI (v * 1) from pk_mul v 1, Nat.mul_one, nI_add]
  · exact sC_uI (sC_uI (sC_uA hs (by omega) _ _) (by omega) _) (by omega) _
  · rfl
theorem fill_l_9 {σ0 : St} : ∀ (n k : Nat) (σ : St), k ≤ 6 → 6 - k < n → sameC σ0 σ → (∀ v, v < k → σ.1 26 v = 0) → ∃ σ', fJ7_fill_53178_26_l5 n σ 0 (nI k) 6 = some ((), σ') ∧ (∀ v, v < 6 → σ'.1 26 v = 0) ∧ sameC σ0 σ' := by
  intro n
  induction n with
  | zero => intro k σ h1 h2; omega
  | succ n ih =>
    intro k σ h1 h2 hs hz
    show ∃ σ', fJ7_fill_53178_26_b5 (fJ7_fill_53178_26_l5 n) σ 0 (nI k) 6 = some ((), σ') ∧ _
    unfold fJ7_fill_53178_26_b5
    by_cases h : k = 6
    · subst h
      rw [if_pos (show (6 : Int32) ≤ nI 6 by decide)]
      exact ⟨σ, rfl, hz, hs⟩
    · rw [if_neg (show ¬ (6 : Int32) ≤ nI k from nI_ge (b := 6) (by omega) (by omega)), if_pos (ib_nI (show k < 6 by omega) (by omega)), nI_clamp (n := k) (by omega), show nI k + (1 : Int32) = nI (k + 1) from nI_1 k]
      refine ih (k + 1) _ (by omega) (by omega) (sC_uA hs (by omega) _ _) ?_
      intro v hv
      show upd (σ.1 26) k 0 v = 0
      by_cases e : v = k
      · subst e; exact pk_us
      · rw [pk_un e]; exact hz v (by omega)
theorem clear_spec_9 {σ0 σ : St} (hs : sameC σ0 σ) : ∃ σ', fX7_clear_9 σ = some ((), σ') ∧ TO_9 σ' (fun _ => 0) ∧ sameC σ0 σ' := by
  obtain ⟨σ', e1, e2, e3⟩ := fill_l_9 gF 0 σ (by omega) (by simp [gF]) hs (fun v h => absurd h (by omega))
  unfold fX7_clear_9
  rw [show fJ7_fill_53178_26 σ 0 = _ from e1, b_some]
  exact ⟨_, rfl, ⟨fun v hv => e2 v hv, rfl, rfl⟩, sC_uI (sC_uI e3 (by omega) _) (by omega) _⟩
