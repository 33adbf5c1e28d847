/-! ===== match: one chain is changed ===== -/
def Ar (σ σ' : St) (s wn LD : Nat → Nat) : Prop := sameC σ σ' ∧ (∀ p, p < 6 → σ'.1 27 p = nI (s p)) ∧ (∀ p, p < 6 → σ'.1 28 p = nI (wn p)) ∧ (∀ j, j < 6 → σ'.1 29 j = nI (LD j))
def Gd (σ : St) (P J k : Nat) (s wn : Nat → Nat) : Prop := (∀ p, p < 6 → s p < 2 ^ J) ∧ (∀ p, p < P → wn p + sN (fun j => bt (s p) j) J = k) ∧ (∀ p, p < P → ∀ j, j < J → bt (s p) j = 1 → al σ p j) ∧ (∀ p, p < 6 → wn p ≤ 3)
theorem u27_32 (σ : St) (i : Nat) (v : Int32) : (uA σ 27 i v).1 32 = σ.1 32 := rfl
theorem u27_28 (σ : St) (i : Nat) (v : Int32) : (uA σ 27 i v).1 28 = σ.1 28 := rfl
theorem u27_27 (σ : St) (i : Nat) (v : Int32) : (uA σ 27 i v).1 27 = upd (σ.1 27) i v := rfl
/-- judges with an earlier stamp -/
def jc (t : Nat → Nat) (c : Nat) : Nat := cnt (fun j => decide (t (6 + j) < t (6 + c))) 6
theorem cnt_lt {f g : Nat → Bool} {i : Nat} (hfg : ∀ j, f j = true → g j = true) (h1 : f i = false) (h2 : g i = true) : ∀ n, cnt f n + (if i < n then 1 else 0) ≤ cnt g n := by
  intro n
  induction n with
  | zero => rw [if_neg (by omega)]; exact Nat.le_refl 0
  | succ n ih =>
    have e1 : cnt f (n + 1) = cnt f n + (if f n = true then 1 else 0) := rfl
    have e2 : cnt g (n + 1) = cnt g n + (if g n = true then 1 else 0) := rfl
    rw [e1, e2]
    by_cases c : n = i
    · subst c
      rw [h1, h2, if_neg (show ¬ false = true by decide), if_pos rfl, if_pos (show n < n + 1 by omega)]
      rw [if_neg (show ¬ n < n by omega)] at ih
      omega
    · have hle : (if f n = true then 1 else 0) ≤ (if g n = true then 1 else 0) := by
        by_cases d : f n = true
        · rw [if_pos d, if_pos (hfg n d)]; exact Nat.le_refl 1
        · rw [if_neg d]; exact Nat.zero_le _
      by_cases d : i < n
      · rw [if_pos d] at ih
        rw [if_pos (show i < n + 1 by omega)]
        omega
      · rw [if_neg d] at ih
        rw [if_neg (show ¬ i < n + 1 by omega)]
        omega
theorem jc_lt (t : Nat → Nat) {c c' : Nat} (hc : c' < 6) (h : t (6 + c') < t (6 + c)) : jc t c' + 1 ≤ jc t c := by
  have := cnt_lt (f := fun j => decide (t (6 + j) < t (6 + c'))) (g := fun j => decide (t (6 + j) < t (6 + c))) (i := c') (fun j hj => by
    have h1 := of_decide_eq_true hj
    exact decide_eq_true (by omega)) (decide_eq_false (by omega)) (decide_eq_true h) 6
  rw [if_pos hc] at this
  exact this
theorem jc_le (t : Nat → Nat) {c : Nat} (hc : c < 6) : jc t c + 1 ≤ 6 := by
  have := cnt_lt (f := fun j => decide (t (6 + j) < t (6 + c))) (g := fun _ => true) (i := c) (fun j _ => rfl) (decide_eq_false (by omega)) rfl 6
  rw [if_pos hc] at this
  have e : cnt (fun _ => true) 6 = 6 := rfl
  unfold jc
  omega
theorem chg_l {σ μ : St} {J P S C k : Nat} (hN : IvN σ μ J P S C) (hP : IvP σ μ J P) {s wn : Nat → Nat} {val : Nat → Int} {pr t : Nat → Nat} (hlk : ∀ v, v < 12 → ¬ val v = UU → (pr v = 12 ∧ v < 6 ∧ 0 < wn v) ∨ (∃ a b g, Ec σ P J s a b (pr v) v g ∧ ¬ val (pr v) = UU ∧ val v = val (pr v) + g ∧ t (pr v) < t v)) {Pi : Nat → Int} {D : Int} (hPot0 : Pot (Ec σ P J s) Pi) {LD : Nat → Nat} : ∀ (n i c : Nat) (σ' : St) (s' : Nat → Nat), i + jc t c < 6 → 7 - i < n → c < J → (∀ v, v < 12 → pl σ' v = pr v) → Ar σ σ' s' wn LD → Gd σ P J k s' wn → (∀ j, j < J → LD j = sN (fun q => bt (s' q) j) P + (if j = c then 1 else 0)) → Pot (Ec σ P J s') (nP val Pi D) → ¬ val (6 + c) = UU → Pi (6 + c) - val (6 + c) ≤ D → (∀ q, q < P → t q < t (6 + c) → s' q = s q) → ∃ σ'' s'' wn'', fX2_change_l14 n σ' (nI c) (nI i) = some ((), σ'') ∧ Ar σ σ'' s'' wn'' LD ∧ Gd σ P J k s'' wn'' ∧ (∀ j, j < J → LD j = sN (fun q => bt (s'' q) j) P) ∧ Pot (Ec σ P J s'') (nP val Pi D) ∧ sN wn'' P + 1 = sN wn P := by
  obtain ⟨n1, n2, n3, n4, n5, n6, n7, n8, n9, n10, n11, n12⟩ := id hN
  have h64J := two_pow6 n1
  intro n
  induction n with
  | zero => intro i c σ' s' h1 h2; omega
  | succ n ih =>
    intro i c σ' s' hi hn hc hpl hA hG hL hPot hv hD hsame
    obtain ⟨hA1, hA2, hA3, hA4⟩ := hA
    obtain ⟨hG1, hG2, hG3, hG4⟩ := hG
    rcases hlk (6 + c) (by omega) hv with ⟨-, q, -⟩ | ⟨p, b, g, ⟨e1, e2, e3⟩, k2, k3, k4⟩
    · omega
    · rcases e3 with ⟨z1, z2, z3, z4⟩ | ⟨z1, z0, z2, z3, z4⟩
      · omega
      · obtain rfl : b = c := by omega
        have hp6 : p < 6 := by omega
        have hb6 : b < 6 := by omega
        have hget : σ'.1 33 b = nI p := by
          have h1 := hpl (6 + b) (by omega)
          rw [pl_J, z2] at h1
          by_cases q : σ'.1 33 b = -6
          · rw [if_pos q] at h1; omega
          · rw [if_neg q] at h1; exact nd_inv h1 hp6
        rw [z2] at k2 k3 k4
        rw [z4] at k3
        have hs' : s' p = s p := hsame p e1 k4
        have hsp := hG1 p hp6
        have hbit : bt (s' p) b = 0 := by rw [hs']; exact z1
        have hDp : Pi p - val p ≤ D := by
          have := hPot0 p b p (6 + b) (wI σ p b) ⟨e1, e2, Or.inr ⟨z1, z0, rfl, rfl, rfl⟩⟩
          omega
        have tight1 : nP val Pi D (6 + b) = nP val Pi D p + wI σ p b := by
          rw [nP_eq val Pi D (6 + b) hv hD, nP_eq val Pi D p k2 hDp, k3]
        obtain ⟨f1, f2, f3⟩ := flip_add (s := s') e1 e2 n1 (by omega) hbit
        have hlt := or_lt J (by omega) (s' p) hsp b e2 hbit
        have hset27 : σ'.1 27 p ||| ((1 : Int32) <<< (nI b &&& 31)) = nI (s' p + 2 ^ b) := by rw [hA2 p hp6, or_val _ (by omega) b hb6 hbit]
        have hPot1 : Pot (Ec σ P J (up s' p (s' p + 2 ^ b))) (nP val Pi D) := Pot_flip hPot (fun q j hq hj => by
          rw [f1 q j (by omega)]
          by_cases z : q = p ∧ j = b
          · right; rw [z.1, z.2]; exact tight1
          · left; rw [if_neg z])
        have hal1 : ∀ q, q < P → ∀ j, j < J → bt (up s' p (s' p + 2 ^ b) q) j = 1 → al σ q j := by
          intro q hq j hj hx
          rw [f1 q j (by omega)] at hx
          by_cases z : q = p ∧ j = b
          · rw [z.1, z.2]; exact z0
          · rw [if_neg z] at hx; exact hG3 q hq j hj hx
        show ∃ σ'' s'' wn'', fX2_change_b14 (fX2_change_l14 n) σ' (nI b) (nI i) = some ((), σ'') ∧ _
        unfold fX2_change_b14 fX2_change_b98
        rw [if_neg (show ¬ (6 : Int32) ≤ nI i from nI_ge (b := 6) (by omega) (by omega)), if_neg (nI_nem6 (show b < 2 ^ 31 by omega)), if_pos (ib_nI hb6 (by omega)), nI_clamp (n := b) (by omega), hget, if_neg (nI_nem6 (show p < 2 ^ 31 by omega))]
        simp only [if_pos (ib_nI hp6 (show (6 : Nat) < 2 ^ 31 by omega)), nI_clamp (show p < 2 ^ 31 by omega), u27_32, u27_28, u27_27, pk_us, hset27, show nI i + (1 : Int32) = nI (i + 1) from nI_1 i]
        rcases hlk p (by omega) k2 with ⟨r1, r2, r3⟩ | ⟨a, b', g', ⟨y1, y2, y3⟩, m2, m3, m4⟩
        · have hgv : σ'.1 32 p = -6 := by
            have h1 := hpl p (by omega)
            rw [pl_P _ hp6, r1] at h1
            by_cases q : σ'.1 32 p = -6
            · exact q
            · rw [if_neg q] at h1
              have h2 := nd_inv (x := σ'.1 32 p) (p := 6)
              unfold nd at h1
              by_cases q2 : 0 ≤ (σ'.1 32 p).toInt ∧ (σ'.1 32 p).toInt < 6
              · rw [if_pos q2] at h1; omega
              · rw [if_neg q2] at h1; omega
          rw [if_pos hgv]
          have hw3 := hG4 p hp6
          have hend : ∀ τ : St, fX2_change_l14 n τ (σ'.1 32 p) (nI (i + 1)) = some ((), τ) := by
            intro τ
            obtain ⟨n', rfl⟩ : ∃ m, n = m + 1 := ⟨n - 1, by omega⟩
            show fX2_change_b14 (fX2_change_l14 n') τ _ _ = _
            unfold fX2_change_b14
            by_cases q : (6 : Int32) ≤ nI (i + 1)
            · rw [if_pos q]
            · rw [if_neg q, if_pos hgv]
          refine ⟨_, up s' p (s' p + 2 ^ b), up wn p (wn p - 1), hend _, ?_, ?_, ?_, hPot1, ?_⟩
          · refine ⟨sC_uA (sC_uA hA1 (by omega) _ _) (by omega) _ _, ?_, ?_, ?_⟩
            · intro q hq
              show upd (σ'.1 27) p (nI (s' p + 2 ^ b)) q = _
              by_cases z : q = p
              · subst z; rw [pk_us, up_s]
              · rw [pk_un z, up_n _ _ z]; exact hA2 q hq
            · intro q hq
              show upd (σ'.1 28) p (σ'.1 28 p - 1) q = _
              by_cases z : q = p
              · subst z
                rw [pk_us, up_s, hA3 q hq]
                exact pk_sub (b := 1) (by omega)
              · rw [pk_un z, up_n _ _ z]; exact hA3 q hq
            · intro j hj
              exact hA4 j hj
          · refine ⟨?_, ?_, hal1, ?_⟩
            · intro q hq
              by_cases z : q = p
              · subst z; rw [up_s]; exact hlt
              · rw [up_n _ _ z]; exact hG1 q hq
            · intro q hq
              rw [f2 q]
              have := hG2 q hq
              by_cases z : q = p
              · subst z
                rw [up_s, if_pos rfl]
                omega
              · rw [up_n _ _ z, if_neg z]
                omega
            · intro q hq
              have := hG4 q hq
              by_cases z : q = p
              · subst z; rw [up_s]; omega
              · rw [up_n _ _ z]; exact this
          · intro j hj
            rw [f3 j hj]
            exact hL j hj
          · have := sN_inc (up wn p (wn p - 1)) wn p P (fun q hq => by
              by_cases z : q = p
              · subst z
                rw [if_pos rfl, up_s]
                omega
              · rw [if_neg z, up_n _ _ z])
            rw [if_pos e1] at this
            exact this.symm
        · rcases y3 with ⟨x1, x2, x3, x4⟩ | ⟨x1, x0, x2, x3, x4⟩
          · obtain rfl : a = p := x3.symm
            rw [x2] at m2 m3 m4
            rw [x4] at m3
            have hb'6 : b' < 6 := by omega
            have hgv : σ'.1 32 a = nI b' := by
              have h1 := hpl a (by omega)
              rw [pl_P _ hp6, x2] at h1
              by_cases q : σ'.1 32 a = -6
              · rw [if_pos q] at h1; omega
              · rw [if_neg q] at h1; exact nd_inv (p := b') (by omega) hb'6
            have hbb : ¬ b' = b := by
              intro q
              subst q
              omega
            rw [if_neg (show ¬ σ'.1 32 a = -6 by rw [hgv]; exact nI_nem6 (by omega)), hgv]
            have hbit' : bt (s' a + 2 ^ b) b' = 1 := by
              rw [addb_val _ (by omega) b hb6 hbit b' hb'6, if_neg hbb, hs']
              exact x1
            rw [clr_val (s' a + 2 ^ b) (by omega) b' hb'6]
            have hs1 : up s' a (s' a + 2 ^ b) a = s' a + 2 ^ b := up_s _ _ _
            have h641 : up s' a (s' a + 2 ^ b) a < 64 := by rw [hs1]; omega
            obtain ⟨d1, d2, d3⟩ := flip_del (s := up s' a (s' a + 2 ^ b)) (P := P) (c := b') e1 y2 n1 h641 (by rw [hs1]; exact hbit')
            rw [hs1] at d1 d2 d3
            have hDb : Pi (6 + b') - val (6 + b') ≤ D := by
              have := hPot0 a b' (6 + b') a (- wI σ a b') ⟨e1, y2, Or.inl ⟨x1, rfl, rfl, rfl⟩⟩
              omega
            have tight2 : nP val Pi D (6 + b') = nP val Pi D a + wI σ a b' := by
              rw [nP_eq val Pi D (6 + b') m2 hDb, nP_eq val Pi D a k2 hDp]
              omega
            have hPot2 : Pot (Ec σ P J (up (up s' a (s' a + 2 ^ b)) a (s' a + 2 ^ b - bt (s' a + 2 ^ b) b' * 2 ^ b'))) (nP val Pi D) := Pot_flip hPot1 (fun q j hq hj => by
              rw [d1 q j (by omega)]
              by_cases z : q = a ∧ j = b'
              · right; rw [z.1, z.2]; exact tight2
              · left; rw [if_neg z])
            refine ih (i + 1) b' _ (up (up s' a (s' a + 2 ^ b)) a (s' a + 2 ^ b - bt (s' a + 2 ^ b) b' * 2 ^ b')) ?_ (by omega) y2 ?_ ?_ ?_ ?_ hPot2 m2 hDb ?_
            · have := jc_lt t hb'6 (show t (6 + b') < t (6 + b) by omega)
              omega
            · intro v hvv
              exact hpl v hvv
            · refine ⟨sC_uA (sC_uA hA1 (by omega) _ _) (by omega) _ _, ?_, fun q hq => hA3 q hq, fun j hj => hA4 j hj⟩
              intro q hq
              show upd (upd (σ'.1 27) a _) a _ q = _
              by_cases z : q = a
              · subst z; rw [pk_us, up_s]
              · rw [pk_un z, pk_un z, up_n _ _ z, up_n _ _ z]; exact hA2 q hq
            · refine ⟨?_, ?_, ?_, hG4⟩
              · intro q hq
                by_cases z : q = a
                · subst z; rw [up_s]; omega
                · rw [up_n _ _ z, up_n _ _ z]; exact hG1 q hq
              · intro q hq
                have h1 := d2 q
                have h2 := f2 q
                have h3 := hG2 q hq
                omega
              · intro q hq j hj hx
                rw [d1 q j (by omega)] at hx
                by_cases z : q = a ∧ j = b'
                · rw [if_pos z] at hx; omega
                · rw [if_neg z] at hx; exact hal1 q hq j hj hx
            · intro j hj
              have h1 := d3 j hj
              have h2 := f3 j hj
              have h3 := hL j hj
              omega
            · intro q hq htq
              have hqa : ¬ q = a := by intro z; subst z; omega
              rw [up_n _ _ hqa, up_n _ _ hqa]
              exact hsame q hq (by omega)
          · omega
