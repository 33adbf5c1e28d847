/-! ===== the constructors ===== -/
theorem gbeq {j k : Nat} (h : j ≠ k) : Nat.beq j k = false := by
  cases hb : Nat.beq j k with
  | false => rfl
  | true => exact absurd (Nat.eq_of_beq_eq_true hb) h
theorem uA_same (σ : St) (k i : Nat) (v : Int32) : (uA σ k i v).1 k = upd (σ.1 k) i v := by simp [uA]
theorem uA_ne (σ : St) {k j : Nat} (i : Nat) (v : Int32) (h : j ≠ k) : (uA σ k i v).1 j = σ.1 j := by simp [uA, gbeq h]
theorem uA_I (σ : St) (k i : Nat) (v : Int32) : (uA σ k i v).2.1 = σ.2.1 := rfl
theorem uA_L (σ : St) (k i : Nat) (v : Int32) : (uA σ k i v).2.2 = σ.2.2 := rfl
theorem uI_same (σ : St) (k : Nat) (v : Int32) : (uI σ k v).2.1 k = v := by simp [uI]
theorem uI_ne (σ : St) {k j : Nat} (v : Int32) (h : j ≠ k) : (uI σ k v).2.1 j = σ.2.1 j := by simp [uI, gbeq h]
theorem uI_A (σ : St) (k : Nat) (v : Int32) : (uI σ k v).1 = σ.1 := rfl
theorem uI_L (σ : St) (k : Nat) (v : Int32) : (uI σ k v).2.2 = σ.2.2 := rfl
theorem uL_same (σ : St) (k i : Nat) (v : Int64) : (uL σ k i v).2.2 k = vp_updL (σ.2.2 k) i v := by simp [uL]
theorem uL_ne (σ : St) {k j : Nat} (i : Nat) (v : Int64) (h : j ≠ k) : (uL σ k i v).2.2 j = σ.2.2 j := by simp [uL, gbeq h]
theorem uL_A (σ : St) (k i : Nat) (v : Int64) : (uL σ k i v).1 = σ.1 := rfl
theorem uL_I (σ : St) (k i : Nat) (v : Int64) : (uL σ k i v).2.1 = σ.2.1 := rfl
theorem ib_nI {i N : Nat} (h : i < N) (hN : N < 2 ^ 31) : ib (nI i) N = true := by
  have h1 := nI_toInt (n := i) (by omega)
  simp only [ib, h1, Bool.and_eq_true, decide_eq_true_eq]
  omega
theorem fill0_l (v : Int32) : ∀ (n i : Nat) (σ : St), i ≤ 36 → 36 - i < n → ∃ σ' : St, fJ7_fill_53178_0_l5 n σ v (nI i) (36 : Int32) = some ((), σ') ∧ (∀ j, i ≤ j → j < 36 → σ'.1 0 j = v) ∧ (∀ j, j < i → σ'.1 0 j = σ.1 0 j) := by
  intro n
  induction n with
  | zero => intro i σ h1 h2; omega
  | succ n ih =>
    intro i σ h1 h2
    show ∃ σ', fJ7_fill_53178_0_b5 (fJ7_fill_53178_0_l5 n) σ v (nI i) (36 : Int32) = some ((), σ') ∧ _
    unfold fJ7_fill_53178_0_b5
    by_cases hi : i = 36
    · subst hi
      rw [if_pos (show (36 : Int32) ≤ nI 36 by decide)]
      exact ⟨σ, rfl, fun j h3 h4 => by omega, fun j _ => rfl⟩
    · have hlt : i < 36 := by omega
      rw [if_neg (show ¬ (36 : Int32) ≤ nI i from nI_ge (b := 36) hlt (by omega)), if_pos (ib_nI hlt (by omega)), nI_clamp (n := i) (by omega)]
      rw [show nI i + 1 = nI (i + 1) from nI_1 i]
      obtain ⟨σ', e1, e2, e3⟩ := ih (i + 1) (uA σ 0 i v) (by omega) (by omega)
      refine ⟨σ', e1, fun j h3 h4 => ?_, fun j h3 => ?_⟩
      · by_cases hj : j = i
        · subst hj
          rw [e3 j (by omega), uA_same]
          exact pk_us
        · exact e2 j (by omega) h4
      · rw [e3 j (by omega), uA_same]
        exact pk_un (by omega)
theorem fill0 (σ : St) (v : Int32) : ∃ σ' : St, fJ7_fill_53178_0 σ v = some ((), σ') ∧ ∀ j, j < 36 → σ'.1 0 j = v := by
  obtain ⟨σ', e1, e2, -⟩ := fill0_l v gF 0 σ (by omega) (by simp [gF])
  exact ⟨σ', e1, fun j h => e2 j (by omega) h⟩
def st0 (g : Nat → Int32) : St := (fun k => bif Nat.beq k 19 then g else fun _ => 0, fun _ => 0, fun _ _ => 0)
def sm0 : St := (fun _ _ => 0, fun _ => 0, fun _ _ => 0)
def PoX7 (V : gV) (h : Nat) (wf : va_W) : Prop := ∃ (q1 : Nat), wf = [(h, .inr (7, [.ref q1, .int 0, .int 0])), (q1, .inl (V.2.1, 6, .inl (fun _ => 0)))]
theorem hi_X7_init_X7 : ∀ w ∈ wsX70, w ∈ wsX7_init := by decide +kernel
theorem hk_X7_init_9 : Cond.fieldLink RX7 9 "PaperMarks$Tally" "counts" "[I" ∈ wsX7_init := by decide +kernel
def rmc_X7 : Room := { frames := 1, cells := 1, slots := 6, locals := 12 }
set_option maxHeartbeats 4000000 in
set_option maxRecDepth 100000 in
theorem ctor_X7 (l : Launch) (D : va_G) (V : gV) (h : Nat) (sz : Nat) : MI l D V yX7_init wsX7_init rmc_X7 [.ref h] [(h, .inr (7, [.null, .int 0, .int 0]))] sz 1 6 (PoX7 V h) := by
  refine MI_of (cc := cX7_init) (maxL := 1) (own := RX7) (lvs := [(0, .ref h)]) (by decide) rfl rfl rfl (Nat.le_of_ble_eq_true rfl) rfl (fun X E => ?_)
  refine c_aload_n E 0 dX7_init_0 rfl rfl ?_
  refine c_objInit E (by decide +kernel) (by decide +kernel) (List.mem_of_getElem? (i := 3) rfl) (Nat.le_of_ble_eq_true rfl) (Nat.le_of_ble_eq_true rfl) dX7_init_1 ?_
  refine c_aload_n E 0 dX7_init_4 rfl rfl ?_
  refine c_bipush (v := 6) E dX7_init_5 (by decide) ?_
  refine c_newaI (N := 6) E (by decide +kernel) (by decide) (by decide) (by decide) (Nat.le_of_ble_eq_true rfl) (Nat.le_of_ble_eq_true rfl) dX7_init_7 (fun q1 => ?_)
  refine c_putF (C := RX7) (T := TX7) (N := 3) (ci := 7) (ty := (.array .int)) E 0 0 [(h, .inr (7, [.ref q1, .int 0, .int 0])), (q1, .inl (V.2.1, 6, .inl (fun _ => 0)))] hi_X7_init_X7 tyX7 tyX7_ok nmX7 rfl rfl (by decide) hk_X7_init_9 rfl rfl (by decide +kernel) rfl rfl (Nat.le_of_ble_eq_true rfl) rfl dX7_init_9 ?_
  exact c_vret E ⟨q1, rfl⟩ rfl rfl dX7_init_12
def PoX0 (V : gV) (h : Nat) (wf : va_W) : Prop := ∃ (q1 q2 q3 q4 : Nat), wf = [(h, .inr (0, [.ref q1, .ref q2, .ref q3, .ref q4, .int 0])), (q1, .inl (V.2.1, 6, .inl (fun _ => 0))), (q2, .inl (V.2.1, 6, .inl (fun _ => 0))), (q3, .inl (V.2.1, 6, .inl (fun _ => 0))), (q4, .inl (V.2.1, 36, .inl (fun _ => 0)))]
theorem hi_X0_init_X0 : ∀ w ∈ wsX00, w ∈ wsX0_init := by decide +kernel
theorem hk_X0_init_9 : Cond.fieldLink RX0 9 "PaperMarks$Judges" "leans" "[I" ∈ wsX0_init := by decide +kernel
theorem hk_X0_init_15 : Cond.fieldLink RX0 15 "PaperMarks$Judges" "slips" "[I" ∈ wsX0_init := by decide +kernel
theorem hk_X0_init_18 : Cond.fieldLink RX0 18 "PaperMarks$Judges" "keys" "[I" ∈ wsX0_init := by decide +kernel
theorem hk_X0_init_21 : Cond.fieldLink RX0 21 "PaperMarks$Judges" "ties" "[I" ∈ wsX0_init := by decide +kernel
def rmc_X0 : Room := { frames := 1, cells := 4, slots := 54, locals := 12 }
set_option maxHeartbeats 4000000 in
set_option maxRecDepth 100000 in
theorem ctor_X0 (l : Launch) (D : va_G) (V : gV) (h : Nat) (sz : Nat) : MI l D V yX0_init wsX0_init rmc_X0 [.ref h] [(h, .inr (0, [.null, .null, .null, .null, .int 0]))] sz 4 54 (PoX0 V h) := by
  refine MI_of (cc := cX0_init) (maxL := 1) (own := RX0) (lvs := [(0, .ref h)]) (by decide) rfl rfl rfl (Nat.le_of_ble_eq_true rfl) rfl (fun X E => ?_)
  refine c_aload_n E 0 dX0_init_0 rfl rfl ?_
  refine c_objInit E (by decide +kernel) (by decide +kernel) (List.mem_of_getElem? (i := 3) rfl) (Nat.le_of_ble_eq_true rfl) (Nat.le_of_ble_eq_true rfl) dX0_init_1 ?_
  refine c_aload_n E 0 dX0_init_4 rfl rfl ?_
  refine c_bipush (v := 6) E dX0_init_5 (by decide) ?_
  refine c_newaI (N := 6) E (by decide +kernel) (by decide) (by decide) (by decide) (Nat.le_of_ble_eq_true rfl) (Nat.le_of_ble_eq_true rfl) dX0_init_7 (fun q1 => ?_)
  refine c_putF (C := RX0) (T := TX0) (N := 5) (ci := 0) (ty := (.array .int)) E 0 0 [(h, .inr (0, [.ref q1, .null, .null, .null, .int 0])), (q1, .inl (V.2.1, 6, .inl (fun _ => 0)))] hi_X0_init_X0 tyX0 tyX0_ok nmX0 rfl rfl (by decide) hk_X0_init_9 rfl rfl (by decide +kernel) rfl rfl (Nat.le_of_ble_eq_true rfl) rfl dX0_init_9 ?_
  refine c_aload_n E 0 dX0_init_12 rfl rfl ?_
  refine c_bipush (v := 6) E dX0_init_13 (by decide) ?_
  refine c_newaI (N := 6) E (by decide +kernel) (by decide) (by decide) (by decide) (Nat.le_of_ble_eq_true rfl) (Nat.le_of_ble_eq_true rfl) dX0_init_15 (fun q2 => ?_)
  refine c_putF (C := RX0) (T := TX0) (N := 5) (ci := 0) (ty := (.array .int)) E 0 1 [(h, .inr (0, [.ref q1, .ref q2, .null, .null, .int 0])), (q1, .inl (V.2.1, 6, .inl (fun _ => 0))), (q2, .inl (V.2.1, 6, .inl (fun _ => 0)))] hi_X0_init_X0 tyX0 tyX0_ok nmX0 rfl rfl (by decide) hk_X0_init_15 rfl rfl (by decide +kernel) rfl rfl (Nat.le_of_ble_eq_true rfl) rfl dX0_init_17 ?_
  refine c_aload_n E 0 dX0_init_20 rfl rfl ?_
  refine c_bipush (v := 6) E dX0_init_21 (by decide) ?_
  refine c_newaI (N := 6) E (by decide +kernel) (by decide) (by decide) (by decide) (Nat.le_of_ble_eq_true rfl) (Nat.le_of_ble_eq_true rfl) dX0_init_23 (fun q3 => ?_)
  refine c_putF (C := RX0) (T := TX0) (N := 5) (ci := 0) (ty := (.array .int)) E 0 2 [(h, .inr (0, [.ref q1, .ref q2, .ref q3, .null, .int 0])), (q1, .inl (V.2.1, 6, .inl (fun _ => 0))), (q2, .inl (V.2.1, 6, .inl (fun _ => 0))), (q3, .inl (V.2.1, 6, .inl (fun _ => 0)))] hi_X0_init_X0 tyX0 tyX0_ok nmX0 rfl rfl (by decide) hk_X0_init_18 rfl rfl (by decide +kernel) rfl rfl (Nat.le_of_ble_eq_true rfl) rfl dX0_init_25 ?_
  refine c_aload_n E 0 dX0_init_28 rfl rfl ?_
  refine c_bipush (v := 36) E dX0_init_29 (by decide) ?_
  refine c_newaI (N := 36) E (by decide +kernel) (by decide) (by decide) (by decide) (Nat.le_of_ble_eq_true rfl) (Nat.le_of_ble_eq_true rfl) dX0_init_31 (fun q4 => ?_)
  refine c_putF (C := RX0) (T := TX0) (N := 5) (ci := 0) (ty := (.array .int)) E 0 3 [(h, .inr (0, [.ref q1, .ref q2, .ref q3, .ref q4, .int 0])), (q1, .inl (V.2.1, 6, .inl (fun _ => 0))), (q2, .inl (V.2.1, 6, .inl (fun _ => 0))), (q3, .inl (V.2.1, 6, .inl (fun _ => 0))), (q4, .inl (V.2.1, 36, .inl (fun _ => 0)))] hi_X0_init_X0 tyX0 tyX0_ok nmX0 rfl rfl (by decide) hk_X0_init_21 rfl rfl (by decide +kernel) rfl rfl (Nat.le_of_ble_eq_true rfl) rfl dX0_init_33 ?_
  exact c_vret E ⟨q1, q2, q3, q4, rfl⟩ rfl rfl dX0_init_36
def PoX4 (V : gV) (h : Nat) (wf : va_W) : Prop := ∃ (q1 q2 q3 q4 q5 : Nat), wf = [(h, .inr (4, [.ref q1, .ref q2, .ref q3, .ref q4, .ref q5, .int 0])), (q1, .inl (V.2.1, 6, .inl (fun _ => 0))), (q2, .inl (V.2.1, 6, .inl (fun _ => 0))), (q3, .inl (V.2.1, 6, .inl (fun _ => 0))), (q4, .inl (V.2.1, 6, .inl (fun _ => 0))), (q5, .inl (V.2.1, 36, .inl (fun _ => 0)))]
theorem hi_X4_init_X4 : ∀ w ∈ wsX40, w ∈ wsX4_init := by decide +kernel
theorem hk_X4_init_9 : Cond.fieldLink RX4 9 "PaperMarks$Papers" "worths" "[I" ∈ wsX4_init := by decide +kernel
theorem hk_X4_init_15 : Cond.fieldLink RX4 15 "PaperMarks$Papers" "writers" "[I" ∈ wsX4_init := by decide +kernel
theorem hk_X4_init_18 : Cond.fieldLink RX4 18 "PaperMarks$Papers" "keys" "[I" ∈ wsX4_init := by decide +kernel
theorem hk_X4_init_21 : Cond.fieldLink RX4 21 "PaperMarks$Papers" "laters" "[I" ∈ wsX4_init := by decide +kernel
theorem hk_X4_init_24 : Cond.fieldLink RX4 24 "PaperMarks$Papers" "bids" "[I" ∈ wsX4_init := by decide +kernel
def rmc_X4 : Room := { frames := 1, cells := 5, slots := 60, locals := 12 }
set_option maxHeartbeats 4000000 in
set_option maxRecDepth 100000 in
theorem ctor_X4 (l : Launch) (D : va_G) (V : gV) (h : Nat) (sz : Nat) : MI l D V yX4_init wsX4_init rmc_X4 [.ref h] [(h, .inr (4, [.null, .null, .null, .null, .null, .int 0]))] sz 5 60 (PoX4 V h) := by
  refine MI_of (cc := cX4_init) (maxL := 1) (own := RX4) (lvs := [(0, .ref h)]) (by decide) rfl rfl rfl (Nat.le_of_ble_eq_true rfl) rfl (fun X E => ?_)
  refine c_aload_n E 0 dX4_init_0 rfl rfl ?_
  refine c_objInit E (by decide +kernel) (by decide +kernel) (List.mem_of_getElem? (i := 3) rfl) (Nat.le_of_ble_eq_true rfl) (Nat.le_of_ble_eq_true rfl) dX4_init_1 ?_
  refine c_aload_n E 0 dX4_init_4 rfl rfl ?_
  refine c_bipush (v := 6) E dX4_init_5 (by decide) ?_
  refine c_newaI (N := 6) E (by decide +kernel) (by decide) (by decide) (by decide) (Nat.le_of_ble_eq_true rfl) (Nat.le_of_ble_eq_true rfl) dX4_init_7 (fun q1 => ?_)
  refine c_putF (C := RX4) (T := TX4) (N := 6) (ci := 4) (ty := (.array .int)) E 0 0 [(h, .inr (4, [.ref q1, .null, .null, .null, .null, .int 0])), (q1, .inl (V.2.1, 6, .inl (fun _ => 0)))] hi_X4_init_X4 tyX4 tyX4_ok nmX4 rfl rfl (by decide) hk_X4_init_9 rfl rfl (by decide +kernel) rfl rfl (Nat.le_of_ble_eq_true rfl) rfl dX4_init_9 ?_
  refine c_aload_n E 0 dX4_init_12 rfl rfl ?_
  refine c_bipush (v := 6) E dX4_init_13 (by decide) ?_
  refine c_newaI (N := 6) E (by decide +kernel) (by decide) (by decide) (by decide) (Nat.le_of_ble_eq_true rfl) (Nat.le_of_ble_eq_true rfl) dX4_init_15 (fun q2 => ?_)
  refine c_putF (C := RX4) (T := TX4) (N := 6) (ci := 4) (ty := (.array .int)) E 0 1 [(h, .inr (4, [.ref q1, .ref q2, .null, .null, .null, .int 0])), (q1, .inl (V.2.1, 6, .inl (fun _ => 0))), (q2, .inl (V.2.1, 6, .inl (fun _ => 0)))] hi_X4_init_X4 tyX4 tyX4_ok nmX4 rfl rfl (by decide) hk_X4_init_15 rfl rfl (by decide +kernel) rfl rfl (Nat.le_of_ble_eq_true rfl) rfl dX4_init_17 ?_
  refine c_aload_n E 0 dX4_init_20 rfl rfl ?_
  refine c_bipush (v := 6) E dX4_init_21 (by decide) ?_
  refine c_newaI (N := 6) E (by decide +kernel) (by decide) (by decide) (by decide) (Nat.le_of_ble_eq_true rfl) (Nat.le_of_ble_eq_true rfl) dX4_init_23 (fun q3 => ?_)
  refine c_putF (C := RX4) (T := TX4) (N := 6) (ci := 4) (ty := (.array .int)) E 0 2 [(h, .inr (4, [.ref q1, .ref q2, .ref q3, .null, .null, .int 0])), (q1, .inl (V.2.1, 6, .inl (fun _ => 0))), (q2, .inl (V.2.1, 6, .inl (fun _ => 0))), (q3, .inl (V.2.1, 6, .inl (fun _ => 0)))] hi_X4_init_X4 tyX4 tyX4_ok nmX4 rfl rfl (by decide) hk_X4_init_18 rfl rfl (by decide +kernel) rfl rfl (Nat.le_of_ble_eq_true rfl) rfl dX4_init_25 ?_
  refine c_aload_n E 0 dX4_init_28 rfl rfl ?_
  refine c_bipush (v := 6) E dX4_init_29 (by decide) ?_
  refine c_newaI (N := 6) E (by decide +kernel) (by decide) (by decide) (by decide) (Nat.le_of_ble_eq_true rfl) (Nat.le_of_ble_eq_true rfl) dX4_init_31 (fun q4 => ?_)
  refine c_putF (C := RX4) (T := TX4) (N := 6) (ci := 4) (ty := (.array .int)) E 0 3 [(h, .inr (4, [.ref q1, .ref q2, .ref q3, .ref q4, .null, .int 0])), (q1, .inl (V.2.1, 6, .inl (fun _ => 0))), (q2, .inl (V.2.1, 6, .inl (fun _ => 0))), (q3, .inl (V.2.1, 6, .inl (fun _ => 0))), (q4, .inl (V.2.1, 6, .inl (fun _ => 0)))] hi_X4_init_X4 tyX4 tyX4_ok nmX4 rfl rfl (by decide) hk_X4_init_21 rfl rfl (by decide +kernel) rfl rfl (Nat.le_of_ble_eq_true rfl) rfl dX4_init_33 ?_
  refine c_aload_n E 0 dX4_init_36 rfl rfl ?_
  refine c_bipush (v := 36) E dX4_init_37 (by decide) ?_
  refine c_newaI (N := 36) E (by decide +kernel) (by decide) (by decide) (by decide) (Nat.le_of_ble_eq_true rfl) (Nat.le_of_ble_eq_true rfl) dX4_init_39 (fun q5 => ?_)
  refine c_putF (C := RX4) (T := TX4) (N := 6) (ci := 4) (ty := (.array .int)) E 0 4 [(h, .inr (4, [.ref q1, .ref q2, .ref q3, .ref q4, .ref q5, .int 0])), (q1, .inl (V.2.1, 6, .inl (fun _ => 0))), (q2, .inl (V.2.1, 6, .inl (fun _ => 0))), (q3, .inl (V.2.1, 6, .inl (fun _ => 0))), (q4, .inl (V.2.1, 6, .inl (fun _ => 0))), (q5, .inl (V.2.1, 36, .inl (fun _ => 0)))] hi_X4_init_X4 tyX4 tyX4_ok nmX4 rfl rfl (by decide) hk_X4_init_24 rfl rfl (by decide +kernel) rfl rfl (Nat.le_of_ble_eq_true rfl) rfl dX4_init_41 ?_
  exact c_vret E ⟨q1, q2, q3, q4, q5, rfl⟩ rfl rfl dX4_init_44
def PoX1 (V : gV) (h : Nat) (wf : va_W) : Prop := ∃ (q1 q2 q3 : Nat) (g : Nat → Int32), (∀ i, i < 36 → g i = -6) ∧ wf = [(h, .inr (1, [.ref q1, .ref q2])), (q2, .inr (7, [.ref q3, .int 0, .int 0])), (q3, .inl (V.2.1, 6, .inl (fun _ => 0))), (q1, .inl (V.2.1, 36, .inl g))]
theorem hi_X1_init_X1 : ∀ w ∈ wsX10, w ∈ wsX1_init := by decide +kernel
theorem hk_X1_init_9 : Cond.fieldLink RX1 9 "PaperMarks$Marks" "came" "[I" ∈ wsX1_init := by decide +kernel
theorem hi_X1_init_X7 : ∀ w ∈ wsX70, w ∈ wsX1_init := by decide +kernel
theorem hk_X1_init_18 : Cond.fieldLink RX1 18 "PaperMarks$Marks" "tally" "LPaperMarks$Tally;" ∈ wsX1_init := by decide +kernel
def rmc_X1 : Room := { frames := 2, cells := 3, slots := 45, locals := 32 }
set_option maxHeartbeats 4000000 in
set_option maxRecDepth 100000 in
theorem ctor_X1 (l : Launch) (D : va_G) (V : gV) (h : Nat) (sz : Nat) : MI l D V yX1_init wsX1_init rmc_X1 [.ref h] [(h, .inr (1, [.null, .null]))] sz 3 45 (PoX1 V h) := by
  refine MI_of (cc := cX1_init) (maxL := 1) (own := RX1) (lvs := [(0, .ref h)]) (by decide) rfl rfl rfl (Nat.le_of_ble_eq_true rfl) rfl (fun X E => ?_)
  refine c_aload_n E 0 dX1_init_0 rfl rfl ?_
  refine c_objInit E (by decide +kernel) (by decide +kernel) (List.mem_of_getElem? (i := 3) rfl) (Nat.le_of_ble_eq_true rfl) (Nat.le_of_ble_eq_true rfl) dX1_init_1 ?_
  refine c_aload_n E 0 dX1_init_4 rfl rfl ?_
  refine c_bipush (v := 36) E dX1_init_5 (by decide) ?_
  refine c_newaI (N := 36) E (by decide +kernel) (by decide) (by decide) (by decide) (Nat.le_of_ble_eq_true rfl) (Nat.le_of_ble_eq_true rfl) dX1_init_7 (fun q1 => ?_)
  refine c_putF (C := RX1) (T := TX1) (N := 2) (ci := 1) (ty := (.array .int)) E 0 0 [(h, .inr (1, [.ref q1, .null])), (q1, .inl (V.2.1, 36, .inl (fun _ => 0)))] hi_X1_init_X1 tyX1 tyX1_ok nmX1 rfl rfl (by decide) hk_X1_init_9 rfl rfl (by decide +kernel) rfl rfl (Nat.le_of_ble_eq_true rfl) rfl dX1_init_9 ?_
  refine c_aload_n E 0 dX1_init_12 rfl rfl ?_
  refine c_new (C := RX7) (T := TX7) (N := 3) (ci := 7) E tyX7 [.null, .int 0, .int 0] hi_X1_init_X7 tyX7_ok (by decide +kernel) (by decide +kernel) (by decide +kernel) rfl (fun j hj => by rcases (show j = 0 ∨ j = 1 ∨ j = 2 by omega) with rfl | rfl | rfl <;> rfl) (Nat.le_of_ble_eq_true rfl) (Nat.le_of_ble_eq_true rfl) dX1_init_13 (fun q2 => ?_)
  refine c_dup E dX1_init_16 rfl ?_
  refine c_callIN (b := q2) (As := []) (rest := [.ref q2, .ref h]) (nn := 0) (wc := [(q2, .inr (7, [.null, .int 0, .int 0]))]) (wr := [(h, .inr (1, [.ref q1, .null])), (q1, .inl (V.2.1, 36, .inl (fun _ => 0)))]) E [2] [0, 1] (fun sz => ctor_X7 l D V q2 sz) gX1_init_X7_init_n17 rfl rfl rfl (by decide +kernel) ⟨(Nat.le_of_ble_eq_true rfl), (Nat.le_of_ble_eq_true rfl)⟩ rfl rfl (Nat.le_of_ble_eq_true rfl) rfl rfl rfl rfl rfl (by decide) ⟨(Nat.le_of_ble_eq_true rfl), (Nat.le_of_ble_eq_true rfl)⟩ dX1_init_17 (by decide +kernel) (by decide +kernel) (by decide +kernel) rfl (fun wf hwf => ?_)
  obtain ⟨q3, rfl⟩ := hwf
  refine c_putF (C := RX1) (T := TX1) (N := 2) (ci := 1) (ty := (.object "PaperMarks$Tally")) E 0 1 [(h, .inr (1, [.ref q1, .ref q2])), (q1, .inl (V.2.1, 36, .inl (fun _ => 0))), (q2, .inr (7, [.ref q3, .int 0, .int 0])), (q3, .inl (V.2.1, 6, .inl (fun _ => 0)))] hi_X1_init_X1 tyX1 tyX1_ok nmX1 rfl rfl (by decide) hk_X1_init_18 rfl rfl (by decide +kernel) rfl rfl (Nat.le_of_ble_eq_true rfl) rfl dX1_init_20 ?_
  refine c_aload_n E 0 dX1_init_23 rfl rfl ?_
  refine c_get (C := RX1) (T := TX1) (N := 2) (ci := 1) E 0 0 (.ref q1) hi_X1_init_X1 rfl rfl (by decide) hk_X1_init_9 rfl dX1_init_24 ?_
  refine c_bipush (v := -6) E dX1_init_27 (by decide) ?_
  obtain ⟨σf, hf1, hf2⟩ := fill0 (fun _ _ => 0, fun _ => 0, fun _ _ => 0) (-6)
  obtain ⟨g, hg0⟩ : ∃ g, σf.1 0 = g := ⟨_, rfl⟩
  have hg : ∀ i, i < 36 → g i = -6 := fun i h => by rw [← hg0]; exact hf2 i h
  refine c_fill (wr := [(h, .inr (1, [.ref q1, .ref q2])), (q2, .inr (7, [.ref q3, .int 0, .int 0])), (q3, .inl (V.2.1, 6, .inl (fun _ => 0)))]) E 1 [0, 2, 3] rfl rfl rfl (by decide) g (Or.inr ⟨σf, hf1, hg0⟩) gX1_init_J7_fill_53178 ⟨(Nat.le_of_ble_eq_true rfl), (Nat.le_of_ble_eq_true rfl)⟩ ⟨(Nat.le_of_ble_eq_true rfl), (Nat.le_of_ble_eq_true rfl)⟩ (Nat.le_of_ble_eq_true rfl) dX1_init_29 ?_
  exact c_vret E ⟨q1, q2, q3, g, hg, rfl⟩ rfl rfl dX1_init_32
def PoX6 (V : gV) (h : Nat) (wf : va_W) : Prop := ∃ (q1 : Nat), wf = [(h, .inr (6, [.ref q1, .int 0])), (q1, .inl (V.2.1, 40, .inl (fun _ => 0)))]
theorem hi_X6_init_X6 : ∀ w ∈ wsX60, w ∈ wsX6_init := by decide +kernel
theorem hk_X6_init_11 : Cond.fieldLink RX6 11 "PaperMarks$Signs" "signs" "[I" ∈ wsX6_init := by decide +kernel
def rmc_X6 : Room := { frames := 1, cells := 1, slots := 40, locals := 12 }
set_option maxHeartbeats 4000000 in
set_option maxRecDepth 100000 in
theorem ctor_X6 (l : Launch) (D : va_G) (V : gV) (h : Nat) (sz : Nat) : MI l D V yX6_init wsX6_init rmc_X6 [.ref h] [(h, .inr (6, [.null, .int 0]))] sz 1 40 (PoX6 V h) := by
  refine MI_of (cc := cX6_init) (maxL := 1) (own := RX6) (lvs := [(0, .ref h)]) (by decide) rfl rfl rfl (Nat.le_of_ble_eq_true rfl) rfl (fun X E => ?_)
  refine c_aload_n E 0 dX6_init_0 rfl rfl ?_
  refine c_objInit E (by decide +kernel) (by decide +kernel) (List.mem_of_getElem? (i := 3) rfl) (Nat.le_of_ble_eq_true rfl) (Nat.le_of_ble_eq_true rfl) dX6_init_1 ?_
  refine c_aload_n E 0 dX6_init_4 rfl rfl ?_
  refine c_bipush (v := 40) E dX6_init_5 (by decide) ?_
  refine c_newaI (N := 40) E (by decide +kernel) (by decide) (by decide) (by decide) (Nat.le_of_ble_eq_true rfl) (Nat.le_of_ble_eq_true rfl) dX6_init_7 (fun q1 => ?_)
  refine c_putF (C := RX6) (T := TX6) (N := 2) (ci := 6) (ty := (.array .int)) E 0 0 [(h, .inr (6, [.ref q1, .int 0])), (q1, .inl (V.2.1, 40, .inl (fun _ => 0)))] hi_X6_init_X6 tyX6 tyX6_ok nmX6 rfl rfl (by decide) hk_X6_init_11 rfl rfl (by decide +kernel) rfl rfl (Nat.le_of_ble_eq_true rfl) rfl dX6_init_9 ?_
  exact c_vret E ⟨q1, rfl⟩ rfl rfl dX6_init_12
def PoX5 (V : gV) (h : Nat) (wf : va_W) : Prop := ∃ (q1 q2 q3 : Nat), wf = [(h, .inr (5, [.ref q1, .ref q2, .ref q3, .int 0])), (q1, .inl (V.2.1, 10, .inl (fun _ => 0))), (q2, .inl (V.2.1, 10, .inl (fun _ => 0))), (q3, .inl (V.2.1, 10, .inl (fun _ => 0)))]
theorem hi_X5_init_X5 : ∀ w ∈ wsX50, w ∈ wsX5_init := by decide +kernel
theorem hk_X5_init_11 : Cond.fieldLink RX5 11 "PaperMarks$Rule" "joins" "[I" ∈ wsX5_init := by decide +kernel
theorem hk_X5_init_15 : Cond.fieldLink RX5 15 "PaperMarks$Rule" "numbers" "[I" ∈ wsX5_init := by decide +kernel
theorem hk_X5_init_18 : Cond.fieldLink RX5 18 "PaperMarks$Rule" "coins" "[I" ∈ wsX5_init := by decide +kernel
def rmc_X5 : Room := { frames := 1, cells := 3, slots := 30, locals := 12 }
set_option maxHeartbeats 4000000 in
set_option maxRecDepth 100000 in
theorem ctor_X5 (l : Launch) (D : va_G) (V : gV) (h : Nat) (sz : Nat) : MI l D V yX5_init wsX5_init rmc_X5 [.ref h] [(h, .inr (5, [.null, .null, .null, .int 0]))] sz 3 30 (PoX5 V h) := by
  refine MI_of (cc := cX5_init) (maxL := 1) (own := RX5) (lvs := [(0, .ref h)]) (by decide) rfl rfl rfl (Nat.le_of_ble_eq_true rfl) rfl (fun X E => ?_)
  refine c_aload_n E 0 dX5_init_0 rfl rfl ?_
  refine c_objInit E (by decide +kernel) (by decide +kernel) (List.mem_of_getElem? (i := 3) rfl) (Nat.le_of_ble_eq_true rfl) (Nat.le_of_ble_eq_true rfl) dX5_init_1 ?_
  refine c_aload_n E 0 dX5_init_4 rfl rfl ?_
  refine c_bipush (v := 10) E dX5_init_5 (by decide) ?_
  refine c_newaI (N := 10) E (by decide +kernel) (by decide) (by decide) (by decide) (Nat.le_of_ble_eq_true rfl) (Nat.le_of_ble_eq_true rfl) dX5_init_7 (fun q1 => ?_)
  refine c_putF (C := RX5) (T := TX5) (N := 4) (ci := 5) (ty := (.array .int)) E 0 0 [(h, .inr (5, [.ref q1, .null, .null, .int 0])), (q1, .inl (V.2.1, 10, .inl (fun _ => 0)))] hi_X5_init_X5 tyX5 tyX5_ok nmX5 rfl rfl (by decide) hk_X5_init_11 rfl rfl (by decide +kernel) rfl rfl (Nat.le_of_ble_eq_true rfl) rfl dX5_init_9 ?_
  refine c_aload_n E 0 dX5_init_12 rfl rfl ?_
  refine c_bipush (v := 10) E dX5_init_13 (by decide) ?_
  refine c_newaI (N := 10) E (by decide +kernel) (by decide) (by decide) (by decide) (Nat.le_of_ble_eq_true rfl) (Nat.le_of_ble_eq_true rfl) dX5_init_15 (fun q2 => ?_)
  refine c_putF (C := RX5) (T := TX5) (N := 4) (ci := 5) (ty := (.array .int)) E 0 1 [(h, .inr (5, [.ref q1, .ref q2, .null, .int 0])), (q1, .inl (V.2.1, 10, .inl (fun _ => 0))), (q2, .inl (V.2.1, 10, .inl (fun _ => 0)))] hi_X5_init_X5 tyX5 tyX5_ok nmX5 rfl rfl (by decide) hk_X5_init_15 rfl rfl (by decide +kernel) rfl rfl (Nat.le_of_ble_eq_true rfl) rfl dX5_init_17 ?_
  refine c_aload_n E 0 dX5_init_20 rfl rfl ?_
  refine c_bipush (v := 10) E dX5_init_21 (by decide) ?_
  refine c_newaI (N := 10) E (by decide +kernel) (by decide) (by decide) (by decide) (Nat.le_of_ble_eq_true rfl) (Nat.le_of_ble_eq_true rfl) dX5_init_23 (fun q3 => ?_)
  refine c_putF (C := RX5) (T := TX5) (N := 4) (ci := 5) (ty := (.array .int)) E 0 2 [(h, .inr (5, [.ref q1, .ref q2, .ref q3, .int 0])), (q1, .inl (V.2.1, 10, .inl (fun _ => 0))), (q2, .inl (V.2.1, 10, .inl (fun _ => 0))), (q3, .inl (V.2.1, 10, .inl (fun _ => 0)))] hi_X5_init_X5 tyX5 tyX5_ok nmX5 rfl rfl (by decide) hk_X5_init_18 rfl rfl (by decide +kernel) rfl rfl (Nat.le_of_ble_eq_true rfl) rfl dX5_init_25 ?_
  exact c_vret E ⟨q1, q2, q3, rfl⟩ rfl rfl dX5_init_28
def PoX3 (V : gV) (h : Nat) (a1 : Nat) (a2 : Nat) (a3 : Nat) (wf : va_W) : Prop := ∃ (q1 q2 q3 : Nat), wf = [(h, .inr (3, [.ref a1, .ref a2, .ref a3, .ref q1, .ref q3])), (q1, .inr (7, [.ref q2, .int 0, .int 0])), (q2, .inl (V.2.1, 6, .inl (fun _ => 0))), (q3, .inl (V.2.1, 36, .inl (fun _ => 0)))]
theorem hi_X3_init_X7 : ∀ w ∈ wsX70, w ∈ wsX3_init := by decide +kernel
theorem hi_X3_init_X3 : ∀ w ∈ wsX30, w ∈ wsX3_init := by decide +kernel
theorem hk_X3_init_12 : Cond.fieldLink RX3 12 "PaperMarks$Odds" "tally" "LPaperMarks$Tally;" ∈ wsX3_init := by decide +kernel
theorem hk_X3_init_18 : Cond.fieldLink RX3 18 "PaperMarks$Odds" "ways" "[I" ∈ wsX3_init := by decide +kernel
theorem hk_X3_init_22 : Cond.fieldLink RX3 22 "PaperMarks$Odds" "judges" "LPaperMarks$Judges;" ∈ wsX3_init := by decide +kernel
theorem hk_X3_init_26 : Cond.fieldLink RX3 26 "PaperMarks$Odds" "papers" "LPaperMarks$Papers;" ∈ wsX3_init := by decide +kernel
theorem hk_X3_init_30 : Cond.fieldLink RX3 30 "PaperMarks$Odds" "rule" "LPaperMarks$Rule;" ∈ wsX3_init := by decide +kernel
def rmc_X3 : Room := { frames := 2, cells := 3, slots := 45, locals := 32 }
set_option maxHeartbeats 4000000 in
set_option maxRecDepth 100000 in
theorem ctor_X3 (l : Launch) (D : va_G) (V : gV) (h : Nat) (a1 : Nat) (a2 : Nat) (a3 : Nat) (sz : Nat) : MI l D V yX3_init wsX3_init rmc_X3 [.ref h, .ref a1, .ref a2, .ref a3] [(h, .inr (3, [.null, .null, .null, .null, .null]))] sz 3 45 (PoX3 V h a1 a2 a3) := by
  refine MI_of (cc := cX3_init) (maxL := 4) (own := RX3) (lvs := [(0, .ref h), (1, .ref a1), (2, .ref a2), (3, .ref a3)]) (by decide) rfl rfl rfl (Nat.le_of_ble_eq_true rfl) rfl (fun X E => ?_)
  refine c_aload_n E 0 dX3_init_0 rfl rfl ?_
  refine c_objInit E (by decide +kernel) (by decide +kernel) (List.mem_of_getElem? (i := 3) rfl) (Nat.le_of_ble_eq_true rfl) (Nat.le_of_ble_eq_true rfl) dX3_init_1 ?_
  refine c_aload_n E 0 dX3_init_4 rfl rfl ?_
  refine c_new (C := RX7) (T := TX7) (N := 3) (ci := 7) E tyX7 [.null, .int 0, .int 0] hi_X3_init_X7 tyX7_ok (by decide +kernel) (by decide +kernel) (by decide +kernel) rfl (fun j hj => by rcases (show j = 0 ∨ j = 1 ∨ j = 2 by omega) with rfl | rfl | rfl <;> rfl) (Nat.le_of_ble_eq_true rfl) (Nat.le_of_ble_eq_true rfl) dX3_init_5 (fun q1 => ?_)
  refine c_dup E dX3_init_8 rfl ?_
  refine c_callIN (b := q1) (As := []) (rest := [.ref q1, .ref h]) (nn := 0) (wc := [(q1, .inr (7, [.null, .int 0, .int 0]))]) (wr := [(h, .inr (3, [.null, .null, .null, .null, .null]))]) E [1] [0] (fun sz => ctor_X7 l D V q1 sz) gX3_init_X7_init_n11 rfl rfl rfl (by decide +kernel) ⟨(Nat.le_of_ble_eq_true rfl), (Nat.le_of_ble_eq_true rfl)⟩ rfl rfl (Nat.le_of_ble_eq_true rfl) rfl rfl rfl rfl rfl (by decide) ⟨(Nat.le_of_ble_eq_true rfl), (Nat.le_of_ble_eq_true rfl)⟩ dX3_init_9 (by decide +kernel) (by decide +kernel) (by decide +kernel) rfl (fun wf hwf => ?_)
  obtain ⟨q2, rfl⟩ := hwf
  refine c_putF (C := RX3) (T := TX3) (N := 5) (ci := 3) (ty := (.object "PaperMarks$Tally")) E 0 3 [(h, .inr (3, [.null, .null, .null, .ref q1, .null])), (q1, .inr (7, [.ref q2, .int 0, .int 0])), (q2, .inl (V.2.1, 6, .inl (fun _ => 0)))] hi_X3_init_X3 tyX3 tyX3_ok nmX3 rfl rfl (by decide) hk_X3_init_12 rfl rfl (by decide +kernel) rfl rfl (Nat.le_of_ble_eq_true rfl) rfl dX3_init_12 ?_
  refine c_aload_n E 0 dX3_init_15 rfl rfl ?_
  refine c_bipush (v := 36) E dX3_init_16 (by decide) ?_
  refine c_newaI (N := 36) E (by decide +kernel) (by decide) (by decide) (by decide) (Nat.le_of_ble_eq_true rfl) (Nat.le_of_ble_eq_true rfl) dX3_init_18 (fun q3 => ?_)
  refine c_putF (C := RX3) (T := TX3) (N := 5) (ci := 3) (ty := (.array .int)) E 0 4 [(h, .inr (3, [.null, .null, .null, .ref q1, .ref q3])), (q1, .inr (7, [.ref q2, .int 0, .int 0])), (q2, .inl (V.2.1, 6, .inl (fun _ => 0))), (q3, .inl (V.2.1, 36, .inl (fun _ => 0)))] hi_X3_init_X3 tyX3 tyX3_ok nmX3 rfl rfl (by decide) hk_X3_init_18 rfl rfl (by decide +kernel) rfl rfl (Nat.le_of_ble_eq_true rfl) rfl dX3_init_20 ?_
  refine c_aload_n E 0 dX3_init_23 rfl rfl ?_
  refine c_aload_n E 1 dX3_init_24 rfl rfl ?_
  refine c_putF (C := RX3) (T := TX3) (N := 5) (ci := 3) (ty := (.object "PaperMarks$Judges")) E 0 0 [(h, .inr (3, [.ref a1, .null, .null, .ref q1, .ref q3])), (q1, .inr (7, [.ref q2, .int 0, .int 0])), (q2, .inl (V.2.1, 6, .inl (fun _ => 0))), (q3, .inl (V.2.1, 36, .inl (fun _ => 0)))] hi_X3_init_X3 tyX3 tyX3_ok nmX3 rfl rfl (by decide) hk_X3_init_22 rfl rfl (by decide +kernel) rfl rfl (Nat.le_of_ble_eq_true rfl) rfl dX3_init_25 ?_
  refine c_aload_n E 0 dX3_init_28 rfl rfl ?_
  refine c_aload_n E 2 dX3_init_29 rfl rfl ?_
  refine c_putF (C := RX3) (T := TX3) (N := 5) (ci := 3) (ty := (.object "PaperMarks$Papers")) E 0 1 [(h, .inr (3, [.ref a1, .ref a2, .null, .ref q1, .ref q3])), (q1, .inr (7, [.ref q2, .int 0, .int 0])), (q2, .inl (V.2.1, 6, .inl (fun _ => 0))), (q3, .inl (V.2.1, 36, .inl (fun _ => 0)))] hi_X3_init_X3 tyX3 tyX3_ok nmX3 rfl rfl (by decide) hk_X3_init_26 rfl rfl (by decide +kernel) rfl rfl (Nat.le_of_ble_eq_true rfl) rfl dX3_init_30 ?_
  refine c_aload_n E 0 dX3_init_33 rfl rfl ?_
  refine c_aload_n E 3 dX3_init_34 rfl rfl ?_
  refine c_putF (C := RX3) (T := TX3) (N := 5) (ci := 3) (ty := (.object "PaperMarks$Rule")) E 0 2 [(h, .inr (3, [.ref a1, .ref a2, .ref a3, .ref q1, .ref q3])), (q1, .inr (7, [.ref q2, .int 0, .int 0])), (q2, .inl (V.2.1, 6, .inl (fun _ => 0))), (q3, .inl (V.2.1, 36, .inl (fun _ => 0)))] hi_X3_init_X3 tyX3 tyX3_ok nmX3 rfl rfl (by decide) hk_X3_init_30 rfl rfl (by decide +kernel) rfl rfl (Nat.le_of_ble_eq_true rfl) rfl dX3_init_35 ?_
  exact c_vret E ⟨q1, q2, q3, rfl⟩ rfl rfl dX3_init_38
def PoX2 (V : gV) (h : Nat) (a1 : Nat) (a2 : Nat) (wf : va_W) : Prop := ∃ (q1 q2 q3 q4 q5 q6 q7 : Nat), wf = [(h, .inr (2, [.ref a1, .ref a2, .ref q1, .ref q2, .ref q3, .ref q4, .ref q5, .ref q6, .ref q7])), (q1, .inl (V.2.1, 6, .inl (fun _ => 0))), (q2, .inl (V.2.1, 6, .inl (fun _ => 0))), (q3, .inl (V.2.1, 6, .inl (fun _ => 0))), (q4, .inl (V.2.2, 6, .inr (.inl (fun _ => 0)))), (q5, .inl (V.2.2, 6, .inr (.inl (fun _ => 0)))), (q6, .inl (V.2.1, 6, .inl (fun _ => 0))), (q7, .inl (V.2.1, 6, .inl (fun _ => 0)))]
theorem hi_X2_init_X2 : ∀ w ∈ wsX20, w ∈ wsX2_init := by decide +kernel
theorem hk_X2_init_9 : Cond.fieldLink RX2 9 "PaperMarks$Match" "sets" "[I" ∈ wsX2_init := by decide +kernel
theorem hk_X2_init_15 : Cond.fieldLink RX2 15 "PaperMarks$Match" "wants" "[I" ∈ wsX2_init := by decide +kernel
theorem hk_X2_init_18 : Cond.fieldLink RX2 18 "PaperMarks$Match" "loads" "[I" ∈ wsX2_init := by decide +kernel
theorem hk_X2_init_21 : Cond.fieldLink RX2 21 "PaperMarks$Match" "paperGains" "[J" ∈ wsX2_init := by decide +kernel
theorem hk_X2_init_25 : Cond.fieldLink RX2 25 "PaperMarks$Match" "judgeGains" "[J" ∈ wsX2_init := by decide +kernel
theorem hk_X2_init_28 : Cond.fieldLink RX2 28 "PaperMarks$Match" "givers" "[I" ∈ wsX2_init := by decide +kernel
theorem hk_X2_init_31 : Cond.fieldLink RX2 31 "PaperMarks$Match" "gets" "[I" ∈ wsX2_init := by decide +kernel
theorem hk_X2_init_34 : Cond.fieldLink RX2 34 "PaperMarks$Match" "judges" "LPaperMarks$Judges;" ∈ wsX2_init := by decide +kernel
theorem hk_X2_init_38 : Cond.fieldLink RX2 38 "PaperMarks$Match" "papers" "LPaperMarks$Papers;" ∈ wsX2_init := by decide +kernel
def rmc_X2 : Room := { frames := 1, cells := 7, slots := 42, locals := 12 }
set_option maxHeartbeats 4000000 in
set_option maxRecDepth 100000 in
theorem ctor_X2 (l : Launch) (D : va_G) (V : gV) (h : Nat) (a1 : Nat) (a2 : Nat) (sz : Nat) : MI l D V yX2_init wsX2_init rmc_X2 [.ref h, .ref a1, .ref a2] [(h, .inr (2, [.null, .null, .null, .null, .null, .null, .null, .null, .null]))] sz 7 42 (PoX2 V h a1 a2) := by
  refine MI_of (cc := cX2_init) (maxL := 3) (own := RX2) (lvs := [(0, .ref h), (1, .ref a1), (2, .ref a2)]) (by decide) rfl rfl rfl (Nat.le_of_ble_eq_true rfl) rfl (fun X E => ?_)
  refine c_aload_n E 0 dX2_init_0 rfl rfl ?_
  refine c_objInit E (by decide +kernel) (by decide +kernel) (List.mem_of_getElem? (i := 3) rfl) (Nat.le_of_ble_eq_true rfl) (Nat.le_of_ble_eq_true rfl) dX2_init_1 ?_
  refine c_aload_n E 0 dX2_init_4 rfl rfl ?_
  refine c_bipush (v := 6) E dX2_init_5 (by decide) ?_
  refine c_newaI (N := 6) E (by decide +kernel) (by decide) (by decide) (by decide) (Nat.le_of_ble_eq_true rfl) (Nat.le_of_ble_eq_true rfl) dX2_init_7 (fun q1 => ?_)
  refine c_putF (C := RX2) (T := TX2) (N := 9) (ci := 2) (ty := (.array .int)) E 0 2 [(h, .inr (2, [.null, .null, .ref q1, .null, .null, .null, .null, .null, .null])), (q1, .inl (V.2.1, 6, .inl (fun _ => 0)))] hi_X2_init_X2 tyX2 tyX2_ok nmX2 rfl rfl (by decide) hk_X2_init_9 rfl rfl (by decide +kernel) rfl rfl (Nat.le_of_ble_eq_true rfl) rfl dX2_init_9 ?_
  refine c_aload_n E 0 dX2_init_12 rfl rfl ?_
  refine c_bipush (v := 6) E dX2_init_13 (by decide) ?_
  refine c_newaI (N := 6) E (by decide +kernel) (by decide) (by decide) (by decide) (Nat.le_of_ble_eq_true rfl) (Nat.le_of_ble_eq_true rfl) dX2_init_15 (fun q2 => ?_)
  refine c_putF (C := RX2) (T := TX2) (N := 9) (ci := 2) (ty := (.array .int)) E 0 3 [(h, .inr (2, [.null, .null, .ref q1, .ref q2, .null, .null, .null, .null, .null])), (q1, .inl (V.2.1, 6, .inl (fun _ => 0))), (q2, .inl (V.2.1, 6, .inl (fun _ => 0)))] hi_X2_init_X2 tyX2 tyX2_ok nmX2 rfl rfl (by decide) hk_X2_init_15 rfl rfl (by decide +kernel) rfl rfl (Nat.le_of_ble_eq_true rfl) rfl dX2_init_17 ?_
  refine c_aload_n E 0 dX2_init_20 rfl rfl ?_
  refine c_bipush (v := 6) E dX2_init_21 (by decide) ?_
  refine c_newaI (N := 6) E (by decide +kernel) (by decide) (by decide) (by decide) (Nat.le_of_ble_eq_true rfl) (Nat.le_of_ble_eq_true rfl) dX2_init_23 (fun q3 => ?_)
  refine c_putF (C := RX2) (T := TX2) (N := 9) (ci := 2) (ty := (.array .int)) E 0 4 [(h, .inr (2, [.null, .null, .ref q1, .ref q2, .ref q3, .null, .null, .null, .null])), (q1, .inl (V.2.1, 6, .inl (fun _ => 0))), (q2, .inl (V.2.1, 6, .inl (fun _ => 0))), (q3, .inl (V.2.1, 6, .inl (fun _ => 0)))] hi_X2_init_X2 tyX2 tyX2_ok nmX2 rfl rfl (by decide) hk_X2_init_18 rfl rfl (by decide +kernel) rfl rfl (Nat.le_of_ble_eq_true rfl) rfl dX2_init_25 ?_
  refine c_aload_n E 0 dX2_init_28 rfl rfl ?_
  refine c_bipush (v := 6) E dX2_init_29 (by decide) ?_
  refine c_newaJ (N := 6) E (by decide +kernel) (by decide) (by decide) (by decide) (Nat.le_of_ble_eq_true rfl) (Nat.le_of_ble_eq_true rfl) dX2_init_31 (fun q4 => ?_)
  refine c_putF (C := RX2) (T := TX2) (N := 9) (ci := 2) (ty := (.array .long)) E 0 5 [(h, .inr (2, [.null, .null, .ref q1, .ref q2, .ref q3, .ref q4, .null, .null, .null])), (q1, .inl (V.2.1, 6, .inl (fun _ => 0))), (q2, .inl (V.2.1, 6, .inl (fun _ => 0))), (q3, .inl (V.2.1, 6, .inl (fun _ => 0))), (q4, .inl (V.2.2, 6, .inr (.inl (fun _ => 0))))] hi_X2_init_X2 tyX2 tyX2_ok nmX2 rfl rfl (by decide) hk_X2_init_21 rfl rfl (by decide +kernel) rfl rfl (Nat.le_of_ble_eq_true rfl) rfl dX2_init_33 ?_
  refine c_aload_n E 0 dX2_init_36 rfl rfl ?_
  refine c_bipush (v := 6) E dX2_init_37 (by decide) ?_
  refine c_newaJ (N := 6) E (by decide +kernel) (by decide) (by decide) (by decide) (Nat.le_of_ble_eq_true rfl) (Nat.le_of_ble_eq_true rfl) dX2_init_39 (fun q5 => ?_)
  refine c_putF (C := RX2) (T := TX2) (N := 9) (ci := 2) (ty := (.array .long)) E 0 6 [(h, .inr (2, [.null, .null, .ref q1, .ref q2, .ref q3, .ref q4, .ref q5, .null, .null])), (q1, .inl (V.2.1, 6, .inl (fun _ => 0))), (q2, .inl (V.2.1, 6, .inl (fun _ => 0))), (q3, .inl (V.2.1, 6, .inl (fun _ => 0))), (q4, .inl (V.2.2, 6, .inr (.inl (fun _ => 0)))), (q5, .inl (V.2.2, 6, .inr (.inl (fun _ => 0))))] hi_X2_init_X2 tyX2 tyX2_ok nmX2 rfl rfl (by decide) hk_X2_init_25 rfl rfl (by decide +kernel) rfl rfl (Nat.le_of_ble_eq_true rfl) rfl dX2_init_41 ?_
  refine c_aload_n E 0 dX2_init_44 rfl rfl ?_
  refine c_bipush (v := 6) E dX2_init_45 (by decide) ?_
  refine c_newaI (N := 6) E (by decide +kernel) (by decide) (by decide) (by decide) (Nat.le_of_ble_eq_true rfl) (Nat.le_of_ble_eq_true rfl) dX2_init_47 (fun q6 => ?_)
  refine c_putF (C := RX2) (T := TX2) (N := 9) (ci := 2) (ty := (.array .int)) E 0 7 [(h, .inr (2, [.null, .null, .ref q1, .ref q2, .ref q3, .ref q4, .ref q5, .ref q6, .null])), (q1, .inl (V.2.1, 6, .inl (fun _ => 0))), (q2, .inl (V.2.1, 6, .inl (fun _ => 0))), (q3, .inl (V.2.1, 6, .inl (fun _ => 0))), (q4, .inl (V.2.2, 6, .inr (.inl (fun _ => 0)))), (q5, .inl (V.2.2, 6, .inr (.inl (fun _ => 0)))), (q6, .inl (V.2.1, 6, .inl (fun _ => 0)))] hi_X2_init_X2 tyX2 tyX2_ok nmX2 rfl rfl (by decide) hk_X2_init_28 rfl rfl (by decide +kernel) rfl rfl (Nat.le_of_ble_eq_true rfl) rfl dX2_init_49 ?_
  refine c_aload_n E 0 dX2_init_52 rfl rfl ?_
  refine c_bipush (v := 6) E dX2_init_53 (by decide) ?_
  refine c_newaI (N := 6) E (by decide +kernel) (by decide) (by decide) (by decide) (Nat.le_of_ble_eq_true rfl) (Nat.le_of_ble_eq_true rfl) dX2_init_55 (fun q7 => ?_)
  refine c_putF (C := RX2) (T := TX2) (N := 9) (ci := 2) (ty := (.array .int)) E 0 8 [(h, .inr (2, [.null, .null, .ref q1, .ref q2, .ref q3, .ref q4, .ref q5, .ref q6, .ref q7])), (q1, .inl (V.2.1, 6, .inl (fun _ => 0))), (q2, .inl (V.2.1, 6, .inl (fun _ => 0))), (q3, .inl (V.2.1, 6, .inl (fun _ => 0))), (q4, .inl (V.2.2, 6, .inr (.inl (fun _ => 0)))), (q5, .inl (V.2.2, 6, .inr (.inl (fun _ => 0)))), (q6, .inl (V.2.1, 6, .inl (fun _ => 0))), (q7, .inl (V.2.1, 6, .inl (fun _ => 0)))] hi_X2_init_X2 tyX2 tyX2_ok nmX2 rfl rfl (by decide) hk_X2_init_31 rfl rfl (by decide +kernel) rfl rfl (Nat.le_of_ble_eq_true rfl) rfl dX2_init_57 ?_
  refine c_aload_n E 0 dX2_init_60 rfl rfl ?_
  refine c_aload_n E 1 dX2_init_61 rfl rfl ?_
  refine c_putF (C := RX2) (T := TX2) (N := 9) (ci := 2) (ty := (.object "PaperMarks$Judges")) E 0 0 [(h, .inr (2, [.ref a1, .null, .ref q1, .ref q2, .ref q3, .ref q4, .ref q5, .ref q6, .ref q7])), (q1, .inl (V.2.1, 6, .inl (fun _ => 0))), (q2, .inl (V.2.1, 6, .inl (fun _ => 0))), (q3, .inl (V.2.1, 6, .inl (fun _ => 0))), (q4, .inl (V.2.2, 6, .inr (.inl (fun _ => 0)))), (q5, .inl (V.2.2, 6, .inr (.inl (fun _ => 0)))), (q6, .inl (V.2.1, 6, .inl (fun _ => 0))), (q7, .inl (V.2.1, 6, .inl (fun _ => 0)))] hi_X2_init_X2 tyX2 tyX2_ok nmX2 rfl rfl (by decide) hk_X2_init_34 rfl rfl (by decide +kernel) rfl rfl (Nat.le_of_ble_eq_true rfl) rfl dX2_init_62 ?_
  refine c_aload_n E 0 dX2_init_65 rfl rfl ?_
  refine c_aload_n E 2 dX2_init_66 rfl rfl ?_
  refine c_putF (C := RX2) (T := TX2) (N := 9) (ci := 2) (ty := (.object "PaperMarks$Papers")) E 0 1 [(h, .inr (2, [.ref a1, .ref a2, .ref q1, .ref q2, .ref q3, .ref q4, .ref q5, .ref q6, .ref q7])), (q1, .inl (V.2.1, 6, .inl (fun _ => 0))), (q2, .inl (V.2.1, 6, .inl (fun _ => 0))), (q3, .inl (V.2.1, 6, .inl (fun _ => 0))), (q4, .inl (V.2.2, 6, .inr (.inl (fun _ => 0)))), (q5, .inl (V.2.2, 6, .inr (.inl (fun _ => 0)))), (q6, .inl (V.2.1, 6, .inl (fun _ => 0))), (q7, .inl (V.2.1, 6, .inl (fun _ => 0)))] hi_X2_init_X2 tyX2 tyX2_ok nmX2 rfl rfl (by decide) hk_X2_init_38 rfl rfl (by decide +kernel) rfl rfl (Nat.le_of_ble_eq_true rfl) rfl dX2_init_67 ?_
  exact c_vret E ⟨q1, q2, q3, q4, q5, q6, q7, rfl⟩ rfl rfl dX2_init_70
def PoX8 (V : gV) (h : Nat) (wf : va_W) : Prop := ∃ (ad : Nat → Nat) (g : Nat → Int32), ad 0 = h ∧ (∀ i, i < 36 → g i = -6) ∧ wf = cw (ad, V.2) (st0 g)
theorem hi_X8_init_X0 : ∀ w ∈ wsX00, w ∈ wsX8_init := by decide +kernel
theorem hi_X8_init_X8 : ∀ w ∈ wsX80, w ∈ wsX8_init := by decide +kernel
theorem hk_X8_init_10 : Cond.fieldLink RX8 10 "PaperMarks" "judges" "LPaperMarks$Judges;" ∈ wsX8_init := by decide +kernel
theorem hi_X8_init_X4 : ∀ w ∈ wsX40, w ∈ wsX8_init := by decide +kernel
theorem hk_X8_init_19 : Cond.fieldLink RX8 19 "PaperMarks" "papers" "LPaperMarks$Papers;" ∈ wsX8_init := by decide +kernel
theorem hi_X8_init_X1 : ∀ w ∈ wsX10, w ∈ wsX8_init := by decide +kernel
theorem hk_X8_init_26 : Cond.fieldLink RX8 26 "PaperMarks" "marks" "LPaperMarks$Marks;" ∈ wsX8_init := by decide +kernel
theorem hi_X8_init_X6 : ∀ w ∈ wsX60, w ∈ wsX8_init := by decide +kernel
theorem hk_X8_init_33 : Cond.fieldLink RX8 33 "PaperMarks" "signs" "LPaperMarks$Signs;" ∈ wsX8_init := by decide +kernel
theorem hi_X8_init_X5 : ∀ w ∈ wsX50, w ∈ wsX8_init := by decide +kernel
theorem hk_X8_init_40 : Cond.fieldLink RX8 40 "PaperMarks" "rule" "LPaperMarks$Rule;" ∈ wsX8_init := by decide +kernel
theorem hi_X8_init_X3 : ∀ w ∈ wsX30, w ∈ wsX8_init := by decide +kernel
theorem hk_X8_init_49 : Cond.fieldLink RX8 49 "PaperMarks" "odds" "LPaperMarks$Odds;" ∈ wsX8_init := by decide +kernel
theorem hi_X8_init_X2 : ∀ w ∈ wsX20, w ∈ wsX8_init := by decide +kernel
theorem hk_X8_init_58 : Cond.fieldLink RX8 58 "PaperMarks" "match" "LPaperMarks$Match;" ∈ wsX8_init := by decide +kernel
def rmc_X8 : Room := { frames := 3, cells := 33, slots := 349, locals := 55 }
set_option maxHeartbeats 4000000 in
set_option maxRecDepth 100000 in
theorem ctor_X8 (l : Launch) (D : va_G) (V : gV) (h : Nat) (sz : Nat) : MI l D V yX8_init wsX8_init rmc_X8 [.ref h] [(h, .inr (8, [.null, .null, .null, .null, .null, .null, .null]))] sz 33 349 (PoX8 V h) := by
  refine MI_of (cc := cX8_init) (maxL := 1) (own := RX8) (lvs := [(0, .ref h)]) (by decide) rfl rfl rfl (Nat.le_of_ble_eq_true rfl) rfl (fun X E => ?_)
  refine c_aload_n E 0 dX8_init_0 rfl rfl ?_
  refine c_objInit E (by decide +kernel) (by decide +kernel) (List.mem_of_getElem? (i := 3) rfl) (Nat.le_of_ble_eq_true rfl) (Nat.le_of_ble_eq_true rfl) dX8_init_1 ?_
  refine c_aload_n E 0 dX8_init_4 rfl rfl ?_
  refine c_new (C := RX0) (T := TX0) (N := 5) (ci := 0) E tyX0 [.null, .null, .null, .null, .int 0] hi_X8_init_X0 tyX0_ok (by decide +kernel) (by decide +kernel) (by decide +kernel) rfl (fun j hj => by rcases (show j = 0 ∨ j = 1 ∨ j = 2 ∨ j = 3 ∨ j = 4 by omega) with rfl | rfl | rfl | rfl | rfl <;> rfl) (Nat.le_of_ble_eq_true rfl) (Nat.le_of_ble_eq_true rfl) dX8_init_5 (fun q1 => ?_)
  refine c_dup E dX8_init_8 rfl ?_
  refine c_callIN (b := q1) (As := []) (rest := [.ref q1, .ref h]) (nn := 0) (wc := [(q1, .inr (0, [.null, .null, .null, .null, .int 0]))]) (wr := [(h, .inr (8, [.null, .null, .null, .null, .null, .null, .null]))]) E [1] [0] (fun sz => ctor_X0 l D V q1 sz) gX8_init_X0_init_n9 rfl rfl rfl (by decide +kernel) ⟨(Nat.le_of_ble_eq_true rfl), (Nat.le_of_ble_eq_true rfl)⟩ rfl rfl (Nat.le_of_ble_eq_true rfl) rfl rfl rfl rfl rfl (by decide) ⟨(Nat.le_of_ble_eq_true rfl), (Nat.le_of_ble_eq_true rfl)⟩ dX8_init_9 (by decide +kernel) (by decide +kernel) (by decide +kernel) rfl (fun wf hwf => ?_)
  obtain ⟨q2, q3, q4, q5, rfl⟩ := hwf
  refine c_putF (C := RX8) (T := TX8) (N := 7) (ci := 8) (ty := (.object "PaperMarks$Judges")) E 0 0 [(h, .inr (8, [.ref q1, .null, .null, .null, .null, .null, .null])), (q1, .inr (0, [.ref q2, .ref q3, .ref q4, .ref q5, .int 0])), (q2, .inl (V.2.1, 6, .inl (fun _ => 0))), (q3, .inl (V.2.1, 6, .inl (fun _ => 0))), (q4, .inl (V.2.1, 6, .inl (fun _ => 0))), (q5, .inl (V.2.1, 36, .inl (fun _ => 0)))] hi_X8_init_X8 tyX8 tyX8_ok nmX8 rfl rfl (by decide) hk_X8_init_10 rfl rfl (by decide +kernel) rfl rfl (Nat.le_of_ble_eq_true rfl) rfl dX8_init_12 ?_
  refine c_aload_n E 0 dX8_init_15 rfl rfl ?_
  refine c_new (C := RX4) (T := TX4) (N := 6) (ci := 4) E tyX4 [.null, .null, .null, .null, .null, .int 0] hi_X8_init_X4 tyX4_ok (by decide +kernel) (by decide +kernel) (by decide +kernel) rfl (fun j hj => by rcases (show j = 0 ∨ j = 1 ∨ j = 2 ∨ j = 3 ∨ j = 4 ∨ j = 5 by omega) with rfl | rfl | rfl | rfl | rfl | rfl <;> rfl) (Nat.le_of_ble_eq_true rfl) (Nat.le_of_ble_eq_true rfl) dX8_init_16 (fun q6 => ?_)
  refine c_dup E dX8_init_19 rfl ?_
  refine c_callIN (b := q6) (As := []) (rest := [.ref q6, .ref h]) (nn := 0) (wc := [(q6, .inr (4, [.null, .null, .null, .null, .null, .int 0]))]) (wr := [(h, .inr (8, [.ref q1, .null, .null, .null, .null, .null, .null])), (q1, .inr (0, [.ref q2, .ref q3, .ref q4, .ref q5, .int 0])), (q2, .inl (V.2.1, 6, .inl (fun _ => 0))), (q3, .inl (V.2.1, 6, .inl (fun _ => 0))), (q4, .inl (V.2.1, 6, .inl (fun _ => 0))), (q5, .inl (V.2.1, 36, .inl (fun _ => 0)))]) E [6] [0, 1, 2, 3, 4, 5] (fun sz => ctor_X4 l D V q6 sz) gX8_init_X4_init_n18 rfl rfl rfl (by decide +kernel) ⟨(Nat.le_of_ble_eq_true rfl), (Nat.le_of_ble_eq_true rfl)⟩ rfl rfl (Nat.le_of_ble_eq_true rfl) rfl rfl rfl rfl rfl (by decide) ⟨(Nat.le_of_ble_eq_true rfl), (Nat.le_of_ble_eq_true rfl)⟩ dX8_init_20 (by decide +kernel) (by decide +kernel) (by decide +kernel) rfl (fun wf hwf => ?_)
  obtain ⟨q7, q8, q9, q10, q11, rfl⟩ := hwf
  refine c_putF (C := RX8) (T := TX8) (N := 7) (ci := 8) (ty := (.object "PaperMarks$Papers")) E 0 1 [(h, .inr (8, [.ref q1, .ref q6, .null, .null, .null, .null, .null])), (q1, .inr (0, [.ref q2, .ref q3, .ref q4, .ref q5, .int 0])), (q2, .inl (V.2.1, 6, .inl (fun _ => 0))), (q3, .inl (V.2.1, 6, .inl (fun _ => 0))), (q4, .inl (V.2.1, 6, .inl (fun _ => 0))), (q5, .inl (V.2.1, 36, .inl (fun _ => 0))), (q6, .inr (4, [.ref q7, .ref q8, .ref q9, .ref q10, .ref q11, .int 0])), (q7, .inl (V.2.1, 6, .inl (fun _ => 0))), (q8, .inl (V.2.1, 6, .inl (fun _ => 0))), (q9, .inl (V.2.1, 6, .inl (fun _ => 0))), (q10, .inl (V.2.1, 6, .inl (fun _ => 0))), (q11, .inl (V.2.1, 36, .inl (fun _ => 0)))] hi_X8_init_X8 tyX8 tyX8_ok nmX8 rfl rfl (by decide) hk_X8_init_19 rfl rfl (by decide +kernel) rfl rfl (Nat.le_of_ble_eq_true rfl) rfl dX8_init_23 ?_
  refine c_aload_n E 0 dX8_init_26 rfl rfl ?_
  refine c_new (C := RX1) (T := TX1) (N := 2) (ci := 1) E tyX1 [.null, .null] hi_X8_init_X1 tyX1_ok (by decide +kernel) (by decide +kernel) (by decide +kernel) rfl (fun j hj => by rcases (show j = 0 ∨ j = 1 by omega) with rfl | rfl <;> rfl) (Nat.le_of_ble_eq_true rfl) (Nat.le_of_ble_eq_true rfl) dX8_init_27 (fun q12 => ?_)
  refine c_dup E dX8_init_30 rfl ?_
  refine c_callI (b := q12) (As := []) (rest := [.ref q12, .ref h]) (nn := 0) (wc := [(q12, .inr (1, [.null, .null]))]) (wr := [(h, .inr (8, [.ref q1, .ref q6, .null, .null, .null, .null, .null])), (q1, .inr (0, [.ref q2, .ref q3, .ref q4, .ref q5, .int 0])), (q2, .inl (V.2.1, 6, .inl (fun _ => 0))), (q3, .inl (V.2.1, 6, .inl (fun _ => 0))), (q4, .inl (V.2.1, 6, .inl (fun _ => 0))), (q5, .inl (V.2.1, 36, .inl (fun _ => 0))), (q6, .inr (4, [.ref q7, .ref q8, .ref q9, .ref q10, .ref q11, .int 0])), (q7, .inl (V.2.1, 6, .inl (fun _ => 0))), (q8, .inl (V.2.1, 6, .inl (fun _ => 0))), (q9, .inl (V.2.1, 6, .inl (fun _ => 0))), (q10, .inl (V.2.1, 6, .inl (fun _ => 0))), (q11, .inl (V.2.1, 36, .inl (fun _ => 0)))]) E [12] [0, 1, 2, 3, 4, 5, 6, 7, 8, 9, 10, 11] (fun sz => ctor_X1 l D V q12 sz) gX8_init_X1_init rfl rfl rfl (by decide +kernel) ⟨(Nat.le_of_ble_eq_true rfl), (Nat.le_of_ble_eq_true rfl)⟩ rfl rfl (Nat.le_of_ble_eq_true rfl) rfl rfl rfl rfl rfl (by decide) ⟨(Nat.le_of_ble_eq_true rfl), (Nat.le_of_ble_eq_true rfl)⟩ dX8_init_31 (by decide +kernel) (by decide +kernel) (by decide +kernel) rfl (fun wf hwf => ?_)
  obtain ⟨q13, q14, q15, g1, hg1, rfl⟩ := hwf
  refine c_putF (C := RX8) (T := TX8) (N := 7) (ci := 8) (ty := (.object "PaperMarks$Marks")) E 0 2 [(h, .inr (8, [.ref q1, .ref q6, .ref q12, .null, .null, .null, .null])), (q1, .inr (0, [.ref q2, .ref q3, .ref q4, .ref q5, .int 0])), (q2, .inl (V.2.1, 6, .inl (fun _ => 0))), (q3, .inl (V.2.1, 6, .inl (fun _ => 0))), (q4, .inl (V.2.1, 6, .inl (fun _ => 0))), (q5, .inl (V.2.1, 36, .inl (fun _ => 0))), (q6, .inr (4, [.ref q7, .ref q8, .ref q9, .ref q10, .ref q11, .int 0])), (q7, .inl (V.2.1, 6, .inl (fun _ => 0))), (q8, .inl (V.2.1, 6, .inl (fun _ => 0))), (q9, .inl (V.2.1, 6, .inl (fun _ => 0))), (q10, .inl (V.2.1, 6, .inl (fun _ => 0))), (q11, .inl (V.2.1, 36, .inl (fun _ => 0))), (q12, .inr (1, [.ref q13, .ref q14])), (q14, .inr (7, [.ref q15, .int 0, .int 0])), (q15, .inl (V.2.1, 6, .inl (fun _ => 0))), (q13, .inl (V.2.1, 36, .inl g1))] hi_X8_init_X8 tyX8 tyX8_ok nmX8 rfl rfl (by decide) hk_X8_init_26 rfl rfl (by decide +kernel) rfl rfl (Nat.le_of_ble_eq_true rfl) rfl dX8_init_34 ?_
  refine c_aload_n E 0 dX8_init_37 rfl rfl ?_
  refine c_new (C := RX6) (T := TX6) (N := 2) (ci := 6) E tyX6 [.null, .int 0] hi_X8_init_X6 tyX6_ok (by decide +kernel) (by decide +kernel) (by decide +kernel) rfl (fun j hj => by rcases (show j = 0 ∨ j = 1 by omega) with rfl | rfl <;> rfl) (Nat.le_of_ble_eq_true rfl) (Nat.le_of_ble_eq_true rfl) dX8_init_38 (fun q16 => ?_)
  refine c_dup E dX8_init_41 rfl ?_
  refine c_callIN (b := q16) (As := []) (rest := [.ref q16, .ref h]) (nn := 0) (wc := [(q16, .inr (6, [.null, .int 0]))]) (wr := [(h, .inr (8, [.ref q1, .ref q6, .ref q12, .null, .null, .null, .null])), (q1, .inr (0, [.ref q2, .ref q3, .ref q4, .ref q5, .int 0])), (q2, .inl (V.2.1, 6, .inl (fun _ => 0))), (q3, .inl (V.2.1, 6, .inl (fun _ => 0))), (q4, .inl (V.2.1, 6, .inl (fun _ => 0))), (q5, .inl (V.2.1, 36, .inl (fun _ => 0))), (q6, .inr (4, [.ref q7, .ref q8, .ref q9, .ref q10, .ref q11, .int 0])), (q7, .inl (V.2.1, 6, .inl (fun _ => 0))), (q8, .inl (V.2.1, 6, .inl (fun _ => 0))), (q9, .inl (V.2.1, 6, .inl (fun _ => 0))), (q10, .inl (V.2.1, 6, .inl (fun _ => 0))), (q11, .inl (V.2.1, 36, .inl (fun _ => 0))), (q12, .inr (1, [.ref q13, .ref q14])), (q14, .inr (7, [.ref q15, .int 0, .int 0])), (q15, .inl (V.2.1, 6, .inl (fun _ => 0))), (q13, .inl (V.2.1, 36, .inl g1))]) E [16] [0, 1, 2, 3, 4, 5, 6, 7, 8, 9, 10, 11, 12, 13, 14, 15] (fun sz => ctor_X6 l D V q16 sz) gX8_init_X6_init_n32 rfl rfl rfl (by decide +kernel) ⟨(Nat.le_of_ble_eq_true rfl), (Nat.le_of_ble_eq_true rfl)⟩ rfl rfl (Nat.le_of_ble_eq_true rfl) rfl rfl rfl rfl rfl (by decide) ⟨(Nat.le_of_ble_eq_true rfl), (Nat.le_of_ble_eq_true rfl)⟩ dX8_init_42 (by decide +kernel) (by decide +kernel) (by decide +kernel) rfl (fun wf hwf => ?_)
  obtain ⟨q17, rfl⟩ := hwf
  refine c_putF (C := RX8) (T := TX8) (N := 7) (ci := 8) (ty := (.object "PaperMarks$Signs")) E 0 3 [(h, .inr (8, [.ref q1, .ref q6, .ref q12, .ref q16, .null, .null, .null])), (q1, .inr (0, [.ref q2, .ref q3, .ref q4, .ref q5, .int 0])), (q2, .inl (V.2.1, 6, .inl (fun _ => 0))), (q3, .inl (V.2.1, 6, .inl (fun _ => 0))), (q4, .inl (V.2.1, 6, .inl (fun _ => 0))), (q5, .inl (V.2.1, 36, .inl (fun _ => 0))), (q6, .inr (4, [.ref q7, .ref q8, .ref q9, .ref q10, .ref q11, .int 0])), (q7, .inl (V.2.1, 6, .inl (fun _ => 0))), (q8, .inl (V.2.1, 6, .inl (fun _ => 0))), (q9, .inl (V.2.1, 6, .inl (fun _ => 0))), (q10, .inl (V.2.1, 6, .inl (fun _ => 0))), (q11, .inl (V.2.1, 36, .inl (fun _ => 0))), (q12, .inr (1, [.ref q13, .ref q14])), (q14, .inr (7, [.ref q15, .int 0, .int 0])), (q15, .inl (V.2.1, 6, .inl (fun _ => 0))), (q13, .inl (V.2.1, 36, .inl g1)), (q16, .inr (6, [.ref q17, .int 0])), (q17, .inl (V.2.1, 40, .inl (fun _ => 0)))] hi_X8_init_X8 tyX8 tyX8_ok nmX8 rfl rfl (by decide) hk_X8_init_33 rfl rfl (by decide +kernel) rfl rfl (Nat.le_of_ble_eq_true rfl) rfl dX8_init_45 ?_
  refine c_aload_n E 0 dX8_init_48 rfl rfl ?_
  refine c_new (C := RX5) (T := TX5) (N := 4) (ci := 5) E tyX5 [.null, .null, .null, .int 0] hi_X8_init_X5 tyX5_ok (by decide +kernel) (by decide +kernel) (by decide +kernel) rfl (fun j hj => by rcases (show j = 0 ∨ j = 1 ∨ j = 2 ∨ j = 3 by omega) with rfl | rfl | rfl | rfl <;> rfl) (Nat.le_of_ble_eq_true rfl) (Nat.le_of_ble_eq_true rfl) dX8_init_49 (fun q18 => ?_)
  refine c_dup E dX8_init_52 rfl ?_
  refine c_callIN (b := q18) (As := []) (rest := [.ref q18, .ref h]) (nn := 0) (wc := [(q18, .inr (5, [.null, .null, .null, .int 0]))]) (wr := [(h, .inr (8, [.ref q1, .ref q6, .ref q12, .ref q16, .null, .null, .null])), (q1, .inr (0, [.ref q2, .ref q3, .ref q4, .ref q5, .int 0])), (q2, .inl (V.2.1, 6, .inl (fun _ => 0))), (q3, .inl (V.2.1, 6, .inl (fun _ => 0))), (q4, .inl (V.2.1, 6, .inl (fun _ => 0))), (q5, .inl (V.2.1, 36, .inl (fun _ => 0))), (q6, .inr (4, [.ref q7, .ref q8, .ref q9, .ref q10, .ref q11, .int 0])), (q7, .inl (V.2.1, 6, .inl (fun _ => 0))), (q8, .inl (V.2.1, 6, .inl (fun _ => 0))), (q9, .inl (V.2.1, 6, .inl (fun _ => 0))), (q10, .inl (V.2.1, 6, .inl (fun _ => 0))), (q11, .inl (V.2.1, 36, .inl (fun _ => 0))), (q12, .inr (1, [.ref q13, .ref q14])), (q14, .inr (7, [.ref q15, .int 0, .int 0])), (q15, .inl (V.2.1, 6, .inl (fun _ => 0))), (q13, .inl (V.2.1, 36, .inl g1)), (q16, .inr (6, [.ref q17, .int 0])), (q17, .inl (V.2.1, 40, .inl (fun _ => 0)))]) E [18] [0, 1, 2, 3, 4, 5, 6, 7, 8, 9, 10, 11, 12, 13, 14, 15, 16, 17] (fun sz => ctor_X5 l D V q18 sz) gX8_init_X5_init_n39 rfl rfl rfl (by decide +kernel) ⟨(Nat.le_of_ble_eq_true rfl), (Nat.le_of_ble_eq_true rfl)⟩ rfl rfl (Nat.le_of_ble_eq_true rfl) rfl rfl rfl rfl rfl (by decide) ⟨(Nat.le_of_ble_eq_true rfl), (Nat.le_of_ble_eq_true rfl)⟩ dX8_init_53 (by decide +kernel) (by decide +kernel) (by decide +kernel) rfl (fun wf hwf => ?_)
  obtain ⟨q19, q20, q21, rfl⟩ := hwf
  refine c_putF (C := RX8) (T := TX8) (N := 7) (ci := 8) (ty := (.object "PaperMarks$Rule")) E 0 4 [(h, .inr (8, [.ref q1, .ref q6, .ref q12, .ref q16, .ref q18, .null, .null])), (q1, .inr (0, [.ref q2, .ref q3, .ref q4, .ref q5, .int 0])), (q2, .inl (V.2.1, 6, .inl (fun _ => 0))), (q3, .inl (V.2.1, 6, .inl (fun _ => 0))), (q4, .inl (V.2.1, 6, .inl (fun _ => 0))), (q5, .inl (V.2.1, 36, .inl (fun _ => 0))), (q6, .inr (4, [.ref q7, .ref q8, .ref q9, .ref q10, .ref q11, .int 0])), (q7, .inl (V.2.1, 6, .inl (fun _ => 0))), (q8, .inl (V.2.1, 6, .inl (fun _ => 0))), (q9, .inl (V.2.1, 6, .inl (fun _ => 0))), (q10, .inl (V.2.1, 6, .inl (fun _ => 0))), (q11, .inl (V.2.1, 36, .inl (fun _ => 0))), (q12, .inr (1, [.ref q13, .ref q14])), (q14, .inr (7, [.ref q15, .int 0, .int 0])), (q15, .inl (V.2.1, 6, .inl (fun _ => 0))), (q13, .inl (V.2.1, 36, .inl g1)), (q16, .inr (6, [.ref q17, .int 0])), (q17, .inl (V.2.1, 40, .inl (fun _ => 0))), (q18, .inr (5, [.ref q19, .ref q20, .ref q21, .int 0])), (q19, .inl (V.2.1, 10, .inl (fun _ => 0))), (q20, .inl (V.2.1, 10, .inl (fun _ => 0))), (q21, .inl (V.2.1, 10, .inl (fun _ => 0)))] hi_X8_init_X8 tyX8 tyX8_ok nmX8 rfl rfl (by decide) hk_X8_init_40 rfl rfl (by decide +kernel) rfl rfl (Nat.le_of_ble_eq_true rfl) rfl dX8_init_56 ?_
  refine c_aload_n E 0 dX8_init_59 rfl rfl ?_
  refine c_new (C := RX3) (T := TX3) (N := 5) (ci := 3) E tyX3 [.null, .null, .null, .null, .null] hi_X8_init_X3 tyX3_ok (by decide +kernel) (by decide +kernel) (by decide +kernel) rfl (fun j hj => by rcases (show j = 0 ∨ j = 1 ∨ j = 2 ∨ j = 3 ∨ j = 4 by omega) with rfl | rfl | rfl | rfl | rfl <;> rfl) (Nat.le_of_ble_eq_true rfl) (Nat.le_of_ble_eq_true rfl) dX8_init_60 (fun q22 => ?_)
  refine c_dup E dX8_init_63 rfl ?_
  refine c_aload_n E 0 dX8_init_64 rfl rfl ?_
  refine c_get (C := RX8) (T := TX8) (N := 7) (ci := 8) E 0 0 (.ref q1) hi_X8_init_X8 rfl rfl (by decide) hk_X8_init_10 rfl dX8_init_65 ?_
  refine c_aload_n E 0 dX8_init_68 rfl rfl ?_
  refine c_get (C := RX8) (T := TX8) (N := 7) (ci := 8) E 0 1 (.ref q6) hi_X8_init_X8 rfl rfl (by decide) hk_X8_init_19 rfl dX8_init_69 ?_
  refine c_aload_n E 0 dX8_init_72 rfl rfl ?_
  refine c_get (C := RX8) (T := TX8) (N := 7) (ci := 8) E 0 4 (.ref q18) hi_X8_init_X8 rfl rfl (by decide) hk_X8_init_40 rfl dX8_init_73 ?_
  refine c_callI (b := q22) (As := [.ref q1, .ref q6, .ref q18]) (rest := [.ref q22, .ref h]) (nn := 3) (wc := [(q22, .inr (3, [.null, .null, .null, .null, .null]))]) (wr := [(h, .inr (8, [.ref q1, .ref q6, .ref q12, .ref q16, .ref q18, .null, .null])), (q1, .inr (0, [.ref q2, .ref q3, .ref q4, .ref q5, .int 0])), (q2, .inl (V.2.1, 6, .inl (fun _ => 0))), (q3, .inl (V.2.1, 6, .inl (fun _ => 0))), (q4, .inl (V.2.1, 6, .inl (fun _ => 0))), (q5, .inl (V.2.1, 36, .inl (fun _ => 0))), (q6, .inr (4, [.ref q7, .ref q8, .ref q9, .ref q10, .ref q11, .int 0])), (q7, .inl (V.2.1, 6, .inl (fun _ => 0))), (q8, .inl (V.2.1, 6, .inl (fun _ => 0))), (q9, .inl (V.2.1, 6, .inl (fun _ => 0))), (q10, .inl (V.2.1, 6, .inl (fun _ => 0))), (q11, .inl (V.2.1, 36, .inl (fun _ => 0))), (q12, .inr (1, [.ref q13, .ref q14])), (q14, .inr (7, [.ref q15, .int 0, .int 0])), (q15, .inl (V.2.1, 6, .inl (fun _ => 0))), (q13, .inl (V.2.1, 36, .inl g1)), (q16, .inr (6, [.ref q17, .int 0])), (q17, .inl (V.2.1, 40, .inl (fun _ => 0))), (q18, .inr (5, [.ref q19, .ref q20, .ref q21, .int 0])), (q19, .inl (V.2.1, 10, .inl (fun _ => 0))), (q20, .inl (V.2.1, 10, .inl (fun _ => 0))), (q21, .inl (V.2.1, 10, .inl (fun _ => 0)))]) E [22] [0, 1, 2, 3, 4, 5, 6, 7, 8, 9, 10, 11, 12, 13, 14, 15, 16, 17, 18, 19, 20, 21] (fun sz => ctor_X3 l D V q22 q1 q6 q18 sz) gX8_init_X3_init rfl rfl rfl (by decide +kernel) ⟨(Nat.le_of_ble_eq_true rfl), (Nat.le_of_ble_eq_true rfl)⟩ rfl rfl (Nat.le_of_ble_eq_true rfl) rfl rfl rfl rfl rfl (by decide) ⟨(Nat.le_of_ble_eq_true rfl), (Nat.le_of_ble_eq_true rfl)⟩ dX8_init_76 (by decide +kernel) (by decide +kernel) (by decide +kernel) rfl (fun wf hwf => ?_)
  obtain ⟨q23, q24, q25, rfl⟩ := hwf
  refine c_putF (C := RX8) (T := TX8) (N := 7) (ci := 8) (ty := (.object "PaperMarks$Odds")) E 0 5 [(h, .inr (8, [.ref q1, .ref q6, .ref q12, .ref q16, .ref q18, .ref q22, .null])), (q1, .inr (0, [.ref q2, .ref q3, .ref q4, .ref q5, .int 0])), (q2, .inl (V.2.1, 6, .inl (fun _ => 0))), (q3, .inl (V.2.1, 6, .inl (fun _ => 0))), (q4, .inl (V.2.1, 6, .inl (fun _ => 0))), (q5, .inl (V.2.1, 36, .inl (fun _ => 0))), (q6, .inr (4, [.ref q7, .ref q8, .ref q9, .ref q10, .ref q11, .int 0])), (q7, .inl (V.2.1, 6, .inl (fun _ => 0))), (q8, .inl (V.2.1, 6, .inl (fun _ => 0))), (q9, .inl (V.2.1, 6, .inl (fun _ => 0))), (q10, .inl (V.2.1, 6, .inl (fun _ => 0))), (q11, .inl (V.2.1, 36, .inl (fun _ => 0))), (q12, .inr (1, [.ref q13, .ref q14])), (q14, .inr (7, [.ref q15, .int 0, .int 0])), (q15, .inl (V.2.1, 6, .inl (fun _ => 0))), (q13, .inl (V.2.1, 36, .inl g1)), (q16, .inr (6, [.ref q17, .int 0])), (q17, .inl (V.2.1, 40, .inl (fun _ => 0))), (q18, .inr (5, [.ref q19, .ref q20, .ref q21, .int 0])), (q19, .inl (V.2.1, 10, .inl (fun _ => 0))), (q20, .inl (V.2.1, 10, .inl (fun _ => 0))), (q21, .inl (V.2.1, 10, .inl (fun _ => 0))), (q22, .inr (3, [.ref q1, .ref q6, .ref q18, .ref q23, .ref q25])), (q23, .inr (7, [.ref q24, .int 0, .int 0])), (q24, .inl (V.2.1, 6, .inl (fun _ => 0))), (q25, .inl (V.2.1, 36, .inl (fun _ => 0)))] hi_X8_init_X8 tyX8 tyX8_ok nmX8 rfl rfl (by decide) hk_X8_init_49 rfl rfl (by decide +kernel) rfl rfl (Nat.le_of_ble_eq_true rfl) rfl dX8_init_79 ?_
  refine c_aload_n E 0 dX8_init_82 rfl rfl ?_
  refine c_new (C := RX2) (T := TX2) (N := 9) (ci := 2) E tyX2 [.null, .null, .null, .null, .null, .null, .null, .null, .null] hi_X8_init_X2 tyX2_ok (by decide +kernel) (by decide +kernel) (by decide +kernel) rfl (fun j hj => by rcases (show j = 0 ∨ j = 1 ∨ j = 2 ∨ j = 3 ∨ j = 4 ∨ j = 5 ∨ j = 6 ∨ j = 7 ∨ j = 8 by omega) with rfl | rfl | rfl | rfl | rfl | rfl | rfl | rfl | rfl <;> rfl) (Nat.le_of_ble_eq_true rfl) (Nat.le_of_ble_eq_true rfl) dX8_init_83 (fun q26 => ?_)
  refine c_dup E dX8_init_86 rfl ?_
  refine c_aload_n E 0 dX8_init_87 rfl rfl ?_
  refine c_get (C := RX8) (T := TX8) (N := 7) (ci := 8) E 0 0 (.ref q1) hi_X8_init_X8 rfl rfl (by decide) hk_X8_init_10 rfl dX8_init_88 ?_
  refine c_aload_n E 0 dX8_init_91 rfl rfl ?_
  refine c_get (C := RX8) (T := TX8) (N := 7) (ci := 8) E 0 1 (.ref q6) hi_X8_init_X8 rfl rfl (by decide) hk_X8_init_19 rfl dX8_init_92 ?_
  refine c_callI (b := q26) (As := [.ref q1, .ref q6]) (rest := [.ref q26, .ref h]) (nn := 2) (wc := [(q26, .inr (2, [.null, .null, .null, .null, .null, .null, .null, .null, .null]))]) (wr := [(h, .inr (8, [.ref q1, .ref q6, .ref q12, .ref q16, .ref q18, .ref q22, .null])), (q1, .inr (0, [.ref q2, .ref q3, .ref q4, .ref q5, .int 0])), (q2, .inl (V.2.1, 6, .inl (fun _ => 0))), (q3, .inl (V.2.1, 6, .inl (fun _ => 0))), (q4, .inl (V.2.1, 6, .inl (fun _ => 0))), (q5, .inl (V.2.1, 36, .inl (fun _ => 0))), (q6, .inr (4, [.ref q7, .ref q8, .ref q9, .ref q10, .ref q11, .int 0])), (q7, .inl (V.2.1, 6, .inl (fun _ => 0))), (q8, .inl (V.2.1, 6, .inl (fun _ => 0))), (q9, .inl (V.2.1, 6, .inl (fun _ => 0))), (q10, .inl (V.2.1, 6, .inl (fun _ => 0))), (q11, .inl (V.2.1, 36, .inl (fun _ => 0))), (q12, .inr (1, [.ref q13, .ref q14])), (q14, .inr (7, [.ref q15, .int 0, .int 0])), (q15, .inl (V.2.1, 6, .inl (fun _ => 0))), (q13, .inl (V.2.1, 36, .inl g1)), (q16, .inr (6, [.ref q17, .int 0])), (q17, .inl (V.2.1, 40, .inl (fun _ => 0))), (q18, .inr (5, [.ref q19, .ref q20, .ref q21, .int 0])), (q19, .inl (V.2.1, 10, .inl (fun _ => 0))), (q20, .inl (V.2.1, 10, .inl (fun _ => 0))), (q21, .inl (V.2.1, 10, .inl (fun _ => 0))), (q22, .inr (3, [.ref q1, .ref q6, .ref q18, .ref q23, .ref q25])), (q23, .inr (7, [.ref q24, .int 0, .int 0])), (q24, .inl (V.2.1, 6, .inl (fun _ => 0))), (q25, .inl (V.2.1, 36, .inl (fun _ => 0)))]) E [26] [0, 1, 2, 3, 4, 5, 6, 7, 8, 9, 10, 11, 12, 13, 14, 15, 16, 17, 18, 19, 20, 21, 22, 23, 24, 25] (fun sz => ctor_X2 l D V q26 q1 q6 sz) gX8_init_X2_init rfl rfl rfl (by decide +kernel) ⟨(Nat.le_of_ble_eq_true rfl), (Nat.le_of_ble_eq_true rfl)⟩ rfl rfl (Nat.le_of_ble_eq_true rfl) rfl rfl rfl rfl rfl (by decide) ⟨(Nat.le_of_ble_eq_true rfl), (Nat.le_of_ble_eq_true rfl)⟩ dX8_init_95 (by decide +kernel) (by decide +kernel) (by decide +kernel) rfl (fun wf hwf => ?_)
  obtain ⟨q27, q28, q29, q30, q31, q32, q33, rfl⟩ := hwf
  refine c_putF (C := RX8) (T := TX8) (N := 7) (ci := 8) (ty := (.object "PaperMarks$Match")) E 0 6 [(h, .inr (8, [.ref q1, .ref q6, .ref q12, .ref q16, .ref q18, .ref q22, .ref q26])), (q1, .inr (0, [.ref q2, .ref q3, .ref q4, .ref q5, .int 0])), (q2, .inl (V.2.1, 6, .inl (fun _ => 0))), (q3, .inl (V.2.1, 6, .inl (fun _ => 0))), (q4, .inl (V.2.1, 6, .inl (fun _ => 0))), (q5, .inl (V.2.1, 36, .inl (fun _ => 0))), (q6, .inr (4, [.ref q7, .ref q8, .ref q9, .ref q10, .ref q11, .int 0])), (q7, .inl (V.2.1, 6, .inl (fun _ => 0))), (q8, .inl (V.2.1, 6, .inl (fun _ => 0))), (q9, .inl (V.2.1, 6, .inl (fun _ => 0))), (q10, .inl (V.2.1, 6, .inl (fun _ => 0))), (q11, .inl (V.2.1, 36, .inl (fun _ => 0))), (q12, .inr (1, [.ref q13, .ref q14])), (q14, .inr (7, [.ref q15, .int 0, .int 0])), (q15, .inl (V.2.1, 6, .inl (fun _ => 0))), (q13, .inl (V.2.1, 36, .inl g1)), (q16, .inr (6, [.ref q17, .int 0])), (q17, .inl (V.2.1, 40, .inl (fun _ => 0))), (q18, .inr (5, [.ref q19, .ref q20, .ref q21, .int 0])), (q19, .inl (V.2.1, 10, .inl (fun _ => 0))), (q20, .inl (V.2.1, 10, .inl (fun _ => 0))), (q21, .inl (V.2.1, 10, .inl (fun _ => 0))), (q22, .inr (3, [.ref q1, .ref q6, .ref q18, .ref q23, .ref q25])), (q23, .inr (7, [.ref q24, .int 0, .int 0])), (q24, .inl (V.2.1, 6, .inl (fun _ => 0))), (q25, .inl (V.2.1, 36, .inl (fun _ => 0))), (q26, .inr (2, [.ref q1, .ref q6, .ref q27, .ref q28, .ref q29, .ref q30, .ref q31, .ref q32, .ref q33])), (q27, .inl (V.2.1, 6, .inl (fun _ => 0))), (q28, .inl (V.2.1, 6, .inl (fun _ => 0))), (q29, .inl (V.2.1, 6, .inl (fun _ => 0))), (q30, .inl (V.2.2, 6, .inr (.inl (fun _ => 0)))), (q31, .inl (V.2.2, 6, .inr (.inl (fun _ => 0)))), (q32, .inl (V.2.1, 6, .inl (fun _ => 0))), (q33, .inl (V.2.1, 6, .inl (fun _ => 0)))] hi_X8_init_X8 tyX8 tyX8_ok nmX8 rfl rfl (by decide) hk_X8_init_58 rfl rfl (by decide +kernel) rfl rfl (Nat.le_of_ble_eq_true rfl) rfl dX8_init_98 ?_
  refine c_sub (w' := cw ((fun k => [h, q1, q6, q12, q16, q18, q22, q26, q14, q23, q2, q3, q4, q5, q7, q8, q9, q10, q11, q13, q15, q17, q19, q20, q21, q25, q24, q27, q28, q29, q30, q31, q32, q33].getD k 0), V.2) (st0 g1)) [0, 1, 6, 12, 16, 18, 22, 26, 13, 23, 2, 3, 4, 5, 7, 8, 9, 10, 11, 15, 14, 17, 19, 20, 21, 25, 24, 27, 28, 29, 30, 31, 32, 33] rfl rfl rfl ?_
  exact c_vret E ⟨(fun k => [h, q1, q6, q12, q16, q18, q22, q26, q14, q23, q2, q3, q4, q5, q7, q8, q9, q10, q11, q13, q15, q17, q19, q20, q21, q25, q24, q27, q28, q29, q30, q31, q32, q33].getD k 0), g1, rfl, hg1, rfl⟩ rfl rfl dX8_init_101
def PoX9 (V : gV) (h : Nat) (wf : va_W) : Prop := ∃ (ad : Nat → Nat), ad 0 = h ∧ wf = mw (ad, V.2) sm0
theorem hi_X9_init_X9 : ∀ w ∈ wsX90, w ∈ wsX9_init := by decide +kernel
theorem hk_X9_init_7 : Cond.fieldLink RX9 7 "PaperMarksModel" "leans" "[I" ∈ wsX9_init := by decide +kernel
theorem hk_X9_init_13 : Cond.fieldLink RX9 13 "PaperMarksModel" "slips" "[I" ∈ wsX9_init := by decide +kernel
theorem hk_X9_init_16 : Cond.fieldLink RX9 16 "PaperMarksModel" "judgeKeys" "[I" ∈ wsX9_init := by decide +kernel
theorem hk_X9_init_19 : Cond.fieldLink RX9 19 "PaperMarksModel" "ties" "[I" ∈ wsX9_init := by decide +kernel
theorem hk_X9_init_22 : Cond.fieldLink RX9 22 "PaperMarksModel" "worths" "[I" ∈ wsX9_init := by decide +kernel
theorem hk_X9_init_25 : Cond.fieldLink RX9 25 "PaperMarksModel" "writers" "[I" ∈ wsX9_init := by decide +kernel
theorem hk_X9_init_28 : Cond.fieldLink RX9 28 "PaperMarksModel" "paperKeys" "[I" ∈ wsX9_init := by decide +kernel
theorem hk_X9_init_31 : Cond.fieldLink RX9 31 "PaperMarksModel" "laters" "[I" ∈ wsX9_init := by decide +kernel
theorem hk_X9_init_34 : Cond.fieldLink RX9 34 "PaperMarksModel" "marks" "[I" ∈ wsX9_init := by decide +kernel
theorem hk_X9_init_37 : Cond.fieldLink RX9 37 "PaperMarksModel" "bids" "[I" ∈ wsX9_init := by decide +kernel
theorem hk_X9_init_40 : Cond.fieldLink RX9 40 "PaperMarksModel" "signs" "[I" ∈ wsX9_init := by decide +kernel
theorem hk_X9_init_43 : Cond.fieldLink RX9 43 "PaperMarksModel" "clauseJoin" "[I" ∈ wsX9_init := by decide +kernel
theorem hk_X9_init_46 : Cond.fieldLink RX9 46 "PaperMarksModel" "clauseOver" "[I" ∈ wsX9_init := by decide +kernel
theorem hk_X9_init_49 : Cond.fieldLink RX9 49 "PaperMarksModel" "clauseCoin" "[I" ∈ wsX9_init := by decide +kernel
theorem hk_X9_init_52 : Cond.fieldLink RX9 52 "PaperMarksModel" "given" "[I" ∈ wsX9_init := by decide +kernel
theorem hk_X9_init_56 : Cond.fieldLink RX9 56 "PaperMarksModel" "mostFrom" "[I" ∈ wsX9_init := by decide +kernel
def rmc_X9 : Room := { frames := 1, cells := 16, slots := 109607, locals := 12 }
set_option maxHeartbeats 4000000 in
set_option maxRecDepth 100000 in
theorem ctor_X9 (l : Launch) (D : va_G) (V : gV) (h : Nat) (sz : Nat) : MI l D V yX9_init wsX9_init rmc_X9 [.ref h] [(h, .inr (9, [.null, .null, .null, .int 0, .null, .null, .null, .null, .null, .int 0, .null, .null, .null, .int 0, .null, .null, .null, .int 0, .null, .null]))] sz 16 109607 (PoX9 V h) := by
  refine MI_of (cc := cX9_init) (maxL := 1) (own := RX9) (lvs := [(0, .ref h)]) (by decide) rfl rfl rfl (Nat.le_of_ble_eq_true rfl) rfl (fun X E => ?_)
  refine c_aload_n E 0 dX9_init_0 rfl rfl ?_
  refine c_objInit E (by decide +kernel) (by decide +kernel) (List.mem_of_getElem? (i := 3) rfl) (Nat.le_of_ble_eq_true rfl) (Nat.le_of_ble_eq_true rfl) dX9_init_1 ?_
  refine c_aload_n E 0 dX9_init_4 rfl rfl ?_
  refine c_bipush (v := 6) E dX9_init_5 (by decide) ?_
  refine c_newaI (N := 6) E (by decide +kernel) (by decide) (by decide) (by decide) (Nat.le_of_ble_eq_true rfl) (Nat.le_of_ble_eq_true rfl) dX9_init_7 (fun q1 => ?_)
  refine c_putF (C := RX9) (T := TX9) (N := 20) (ci := 9) (ty := (.array .int)) E 0 0 [(h, .inr (9, [.ref q1, .null, .null, .int 0, .null, .null, .null, .null, .null, .int 0, .null, .null, .null, .int 0, .null, .null, .null, .int 0, .null, .null])), (q1, .inl (V.2.1, 6, .inl (fun _ => 0)))] hi_X9_init_X9 tyX9 tyX9_ok nmX9 rfl rfl (by decide) hk_X9_init_7 rfl rfl (by decide +kernel) rfl rfl (Nat.le_of_ble_eq_true rfl) rfl dX9_init_9 ?_
  refine c_aload_n E 0 dX9_init_12 rfl rfl ?_
  refine c_bipush (v := 6) E dX9_init_13 (by decide) ?_
  refine c_newaI (N := 6) E (by decide +kernel) (by decide) (by decide) (by decide) (Nat.le_of_ble_eq_true rfl) (Nat.le_of_ble_eq_true rfl) dX9_init_15 (fun q2 => ?_)
  refine c_putF (C := RX9) (T := TX9) (N := 20) (ci := 9) (ty := (.array .int)) E 0 1 [(h, .inr (9, [.ref q1, .ref q2, .null, .int 0, .null, .null, .null, .null, .null, .int 0, .null, .null, .null, .int 0, .null, .null, .null, .int 0, .null, .null])), (q1, .inl (V.2.1, 6, .inl (fun _ => 0))), (q2, .inl (V.2.1, 6, .inl (fun _ => 0)))] hi_X9_init_X9 tyX9 tyX9_ok nmX9 rfl rfl (by decide) hk_X9_init_13 rfl rfl (by decide +kernel) rfl rfl (Nat.le_of_ble_eq_true rfl) rfl dX9_init_17 ?_
  refine c_aload_n E 0 dX9_init_20 rfl rfl ?_
  refine c_bipush (v := 6) E dX9_init_21 (by decide) ?_
  refine c_newaI (N := 6) E (by decide +kernel) (by decide) (by decide) (by decide) (Nat.le_of_ble_eq_true rfl) (Nat.le_of_ble_eq_true rfl) dX9_init_23 (fun q3 => ?_)
  refine c_putF (C := RX9) (T := TX9) (N := 20) (ci := 9) (ty := (.array .int)) E 0 2 [(h, .inr (9, [.ref q1, .ref q2, .ref q3, .int 0, .null, .null, .null, .null, .null, .int 0, .null, .null, .null, .int 0, .null, .null, .null, .int 0, .null, .null])), (q1, .inl (V.2.1, 6, .inl (fun _ => 0))), (q2, .inl (V.2.1, 6, .inl (fun _ => 0))), (q3, .inl (V.2.1, 6, .inl (fun _ => 0)))] hi_X9_init_X9 tyX9 tyX9_ok nmX9 rfl rfl (by decide) hk_X9_init_16 rfl rfl (by decide +kernel) rfl rfl (Nat.le_of_ble_eq_true rfl) rfl dX9_init_25 ?_
  refine c_aload_n E 0 dX9_init_28 rfl rfl ?_
  refine c_bipush (v := 36) E dX9_init_29 (by decide) ?_
  refine c_newaI (N := 36) E (by decide +kernel) (by decide) (by decide) (by decide) (Nat.le_of_ble_eq_true rfl) (Nat.le_of_ble_eq_true rfl) dX9_init_31 (fun q4 => ?_)
  refine c_putF (C := RX9) (T := TX9) (N := 20) (ci := 9) (ty := (.array .int)) E 0 4 [(h, .inr (9, [.ref q1, .ref q2, .ref q3, .int 0, .ref q4, .null, .null, .null, .null, .int 0, .null, .null, .null, .int 0, .null, .null, .null, .int 0, .null, .null])), (q1, .inl (V.2.1, 6, .inl (fun _ => 0))), (q2, .inl (V.2.1, 6, .inl (fun _ => 0))), (q3, .inl (V.2.1, 6, .inl (fun _ => 0))), (q4, .inl (V.2.1, 36, .inl (fun _ => 0)))] hi_X9_init_X9 tyX9 tyX9_ok nmX9 rfl rfl (by decide) hk_X9_init_19 rfl rfl (by decide +kernel) rfl rfl (Nat.le_of_ble_eq_true rfl) rfl dX9_init_33 ?_
  refine c_aload_n E 0 dX9_init_36 rfl rfl ?_
  refine c_bipush (v := 6) E dX9_init_37 (by decide) ?_
  refine c_newaI (N := 6) E (by decide +kernel) (by decide) (by decide) (by decide) (Nat.le_of_ble_eq_true rfl) (Nat.le_of_ble_eq_true rfl) dX9_init_39 (fun q5 => ?_)
  refine c_putF (C := RX9) (T := TX9) (N := 20) (ci := 9) (ty := (.array .int)) E 0 5 [(h, .inr (9, [.ref q1, .ref q2, .ref q3, .int 0, .ref q4, .ref q5, .null, .null, .null, .int 0, .null, .null, .null, .int 0, .null, .null, .null, .int 0, .null, .null])), (q1, .inl (V.2.1, 6, .inl (fun _ => 0))), (q2, .inl (V.2.1, 6, .inl (fun _ => 0))), (q3, .inl (V.2.1, 6, .inl (fun _ => 0))), (q4, .inl (V.2.1, 36, .inl (fun _ => 0))), (q5, .inl (V.2.1, 6, .inl (fun _ => 0)))] hi_X9_init_X9 tyX9 tyX9_ok nmX9 rfl rfl (by decide) hk_X9_init_22 rfl rfl (by decide +kernel) rfl rfl (Nat.le_of_ble_eq_true rfl) rfl dX9_init_41 ?_
  refine c_aload_n E 0 dX9_init_44 rfl rfl ?_
  refine c_bipush (v := 6) E dX9_init_45 (by decide) ?_
  refine c_newaI (N := 6) E (by decide +kernel) (by decide) (by decide) (by decide) (Nat.le_of_ble_eq_true rfl) (Nat.le_of_ble_eq_true rfl) dX9_init_47 (fun q6 => ?_)
  refine c_putF (C := RX9) (T := TX9) (N := 20) (ci := 9) (ty := (.array .int)) E 0 6 [(h, .inr (9, [.ref q1, .ref q2, .ref q3, .int 0, .ref q4, .ref q5, .ref q6, .null, .null, .int 0, .null, .null, .null, .int 0, .null, .null, .null, .int 0, .null, .null])), (q1, .inl (V.2.1, 6, .inl (fun _ => 0))), (q2, .inl (V.2.1, 6, .inl (fun _ => 0))), (q3, .inl (V.2.1, 6, .inl (fun _ => 0))), (q4, .inl (V.2.1, 36, .inl (fun _ => 0))), (q5, .inl (V.2.1, 6, .inl (fun _ => 0))), (q6, .inl (V.2.1, 6, .inl (fun _ => 0)))] hi_X9_init_X9 tyX9 tyX9_ok nmX9 rfl rfl (by decide) hk_X9_init_25 rfl rfl (by decide +kernel) rfl rfl (Nat.le_of_ble_eq_true rfl) rfl dX9_init_49 ?_
  refine c_aload_n E 0 dX9_init_52 rfl rfl ?_
  refine c_bipush (v := 6) E dX9_init_53 (by decide) ?_
  refine c_newaI (N := 6) E (by decide +kernel) (by decide) (by decide) (by decide) (Nat.le_of_ble_eq_true rfl) (Nat.le_of_ble_eq_true rfl) dX9_init_55 (fun q7 => ?_)
  refine c_putF (C := RX9) (T := TX9) (N := 20) (ci := 9) (ty := (.array .int)) E 0 7 [(h, .inr (9, [.ref q1, .ref q2, .ref q3, .int 0, .ref q4, .ref q5, .ref q6, .ref q7, .null, .int 0, .null, .null, .null, .int 0, .null, .null, .null, .int 0, .null, .null])), (q1, .inl (V.2.1, 6, .inl (fun _ => 0))), (q2, .inl (V.2.1, 6, .inl (fun _ => 0))), (q3, .inl (V.2.1, 6, .inl (fun _ => 0))), (q4, .inl (V.2.1, 36, .inl (fun _ => 0))), (q5, .inl (V.2.1, 6, .inl (fun _ => 0))), (q6, .inl (V.2.1, 6, .inl (fun _ => 0))), (q7, .inl (V.2.1, 6, .inl (fun _ => 0)))] hi_X9_init_X9 tyX9 tyX9_ok nmX9 rfl rfl (by decide) hk_X9_init_28 rfl rfl (by decide +kernel) rfl rfl (Nat.le_of_ble_eq_true rfl) rfl dX9_init_57 ?_
  refine c_aload_n E 0 dX9_init_60 rfl rfl ?_
  refine c_bipush (v := 6) E dX9_init_61 (by decide) ?_
  refine c_newaI (N := 6) E (by decide +kernel) (by decide) (by decide) (by decide) (Nat.le_of_ble_eq_true rfl) (Nat.le_of_ble_eq_true rfl) dX9_init_63 (fun q8 => ?_)
  refine c_putF (C := RX9) (T := TX9) (N := 20) (ci := 9) (ty := (.array .int)) E 0 8 [(h, .inr (9, [.ref q1, .ref q2, .ref q3, .int 0, .ref q4, .ref q5, .ref q6, .ref q7, .ref q8, .int 0, .null, .null, .null, .int 0, .null, .null, .null, .int 0, .null, .null])), (q1, .inl (V.2.1, 6, .inl (fun _ => 0))), (q2, .inl (V.2.1, 6, .inl (fun _ => 0))), (q3, .inl (V.2.1, 6, .inl (fun _ => 0))), (q4, .inl (V.2.1, 36, .inl (fun _ => 0))), (q5, .inl (V.2.1, 6, .inl (fun _ => 0))), (q6, .inl (V.2.1, 6, .inl (fun _ => 0))), (q7, .inl (V.2.1, 6, .inl (fun _ => 0))), (q8, .inl (V.2.1, 6, .inl (fun _ => 0)))] hi_X9_init_X9 tyX9 tyX9_ok nmX9 rfl rfl (by decide) hk_X9_init_31 rfl rfl (by decide +kernel) rfl rfl (Nat.le_of_ble_eq_true rfl) rfl dX9_init_65 ?_
  refine c_aload_n E 0 dX9_init_68 rfl rfl ?_
  refine c_bipush (v := 36) E dX9_init_69 (by decide) ?_
  refine c_newaI (N := 36) E (by decide +kernel) (by decide) (by decide) (by decide) (Nat.le_of_ble_eq_true rfl) (Nat.le_of_ble_eq_true rfl) dX9_init_71 (fun q9 => ?_)
  refine c_putF (C := RX9) (T := TX9) (N := 20) (ci := 9) (ty := (.array .int)) E 0 10 [(h, .inr (9, [.ref q1, .ref q2, .ref q3, .int 0, .ref q4, .ref q5, .ref q6, .ref q7, .ref q8, .int 0, .ref q9, .null, .null, .int 0, .null, .null, .null, .int 0, .null, .null])), (q1, .inl (V.2.1, 6, .inl (fun _ => 0))), (q2, .inl (V.2.1, 6, .inl (fun _ => 0))), (q3, .inl (V.2.1, 6, .inl (fun _ => 0))), (q4, .inl (V.2.1, 36, .inl (fun _ => 0))), (q5, .inl (V.2.1, 6, .inl (fun _ => 0))), (q6, .inl (V.2.1, 6, .inl (fun _ => 0))), (q7, .inl (V.2.1, 6, .inl (fun _ => 0))), (q8, .inl (V.2.1, 6, .inl (fun _ => 0))), (q9, .inl (V.2.1, 36, .inl (fun _ => 0)))] hi_X9_init_X9 tyX9 tyX9_ok nmX9 rfl rfl (by decide) hk_X9_init_34 rfl rfl (by decide +kernel) rfl rfl (Nat.le_of_ble_eq_true rfl) rfl dX9_init_73 ?_
  refine c_aload_n E 0 dX9_init_76 rfl rfl ?_
  refine c_bipush (v := 36) E dX9_init_77 (by decide) ?_
  refine c_newaI (N := 36) E (by decide +kernel) (by decide) (by decide) (by decide) (Nat.le_of_ble_eq_true rfl) (Nat.le_of_ble_eq_true rfl) dX9_init_79 (fun q10 => ?_)
  refine c_putF (C := RX9) (T := TX9) (N := 20) (ci := 9) (ty := (.array .int)) E 0 11 [(h, .inr (9, [.ref q1, .ref q2, .ref q3, .int 0, .ref q4, .ref q5, .ref q6, .ref q7, .ref q8, .int 0, .ref q9, .ref q10, .null, .int 0, .null, .null, .null, .int 0, .null, .null])), (q1, .inl (V.2.1, 6, .inl (fun _ => 0))), (q2, .inl (V.2.1, 6, .inl (fun _ => 0))), (q3, .inl (V.2.1, 6, .inl (fun _ => 0))), (q4, .inl (V.2.1, 36, .inl (fun _ => 0))), (q5, .inl (V.2.1, 6, .inl (fun _ => 0))), (q6, .inl (V.2.1, 6, .inl (fun _ => 0))), (q7, .inl (V.2.1, 6, .inl (fun _ => 0))), (q8, .inl (V.2.1, 6, .inl (fun _ => 0))), (q9, .inl (V.2.1, 36, .inl (fun _ => 0))), (q10, .inl (V.2.1, 36, .inl (fun _ => 0)))] hi_X9_init_X9 tyX9 tyX9_ok nmX9 rfl rfl (by decide) hk_X9_init_37 rfl rfl (by decide +kernel) rfl rfl (Nat.le_of_ble_eq_true rfl) rfl dX9_init_81 ?_
  refine c_aload_n E 0 dX9_init_84 rfl rfl ?_
  refine c_bipush (v := 40) E dX9_init_85 (by decide) ?_
  refine c_newaI (N := 40) E (by decide +kernel) (by decide) (by decide) (by decide) (Nat.le_of_ble_eq_true rfl) (Nat.le_of_ble_eq_true rfl) dX9_init_87 (fun q11 => ?_)
  refine c_putF (C := RX9) (T := TX9) (N := 20) (ci := 9) (ty := (.array .int)) E 0 12 [(h, .inr (9, [.ref q1, .ref q2, .ref q3, .int 0, .ref q4, .ref q5, .ref q6, .ref q7, .ref q8, .int 0, .ref q9, .ref q10, .ref q11, .int 0, .null, .null, .null, .int 0, .null, .null])), (q1, .inl (V.2.1, 6, .inl (fun _ => 0))), (q2, .inl (V.2.1, 6, .inl (fun _ => 0))), (q3, .inl (V.2.1, 6, .inl (fun _ => 0))), (q4, .inl (V.2.1, 36, .inl (fun _ => 0))), (q5, .inl (V.2.1, 6, .inl (fun _ => 0))), (q6, .inl (V.2.1, 6, .inl (fun _ => 0))), (q7, .inl (V.2.1, 6, .inl (fun _ => 0))), (q8, .inl (V.2.1, 6, .inl (fun _ => 0))), (q9, .inl (V.2.1, 36, .inl (fun _ => 0))), (q10, .inl (V.2.1, 36, .inl (fun _ => 0))), (q11, .inl (V.2.1, 40, .inl (fun _ => 0)))] hi_X9_init_X9 tyX9 tyX9_ok nmX9 rfl rfl (by decide) hk_X9_init_40 rfl rfl (by decide +kernel) rfl rfl (Nat.le_of_ble_eq_true rfl) rfl dX9_init_89 ?_
  refine c_aload_n E 0 dX9_init_92 rfl rfl ?_
  refine c_bipush (v := 12) E dX9_init_93 (by decide) ?_
  refine c_newaI (N := 12) E (by decide +kernel) (by decide) (by decide) (by decide) (Nat.le_of_ble_eq_true rfl) (Nat.le_of_ble_eq_true rfl) dX9_init_95 (fun q12 => ?_)
  refine c_putF (C := RX9) (T := TX9) (N := 20) (ci := 9) (ty := (.array .int)) E 0 14 [(h, .inr (9, [.ref q1, .ref q2, .ref q3, .int 0, .ref q4, .ref q5, .ref q6, .ref q7, .ref q8, .int 0, .ref q9, .ref q10, .ref q11, .int 0, .ref q12, .null, .null, .int 0, .null, .null])), (q1, .inl (V.2.1, 6, .inl (fun _ => 0))), (q2, .inl (V.2.1, 6, .inl (fun _ => 0))), (q3, .inl (V.2.1, 6, .inl (fun _ => 0))), (q4, .inl (V.2.1, 36, .inl (fun _ => 0))), (q5, .inl (V.2.1, 6, .inl (fun _ => 0))), (q6, .inl (V.2.1, 6, .inl (fun _ => 0))), (q7, .inl (V.2.1, 6, .inl (fun _ => 0))), (q8, .inl (V.2.1, 6, .inl (fun _ => 0))), (q9, .inl (V.2.1, 36, .inl (fun _ => 0))), (q10, .inl (V.2.1, 36, .inl (fun _ => 0))), (q11, .inl (V.2.1, 40, .inl (fun _ => 0))), (q12, .inl (V.2.1, 12, .inl (fun _ => 0)))] hi_X9_init_X9 tyX9 tyX9_ok nmX9 rfl rfl (by decide) hk_X9_init_43 rfl rfl (by decide +kernel) rfl rfl (Nat.le_of_ble_eq_true rfl) rfl dX9_init_97 ?_
  refine c_aload_n E 0 dX9_init_100 rfl rfl ?_
  refine c_bipush (v := 12) E dX9_init_101 (by decide) ?_
  refine c_newaI (N := 12) E (by decide +kernel) (by decide) (by decide) (by decide) (Nat.le_of_ble_eq_true rfl) (Nat.le_of_ble_eq_true rfl) dX9_init_103 (fun q13 => ?_)
  refine c_putF (C := RX9) (T := TX9) (N := 20) (ci := 9) (ty := (.array .int)) E 0 15 [(h, .inr (9, [.ref q1, .ref q2, .ref q3, .int 0, .ref q4, .ref q5, .ref q6, .ref q7, .ref q8, .int 0, .ref q9, .ref q10, .ref q11, .int 0, .ref q12, .ref q13, .null, .int 0, .null, .null])), (q1, .inl (V.2.1, 6, .inl (fun _ => 0))), (q2, .inl (V.2.1, 6, .inl (fun _ => 0))), (q3, .inl (V.2.1, 6, .inl (fun _ => 0))), (q4, .inl (V.2.1, 36, .inl (fun _ => 0))), (q5, .inl (V.2.1, 6, .inl (fun _ => 0))), (q6, .inl (V.2.1, 6, .inl (fun _ => 0))), (q7, .inl (V.2.1, 6, .inl (fun _ => 0))), (q8, .inl (V.2.1, 6, .inl (fun _ => 0))), (q9, .inl (V.2.1, 36, .inl (fun _ => 0))), (q10, .inl (V.2.1, 36, .inl (fun _ => 0))), (q11, .inl (V.2.1, 40, .inl (fun _ => 0))), (q12, .inl (V.2.1, 12, .inl (fun _ => 0))), (q13, .inl (V.2.1, 12, .inl (fun _ => 0)))] hi_X9_init_X9 tyX9 tyX9_ok nmX9 rfl rfl (by decide) hk_X9_init_46 rfl rfl (by decide +kernel) rfl rfl (Nat.le_of_ble_eq_true rfl) rfl dX9_init_105 ?_
  refine c_aload_n E 0 dX9_init_108 rfl rfl ?_
  refine c_bipush (v := 12) E dX9_init_109 (by decide) ?_
  refine c_newaI (N := 12) E (by decide +kernel) (by decide) (by decide) (by decide) (Nat.le_of_ble_eq_true rfl) (Nat.le_of_ble_eq_true rfl) dX9_init_111 (fun q14 => ?_)
  refine c_putF (C := RX9) (T := TX9) (N := 20) (ci := 9) (ty := (.array .int)) E 0 16 [(h, .inr (9, [.ref q1, .ref q2, .ref q3, .int 0, .ref q4, .ref q5, .ref q6, .ref q7, .ref q8, .int 0, .ref q9, .ref q10, .ref q11, .int 0, .ref q12, .ref q13, .ref q14, .int 0, .null, .null])), (q1, .inl (V.2.1, 6, .inl (fun _ => 0))), (q2, .inl (V.2.1, 6, .inl (fun _ => 0))), (q3, .inl (V.2.1, 6, .inl (fun _ => 0))), (q4, .inl (V.2.1, 36, .inl (fun _ => 0))), (q5, .inl (V.2.1, 6, .inl (fun _ => 0))), (q6, .inl (V.2.1, 6, .inl (fun _ => 0))), (q7, .inl (V.2.1, 6, .inl (fun _ => 0))), (q8, .inl (V.2.1, 6, .inl (fun _ => 0))), (q9, .inl (V.2.1, 36, .inl (fun _ => 0))), (q10, .inl (V.2.1, 36, .inl (fun _ => 0))), (q11, .inl (V.2.1, 40, .inl (fun _ => 0))), (q12, .inl (V.2.1, 12, .inl (fun _ => 0))), (q13, .inl (V.2.1, 12, .inl (fun _ => 0))), (q14, .inl (V.2.1, 12, .inl (fun _ => 0)))] hi_X9_init_X9 tyX9 tyX9_ok nmX9 rfl rfl (by decide) hk_X9_init_49 rfl rfl (by decide +kernel) rfl rfl (Nat.le_of_ble_eq_true rfl) rfl dX9_init_113 ?_
  refine c_aload_n E 0 dX9_init_116 rfl rfl ?_
  refine c_bipush (v := 6) E dX9_init_117 (by decide) ?_
  refine c_newaI (N := 6) E (by decide +kernel) (by decide) (by decide) (by decide) (Nat.le_of_ble_eq_true rfl) (Nat.le_of_ble_eq_true rfl) dX9_init_119 (fun q15 => ?_)
  refine c_putF (C := RX9) (T := TX9) (N := 20) (ci := 9) (ty := (.array .int)) E 0 18 [(h, .inr (9, [.ref q1, .ref q2, .ref q3, .int 0, .ref q4, .ref q5, .ref q6, .ref q7, .ref q8, .int 0, .ref q9, .ref q10, .ref q11, .int 0, .ref q12, .ref q13, .ref q14, .int 0, .ref q15, .null])), (q1, .inl (V.2.1, 6, .inl (fun _ => 0))), (q2, .inl (V.2.1, 6, .inl (fun _ => 0))), (q3, .inl (V.2.1, 6, .inl (fun _ => 0))), (q4, .inl (V.2.1, 36, .inl (fun _ => 0))), (q5, .inl (V.2.1, 6, .inl (fun _ => 0))), (q6, .inl (V.2.1, 6, .inl (fun _ => 0))), (q7, .inl (V.2.1, 6, .inl (fun _ => 0))), (q8, .inl (V.2.1, 6, .inl (fun _ => 0))), (q9, .inl (V.2.1, 36, .inl (fun _ => 0))), (q10, .inl (V.2.1, 36, .inl (fun _ => 0))), (q11, .inl (V.2.1, 40, .inl (fun _ => 0))), (q12, .inl (V.2.1, 12, .inl (fun _ => 0))), (q13, .inl (V.2.1, 12, .inl (fun _ => 0))), (q14, .inl (V.2.1, 12, .inl (fun _ => 0))), (q15, .inl (V.2.1, 6, .inl (fun _ => 0)))] hi_X9_init_X9 tyX9 tyX9_ok nmX9 rfl rfl (by decide) hk_X9_init_52 rfl rfl (by decide +kernel) rfl rfl (Nat.le_of_ble_eq_true rfl) rfl dX9_init_121 ?_
  refine c_aload_n E 0 dX9_init_124 rfl rfl ?_
  refine c_ldc (v := 109375) E (by decide +kernel) dX9_init_125 ?_
  refine c_newaI (N := 109375) E (by decide +kernel) (by decide) (by decide) (by decide) (Nat.le_of_ble_eq_true rfl) (Nat.le_of_ble_eq_true rfl) dX9_init_127 (fun q16 => ?_)
  refine c_putF (C := RX9) (T := TX9) (N := 20) (ci := 9) (ty := (.array .int)) E 0 19 [(h, .inr (9, [.ref q1, .ref q2, .ref q3, .int 0, .ref q4, .ref q5, .ref q6, .ref q7, .ref q8, .int 0, .ref q9, .ref q10, .ref q11, .int 0, .ref q12, .ref q13, .ref q14, .int 0, .ref q15, .ref q16])), (q1, .inl (V.2.1, 6, .inl (fun _ => 0))), (q2, .inl (V.2.1, 6, .inl (fun _ => 0))), (q3, .inl (V.2.1, 6, .inl (fun _ => 0))), (q4, .inl (V.2.1, 36, .inl (fun _ => 0))), (q5, .inl (V.2.1, 6, .inl (fun _ => 0))), (q6, .inl (V.2.1, 6, .inl (fun _ => 0))), (q7, .inl (V.2.1, 6, .inl (fun _ => 0))), (q8, .inl (V.2.1, 6, .inl (fun _ => 0))), (q9, .inl (V.2.1, 36, .inl (fun _ => 0))), (q10, .inl (V.2.1, 36, .inl (fun _ => 0))), (q11, .inl (V.2.1, 40, .inl (fun _ => 0))), (q12, .inl (V.2.1, 12, .inl (fun _ => 0))), (q13, .inl (V.2.1, 12, .inl (fun _ => 0))), (q14, .inl (V.2.1, 12, .inl (fun _ => 0))), (q15, .inl (V.2.1, 6, .inl (fun _ => 0))), (q16, .inl (V.2.1, 109375, .inl (fun _ => 0)))] hi_X9_init_X9 tyX9 tyX9_ok nmX9 rfl rfl (by decide) hk_X9_init_56 rfl rfl (by decide +kernel) rfl rfl (Nat.le_of_ble_eq_true rfl) rfl dX9_init_129 ?_
  refine c_sub (w' := mw ((fun k => [h, q1, q2, q3, q4, q5, q6, q7, q8, q9, q10, q11, q12, q13, q14, q15, q16].getD k 0), V.2) sm0) [0, 1, 2, 3, 4, 5, 6, 7, 8, 9, 10, 11, 12, 13, 14, 15, 16] rfl rfl rfl ?_
  exact c_vret E ⟨(fun k => [h, q1, q2, q3, q4, q5, q6, q7, q8, q9, q10, q11, q12, q13, q14, q15, q16].getD k 0), rfl, rfl⟩ rfl rfl dX9_init_132
