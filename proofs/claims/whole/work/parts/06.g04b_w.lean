theorem hi_X8_swap_X8 : ∀ w ∈ wsX80, w ∈ wsX8_swap := by decide +kernel
theorem hi_X8_swap_X0 : ∀ w ∈ wsX00, w ∈ wsX8_swap := by decide +kernel
theorem hk_X8_swap_10 : Cond.fieldLink RX8 10 "PaperMarks" "judges" "LPaperMarks$Judges;" ∈ wsX8_swap := by decide +kernel
theorem hk_X8_swap_191 : Cond.fieldLink RX8 191 "PaperMarks$Judges" "count" "I" ∈ wsX8_swap := by decide +kernel
def rm_fX8_swap : Room := { frames := 2, cells := 0, slots := 0, locals := 45 }
set_option maxHeartbeats 4000000 in
set_option maxRecDepth 100000 in
theorem fX8_swap_w68 {k : gK} {X : gX} (E : gE k X cX8_swap RX8 wsX8_swap 5 (some .int) rm_fX8_swap) (rc4 : St → Int32 → Int32 → Int32 → Option (Int32 × St)) (hrc4 : ∀ (σ : St) (x1 : Int32) (x2 : Int32) (x3 : Int32) (r : Int32 × St), rc4 σ x1 x2 x3 = some r → G k X 5 (some (.int r.1)) (cw k.2.2.2 r.2) (cw k.2.2.2 σ) [(0, .ref (k.2.2.2.1 0)), (1, .int x1), (2, .int x2), (3, .int x3)] [] 4) (rc20 : St → Int32 → Int32 → Int32 → Int32 → Option (Int32 × St)) (hrc20 : ∀ (σ : St) (x1 : Int32) (x2 : Int32) (x3 : Int32) (x4 : Int32) (r : Int32 × St), rc20 σ x1 x2 x3 x4 = some r → G k X 5 (some (.int r.1)) (cw k.2.2.2 r.2) (cw k.2.2.2 σ) [(0, .ref (k.2.2.2.1 0)), (1, .int x1), (2, .int x2), (3, .int x3), (4, .int x4)] [] 20) (σ : St) (x1 : Int32) (x2 : Int32) (x3 : Int32) (x4 : Int32) (r : Int32 × St) (hf : fX8_swap_b68 rc4 rc20 σ x1 x2 x3 x4 = some r) : G k X 5 (some (.int r.1)) (cw k.2.2.2 r.2) (cw k.2.2.2 σ) [(0, .ref (k.2.2.2.1 0)), (1, .int x1), (2, .int x2), (3, .int x3), (4, .int x4)] [] 68 := by
  unfold fX8_swap_b68 at hf
  refine g_iinc E 4 [(4, .int (x4 + (1 : Int32))), (0, .ref (k.2.2.2.1 0)), (1, .int x1), (2, .int x2), (3, .int x3)] (x4 + (1 : Int32)) dX8_swap_68 rfl (by rfl) (by decide) rfl ?_
  refine g_goto (tgt := 20) E dX8_swap_71 (by decide) ?_
  exact g_sub [1, 2, 3, 4, 0] rfl (hrc20 σ x1 x2 x3 (x4 + (1 : Int32)) r hf)
set_option maxHeartbeats 4000000 in
set_option maxRecDepth 100000 in
theorem fX8_swap_w20 {k : gK} {X : gX} (E : gE k X cX8_swap RX8 wsX8_swap 5 (some .int) rm_fX8_swap) (rc4 : St → Int32 → Int32 → Int32 → Option (Int32 × St)) (hrc4 : ∀ (σ : St) (x1 : Int32) (x2 : Int32) (x3 : Int32) (r : Int32 × St), rc4 σ x1 x2 x3 = some r → G k X 5 (some (.int r.1)) (cw k.2.2.2 r.2) (cw k.2.2.2 σ) [(0, .ref (k.2.2.2.1 0)), (1, .int x1), (2, .int x2), (3, .int x3)] [] 4) (rc20 : St → Int32 → Int32 → Int32 → Int32 → Option (Int32 × St)) (hrc20 : ∀ (σ : St) (x1 : Int32) (x2 : Int32) (x3 : Int32) (x4 : Int32) (r : Int32 × St), rc20 σ x1 x2 x3 x4 = some r → G k X 5 (some (.int r.1)) (cw k.2.2.2 r.2) (cw k.2.2.2 σ) [(0, .ref (k.2.2.2.1 0)), (1, .int x1), (2, .int x2), (3, .int x3), (4, .int x4)] [] 20) (σ : St) (x1 : Int32) (x2 : Int32) (x3 : Int32) (x4 : Int32) (r : Int32 × St) (hf : fX8_swap_b20 rc4 rc20 σ x1 x2 x3 x4 = some r) : G k X 5 (some (.int r.1)) (cw k.2.2.2 r.2) (cw k.2.2.2 σ) [(0, .ref (k.2.2.2.1 0)), (1, .int x1), (2, .int x2), (3, .int x3), (4, .int x4)] [] 20 := by
  unfold fX8_swap_b20 at hf
  refine g_iload E 4 dX8_swap_20 rfl ?_
  refine g_aload_n E 0 dX8_swap_22 rfl rfl ?_
  refine g_get (C := RX8) (T := TX8) (N := 7) (ci := 8) E 0 0 (.ref (k.2.2.2.1 1)) hi_X8_swap_X8 (cwG0 _ _) rfl (by decide) hk_X8_swap_10 rfl dX8_swap_23 ?_
  refine g_get (C := RX0) (T := TX0) (N := 5) (ci := 0) E 1 4 (.int (σ.2.1 0)) hi_X8_swap_X0 (cwG1 _ _) rfl (by decide) hk_X8_swap_191 rfl dX8_swap_26 ?_
  refine g_icmp_ge (tgt := 74) E dX8_swap_29 (by decide) (fun c1 => ?_) (fun c1 => ?_)
  · have hf := gp hf c1
    refine g_iinc E 3 [(3, .int (x3 + (1 : Int32))), (0, .ref (k.2.2.2.1 0)), (1, .int x1), (2, .int x2), (4, .int x4)] (x3 + (1 : Int32)) dX8_swap_74 rfl (by rfl) (by decide) rfl ?_
    refine g_goto (tgt := 4) E dX8_swap_77 (by decide) ?_
    exact g_sub [1, 2, 3, 0] rfl (hrc4 σ x1 x2 (x3 + (1 : Int32)) r hf)
  · have hf := gn hf c1
    refine g_aload_n E 0 dX8_swap_32 rfl rfl ?_
    refine g_iload_n E 3 dX8_swap_33 rfl rfl ?_
    refine g_iload E 4 dX8_swap_34 rfl ?_
    obtain ⟨q2, hq3, hf⟩ := gb hf
    refine g_callV (C := RX8) (T := TX8) (N := 7) (ci := 8) (As := [.int x3, .int x4]) (rest := []) (n := 2) E 0 (fX8_favours_c k σ x3 x4 q2 hq3) gX8_swap_X8_favours rfl rfl rfl (by decide +kernel) ⟨Nat.le_of_ble_eq_true rfl, Nat.le_of_ble_eq_true rfl⟩ rfl rfl (Nat.le_of_ble_eq_true rfl) rfl (cwG0 _ _) dX8_swap_36 ?_
    refine g_if_eq (tgt := 68) E dX8_swap_39 (by decide) (fun c4 => ?_) (fun c4 => ?_)
    · have hf := gp hf c4
      exact fX8_swap_w68 E rc4 hrc4 rc20 hrc20 q2.2 x1 x2 x3 x4 r hf
    · have hf := gn hf c4
      refine g_aload_n E 0 dX8_swap_42 rfl rfl ?_
      refine g_iload E 4 dX8_swap_43 rfl ?_
      refine g_iload_n E 3 dX8_swap_45 rfl rfl ?_
      obtain ⟨q5, hq6, hf⟩ := gb hf
      refine g_callV (C := RX8) (T := TX8) (N := 7) (ci := 8) (As := [.int x4, .int x3]) (rest := []) (n := 2) E 0 (fX8_favours_c k q2.2 x4 x3 q5 hq6) gX8_swap_X8_favours rfl rfl rfl (by decide +kernel) ⟨Nat.le_of_ble_eq_true rfl, Nat.le_of_ble_eq_true rfl⟩ rfl rfl (Nat.le_of_ble_eq_true rfl) rfl (cwG0 _ _) dX8_swap_46 ?_
      refine g_if_eq (tgt := 68) E dX8_swap_49 (by decide) (fun c7 => ?_) (fun c7 => ?_)
      · have hf := gp hf c7
        exact fX8_swap_w68 E rc4 hrc4 rc20 hrc20 q5.2 x1 x2 x3 x4 r hf
      · have hf := gn hf c7
        refine g_iload_n E 2 dX8_swap_52 rfl rfl ?_
        refine g_iload_n E 1 dX8_swap_53 rfl rfl ?_
        refine g_icmp_ne (tgt := 65) E dX8_swap_54 (by decide) (fun c8 => ?_) (fun c8 => ?_)
        · have hf := gn hf c8
          refine g_iinc E 2 [(2, .int (x2 + (1 : Int32))), (0, .ref (k.2.2.2.1 0)), (1, .int x1), (3, .int x3), (4, .int x4)] (x2 + (1 : Int32)) dX8_swap_65 rfl (by rfl) (by decide) rfl ?_
          exact g_sub [1, 2, 0, 3, 4] rfl (fX8_swap_w68 E rc4 hrc4 rc20 hrc20 q5.2 x1 (x2 + (1 : Int32)) x3 x4 r hf)
        · have hf := gp hf c8
          refine g_bipush (v := (10 : Int32)) E dX8_swap_57 (by decide) ?_
          refine g_iload_n E 3 dX8_swap_59 rfl rfl ?_
          refine g_imul E dX8_swap_60 ?_
          refine g_iload E 4 dX8_swap_61 rfl ?_
          refine g_iadd E dX8_swap_63 ?_
          have hf := Option.some.inj hf
          subst hf
          exact g_iret E dX8_swap_64
theorem fX8_swap_v20 {k : gK} {X : gX} (E : gE k X cX8_swap RX8 wsX8_swap 5 (some .int) rm_fX8_swap) (rc4 : St → Int32 → Int32 → Int32 → Option (Int32 × St)) (hrc4 : ∀ (σ : St) (x1 : Int32) (x2 : Int32) (x3 : Int32) (r : Int32 × St), rc4 σ x1 x2 x3 = some r → G k X 5 (some (.int r.1)) (cw k.2.2.2 r.2) (cw k.2.2.2 σ) [(0, .ref (k.2.2.2.1 0)), (1, .int x1), (2, .int x2), (3, .int x3)] [] 4) : ∀ (n : Nat) (σ : St) (x1 : Int32) (x2 : Int32) (x3 : Int32) (x4 : Int32) (r : Int32 × St), fX8_swap_l20 rc4 n σ x1 x2 x3 x4 = some r → G k X 5 (some (.int r.1)) (cw k.2.2.2 r.2) (cw k.2.2.2 σ) [(0, .ref (k.2.2.2.1 0)), (1, .int x1), (2, .int x2), (3, .int x3), (4, .int x4)] [] 20 := by
  intro n
  induction n with
  | zero => intro σ x1 x2 x3 x4 r hf; cases hf
  | succ n ih => intro σ x1 x2 x3 x4 r hf; exact fX8_swap_w20 E rc4 hrc4 (fX8_swap_l20 rc4 n) ih σ x1 x2 x3 x4 r hf
set_option maxHeartbeats 4000000 in
set_option maxRecDepth 100000 in
theorem fX8_swap_w4 {k : gK} {X : gX} (E : gE k X cX8_swap RX8 wsX8_swap 5 (some .int) rm_fX8_swap) (rc4 : St → Int32 → Int32 → Int32 → Option (Int32 × St)) (hrc4 : ∀ (σ : St) (x1 : Int32) (x2 : Int32) (x3 : Int32) (r : Int32 × St), rc4 σ x1 x2 x3 = some r → G k X 5 (some (.int r.1)) (cw k.2.2.2 r.2) (cw k.2.2.2 σ) [(0, .ref (k.2.2.2.1 0)), (1, .int x1), (2, .int x2), (3, .int x3)] [] 4) (σ : St) (x1 : Int32) (x2 : Int32) (x3 : Int32) (r : Int32 × St) (hf : fX8_swap_b4 rc4 σ x1 x2 x3 = some r) : G k X 5 (some (.int r.1)) (cw k.2.2.2 r.2) (cw k.2.2.2 σ) [(0, .ref (k.2.2.2.1 0)), (1, .int x1), (2, .int x2), (3, .int x3)] [] 4 := by
  unfold fX8_swap_b4 at hf
  refine g_iload_n E 3 dX8_swap_4 rfl rfl ?_
  refine g_aload_n E 0 dX8_swap_5 rfl rfl ?_
  refine g_get (C := RX8) (T := TX8) (N := 7) (ci := 8) E 0 0 (.ref (k.2.2.2.1 1)) hi_X8_swap_X8 (cwG0 _ _) rfl (by decide) hk_X8_swap_10 rfl dX8_swap_6 ?_
  refine g_get (C := RX0) (T := TX0) (N := 5) (ci := 0) E 1 4 (.int (σ.2.1 0)) hi_X8_swap_X0 (cwG1 _ _) rfl (by decide) hk_X8_swap_191 rfl dX8_swap_9 ?_
  refine g_icmp_ge (tgt := 80) E dX8_swap_12 (by decide) (fun c1 => ?_) (fun c1 => ?_)
  · have hf := gp hf c1
    refine g_iload_n E 1 dX8_swap_80 rfl rfl ?_
    refine g_iconst (v := (-1 : Int32)) E dX8_swap_81 (by decide) ?_
    refine g_icmp_ne (tgt := 89) E dX8_swap_82 (by decide) (fun c2 => ?_) (fun c2 => ?_)
    · have hf := gn hf c2
      refine g_bipush (v := (-6 : Int32)) E dX8_swap_89 (by decide) ?_
      have hf := Option.some.inj hf
      subst hf
      exact g_iret E dX8_swap_91
    · have hf := gp hf c2
      refine g_iload_n E 2 dX8_swap_85 rfl rfl ?_
      refine g_goto (tgt := 91) E dX8_swap_86 (by decide) ?_
      have hf := Option.some.inj hf
      subst hf
      exact g_iret E dX8_swap_91
  · have hf := gn hf c1
    refine g_iload_n E 3 dX8_swap_15 rfl rfl ?_
    refine g_iconst (v := (1 : Int32)) E dX8_swap_16 (by decide) ?_
    refine g_iadd E dX8_swap_17 ?_
    refine g_istore E [(4, .int (x3 + (1 : Int32))), (0, .ref (k.2.2.2.1 0)), (1, .int x1), (2, .int x2), (3, .int x3)] dX8_swap_18 (by decide) rfl ?_
    exact g_sub [1, 2, 3, 4, 0] rfl (fX8_swap_v20 E rc4 hrc4 gF σ x1 x2 x3 (x3 + (1 : Int32)) r hf)
theorem fX8_swap_v4 {k : gK} {X : gX} (E : gE k X cX8_swap RX8 wsX8_swap 5 (some .int) rm_fX8_swap) : ∀ (n : Nat) (σ : St) (x1 : Int32) (x2 : Int32) (x3 : Int32) (r : Int32 × St), fX8_swap_l4 n σ x1 x2 x3 = some r → G k X 5 (some (.int r.1)) (cw k.2.2.2 r.2) (cw k.2.2.2 σ) [(0, .ref (k.2.2.2.1 0)), (1, .int x1), (2, .int x2), (3, .int x3)] [] 4 := by
  intro n
  induction n with
  | zero => intro σ x1 x2 x3 r hf; cases hf
  | succ n ih => intro σ x1 x2 x3 r hf; exact fX8_swap_w4 E (fX8_swap_l4 n) ih σ x1 x2 x3 r hf
set_option maxHeartbeats 4000000 in
set_option maxRecDepth 100000 in
theorem fX8_swap_c (k : gK) (σ : St) (x1 : Int32) (r : Int32 × St) (hf : fX8_swap σ x1 = some r) : MC k yX8_swap wsX8_swap rm_fX8_swap [.ref (k.2.2.2.1 0), .int x1] (cw k.2.2.2 σ) (some (.int r.1)) (cw k.2.2.2 r.2) := by
  refine MC_of (cc := cX8_swap) (maxL := 5) (ret := (some .int)) (own := RX8) (lvs := [(0, .ref (k.2.2.2.1 0)), (1, .int x1)]) (by decide) rfl rfl (Nat.le_of_ble_eq_true rfl) rfl (fun X E => ?_)
  unfold fX8_swap at hf
  refine g_iconst (v := (0 : Int32)) E dX8_swap_0 (by decide) ?_
  refine g_istore_n E [(2, .int (0 : Int32)), (0, .ref (k.2.2.2.1 0)), (1, .int x1)] dX8_swap_1 rfl (by decide) rfl ?_
  refine g_iconst (v := (0 : Int32)) E dX8_swap_2 (by decide) ?_
  refine g_istore_n E [(3, .int (0 : Int32)), (2, .int (0 : Int32)), (0, .ref (k.2.2.2.1 0)), (1, .int x1)] dX8_swap_3 rfl (by decide) rfl ?_
  exact g_sub [2, 3, 1, 0] rfl (fX8_swap_v4 E gF σ x1 (0 : Int32) (0 : Int32) r hf)
