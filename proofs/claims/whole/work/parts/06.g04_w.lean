theorem hi_X8_swap_X8 : ∀ w ∈ wsX80, w ∈ wsX8_swap := by decide +kernel
theorem hi_X8_swap_X0 : ∀ w ∈ wsX00, w ∈ wsX8_swap := by decide +kernel
theorem hk_X8_swap_10 : Cond.fieldLink RX8 10 "PaperMarks" "judges" "LPaperMarks$Judges;" ∈ wsX8_swap := by decide +kernel
theorem hk_X8_swap_191 : Cond.fieldLink RX8 191 "PaperMarks$Judges" "count" "I" ∈ wsX8_swap := by decide +kernel
def rm_fX8_swap : Room := { frames := 2, cells := 0, slots := 0, locals := 45 }
set_option maxHeartbeats 4000000 in
set_option maxRecDepth 100000 in
theorem fX8_swap_w68 {k : gK} {X : gX} (E : gE k X cX8_swap RX8 wsX8_swap 5 (some .int) rm_fX8_swap) (rc4 : St → Int32 → Int32 → Int32 → Option (Int32 × St)) (hrc4 : ∀ (σ : St) (x1 : Int32) (x2 : Int32) (x3 : Int32) (r : Int32 × St), rc4 σ x1 x2 x3 = some r → G k X 5 (some (.int r.1)) (cw k.2.2.2 r.2) (cw k.2.2.2 σ) [(0, .ref (k.2.2.2.1 0)), (1, .int x1), (2, .int x2), (3, .int x3)] [] 4) (rc20 : St → Int32 → Int32 → Int32 → Int32 → Option (Int32 × St)) (hrc20 : ∀ (σ : St) (x1 : Int32) (x2 : Int32) (x3 : Int32) (x4 : Int32) (r : Int32 × St), rc20 σ x1 x2 x3 x4 = some r → G k X 5 (some (.int r.1)) (cw k.2.2.2 r.2) (cw k.2.2.2 σ) [(0, .ref (k.2.2.2.1 0)), (1, .int x1), (2, .int x2), (3, .int x3), (4, .int x4)] [] 20) (σ : St) (x1 : Int32) (x2 : Int32) (x3 : Int32) (x4 : Int32) (r : Int32 × St) (hf : fX8_swap_b68 rc4 rc20 σ x1 x2 x3 x4 = some r) : G k X 5 (some (.int r.1)) (cw k.2.2.2 r.2) (cw k.2.2.2 σ) [(0, .ref (k.2.2.2.1 0)), (1, .int x1), (2, .int x2), (3, .int x3), (4, .int x4)] [] 68 := by
  unfold fX8_swap_b68 at hf
  refine g_iinc E 4 [(4, .int (x4 + (1 : Int32))), (0, .ref (k.2.2.2.1 0)), (1, .int x1), (2, .int x2), (3, .int x3)] (x4 + (1 : Int32)) dX8_swap_68 rfl (by rfl) (by decide) rfl ?_
  refine g_goto (tgt := 20) E dX8_swap_71 (by decide) ?_
  exact g_sub [1, 2, 3, 4, 0] rfl (hrc20 σ x1 x2 x3 (x4 + (1 : Int32)) r hf)
set_option maxHeartbeats 4000000 in
set_option maxRecDepth 100000 in
theorem fX8_swap_w20 {k : gK} {X : gX} (E : gE k X cX8_swap RX8 wsX8_swap 5 (some .int) rm_fX8_swap) (rc4 : St → Int32 → Int32 → Int32 → Option (Int32 × St)) (hrc4 : ∀ (σ : St) (x1 : Int32) (x2 : Int32) (x3 : Int32) (r : Int32 × St), rc4 σ x1 x2 x3 = some r → G k X 5 (some (.int r.1)) (cw k.2.2.2 r.2) (cw k.2.2.2 σ) [(0, .ref (k.2.2.2.1 0)), (1, .int x1), (2, .int x2), (3, .int x3)] [] 4) (rc20 : St → Int32 → Int32 → Int32 → Int32 → Option (Int32 × St)) (hrc20 : ∀ (σ : St) (x1 : Int32) (x2 : Int32) (x3 : Int32) (x4 : Int32) (r : Int32 × St), rc20 σ x1 x2 x3 x4 = some r → G k X 5 (some (.int r.1)) (cw k.2.2.2 r.2) (cw k.2.2.2 σ) [(0, .ref (k.2.2.2.1 0)), (1, .int x1), (2, .int x2), (3, .int x3), (4, .int x4)] [] 20) (σ : St) (x1 : Int32) (x2 : Int32) (x3 : Int32) (x4 : Int32) (r : Int32 × St) (hf : fX8_swap_b20 rc4 rc20 σ x1 x2 x3 x4 = some r) : G k X 5 (some (.int r.1)) (cw k.2.2.2 r.2) (cw k.2.2.2 σ) [(0, .ref (k.2.2.2.1 0)), (1, .int x1), (2, .int x2), (3, .int x3), (4, .int x4)] [] 20 := by
  unfold fX8_swap_b20 at hf
  refine g_iload E 4 dX8_swap_20 rfl ?_
  refine g_aload_n E 0 dX8_swap_22 rfl rfl ?_
  refine g_get (C := RX8) (T := TX8) (N := 7) (ci := 8) E 0 0 (.ref (k.2.2.2.1 1)) hi_X8_swap_X8 (cwG0 _ _) rfl (by decide) hk_X8_swap_10 rfl dX8_swap_23 ?_
  refine g_get (C := RX0) (T := TX0) (N := 5) (ci := 0) E 1 4 (.int (σ.2.1 0)) hi_X8_swap_X0 (cwG1 _ _) rfl (by decide) hk_X8_swap_191 rfl dX8_swap_26 ?_
  refine g_icmp_ge (tgt := 74) E dX8_swap_29 (by decide) (fun c1 => ?_) (fun c1 => ?_)
  · have hf := gp hf c1
    refine g_iinc E 3 [(3, .int (x3 + (1 : Int32))), (0, .ref (k.2.2.2.1 0)), (1, .int x1), (2, .int x2), (4, .int x4)] (x3 + (1 : Int32)) dX8_swap_74 rfl (by rfl) (by decide) rfl ?_
    refine g_goto (tgt := 4) E dX8_swap_77 (by decide) ?_
    exact g_sub [1, 2, 3, 0] rfl (hrc4 σ x1 x2 (x3 + (1 : Int32)) r hf)
  · have hf := gn hf c1
    refine g_aload_n E 0 dX8_swap_32 rfl rfl ?_
    refine g_iload_n E 3 dX8_swap_33 rfl rfl ?_
    refine g_iload E 4 dX8_swap_34 rfl ?_
    obtain ⟨q2, hq3, hf⟩ := gb hf
    refine g_callV (C := RX8) (T := TX8) (N := 7) (ci := 8) (As := [.int x3, .int x4]) (rest := []) (n := 2) E 0 (fX8_favours_c k σ x3 x4 q2 hq3) gX8_swap_X8_favours rfl rfl rfl (by decide +kernel) ⟨Nat.le_of_ble_eq_true rfl, Nat.le_of_ble_eq_true rfl⟩ rfl rfl (Nat.le_of_ble_eq_true rfl) rfl (cwG0 _ _) dX8_swap_36 ?_
    refine g_if_eq (tgt := 68) E dX8_swap_39 (by decide) (fun c4 => ?_) (fun c4 => ?_)
    · have hf := gp hf c4
      exact fX8_swap_w68 E rc4 hrc4 rc20 hrc20 q2.2 x1 x2 x3 x4 r hf
    · have hf := gn hf c4
      refine g_aload_n E 0 dX8_swap_42 rfl rfl ?_
      refine g_iload E 4 dX8_swap_43 rfl ?_
      refine g_iload_n E 3 dX8_swap_45 rfl rfl ?_
      obtain ⟨q5, hq6, hf⟩ := gb hf
      refine g_callV (C := RX8) (T := TX8) (N := 7) (ci := 8) (As := [.int x4, .int x3]) (rest := []) (n := 2) E 0 (fX8_favours_c k q2.2 x4 x3 q5 hq6) gX8_swap_X8_favours rfl rfl rfl (by decide +kernel) ⟨Nat.le_of_ble_eq_true rfl, Nat.le_of_ble_eq_true rfl⟩ rfl rfl (Nat.le_of_ble_eq_true rfl) rfl (cwG0 _ _) dX8_swap_46 ?_
      refine g_if_eq (tgt := 68) E dX8_swap_49 (by decide) (fun c7 => ?_) (fun c7 => ?_)
      · have hf := gp hf c7
        exact fX8_swap_w68 E rc4 hrc4 rc20 hrc20 q5.2 x1 x2 x3 x4 r hf
      · have hf := gn hf c7
        refine g_iload_n E 2 dX8_swap_52 rfl rfl ?_
        refine g_iload_n E 1 dX8_swap_53 rfl rfl ?_
        refine g_icmp_ne (tgt := 65) E dX8_swap_54 (by decide) (fun c8 => ?_) (fun c8 => ?_)
        · have hf := gn hf c8
          refine g_iinc E 2 [(2, .int (x2 + (1 : Int32))), (0, .ref (k.2.2.2.1 0)), (1, .int x1), (3, .int x3), (4, .int x4)] (x2 + (1 : Int32)) dX8_swap_65 rfl (by rfl) (by decide) rfl ?_
          exact g_sub [1, 2, 0, 3, 4] rfl (fX8_swap_w68 E rc4 hrc4 rc20 hrc20 q5.2 x1 (x2 + (1 : Int32)) x3 x4 r hf)
        · have hf := gp hf c8
          refine g_bipush (v := (10 : Int32)) E dX8_swap_57 (by decide) ?_
          refine g_iload_n E 3 dX8_swap_59 rfl rfl ?_
          refine g_imul E dX8_swap_60 ?_
          refine g_iload E 4 dX8_swap_61 rfl ?_
          refine g_iadd E dX8_swap_63 ?_
          cases hf
          exact g_iret E dX8_swap_64
theorem fX8_swap_v20 {k : gK} {X : gX} (E : gE k X cX8_swap RX8 wsX8_swap 5 (some .int) rm_fX8_swap) (rc4 : St → Int32 → Int32 → Int32 → Option (Int32 × St)) (hrc4 : ∀ (σ : St) (x1 : Int32) (x2 : Int32) (x3 : Int32) (r : Int32 × St), rc4 σ x1 x2 x3 = some r → G k X 5 (some (.int r.1)) (cw k.2.2.2 r.2) (cw k.2.2.2 σ) [(0, .ref (k.2.2.2.1 0)), (1, .int x1), (2, .int x2), (3, .int x3)] [] 4) : ∀ (n : Nat) (σ : St) (x1 : Int32) (x2 : Int32) (x3 : Int32) (x4 : Int32) (r : Int32 × St), fX8_swap_l20 rc4 n σ x1 x2 x3 x4 = some r → G k X 5 (some (.int r.1)) (cw k.2.2.2 r.2) (cw k.2.2.2 σ) [(0, .ref (k.2.2.2.1 0)), (1, .int x1), (2, .int x2), (3, .int x3), (4, .int x4)] [] 20 := by
  intro n
  induction n with
  | zero => intro σ x1 x2 x3 x4 r hf; cases hf
  | succ n ih => intro σ x1 x2 x3 x4 r hf; exact fX8_swap_w20 E rc4 hrc4 (fX8_swap_l20 rc4 n) ih σ x1 x2 x3 x4 r hf
set_option maxHeartbeats 4000000 in
set_option maxRecDepth 100000 in
theorem fX8_swap_w4 {k : gK} {X : gX} (E : gE k X cX8_swap RX8 wsX8_swap 5 (some .int) rm_fX8_swap) (rc4 : St → Int32 → Int32 → Int32 → Option (Int32 × St)) (hrc4 : ∀ (σ : St) (x1 : Int32) (x2 : Int32) (x3 : Int32) (r : Int32 × St), rc4 σ x1 x2 x3 = some r → G k X 5 (some (.int r.1)) (cw k.2.2.2 r.2) (cw k.2.2.2 σ) [(0, .ref (k.2.2.2.1 0)), (1, .int x1), (2, .int x2), (3, .int x3)] [] 4) (σ : St) (x1 : Int32) (x2 : Int32) (x3 : Int32) (r : Int32 × St) (hf : fX8_swap_b4 rc4 σ x1 x2 x3 = some r) : G k X 5 (some (.int r.1)) (cw k.2.2.2 r.2) (cw k.2.2.2 σ) [(0, .ref (k.2.2.2.1 0)), (1, .int x1), (2, .int x2), (3, .int x3)] [] 4 := by
  unfold fX8_swap_b4 at hf
  refine g_iload_n E 3 dX8_swap_4 rfl rfl ?_
  refine g_aload_n E 0 dX8_swap_5 rfl rfl ?_
  refine g_get (C := RX8) (T := TX8) (N := 7) (ci := 8) E 0 0 (.ref (k.2.2.2.1 1)) hi_X8_swap_X8 (cwG0 _ _) rfl (by decide) hk_X8_swap_10 rfl dX8_swap_6 ?_
  refine g_get (C := RX0) (T := TX0) (N := 5) (ci := 0) E 1 4 (.int (σ.2.1 0)) hi_X8_swap_X0 (cwG1 _ _) rfl (by decide) hk_X8_swap_191 rfl dX8_swap_9 ?_
  refine g_icmp_ge (tgt := 80) E dX8_swap_12 (by decide) (fun c1 => ?_) (fun c1 => ?_)
  · have hf := gp hf c1
    refine g_iload_n E 1 dX8_swap_80 rfl rfl ?_
    refine g_iconst (v := (-1 : Int32)) E dX8_swap_81 (by decide) ?_
    refine g_icmp_ne (tgt := 89) E dX8_swap_82 (by decide) (fun c2 => ?_) (fun c2 => ?_)
    · have hf := gn hf c2
      refine g_bipush (v := (-6 : Int32)) E dX8_swap_89 (by decide) ?_
      cases hf
      exact g_iret E dX8_swap_91
    · have hf := gp hf c2
      refine g_iload_n E 2 dX8_swap_85 rfl rfl ?_
      refine g_goto (tgt := 91) E dX8_swap_86 (by decide) ?_
      cases hf
      exact g_iret E dX8_swap_91
  · have hf := gn hf c1
    refine g_iload_n E 3 dX8_swap_15 rfl rfl ?_
    refine g_iconst (v := (1 : Int32)) E dX8_swap_16 (by decide) ?_
    refine g_iadd E dX8_swap_17 ?_
    refine g_istore E [(4, .int (x3 + (1 : Int32))), (0, .ref (k.2.2.2.1 0)), (1, .int x1), (2, .int x2), (3, .int x3)] dX8_swap_18 (by decide) rfl ?_
    exact g_sub [1, 2, 3, 4, 0] rfl (fX8_swap_v20 E rc4 hrc4 gF σ x1 x2 x3 (x3 + (1 : Int32)) r hf)
theorem fX8_swap_v4 {k : gK} {X : gX} (E : gE k X cX8_swap RX8 wsX8_swap 5 (some .int) rm_fX8_swap) : ∀ (n : Nat) (σ : St) (x1 : Int32) (x2 : Int32) (x3 : Int32) (r : Int32 × St), fX8_swap_l4 n σ x1 x2 x3 = some r → G k X 5 (some (.int r.1)) (cw k.2.2.2 r.2) (cw k.2.2.2 σ) [(0, .ref (k.2.2.2.1 0)), (1, .int x1), (2, .int x2), (3, .int x3)] [] 4 := by
  intro n
  induction n with
  | zero => intro σ x1 x2 x3 r hf; cases hf
  | succ n ih => intro σ x1 x2 x3 r hf; exact fX8_swap_w4 E (fX8_swap_l4 n) ih σ x1 x2 x3 r hf
set_option maxHeartbeats 4000000 in
set_option maxRecDepth 100000 in
theorem fX8_swap_c (k : gK) (σ : St) (x1 : Int32) (r : Int32 × St) (hf : fX8_swap σ x1 = some r) : MC k yX8_swap wsX8_swap rm_fX8_swap [.ref (k.2.2.2.1 0), .int x1] (cw k.2.2.2 σ) (some (.int r.1)) (cw k.2.2.2 r.2) := by
  refine MC_of (cc := cX8_swap) (maxL := 5) (ret := (some .int)) (own := RX8) (lvs := [(0, .ref (k.2.2.2.1 0)), (1, .int x1)]) (by decide) rfl rfl (Nat.le_of_ble_eq_true rfl) rfl (fun X E => ?_)
  unfold fX8_swap at hf
  refine g_iconst (v := (0 : Int32)) E dX8_swap_0 (by decide) ?_
  refine g_istore_n E [(2, .int (0 : Int32)), (0, .ref (k.2.2.2.1 0)), (1, .int x1)] dX8_swap_1 rfl (by decide) rfl ?_
  refine g_iconst (v := (0 : Int32)) E dX8_swap_2 (by decide) ?_
  refine g_istore_n E [(3, .int (0 : Int32)), (2, .int (0 : Int32)), (0, .ref (k.2.2.2.1 0)), (1, .int x1)] dX8_swap_3 rfl (by decide) rfl ?_
  exact g_sub [2, 3, 1, 0] rfl (fX8_swap_v4 E gF σ x1 (0 : Int32) (0 : Int32) r hf)
theorem hi_X8_ring_X8 : ∀ w ∈ wsX80, w ∈ wsX8_ring := by decide +kernel
theorem hi_X8_ring_X0 : ∀ w ∈ wsX00, w ∈ wsX8_ring := by decide +kernel
theorem hk_X8_ring_10 : Cond.fieldLink RX8 10 "PaperMarks" "judges" "LPaperMarks$Judges;" ∈ wsX8_ring := by decide +kernel
theorem hk_X8_ring_191 : Cond.fieldLink RX8 191 "PaperMarks$Judges" "count" "I" ∈ wsX8_ring := by decide +kernel
def rm_fX8_ring : Room := { frames := 2, cells := 0, slots := 0, locals := 45 }
set_option maxHeartbeats 4000000 in
set_option maxRecDepth 100000 in
theorem fX8_ring_w109 {k : gK} {X : gX} (E : gE k X cX8_ring RX8 wsX8_ring 6 (some .int) rm_fX8_ring) (rc4 : St → Int32 → Int32 → Int32 → Option (Int32 × St)) (hrc4 : ∀ (σ : St) (x1 : Int32) (x2 : Int32) (x3 : Int32) (r : Int32 × St), rc4 σ x1 x2 x3 = some r → G k X 6 (some (.int r.1)) (cw k.2.2.2 r.2) (cw k.2.2.2 σ) [(0, .ref (k.2.2.2.1 0)), (1, .int x1), (2, .int x2), (3, .int x3)] [] 4) (rc20 : St → Int32 → Int32 → Int32 → Int32 → Option (Int32 × St)) (hrc20 : ∀ (σ : St) (x1 : Int32) (x2 : Int32) (x3 : Int32) (x4 : Int32) (r : Int32 × St), rc20 σ x1 x2 x3 x4 = some r → G k X 6 (some (.int r.1)) (cw k.2.2.2 r.2) (cw k.2.2.2 σ) [(0, .ref (k.2.2.2.1 0)), (1, .int x1), (2, .int x2), (3, .int x3), (4, .int x4)] [] 20) (rc37 : St → Int32 → Int32 → Int32 → Int32 → Int32 → Option (Int32 × St)) (hrc37 : ∀ (σ : St) (x1 : Int32) (x2 : Int32) (x3 : Int32) (x4 : Int32) (x5 : Int32) (r : Int32 × St), rc37 σ x1 x2 x3 x4 x5 = some r → G k X 6 (some (.int r.1)) (cw k.2.2.2 r.2) (cw k.2.2.2 σ) [(0, .ref (k.2.2.2.1 0)), (1, .int x1), (2, .int x2), (3, .int x3), (4, .int x4), (5, .int x5)] [] 37) (σ : St) (x1 : Int32) (x2 : Int32) (x3 : Int32) (x4 : Int32) (x5 : Int32) (r : Int32 × St) (hf : fX8_ring_b109 rc4 rc20 rc37 σ x1 x2 x3 x4 x5 = some r) : G k X 6 (some (.int r.1)) (cw k.2.2.2 r.2) (cw k.2.2.2 σ) [(0, .ref (k.2.2.2.1 0)), (1, .int x1), (2, .int x2), (3, .int x3), (4, .int x4), (5, .int x5)] [] 109 := by
  unfold fX8_ring_b109 at hf
  refine g_iinc E 5 [(5, .int (x5 + (1 : Int32))), (0, .ref (k.2.2.2.1 0)), (1, .int x1), (2, .int x2), (3, .int x3), (4, .int x4)] (x5 + (1 : Int32)) dX8_ring_109 rfl (by rfl) (by decide) rfl ?_
  refine g_goto (tgt := 37) E dX8_ring_112 (by decide) ?_
  exact g_sub [1, 2, 3, 4, 5, 0] rfl (hrc37 σ x1 x2 x3 x4 (x5 + (1 : Int32)) r hf)
set_option maxHeartbeats 4000000 in
set_option maxRecDepth 100000 in
theorem fX8_ring_w37 {k : gK} {X : gX} (E : gE k X cX8_ring RX8 wsX8_ring 6 (some .int) rm_fX8_ring) (rc4 : St → Int32 → Int32 → Int32 → Option (Int32 × St)) (hrc4 : ∀ (σ : St) (x1 : Int32) (x2 : Int32) (x3 : Int32) (r : Int32 × St), rc4 σ x1 x2 x3 = some r → G k X 6 (some (.int r.1)) (cw k.2.2.2 r.2) (cw k.2.2.2 σ) [(0, .ref (k.2.2.2.1 0)), (1, .int x1), (2, .int x2), (3, .int x3)] [] 4) (rc20 : St → Int32 → Int32 → Int32 → Int32 → Option (Int32 × St)) (hrc20 : ∀ (σ : St) (x1 : Int32) (x2 : Int32) (x3 : Int32) (x4 : Int32) (r : Int32 × St), rc20 σ x1 x2 x3 x4 = some r → G k X 6 (some (.int r.1)) (cw k.2.2.2 r.2) (cw k.2.2.2 σ) [(0, .ref (k.2.2.2.1 0)), (1, .int x1), (2, .int x2), (3, .int x3), (4, .int x4)] [] 20) (rc37 : St → Int32 → Int32 → Int32 → Int32 → Int32 → Option (Int32 × St)) (hrc37 : ∀ (σ : St) (x1 : Int32) (x2 : Int32) (x3 : Int32) (x4 : Int32) (x5 : Int32) (r : Int32 × St), rc37 σ x1 x2 x3 x4 x5 = some r → G k X 6 (some (.int r.1)) (cw k.2.2.2 r.2) (cw k.2.2.2 σ) [(0, .ref (k.2.2.2.1 0)), (1, .int x1), (2, .int x2), (3, .int x3), (4, .int x4), (5, .int x5)] [] 37) (σ : St) (x1 : Int32) (x2 : Int32) (x3 : Int32) (x4 : Int32) (x5 : Int32) (r : Int32 × St) (hf : fX8_ring_b37 rc4 rc20 rc37 σ x1 x2 x3 x4 x5 = some r) : G k X 6 (some (.int r.1)) (cw k.2.2.2 r.2) (cw k.2.2.2 σ) [(0, .ref (k.2.2.2.1 0)), (1, .int x1), (2, .int x2), (3, .int x3), (4, .int x4), (5, .int x5)] [] 37 := by
  unfold fX8_ring_b37 at hf
  refine g_iload E 5 dX8_ring_37 rfl ?_
  refine g_aload_n E 0 dX8_ring_39 rfl rfl ?_
  refine g_get (C := RX8) (T := TX8) (N := 7) (ci := 8) E 0 0 (.ref (k.2.2.2.1 1)) hi_X8_ring_X8 (cwG0 _ _) rfl (by decide) hk_X8_ring_10 rfl dX8_ring_40 ?_
  refine g_get (C := RX0) (T := TX0) (N := 5) (ci := 0) E 1 4 (.int (σ.2.1 0)) hi_X8_ring_X0 (cwG1 _ _) rfl (by decide) hk_X8_ring_191 rfl dX8_ring_43 ?_
  refine g_icmp_ge (tgt := 115) E dX8_ring_46 (by decide) (fun c1 => ?_) (fun c1 => ?_)
  · have hf := gp hf c1
    refine g_iinc E 4 [(4, .int (x4 + (1 : Int32))), (0, .ref (k.2.2.2.1 0)), (1, .int x1), (2, .int x2), (3, .int x3), (5, .int x5)] (x4 + (1 : Int32)) dX8_ring_115 rfl (by rfl) (by decide) rfl ?_
    refine g_goto (tgt := 20) E dX8_ring_118 (by decide) ?_
    exact g_sub [1, 2, 3, 4, 0] rfl (hrc20 σ x1 x2 x3 (x4 + (1 : Int32)) r hf)
  · have hf := gn hf c1
    refine g_iload E 4 dX8_ring_49 rfl ?_
    refine g_iload E 5 dX8_ring_51 rfl ?_
    refine g_icmp_eq (tgt := 109) E dX8_ring_53 (by decide) (fun c2 => ?_) (fun c2 => ?_)
    · have hf := gp hf c2
      exact fX8_ring_w109 E rc4 hrc4 rc20 hrc20 rc37 hrc37 σ x1 x2 x3 x4 x5 r hf
    · have hf := gn hf c2
      refine g_aload_n E 0 dX8_ring_56 rfl rfl ?_
      refine g_iload_n E 3 dX8_ring_57 rfl rfl ?_
      refine g_iload E 4 dX8_ring_58 rfl ?_
      obtain ⟨q3, hq4, hf⟩ := gb hf
      refine g_callV (C := RX8) (T := TX8) (N := 7) (ci := 8) (As := [.int x3, .int x4]) (rest := []) (n := 2) E 0 (fX8_favours_c k σ x3 x4 q3 hq4) gX8_ring_X8_favours rfl rfl rfl (by decide +kernel) ⟨Nat.le_of_ble_eq_true rfl, Nat.le_of_ble_eq_true rfl⟩ rfl rfl (Nat.le_of_ble_eq_true rfl) rfl (cwG0 _ _) dX8_ring_60 ?_
      refine g_if_eq (tgt := 109) E dX8_ring_63 (by decide) (fun c5 => ?_) (fun c5 => ?_)
      · have hf := gp hf c5
        exact fX8_ring_w109 E rc4 hrc4 rc20 hrc20 rc37 hrc37 q3.2 x1 x2 x3 x4 x5 r hf
      · have hf := gn hf c5
        refine g_aload_n E 0 dX8_ring_66 rfl rfl ?_
        refine g_iload E 4 dX8_ring_67 rfl ?_
        refine g_iload E 5 dX8_ring_69 rfl ?_
        obtain ⟨q6, hq7, hf⟩ := gb hf
        refine g_callV (C := RX8) (T := TX8) (N := 7) (ci := 8) (As := [.int x4, .int x5]) (rest := []) (n := 2) E 0 (fX8_favours_c k q3.2 x4 x5 q6 hq7) gX8_ring_X8_favours rfl rfl rfl (by decide +kernel) ⟨Nat.le_of_ble_eq_true rfl, Nat.le_of_ble_eq_true rfl⟩ rfl rfl (Nat.le_of_ble_eq_true rfl) rfl (cwG0 _ _) dX8_ring_71 ?_
        refine g_if_eq (tgt := 109) E dX8_ring_74 (by decide) (fun c8 => ?_) (fun c8 => ?_)
        · have hf := gp hf c8
          exact fX8_ring_w109 E rc4 hrc4 rc20 hrc20 rc37 hrc37 q6.2 x1 x2 x3 x4 x5 r hf
        · have hf := gn hf c8
          refine g_aload_n E 0 dX8_ring_77 rfl rfl ?_
          refine g_iload E 5 dX8_ring_78 rfl ?_
          refine g_iload_n E 3 dX8_ring_80 rfl rfl ?_
          obtain ⟨q9, hq10, hf⟩ := gb hf
          refine g_callV (C := RX8) (T := TX8) (N := 7) (ci := 8) (As := [.int x5, .int x3]) (rest := []) (n := 2) E 0 (fX8_favours_c k q6.2 x5 x3 q9 hq10) gX8_ring_X8_favours rfl rfl rfl (by decide +kernel) ⟨Nat.le_of_ble_eq_true rfl, Nat.le_of_ble_eq_true rfl⟩ rfl rfl (Nat.le_of_ble_eq_true rfl) rfl (cwG0 _ _) dX8_ring_81 ?_
          refine g_if_eq (tgt := 109) E dX8_ring_84 (by decide) (fun c11 => ?_) (fun c11 => ?_)
          · have hf := gp hf c11
            exact fX8_ring_w109 E rc4 hrc4 rc20 hrc20 rc37 hrc37 q9.2 x1 x2 x3 x4 x5 r hf
          · have hf := gn hf c11
            refine g_iload_n E 2 dX8_ring_87 rfl rfl ?_
            refine g_iload_n E 1 dX8_ring_88 rfl rfl ?_
            refine g_icmp_ne (tgt := 106) E dX8_ring_89 (by decide) (fun c12 => ?_) (fun c12 => ?_)
            · have hf := gn hf c12
              refine g_iinc E 2 [(2, .int (x2 + (1 : Int32))), (0, .ref (k.2.2.2.1 0)), (1, .int x1), (3, .int x3), (4, .int x4), (5, .int x5)] (x2 + (1 : Int32)) dX8_ring_106 rfl (by rfl) (by decide) rfl ?_
              exact g_sub [1, 2, 0, 3, 4, 5] rfl (fX8_ring_w109 E rc4 hrc4 rc20 hrc20 rc37 hrc37 q9.2 x1 (x2 + (1 : Int32)) x3 x4 x5 r hf)
            · have hf := gp hf c12
              refine g_bipush (v := (100 : Int32)) E dX8_ring_92 (by decide) ?_
              refine g_iload_n E 3 dX8_ring_94 rfl rfl ?_
              refine g_imul E dX8_ring_95 ?_
              refine g_bipush (v := (10 : Int32)) E dX8_ring_96 (by decide) ?_
              refine g_iload E 4 dX8_ring_98 rfl ?_
              refine g_imul E dX8_ring_100 ?_
              refine g_iadd E dX8_ring_101 ?_
              refine g_iload E 5 dX8_ring_102 rfl ?_
              refine g_iadd E dX8_ring_104 ?_
              cases hf
              exact g_iret E dX8_ring_105
theorem fX8_ring_v37 {k : gK} {X : gX} (E : gE k X cX8_ring RX8 wsX8_ring 6 (some .int) rm_fX8_ring) (rc4 : St → Int32 → Int32 → Int32 → Option (Int32 × St)) (hrc4 : ∀ (σ : St) (x1 : Int32) (x2 : Int32) (x3 : Int32) (r : Int32 × St), rc4 σ x1 x2 x3 = some r → G k X 6 (some (.int r.1)) (cw k.2.2.2 r.2) (cw k.2.2.2 σ) [(0, .ref (k.2.2.2.1 0)), (1, .int x1), (2, .int x2), (3, .int x3)] [] 4) (rc20 : St → Int32 → Int32 → Int32 → Int32 → Option (Int32 × St)) (hrc20 : ∀ (σ : St) (x1 : Int32) (x2 : Int32) (x3 : Int32) (x4 : Int32) (r : Int32 × St), rc20 σ x1 x2 x3 x4 = some r → G k X 6 (some (.int r.1)) (cw k.2.2.2 r.2) (cw k.2.2.2 σ) [(0, .ref (k.2.2.2.1 0)), (1, .int x1), (2, .int x2), (3, .int x3), (4, .int x4)] [] 20) : ∀ (n : Nat) (σ : St) (x1 : Int32) (x2 : Int32) (x3 : Int32) (x4 : Int32) (x5 : Int32) (r : Int32 × St), fX8_ring_l37 rc4 rc20 n σ x1 x2 x3 x4 x5 = some r → G k X 6 (some (.int r.1)) (cw k.2.2.2 r.2) (cw k.2.2.2 σ) [(0, .ref (k.2.2.2.1 0)), (1, .int x1), (2, .int x2), (3, .int x3), (4, .int x4), (5, .int x5)] [] 37 := by
  intro n
  induction n with
  | zero => intro σ x1 x2 x3 x4 x5 r hf; cases hf
  | succ n ih => intro σ x1 x2 x3 x4 x5 r hf; exact fX8_ring_w37 E rc4 hrc4 rc20 hrc20 (fX8_ring_l37 rc4 rc20 n) ih σ x1 x2 x3 x4 x5 r hf
set_option maxHeartbeats 4000000 in
set_option maxRecDepth 100000 in
theorem fX8_ring_w20 {k : gK} {X : gX} (E : gE k X cX8_ring RX8 wsX8_ring 6 (some .int) rm_fX8_ring) (rc4 : St → Int32 → Int32 → Int32 → Option (Int32 × St)) (hrc4 : ∀ (σ : St) (x1 : Int32) (x2 : Int32) (x3 : Int32) (r : Int32 × St), rc4 σ x1 x2 x3 = some r → G k X 6 (some (.int r.1)) (cw k.2.2.2 r.2) (cw k.2.2.2 σ) [(0, .ref (k.2.2.2.1 0)), (1, .int x1), (2, .int x2), (3, .int x3)] [] 4) (rc20 : St → Int32 → Int32 → Int32 → Int32 → Option (Int32 × St)) (hrc20 : ∀ (σ : St) (x1 : Int32) (x2 : Int32) (x3 : Int32) (x4 : Int32) (r : Int32 × St), rc20 σ x1 x2 x3 x4 = some r → G k X 6 (some (.int r.1)) (cw k.2.2.2 r.2) (cw k.2.2.2 σ) [(0, .ref (k.2.2.2.1 0)), (1, .int x1), (2, .int x2), (3, .int x3), (4, .int x4)] [] 20) (σ : St) (x1 : Int32) (x2 : Int32) (x3 : Int32) (x4 : Int32) (r : Int32 × St) (hf : fX8_ring_b20 rc4 rc20 σ x1 x2 x3 x4 = some r) : G k X 6 (some (.int r.1)) (cw k.2.2.2 r.2) (cw k.2.2.2 σ) [(0, .ref (k.2.2.2.1 0)), (1, .int x1), (2, .int x2), (3, .int x3), (4, .int x4)] [] 20 := by
  unfold fX8_ring_b20 at hf
  refine g_iload E 4 dX8_ring_20 rfl ?_
  refine g_aload_n E 0 dX8_ring_22 rfl rfl ?_
  refine g_get (C := RX8) (T := TX8) (N := 7) (ci := 8) E 0 0 (.ref (k.2.2.2.1 1)) hi_X8_ring_X8 (cwG0 _ _) rfl (by decide) hk_X8_ring_10 rfl dX8_ring_23 ?_
  refine g_get (C := RX0) (T := TX0) (N := 5) (ci := 0) E 1 4 (.int (σ.2.1 0)) hi_X8_ring_X0 (cwG1 _ _) rfl (by decide) hk_X8_ring_191 rfl dX8_ring_26 ?_
  refine g_icmp_ge (tgt := 121) E dX8_ring_29 (by decide) (fun c1 => ?_) (fun c1 => ?_)
  · have hf := gp hf c1
    refine g_iinc E 3 [(3, .int (x3 + (1 : Int32))), (0, .ref (k.2.2.2.1 0)), (1, .int x1), (2, .int x2), (4, .int x4)] (x3 + (1 : Int32)) dX8_ring_121 rfl (by rfl) (by decide) rfl ?_
    refine g_goto (tgt := 4) E dX8_ring_124 (by decide) ?_
    exact g_sub [1, 2, 3, 0] rfl (hrc4 σ x1 x2 (x3 + (1 : Int32)) r hf)
  · have hf := gn hf c1
    refine g_iload_n E 3 dX8_ring_32 rfl rfl ?_
    refine g_iconst (v := (1 : Int32)) E dX8_ring_33 (by decide) ?_
    refine g_iadd E dX8_ring_34 ?_
    refine g_istore E [(5, .int (x3 + (1 : Int32))), (0, .ref (k.2.2.2.1 0)), (1, .int x1), (2, .int x2), (3, .int x3), (4, .int x4)] dX8_ring_35 (by decide) rfl ?_
    exact g_sub [1, 2, 3, 4, 5, 0] rfl (fX8_ring_v37 E rc4 hrc4 rc20 hrc20 gF σ x1 x2 x3 x4 (x3 + (1 : Int32)) r hf)
theorem fX8_ring_v20 {k : gK} {X : gX} (E : gE k X cX8_ring RX8 wsX8_ring 6 (some .int) rm_fX8_ring) (rc4 : St → Int32 → Int32 → Int32 → Option (Int32 × St)) (hrc4 : ∀ (σ : St) (x1 : Int32) (x2 : Int32) (x3 : Int32) (r : Int32 × St), rc4 σ x1 x2 x3 = some r → G k X 6 (some (.int r.1)) (cw k.2.2.2 r.2) (cw k.2.2.2 σ) [(0, .ref (k.2.2.2.1 0)), (1, .int x1), (2, .int x2), (3, .int x3)] [] 4) : ∀ (n : Nat) (σ : St) (x1 : Int32) (x2 : Int32) (x3 : Int32) (x4 : Int32) (r : Int32 × St), fX8_ring_l20 rc4 n σ x1 x2 x3 x4 = some r → G k X 6 (some (.int r.1)) (cw k.2.2.2 r.2) (cw k.2.2.2 σ) [(0, .ref (k.2.2.2.1 0)), (1, .int x1), (2, .int x2), (3, .int x3), (4, .int x4)] [] 20 := by
  intro n
  induction n with
  | zero => intro σ x1 x2 x3 x4 r hf; cases hf
  | succ n ih => intro σ x1 x2 x3 x4 r hf; exact fX8_ring_w20 E rc4 hrc4 (fX8_ring_l20 rc4 n) ih σ x1 x2 x3 x4 r hf
set_option maxHeartbeats 4000000 in
set_option maxRecDepth 100000 in
theorem fX8_ring_w4 {k : gK} {X : gX} (E : gE k X cX8_ring RX8 wsX8_ring 6 (some .int) rm_fX8_ring) (rc4 : St → Int32 → Int32 → Int32 → Option (Int32 × St)) (hrc4 : ∀ (σ : St) (x1 : Int32) (x2 : Int32) (x3 : Int32) (r : Int32 × St), rc4 σ x1 x2 x3 = some r → G k X 6 (some (.int r.1)) (cw k.2.2.2 r.2) (cw k.2.2.2 σ) [(0, .ref (k.2.2.2.1 0)), (1, .int x1), (2, .int x2), (3, .int x3)] [] 4) (σ : St) (x1 : Int32) (x2 : Int32) (x3 : Int32) (r : Int32 × St) (hf : fX8_ring_b4 rc4 σ x1 x2 x3 = some r) : G k X 6 (some (.int r.1)) (cw k.2.2.2 r.2) (cw k.2.2.2 σ) [(0, .ref (k.2.2.2.1 0)), (1, .int x1), (2, .int x2), (3, .int x3)] [] 4 := by
  unfold fX8_ring_b4 at hf
  refine g_iload_n E 3 dX8_ring_4 rfl rfl ?_
  refine g_aload_n E 0 dX8_ring_5 rfl rfl ?_
  refine g_get (C := RX8) (T := TX8) (N := 7) (ci := 8) E 0 0 (.ref (k.2.2.2.1 1)) hi_X8_ring_X8 (cwG0 _ _) rfl (by decide) hk_X8_ring_10 rfl dX8_ring_6 ?_
  refine g_get (C := RX0) (T := TX0) (N := 5) (ci := 0) E 1 4 (.int (σ.2.1 0)) hi_X8_ring_X0 (cwG1 _ _) rfl (by decide) hk_X8_ring_191 rfl dX8_ring_9 ?_
  refine g_icmp_ge (tgt := 127) E dX8_ring_12 (by decide) (fun c1 => ?_) (fun c1 => ?_)
  · have hf := gp hf c1
    refine g_iload_n E 1 dX8_ring_127 rfl rfl ?_
    refine g_iconst (v := (-1 : Int32)) E dX8_ring_128 (by decide) ?_
    refine g_icmp_ne (tgt := 136) E dX8_ring_129 (by decide) (fun c2 => ?_) (fun c2 => ?_)
    · have hf := gn hf c2
      refine g_bipush (v := (-6 : Int32)) E dX8_ring_136 (by decide) ?_
      cases hf
      exact g_iret E dX8_ring_138
    · have hf := gp hf c2
      refine g_iload_n E 2 dX8_ring_132 rfl rfl ?_
      refine g_goto (tgt := 138) E dX8_ring_133 (by decide) ?_
      cases hf
      exact g_iret E dX8_ring_138
  · have hf := gn hf c1
    refine g_iload_n E 3 dX8_ring_15 rfl rfl ?_
    refine g_iconst (v := (1 : Int32)) E dX8_ring_16 (by decide) ?_
    refine g_iadd E dX8_ring_17 ?_
    refine g_istore E [(4, .int (x3 + (1 : Int32))), (0, .ref (k.2.2.2.1 0)), (1, .int x1), (2, .int x2), (3, .int x3)] dX8_ring_18 (by decide) rfl ?_
    exact g_sub [1, 2, 3, 4, 0] rfl (fX8_ring_v20 E rc4 hrc4 gF σ x1 x2 x3 (x3 + (1 : Int32)) r hf)
theorem fX8_ring_v4 {k : gK} {X : gX} (E : gE k X cX8_ring RX8 wsX8_ring 6 (some .int) rm_fX8_ring) : ∀ (n : Nat) (σ : St) (x1 : Int32) (x2 : Int32) (x3 : Int32) (r : Int32 × St), fX8_ring_l4 n σ x1 x2 x3 = some r → G k X 6 (some (.int r.1)) (cw k.2.2.2 r.2) (cw k.2.2.2 σ) [(0, .ref (k.2.2.2.1 0)), (1, .int x1), (2, .int x2), (3, .int x3)] [] 4 := by
  intro n
  induction n with
  | zero => intro σ x1 x2 x3 r hf; cases hf
  | succ n ih => intro σ x1 x2 x3 r hf; exact fX8_ring_w4 E (fX8_ring_l4 n) ih σ x1 x2 x3 r hf
set_option maxHeartbeats 4000000 in
set_option maxRecDepth 100000 in
theorem fX8_ring_c (k : gK) (σ : St) (x1 : Int32) (r : Int32 × St) (hf : fX8_ring σ x1 = some r) : MC k yX8_ring wsX8_ring rm_fX8_ring [.ref (k.2.2.2.1 0), .int x1] (cw k.2.2.2 σ) (some (.int r.1)) (cw k.2.2.2 r.2) := by
  refine MC_of (cc := cX8_ring) (maxL := 6) (ret := (some .int)) (own := RX8) (lvs := [(0, .ref (k.2.2.2.1 0)), (1, .int x1)]) (by decide) rfl rfl (Nat.le_of_ble_eq_true rfl) rfl (fun X E => ?_)
  unfold fX8_ring at hf
  refine g_iconst (v := (0 : Int32)) E dX8_ring_0 (by decide) ?_
  refine g_istore_n E [(2, .int (0 : Int32)), (0, .ref (k.2.2.2.1 0)), (1, .int x1)] dX8_ring_1 rfl (by decide) rfl ?_
  refine g_iconst (v := (0 : Int32)) E dX8_ring_2 (by decide) ?_
  refine g_istore_n E [(3, .int (0 : Int32)), (2, .int (0 : Int32)), (0, .ref (k.2.2.2.1 0)), (1, .int x1)] dX8_ring_3 rfl (by decide) rfl ?_
  exact g_sub [2, 3, 1, 0] rfl (fX8_ring_v4 E gF σ x1 (0 : Int32) (0 : Int32) r hf)
theorem hi_X0_withKeys_X0 : ∀ w ∈ wsX00, w ∈ wsX0_withKeys := by decide +kernel
theorem hk_X0_withKeys_24 : Cond.fieldLink RX0 24 "PaperMarks$Judges" "count" "I" ∈ wsX0_withKeys := by decide +kernel
theorem hk_X0_withKeys_18 : Cond.fieldLink RX0 18 "PaperMarks$Judges" "keys" "[I" ∈ wsX0_withKeys := by decide +kernel
def rm_fX0_withKeys : Room := { frames := 0, cells := 0, slots := 0, locals := 0 }
set_option maxHeartbeats 4000000 in
set_option maxRecDepth 100000 in
theorem fX0_withKeys_w30 {k : gK} {X : gX} (E : gE k X cX0_withKeys RX0 wsX0_withKeys 4 (some .int) rm_fX0_withKeys) (rc4 : St → Int32 → Int32 → Int32 → Option (Int32 × St)) (hrc4 : ∀ (σ : St) (x1 : Int32) (x2 : Int32) (x3 : Int32) (r : Int32 × St), rc4 σ x1 x2 x3 = some r → G k X 4 (some (.int r.1)) (cw k.2.2.2 r.2) (cw k.2.2.2 σ) [(0, .ref (k.2.2.2.1 1)), (1, .int x1), (2, .int x2), (3, .int x3)] [] 4) (σ : St) (x1 : Int32) (x2 : Int32) (x3 : Int32) (r : Int32 × St) (hf : fX0_withKeys_b30 rc4 σ x1 x2 x3 = some r) : G k X 4 (some (.int r.1)) (cw k.2.2.2 r.2) (cw k.2.2.2 σ) [(0, .ref (k.2.2.2.1 1)), (1, .int x1), (2, .int x2), (3, .int x3)] [] 30 := by
  unfold fX0_withKeys_b30 at hf
  refine g_iinc E 3 [(3, .int (x3 + (1 : Int32))), (0, .ref (k.2.2.2.1 1)), (1, .int x1), (2, .int x2)] (x3 + (1 : Int32)) dX0_withKeys_30 rfl (by rfl) (by decide) rfl ?_
  refine g_goto (tgt := 4) E dX0_withKeys_33 (by decide) ?_
  exact g_sub [1, 2, 3, 0] rfl (hrc4 σ x1 x2 (x3 + (1 : Int32)) r hf)
set_option maxHeartbeats 4000000 in
set_option maxRecDepth 100000 in
theorem fX0_withKeys_w4 {k : gK} {X : gX} (E : gE k X cX0_withKeys RX0 wsX0_withKeys 4 (some .int) rm_fX0_withKeys) (rc4 : St → Int32 → Int32 → Int32 → Option (Int32 × St)) (hrc4 : ∀ (σ : St) (x1 : Int32) (x2 : Int32) (x3 : Int32) (r : Int32 × St), rc4 σ x1 x2 x3 = some r → G k X 4 (some (.int r.1)) (cw k.2.2.2 r.2) (cw k.2.2.2 σ) [(0, .ref (k.2.2.2.1 1)), (1, .int x1), (2, .int x2), (3, .int x3)] [] 4) (σ : St) (x1 : Int32) (x2 : Int32) (x3 : Int32) (r : Int32 × St) (hf : fX0_withKeys_b4 rc4 σ x1 x2 x3 = some r) : G k X 4 (some (.int r.1)) (cw k.2.2.2 r.2) (cw k.2.2.2 σ) [(0, .ref (k.2.2.2.1 1)), (1, .int x1), (2, .int x2), (3, .int x3)] [] 4 := by
  unfold fX0_withKeys_b4 at hf
  refine g_iload_n E 3 dX0_withKeys_4 rfl rfl ?_
  refine g_aload_n E 0 dX0_withKeys_5 rfl rfl ?_
  refine g_get (C := RX0) (T := TX0) (N := 5) (ci := 0) E 1 4 (.int (σ.2.1 0)) hi_X0_withKeys_X0 (cwG1 _ _) rfl (by decide) hk_X0_withKeys_24 rfl dX0_withKeys_6 ?_
  refine g_icmp_ge (tgt := 36) E dX0_withKeys_9 (by decide) (fun c1 => ?_) (fun c1 => ?_)
  · have hf := gp hf c1
    refine g_iload_n E 2 dX0_withKeys_36 rfl rfl ?_
    cases hf
    exact g_iret E dX0_withKeys_37
  · have hf := gn hf c1
    refine g_aload_n E 0 dX0_withKeys_12 rfl rfl ?_
    refine g_get (C := RX0) (T := TX0) (N := 5) (ci := 0) E 1 2 (.ref (k.2.2.2.1 12)) hi_X0_withKeys_X0 (cwG1 _ _) rfl (by decide) hk_X0_withKeys_18 rfl dX0_withKeys_13 ?_
    refine g_iload_n E 3 dX0_withKeys_16 rfl rfl ?_
    obtain ⟨hi2, hf⟩ := gd hf
    refine g_iald E 12 (σ.1 12) (cwG12 _ _) hi2 dX0_withKeys_17 ?_
    refine g_iload_n E 1 dX0_withKeys_18 rfl rfl ?_
    refine g_iand E dX0_withKeys_19 ?_
    refine g_iload_n E 1 dX0_withKeys_20 rfl rfl ?_
    refine g_icmp_ne (tgt := 30) E dX0_withKeys_21 (by decide) (fun c3 => ?_) (fun c3 => ?_)
    · have hf := gn hf c3
      exact fX0_withKeys_w30 E rc4 hrc4 σ x1 x2 x3 r hf
    · have hf := gp hf c3
      refine g_iload_n E 2 dX0_withKeys_24 rfl rfl ?_
      refine g_iconst (v := (1 : Int32)) E dX0_withKeys_25 (by decide) ?_
      refine g_iload_n E 3 dX0_withKeys_26 rfl rfl ?_
      refine g_ishl E dX0_withKeys_27 ?_
      refine g_ior E dX0_withKeys_28 ?_
      refine g_istore_n E [(2, .int (x2 ||| (((1 : Int32) <<< (x3 &&& 31))))), (0, .ref (k.2.2.2.1 1)), (1, .int x1), (3, .int x3)] dX0_withKeys_29 rfl (by decide) rfl ?_
      exact g_sub [1, 2, 0, 3] rfl (fX0_withKeys_w30 E rc4 hrc4 σ x1 (x2 ||| (((1 : Int32) <<< (x3 &&& 31)))) x3 r hf)
theorem fX0_withKeys_v4 {k : gK} {X : gX} (E : gE k X cX0_withKeys RX0 wsX0_withKeys 4 (some .int) rm_fX0_withKeys) : ∀ (n : Nat) (σ : St) (x1 : Int32) (x2 : Int32) (x3 : Int32) (r : Int32 × St), fX0_withKeys_l4 n σ x1 x2 x3 = some r → G k X 4 (some (.int r.1)) (cw k.2.2.2 r.2) (cw k.2.2.2 σ) [(0, .ref (k.2.2.2.1 1)), (1, .int x1), (2, .int x2), (3, .int x3)] [] 4 := by
  intro n
  induction n with
  | zero => intro σ x1 x2 x3 r hf; cases hf
  | succ n ih => intro σ x1 x2 x3 r hf; exact fX0_withKeys_w4 E (fX0_withKeys_l4 n) ih σ x1 x2 x3 r hf
set_option maxHeartbeats 4000000 in
set_option maxRecDepth 100000 in
theorem fX0_withKeys_c (k : gK) (σ : St) (x1 : Int32) (r : Int32 × St) (hf : fX0_withKeys σ x1 = some r) : MC k yX0_withKeys wsX0_withKeys rm_fX0_withKeys [.ref (k.2.2.2.1 1), .int x1] (cw k.2.2.2 σ) (some (.int r.1)) (cw k.2.2.2 r.2) := by
  refine MC_of (cc := cX0_withKeys) (maxL := 4) (ret := (some .int)) (own := RX0) (lvs := [(0, .ref (k.2.2.2.1 1)), (1, .int x1)]) (by decide) rfl rfl (Nat.le_of_ble_eq_true rfl) rfl (fun X E => ?_)
  unfold fX0_withKeys at hf
  refine g_iconst (v := (0 : Int32)) E dX0_withKeys_0 (by decide) ?_
  refine g_istore_n E [(2, .int (0 : Int32)), (0, .ref (k.2.2.2.1 1)), (1, .int x1)] dX0_withKeys_1 rfl (by decide) rfl ?_
  refine g_iconst (v := (0 : Int32)) E dX0_withKeys_2 (by decide) ?_
  refine g_istore_n E [(3, .int (0 : Int32)), (2, .int (0 : Int32)), (0, .ref (k.2.2.2.1 1)), (1, .int x1)] dX0_withKeys_3 rfl (by decide) rfl ?_
  exact g_sub [2, 3, 1, 0] rfl (fX0_withKeys_v4 E gF σ x1 (0 : Int32) (0 : Int32) r hf)
theorem hi_X8_seen_X8 : ∀ w ∈ wsX80, w ∈ wsX8_seen := by decide +kernel
theorem hi_X8_seen_X4 : ∀ w ∈ wsX40, w ∈ wsX8_seen := by decide +kernel
theorem hk_X8_seen_19 : Cond.fieldLink RX8 19 "PaperMarks" "papers" "LPaperMarks$Papers;" ∈ wsX8_seen := by decide +kernel
theorem hk_X8_seen_10 : Cond.fieldLink RX8 10 "PaperMarks" "judges" "LPaperMarks$Judges;" ∈ wsX8_seen := by decide +kernel
theorem hk_X8_seen_101 : Cond.fieldLink RX8 101 "PaperMarks$Papers" "keys" "[I" ∈ wsX8_seen := by decide +kernel
theorem hk_X8_seen_83 : Cond.fieldLink RX8 83 "PaperMarks$Papers" "writers" "[I" ∈ wsX8_seen := by decide +kernel
def rm_fX8_seen : Room := { frames := 1, cells := 0, slots := 0, locals := 23 }
set_option maxHeartbeats 4000000 in
set_option maxRecDepth 100000 in
theorem fX8_seen_c (k : gK) (σ : St) (x1 : Int32) (x2 : Int32) (r : Int32 × St) (hf : fX8_seen σ x1 x2 = some r) : MC k yX8_seen wsX8_seen rm_fX8_seen [.ref (k.2.2.2.1 0), .int x1, .int x2] (cw k.2.2.2 σ) (some (.int r.1)) (cw k.2.2.2 r.2) := by
  refine MC_of (cc := cX8_seen) (maxL := 5) (ret := (some .int)) (own := RX8) (lvs := [(0, .ref (k.2.2.2.1 0)), (1, .int x1), (2, .int x2)]) (by decide) rfl rfl (Nat.le_of_ble_eq_true rfl) rfl (fun X E => ?_)
  unfold fX8_seen at hf
  refine g_aload_n E 0 dX8_seen_0 rfl rfl ?_
  refine g_get (C := RX8) (T := TX8) (N := 7) (ci := 8) E 0 1 (.ref (k.2.2.2.1 2)) hi_X8_seen_X8 (cwG0 _ _) rfl (by decide) hk_X8_seen_19 rfl dX8_seen_1 ?_
  refine g_iload_n E 1 dX8_seen_4 rfl rfl ?_
  obtain ⟨q1, hq2, hf⟩ := gb hf
  refine g_callV (C := RX4) (T := TX4) (N := 6) (ci := 4) (As := [.int x1]) (rest := []) (n := 1) E 2 (fX4_has_c k σ x1 q1 hq2) gX8_seen_X4_has rfl rfl rfl (by decide +kernel) ⟨Nat.le_of_ble_eq_true rfl, Nat.le_of_ble_eq_true rfl⟩ rfl rfl (Nat.le_of_ble_eq_true rfl) rfl (cwG2 _ _) dX8_seen_5 ?_
  refine g_if_ne (tgt := 13) E dX8_seen_8 (by decide) (fun c3 => ?_) (fun c3 => ?_)
  · have hf := gn hf c3
    refine g_iload_n E 2 dX8_seen_13 rfl rfl ?_
    refine g_iconst (v := (0 : Int32)) E dX8_seen_14 (by decide) ?_
    refine g_iconst (v := (1 : Int32)) E dX8_seen_15 (by decide) ?_
    obtain ⟨q4, hq5, hf⟩ := gb hf
    refine g_callS (As := [.int x2, .int (0 : Int32), .int (1 : Int32)]) (rest := []) (n := 3) E (fX8_within_c k q1.2 x2 (0 : Int32) (1 : Int32) q4 hq5) gX8_seen_X8_within rfl rfl rfl (by decide +kernel) ⟨Nat.le_of_ble_eq_true rfl, Nat.le_of_ble_eq_true rfl⟩ rfl rfl (Nat.le_of_ble_eq_true rfl) dX8_seen_16 ?_
    refine g_if_ne (tgt := 25) E dX8_seen_19 (by decide) (fun c6 => ?_) (fun c6 => ?_)
    · have hf := gn hf c6
      refine g_aload_n E 0 dX8_seen_25 rfl rfl ?_
      refine g_get (C := RX8) (T := TX8) (N := 7) (ci := 8) E 0 0 (.ref (k.2.2.2.1 1)) hi_X8_seen_X8 (cwG0 _ _) rfl (by decide) hk_X8_seen_10 rfl dX8_seen_26 ?_
      refine g_aload_n E 0 dX8_seen_29 rfl rfl ?_
      refine g_get (C := RX8) (T := TX8) (N := 7) (ci := 8) E 0 1 (.ref (k.2.2.2.1 2)) hi_X8_seen_X8 (cwG0 _ _) rfl (by decide) hk_X8_seen_19 rfl dX8_seen_30 ?_
      refine g_get (C := RX4) (T := TX4) (N := 6) (ci := 4) E 2 2 (.ref (k.2.2.2.1 16)) hi_X8_seen_X4 (cwG2 _ _) rfl (by decide) hk_X8_seen_101 rfl dX8_seen_33 ?_
      refine g_iload_n E 1 dX8_seen_36 rfl rfl ?_
      obtain ⟨hi7, hf⟩ := gd hf
      refine g_iald E 16 (q4.2.1 16) (cwG16 _ _) hi7 dX8_seen_37 ?_
      obtain ⟨q8, hq9, hf⟩ := gb hf
      refine g_callV (C := RX0) (T := TX0) (N := 5) (ci := 0) (As := [.int (q4.2.1 16 x1.toNatClampNeg)]) (rest := []) (n := 1) E 1 (fX0_withKeys_c k q4.2 (q4.2.1 16 x1.toNatClampNeg) q8 hq9) gX8_seen_X0_withKeys rfl rfl rfl (by decide +kernel) ⟨Nat.le_of_ble_eq_true rfl, Nat.le_of_ble_eq_true rfl⟩ rfl rfl (Nat.le_of_ble_eq_true rfl) rfl (cwG1 _ _) dX8_seen_38 ?_
      refine g_istore_n E [(3, .int q8.1), (0, .ref (k.2.2.2.1 0)), (1, .int x1), (2, .int x2)] dX8_seen_41 rfl (by decide) rfl ?_
      refine g_iload_n E 3 dX8_seen_42 rfl rfl ?_
      refine g_if_ne (tgt := 48) E dX8_seen_43 (by decide) (fun c10 => ?_) (fun c10 => ?_)
      · have hf := gn hf c10
        refine g_aload_n E 1 dX8_seen_48 rfl rfl ?_
        refine g_get (C := RX8) (T := TX8) (N := 7) (ci := 8) E 0 1 (.ref (k.2.2.2.1 2)) hi_X8_seen_X8 (cwG0 _ _) rfl (by decide) hk_X8_seen_19 rfl dX8_seen_49 ?_
        refine g_get (C := RX4) (T := TX4) (N := 6) (ci := 4) E 2 1 (.ref (k.2.2.2.1 15)) hi_X8_seen_X4 (cwG2 _ _) rfl (by decide) hk_X8_seen_83 rfl dX8_seen_52 ?_
        refine g_iload_n E 2 dX8_seen_55 rfl rfl ?_
        obtain ⟨hi11, hf⟩ := gd hf
        refine g_iald E 15 (q8.2.1 15) (cwG15 _ _) hi11 dX8_seen_56 ?_
        refine g_istore E [(4, .int (q8.2.1 15 x1.toNatClampNeg)), (3, .int q8.1), (0, .ref (k.2.2.2.1 0)), (1, .int x1), (2, .int x2)] dX8_seen_57 (by decide) rfl ?_
        refine g_iload E 0 dX8_seen_59 rfl ?_
        refine g_bipush (v := (-6 : Int32)) E dX8_seen_61 (by decide) ?_
        refine g_icmp_eq (tgt := 78) E dX8_seen_63 (by decide) (fun c12 => ?_) (fun c12 => ?_)
        · have hf := gp hf c12
          refine g_iconst (v := (0 : Int32)) E dX8_seen_78 (by decide) ?_
          cases hf
          exact g_iret E dX8_seen_79
        · have hf := gn hf c12
          refine g_iload_n E 1 dX8_seen_66 rfl rfl ?_
          refine g_iconst (v := (1 : Int32)) E dX8_seen_67 (by decide) ?_
          refine g_iload E 0 dX8_seen_68 rfl ?_
          refine g_ishl E dX8_seen_70 ?_
          refine g_icmp_ne (tgt := 78) E dX8_seen_71 (by decide) (fun c13 => ?_) (fun c13 => ?_)
          · have hf := gn hf c13
            refine g_iconst (v := (0 : Int32)) E dX8_seen_78 (by decide) ?_
            cases hf
            exact g_iret E dX8_seen_79
          · have hf := gp hf c13
            refine g_iconst (v := (1 : Int32)) E dX8_seen_74 (by decide) ?_
            refine g_goto (tgt := 79) E dX8_seen_75 (by decide) ?_
            cases hf
            exact g_iret E dX8_seen_79
      · have hf := gp hf c10
        refine g_iload_n E 0 dX8_seen_46 rfl rfl ?_
        cases hf
        exact g_iret E dX8_seen_47
    · have hf := gp hf c6
      refine g_bipush (v := (-2 : Int32)) E dX8_seen_22 (by decide) ?_
      cases hf
      exact g_iret E dX8_seen_24
  · have hf := gp hf c3
    refine g_iconst (v := (-1 : Int32)) E dX8_seen_11 (by decide) ?_
    cases hf
    exact g_iret E dX8_seen_12
def rm_fX8_replace_18 : Room := { frames := 0, cells := 0, slots := 0, locals := 0 }
set_option maxHeartbeats 4000000 in
set_option maxRecDepth 100000 in
theorem fX8_replace_18_c (k : gK) (σ : St) (x1 : Int32) (x2 : Int32) (r : Int32 × St) (hf : fX8_replace_18 σ x1 x2 = some r) : MC k yX8_replace wsX8_replace rm_fX8_replace_18 [.ref (k.2.2.2.1 18), .int x1, .int x2] (cw k.2.2.2 σ) (some (.int r.1)) (cw k.2.2.2 r.2) := by
  refine MC_of (cc := cX8_replace) (maxL := 4) (ret := (some .int)) (own := RX8) (lvs := [(0, .ref (k.2.2.2.1 18)), (1, .int x1), (2, .int x2)]) (by decide) rfl rfl (Nat.le_of_ble_eq_true rfl) rfl (fun X E => ?_)
  unfold fX8_replace_18 at hf
  refine g_aload_n E 0 dX8_replace_0 rfl rfl ?_
  refine g_iload_n E 1 dX8_replace_1 rfl rfl ?_
  obtain ⟨hi1, hf⟩ := gd hf
  refine g_iald E 18 (σ.1 18) (cwG18 _ _) hi1 dX8_replace_2 ?_
  refine g_istore_n E [(3, .int (σ.1 18 x1.toNatClampNeg)), (0, .ref (k.2.2.2.1 18)), (1, .int x1), (2, .int x2)] dX8_replace_3 rfl (by decide) rfl ?_
  refine g_aload_n E 1 dX8_replace_4 rfl rfl ?_
  refine g_iload_n E 2 dX8_replace_5 rfl rfl ?_
  refine g_iload_n E 3 dX8_replace_6 rfl rfl ?_
  obtain ⟨hi2, hf⟩ := gd hf
  refine g_iast E 18 (cw k.2.2.2 (uA σ 18 x1.toNatClampNeg x2)) (σ.1 18) (cwG18 _ _) hi2 (cwA18 _ _ _ _) dX8_replace_7 ?_
  refine g_iload_n E 0 dX8_replace_8 rfl rfl ?_
  cases hf
  exact g_iret E dX8_replace_9
theorem hi_X8_bid_X8 : ∀ w ∈ wsX80, w ∈ wsX8_bid := by decide +kernel
theorem hi_X8_bid_X4 : ∀ w ∈ wsX40, w ∈ wsX8_bid := by decide +kernel
theorem hk_X8_bid_10 : Cond.fieldLink RX8 10 "PaperMarks" "judges" "LPaperMarks$Judges;" ∈ wsX8_bid := by decide +kernel
theorem hk_X8_bid_19 : Cond.fieldLink RX8 19 "PaperMarks" "papers" "LPaperMarks$Papers;" ∈ wsX8_bid := by decide +kernel
theorem hk_X8_bid_207 : Cond.fieldLink RX8 207 "PaperMarks$Papers" "bids" "[I" ∈ wsX8_bid := by decide +kernel
def rm_fX8_bid : Room := { frames := 1, cells := 0, slots := 0, locals := 23 }
set_option maxHeartbeats 4000000 in
set_option maxRecDepth 100000 in
theorem fX8_bid_c (k : gK) (σ : St) (x1 : Int32) (x2 : Int32) (x3 : Int32) (r : Int32 × St) (hf : fX8_bid σ x1 x2 x3 = some r) : MC k yX8_bid wsX8_bid rm_fX8_bid [.ref (k.2.2.2.1 0), .int x1, .int x2, .int x3] (cw k.2.2.2 σ) (some (.int r.1)) (cw k.2.2.2 r.2) := by
  refine MC_of (cc := cX8_bid) (maxL := 4) (ret := (some .int)) (own := RX8) (lvs := [(0, .ref (k.2.2.2.1 0)), (1, .int x1), (2, .int x2), (3, .int x3)]) (by decide) rfl rfl (Nat.le_of_ble_eq_true rfl) rfl (fun X E => ?_)
  unfold fX8_bid at hf
  refine g_aload_n E 0 dX8_bid_0 rfl rfl ?_
  refine g_get (C := RX8) (T := TX8) (N := 7) (ci := 8) E 0 0 (.ref (k.2.2.2.1 1)) hi_X8_bid_X8 (cwG0 _ _) rfl (by decide) hk_X8_bid_10 rfl dX8_bid_1 ?_
  refine g_iload_n E 1 dX8_bid_4 rfl rfl ?_
  obtain ⟨q1, hq2, hf⟩ := gb hf
  refine g_callV (C := RX0) (T := TX0) (N := 5) (ci := 0) (As := [.int x1]) (rest := []) (n := 1) E 1 (fX0_has_c k σ x1 q1 hq2) gX8_bid_X0_has rfl rfl rfl (by decide +kernel) ⟨Nat.le_of_ble_eq_true rfl, Nat.le_of_ble_eq_true rfl⟩ rfl rfl (Nat.le_of_ble_eq_true rfl) rfl (cwG1 _ _) dX8_bid_5 ?_
  refine g_if_eq (tgt := 22) E dX8_bid_8 (by decide) (fun c3 => ?_) (fun c3 => ?_)
  · have hf := gp hf c3
    refine g_iconst (v := (-1 : Int32)) E dX8_bid_22 (by decide) ?_
    cases hf
    exact g_iret E dX8_bid_23
  · have hf := gn hf c3
    refine g_aload_n E 0 dX8_bid_11 rfl rfl ?_
    refine g_get (C := RX8) (T := TX8) (N := 7) (ci := 8) E 0 1 (.ref (k.2.2.2.1 2)) hi_X8_bid_X8 (cwG0 _ _) rfl (by decide) hk_X8_bid_19 rfl dX8_bid_12 ?_
    refine g_iload_n E 2 dX8_bid_15 rfl rfl ?_
    obtain ⟨q4, hq5, hf⟩ := gb hf
    refine g_callV (C := RX4) (T := TX4) (N := 6) (ci := 4) (As := [.int x2]) (rest := []) (n := 1) E 2 (fX4_has_c k q1.2 x2 q4 hq5) gX8_bid_X4_has rfl rfl rfl (by decide +kernel) ⟨Nat.le_of_ble_eq_true rfl, Nat.le_of_ble_eq_true rfl⟩ rfl rfl (Nat.le_of_ble_eq_true rfl) rfl (cwG2 _ _) dX8_bid_16 ?_
    refine g_if_ne (tgt := 24) E dX8_bid_19 (by decide) (fun c6 => ?_) (fun c6 => ?_)
    · have hf := gn hf c6
      refine g_iload_n E 3 dX8_bid_24 rfl rfl ?_
      refine g_iconst (v := (0 : Int32)) E dX8_bid_25 (by decide) ?_
      refine g_iconst (v := (3 : Int32)) E dX8_bid_26 (by decide) ?_
      obtain ⟨q7, hq8, hf⟩ := gb hf
      refine g_callS (As := [.int x3, .int (0 : Int32), .int (3 : Int32)]) (rest := []) (n := 3) E (fX8_within_c k q4.2 x3 (0 : Int32) (3 : Int32) q7 hq8) gX8_bid_X8_within rfl rfl rfl (by decide +kernel) ⟨Nat.le_of_ble_eq_true rfl, Nat.le_of_ble_eq_true rfl⟩ rfl rfl (Nat.le_of_ble_eq_true rfl) dX8_bid_27 ?_
      refine g_if_ne (tgt := 36) E dX8_bid_30 (by decide) (fun c9 => ?_) (fun c9 => ?_)
      · have hf := gn hf c9
        refine g_aload_n E 0 dX8_bid_36 rfl rfl ?_
        refine g_get (C := RX8) (T := TX8) (N := 7) (ci := 8) E 0 1 (.ref (k.2.2.2.1 2)) hi_X8_bid_X8 (cwG0 _ _) rfl (by decide) hk_X8_bid_19 rfl dX8_bid_37 ?_
        refine g_get (C := RX4) (T := TX4) (N := 6) (ci := 4) E 2 4 (.ref (k.2.2.2.1 18)) hi_X8_bid_X4 (cwG2 _ _) rfl (by decide) hk_X8_bid_207 rfl dX8_bid_40 ?_
        refine g_iload_n E 1 dX8_bid_43 rfl rfl ?_
        refine g_bipush (v := (6 : Int32)) E dX8_bid_44 (by decide) ?_
        refine g_imul E dX8_bid_46 ?_
        refine g_iload_n E 2 dX8_bid_47 rfl rfl ?_
        refine g_iadd E dX8_bid_48 ?_
        refine g_iload_n E 3 dX8_bid_49 rfl rfl ?_
        obtain ⟨q10, hq11, hf⟩ := gb hf
        refine g_callS (As := [.ref (k.2.2.2.1 18), .int (((x1 * (6 : Int32))) + x2), .int x3]) (rest := []) (n := 3) E (fX8_replace_18_c k q7.2 ((((x1 * (6 : Int32))) + x2)) x3 q10 hq11) gX8_bid_X8_replace rfl rfl rfl (by decide +kernel) ⟨Nat.le_of_ble_eq_true rfl, Nat.le_of_ble_eq_true rfl⟩ rfl rfl (Nat.le_of_ble_eq_true rfl) dX8_bid_50 ?_
        cases hf
        exact g_iret E dX8_bid_53
      · have hf := gp hf c9
        refine g_bipush (v := (-2 : Int32)) E dX8_bid_33 (by decide) ?_
        cases hf
        exact g_iret E dX8_bid_35
    · have hf := gp hf c6
      refine g_iconst (v := (-1 : Int32)) E dX8_bid_22 (by decide) ?_
      cases hf
      exact g_iret E dX8_bid_23
theorem hi_X2_allows_X2 : ∀ w ∈ wsX20, w ∈ wsX2_allows := by decide +kernel
theorem hi_X2_allows_X4 : ∀ w ∈ wsX40, w ∈ wsX2_allows := by decide +kernel
theorem hk_X2_allows_38 : Cond.fieldLink RX2 38 "PaperMarks$Match" "papers" "LPaperMarks$Papers;" ∈ wsX2_allows := by decide +kernel
theorem hk_X2_allows_76 : Cond.fieldLink RX2 76 "PaperMarks$Papers" "writers" "[I" ∈ wsX2_allows := by decide +kernel
theorem hk_X2_allows_34 : Cond.fieldLink RX2 34 "PaperMarks$Match" "judges" "LPaperMarks$Judges;" ∈ wsX2_allows := by decide +kernel
def rm_fX2_allows : Room := { frames := 2, cells := 0, slots := 0, locals := 43 }
set_option maxHeartbeats 4000000 in
set_option maxRecDepth 100000 in
theorem fX2_allows_c (k : gK) (σ : St) (x1 : Int32) (x2 : Int32) (r : Int32 × St) (hf : fX2_allows σ x1 x2 = some r) : MC k yX2_allows wsX2_allows rm_fX2_allows [.ref (k.2.2.2.1 7), .int x1, .int x2] (cw k.2.2.2 σ) (some (.int r.1)) (cw k.2.2.2 r.2) := by
  refine MC_of (cc := cX2_allows) (maxL := 4) (ret := (some .boolean)) (own := RX2) (lvs := [(0, .ref (k.2.2.2.1 7)), (1, .int x1), (2, .int x2)]) (by decide) rfl rfl (Nat.le_of_ble_eq_true rfl) rfl (fun X E => ?_)
  unfold fX2_allows at hf
  refine g_aload_n E 0 dX2_allows_0 rfl rfl ?_
  refine g_get (C := RX2) (T := TX2) (N := 9) (ci := 2) E 7 1 (.ref (k.2.2.2.1 2)) hi_X2_allows_X2 (cwG7 _ _) rfl (by decide) hk_X2_allows_38 rfl dX2_allows_1 ?_
  refine g_get (C := RX4) (T := TX4) (N := 6) (ci := 4) E 2 1 (.ref (k.2.2.2.1 15)) hi_X2_allows_X4 (cwG2 _ _) rfl (by decide) hk_X2_allows_76 rfl dX2_allows_4 ?_
  refine g_iload_n E 2 dX2_allows_7 rfl rfl ?_
  obtain ⟨hi1, hf⟩ := gd hf
  refine g_iald E 15 (σ.1 15) (cwG15 _ _) hi1 dX2_allows_8 ?_
  refine g_istore_n E [(3, .int (σ.1 15 x2.toNatClampNeg)), (0, .ref (k.2.2.2.1 7)), (1, .int x1), (2, .int x2)] dX2_allows_9 rfl (by decide) rfl ?_
  refine g_iload_n E 0 dX2_allows_10 rfl rfl ?_
  refine g_iload_n E 2 dX2_allows_11 rfl rfl ?_
  refine g_icmp_eq (tgt := 32) E dX2_allows_12 (by decide) (fun c2 => ?_) (fun c2 => ?_)
  · have hf := gp hf c2
    refine g_iconst (v := (0 : Int32)) E dX2_allows_32 (by decide) ?_
    cases hf
    exact g_zret E (Or.inl rfl) dX2_allows_33
  · have hf := gn hf c2
    refine g_aload_n E 1 dX2_allows_15 rfl rfl ?_
    refine g_get (C := RX2) (T := TX2) (N := 9) (ci := 2) E 7 0 (.ref (k.2.2.2.1 1)) hi_X2_allows_X2 (cwG7 _ _) rfl (by decide) hk_X2_allows_34 rfl dX2_allows_16 ?_
    refine g_iload_n E 2 dX2_allows_19 rfl rfl ?_
    refine g_iload_n E 0 dX2_allows_20 rfl rfl ?_
    obtain ⟨q3, hq4, hf⟩ := gb hf
    refine g_callV (C := RX0) (T := TX0) (N := 5) (ci := 0) (As := [.int x1, .int (σ.1 15 x2.toNatClampNeg)]) (rest := []) (n := 2) E 1 (fX0_tieOf_c k σ x1 (σ.1 15 x2.toNatClampNeg) q3 hq4) gX2_allows_X0_tieOf rfl rfl rfl (by decide +kernel) ⟨Nat.le_of_ble_eq_true rfl, Nat.le_of_ble_eq_true rfl⟩ rfl rfl (Nat.le_of_ble_eq_true rfl) rfl (cwG1 _ _) dX2_allows_21 ?_
    refine g_iconst (v := (-1 : Int32)) E dX2_allows_24 (by decide) ?_
    refine g_icmp_eq (tgt := 32) E dX2_allows_25 (by decide) (fun c5 => ?_) (fun c5 => ?_)
    · have hf := gp hf c5
      refine g_iconst (v := (0 : Int32)) E dX2_allows_32 (by decide) ?_
      cases hf
      exact g_zret E (Or.inl rfl) dX2_allows_33
    · have hf := gn hf c5
      refine g_iconst (v := (1 : Int32)) E dX2_allows_28 (by decide) ?_
      refine g_goto (tgt := 33) E dX2_allows_29 (by decide) ?_
      cases hf
      exact g_zret E (Or.inr rfl) dX2_allows_33
theorem hi_X4_bidOf_X4 : ∀ w ∈ wsX40, w ∈ wsX4_bidOf := by decide +kernel
theorem hk_X4_bidOf_24 : Cond.fieldLink RX4 24 "PaperMarks$Papers" "bids" "[I" ∈ wsX4_bidOf := by decide +kernel
def rm_fX4_bidOf : Room := { frames := 0, cells := 0, slots := 0, locals := 0 }
set_option maxHeartbeats 4000000 in
set_option maxRecDepth 100000 in
theorem fX4_bidOf_c (k : gK) (σ : St) (x1 : Int32) (x2 : Int32) (r : Int32 × St) (hf : fX4_bidOf σ x1 x2 = some r) : MC k yX4_bidOf wsX4_bidOf rm_fX4_bidOf [.ref (k.2.2.2.1 2), .int x1, .int x2] (cw k.2.2.2 σ) (some (.int r.1)) (cw k.2.2.2 r.2) := by
  refine MC_of (cc := cX4_bidOf) (maxL := 3) (ret := (some .int)) (own := RX4) (lvs := [(0, .ref (k.2.2.2.1 2)), (1, .int x1), (2, .int x2)]) (by decide) rfl rfl (Nat.le_of_ble_eq_true rfl) rfl (fun X E => ?_)
  unfold fX4_bidOf at hf
  refine g_aload_n E 0 dX4_bidOf_0 rfl rfl ?_
  refine g_get (C := RX4) (T := TX4) (N := 6) (ci := 4) E 2 4 (.ref (k.2.2.2.1 18)) hi_X4_bidOf_X4 (cwG2 _ _) rfl (by decide) hk_X4_bidOf_24 rfl dX4_bidOf_1 ?_
  refine g_iload_n E 1 dX4_bidOf_4 rfl rfl ?_
  refine g_bipush (v := (6 : Int32)) E dX4_bidOf_5 (by decide) ?_
  refine g_imul E dX4_bidOf_7 ?_
  refine g_iload_n E 2 dX4_bidOf_8 rfl rfl ?_
  refine g_iadd E dX4_bidOf_9 ?_
  obtain ⟨hi1, hf⟩ := gd hf
  refine g_iald E 18 (σ.1 18) (cwG18 _ _) hi1 dX4_bidOf_10 ?_
  cases hf
  exact g_iret E dX4_bidOf_11
theorem hi_X2_weight_X2 : ∀ w ∈ wsX20, w ∈ wsX2_weight := by decide +kernel
theorem hk_X2_weight_38 : Cond.fieldLink RX2 38 "PaperMarks$Match" "papers" "LPaperMarks$Papers;" ∈ wsX2_weight := by decide +kernel
def rm_fX2_weight : Room := { frames := 1, cells := 0, slots := 0, locals := 22 }
set_option maxHeartbeats 4000000 in
set_option maxRecDepth 100000 in
theorem fX2_weight_c (k : gK) (σ : St) (x1 : Int32) (x2 : Int32) (r : Int64 × St) (hf : fX2_weight σ x1 x2 = some r) : MC k yX2_weight wsX2_weight rm_fX2_weight [.ref (k.2.2.2.1 7), .int x1, .int x2] (cw k.2.2.2 σ) (some (.long r.1)) (cw k.2.2.2 r.2) := by
  refine MC_of (cc := cX2_weight) (maxL := 6) (ret := (some .long)) (own := RX2) (lvs := [(0, .ref (k.2.2.2.1 7)), (1, .int x1), (2, .int x2)]) (by decide) rfl rfl (Nat.le_of_ble_eq_true rfl) rfl (fun X E => ?_)
  unfold fX2_weight at hf
  refine g_aload_n E 0 dX2_weight_0 rfl rfl ?_
  refine g_get (C := RX2) (T := TX2) (N := 9) (ci := 2) E 7 1 (.ref (k.2.2.2.1 2)) hi_X2_weight_X2 (cwG7 _ _) rfl (by decide) hk_X2_weight_38 rfl dX2_weight_1 ?_
  refine g_iload_n E 1 dX2_weight_4 rfl rfl ?_
  refine g_iload_n E 2 dX2_weight_5 rfl rfl ?_
  obtain ⟨q1, hq2, hf⟩ := gb hf
  refine g_callV (C := RX4) (T := TX4) (N := 6) (ci := 4) (As := [.int x1, .int x2]) (rest := []) (n := 2) E 2 (fX4_bidOf_c k σ x1 x2 q1 hq2) gX2_weight_X4_bidOf rfl rfl rfl (by decide +kernel) ⟨Nat.le_of_ble_eq_true rfl, Nat.le_of_ble_eq_true rfl⟩ rfl rfl (Nat.le_of_ble_eq_true rfl) rfl (cwG2 _ _) dX2_weight_6 ?_
  refine g_i2l E dX2_weight_9 ?_
  refine g_lstore_n E [(3, .long q1.1.toInt64), (0, .ref (k.2.2.2.1 7)), (1, .int x1), (2, .int x2)] dX2_weight_10 rfl (by decide) rfl ?_
  refine g_iconst (v := (5 : Int32)) E dX2_weight_11 (by decide) ?_
  refine g_iload_n E 3 dX2_weight_12 rfl rfl ?_
  refine g_isub E dX2_weight_13 ?_
  refine g_bipush (v := (6 : Int32)) E dX2_weight_14 (by decide) ?_
  refine g_imul E dX2_weight_16 ?_
  refine g_iload_n E 2 dX2_weight_17 rfl rfl ?_
  refine g_iadd E dX2_weight_18 ?_
  refine g_istore E [(5, .int ((((((5 : Int32) - x2)) * (6 : Int32))) + x1)), (3, .long q1.1.toInt64), (0, .ref (k.2.2.2.1 7)), (1, .int x1), (2, .int x2)] dX2_weight_19 (by decide) rfl ?_
  refine g_lload_n E 1 dX2_weight_21 rfl rfl ?_
  refine g_bipush (v := (36 : Int32)) E dX2_weight_22 (by decide) ?_
  refine g_lshl E dX2_weight_24 ?_
  refine g_lconst (v := (1 : Int64)) E dX2_weight_25 (by decide) ?_
  refine g_iload E 0 dX2_weight_26 rfl ?_
  refine g_lshl E dX2_weight_28 ?_
  refine g_lsub E dX2_weight_29 ?_
  cases hf
  exact g_lret E dX2_weight_30
theorem hi_X2_giveTo_X2 : ∀ w ∈ wsX20, w ∈ wsX2_giveTo := by decide +kernel
theorem hk_X2_giveTo_21 : Cond.fieldLink RX2 21 "PaperMarks$Match" "paperGains" "[J" ∈ wsX2_giveTo := by decide +kernel
theorem hk_X2_giveTo_25 : Cond.fieldLink RX2 25 "PaperMarks$Match" "judgeGains" "[J" ∈ wsX2_giveTo := by decide +kernel
theorem hk_X2_giveTo_31 : Cond.fieldLink RX2 31 "PaperMarks$Match" "gets" "[I" ∈ wsX2_giveTo := by decide +kernel
def rm_fX2_giveTo : Room := { frames := 3, cells := 0, slots := 0, locals := 66 }
set_option maxHeartbeats 4000000 in
set_option maxRecDepth 100000 in
theorem fX2_giveTo_c (k : gK) (σ : St) (x1 : Int32) (x2 : Int32) (r : Int32 × St) (hf : fX2_giveTo σ x1 x2 = some r) : MC k yX2_giveTo wsX2_giveTo rm_fX2_giveTo [.ref (k.2.2.2.1 7), .int x1, .int x2] (cw k.2.2.2 σ) (some (.int r.1)) (cw k.2.2.2 r.2) := by
  refine MC_of (cc := cX2_giveTo) (maxL := 5) (ret := (some .boolean)) (own := RX2) (lvs := [(0, .ref (k.2.2.2.1 7)), (1, .int x1), (2, .int x2)]) (by decide) rfl rfl (Nat.le_of_ble_eq_true rfl) rfl (fun X E => ?_)
  unfold fX2_giveTo at hf
  refine g_aload_n E 0 dX2_giveTo_0 rfl rfl ?_
  refine g_get (C := RX2) (T := TX2) (N := 9) (ci := 2) E 7 5 (.ref (k.2.2.2.1 30)) hi_X2_giveTo_X2 (cwG7 _ _) rfl (by decide) hk_X2_giveTo_21 rfl dX2_giveTo_1 ?_
  refine g_iload_n E 2 dX2_giveTo_4 rfl rfl ?_
  obtain ⟨hi1, hf⟩ := gd hf
  refine g_lald E 30 (σ.2.2 30) (cwG30 _ _) hi1 dX2_giveTo_5 ?_
  refine g_ldc2 (v := (-1152921504606846976 : Int64)) E (by decide +kernel) dX2_giveTo_6 ?_
  refine g_lcmp E dX2_giveTo_9 ?_
  refine g_if_eq (tgt := 22) E dX2_giveTo_10 (by decide) (fun c2 => ?_) (fun c2 => ?_)
  · have hf := gp hf c2
    refine g_iconst (v := (0 : Int32)) E dX2_giveTo_22 (by decide) ?_
    cases hf
    exact g_zret E (Or.inl rfl) dX2_giveTo_23
  · have hf := gn hf c2
    refine g_aload_n E 0 dX2_giveTo_13 rfl rfl ?_
    refine g_iload_n E 1 dX2_giveTo_14 rfl rfl ?_
    refine g_iload_n E 2 dX2_giveTo_15 rfl rfl ?_
    obtain ⟨q3, hq4, hf⟩ := gb hf
    refine g_callV (C := RX2) (T := TX2) (N := 9) (ci := 2) (As := [.int x1, .int x2]) (rest := []) (n := 2) E 7 (fX2_allows_c k σ x1 x2 q3 hq4) gX2_giveTo_X2_allows rfl rfl rfl (by decide +kernel) ⟨Nat.le_of_ble_eq_true rfl, Nat.le_of_ble_eq_true rfl⟩ rfl rfl (Nat.le_of_ble_eq_true rfl) rfl (cwG7 _ _) dX2_giveTo_16 ?_
    refine g_if_ne (tgt := 24) E dX2_giveTo_19 (by decide) (fun c5 => ?_) (fun c5 => ?_)
    · have hf := gn hf c5
      refine g_aload_n E 0 dX2_giveTo_24 rfl rfl ?_
      refine g_get (C := RX2) (T := TX2) (N := 9) (ci := 2) E 7 5 (.ref (k.2.2.2.1 30)) hi_X2_giveTo_X2 (cwG7 _ _) rfl (by decide) hk_X2_giveTo_21 rfl dX2_giveTo_25 ?_
      refine g_iload_n E 2 dX2_giveTo_28 rfl rfl ?_
      obtain ⟨hi6, hf⟩ := gd hf
      refine g_lald E 30 (q3.2.2.2 30) (cwG30 _ _) hi6 dX2_giveTo_29 ?_
      refine g_aload_n E 0 dX2_giveTo_30 rfl rfl ?_
      refine g_iload_n E 1 dX2_giveTo_31 rfl rfl ?_
      refine g_iload_n E 2 dX2_giveTo_32 rfl rfl ?_
      obtain ⟨q7, hq8, hf⟩ := gb hf
      refine g_callV (C := RX2) (T := TX2) (N := 9) (ci := 2) (As := [.int x1, .int x2]) (rest := [.long (q3.2.2.2 30 x2.toNatClampNeg)]) (n := 2) E 7 (fX2_weight_c k q3.2 x1 x2 q7 hq8) gX2_giveTo_X2_weight rfl rfl rfl (by decide +kernel) ⟨Nat.le_of_ble_eq_true rfl, Nat.le_of_ble_eq_true rfl⟩ rfl rfl (Nat.le_of_ble_eq_true rfl) rfl (cwG7 _ _) dX2_giveTo_33 ?_
      refine g_ladd E dX2_giveTo_36 ?_
      refine g_lstore_n E [(3, .long ((q3.2.2.2 30 x2.toNatClampNeg) + q7.1)), (0, .ref (k.2.2.2.1 7)), (1, .int x1), (2, .int x2)] dX2_giveTo_37 rfl (by decide) rfl ?_
      refine g_lload_n E 0 dX2_giveTo_38 rfl rfl ?_
      refine g_aload_n E 1 dX2_giveTo_39 rfl rfl ?_
      refine g_get (C := RX2) (T := TX2) (N := 9) (ci := 2) E 7 6 (.ref (k.2.2.2.1 31)) hi_X2_giveTo_X2 (cwG7 _ _) rfl (by decide) hk_X2_giveTo_25 rfl dX2_giveTo_40 ?_
      refine g_iload_n E 2 dX2_giveTo_43 rfl rfl ?_
      obtain ⟨hi9, hf⟩ := gd hf
      refine g_lald E 31 (q7.2.2.2 31) (cwG31 _ _) hi9 dX2_giveTo_44 ?_
      refine g_lcmp E dX2_giveTo_45 ?_
      refine g_if_gt (tgt := 51) E dX2_giveTo_46 (by decide) (fun c10 => ?_) (fun c10 => ?_)
      · have hf := gp hf c10
        refine g_aload_n E 1 dX2_giveTo_51 rfl rfl ?_
        refine g_get (C := RX2) (T := TX2) (N := 9) (ci := 2) E 7 6 (.ref (k.2.2.2.1 31)) hi_X2_giveTo_X2 (cwG7 _ _) rfl (by decide) hk_X2_giveTo_25 rfl dX2_giveTo_52 ?_
        refine g_iload_n E 2 dX2_giveTo_55 rfl rfl ?_
        refine g_lload_n E 0 dX2_giveTo_56 rfl rfl ?_
        obtain ⟨hi11, hf⟩ := gd hf
        refine g_last E 31 (cw k.2.2.2 (uL q7.2 31 x1.toNatClampNeg (((q3.2.2.2 30 x2.toNatClampNeg) + q7.1)))) (q7.2.2.2 31) (cwG31 _ _) hi11 (cwL31 _ _ _ _) dX2_giveTo_57 ?_
        refine g_aload_n E 1 dX2_giveTo_58 rfl rfl ?_
        refine g_get (C := RX2) (T := TX2) (N := 9) (ci := 2) E 7 8 (.ref (k.2.2.2.1 33)) hi_X2_giveTo_X2 (cwG7 _ _) rfl (by decide) hk_X2_giveTo_31 rfl dX2_giveTo_59 ?_
        refine g_iload_n E 2 dX2_giveTo_62 rfl rfl ?_
        refine g_iload_n E 3 dX2_giveTo_63 rfl rfl ?_
        obtain ⟨hi12, hf⟩ := gd hf
        refine g_iast E 33 (cw k.2.2.2 (uA ((uL q7.2 31 x1.toNatClampNeg (((q3.2.2.2 30 x2.toNatClampNeg) + q7.1)))) 33 x1.toNatClampNeg x2)) (((uL q7.2 31 x1.toNatClampNeg (((q3.2.2.2 30 x2.toNatClampNeg) + q7.1)))).1 33) (cwG33 _ _) hi12 (cwA33 _ _ _ _) dX2_giveTo_64 ?_
        refine g_iconst (v := (1 : Int32)) E dX2_giveTo_65 (by decide) ?_
        cases hf
        exact g_zret E (Or.inr rfl) dX2_giveTo_66
      · have hf := gn hf c10
        refine g_iconst (v := (0 : Int32)) E dX2_giveTo_49 (by decide) ?_
        cases hf
        exact g_zret E (Or.inl rfl) dX2_giveTo_50
    · have hf := gp hf c5
      refine g_iconst (v := (0 : Int32)) E dX2_giveTo_22 (by decide) ?_
      cases hf
      exact g_zret E (Or.inl rfl) dX2_giveTo_23
theorem hi_X2_giveUp_X2 : ∀ w ∈ wsX20, w ∈ wsX2_giveUp := by decide +kernel
theorem hk_X2_giveUp_25 : Cond.fieldLink RX2 25 "PaperMarks$Match" "judgeGains" "[J" ∈ wsX2_giveUp := by decide +kernel
theorem hk_X2_giveUp_21 : Cond.fieldLink RX2 21 "PaperMarks$Match" "paperGains" "[J" ∈ wsX2_giveUp := by decide +kernel
theorem hk_X2_giveUp_28 : Cond.fieldLink RX2 28 "PaperMarks$Match" "givers" "[I" ∈ wsX2_giveUp := by decide +kernel
def rm_fX2_giveUp : Room := { frames := 2, cells := 0, slots := 0, locals := 47 }
set_option maxHeartbeats 4000000 in
set_option maxRecDepth 100000 in
theorem fX2_giveUp_c (k : gK) (σ : St) (x1 : Int32) (x2 : Int32) (r : Int32 × St) (hf : fX2_giveUp σ x1 x2 = some r) : MC k yX2_giveUp wsX2_giveUp rm_fX2_giveUp [.ref (k.2.2.2.1 7), .int x1, .int x2] (cw k.2.2.2 σ) (some (.int r.1)) (cw k.2.2.2 r.2) := by
  refine MC_of (cc := cX2_giveUp) (maxL := 5) (ret := (some .boolean)) (own := RX2) (lvs := [(0, .ref (k.2.2.2.1 7)), (1, .int x1), (2, .int x2)]) (by decide) rfl rfl (Nat.le_of_ble_eq_true rfl) rfl (fun X E => ?_)
  unfold fX2_giveUp at hf
  refine g_aload_n E 0 dX2_giveUp_0 rfl rfl ?_
  refine g_get (C := RX2) (T := TX2) (N := 9) (ci := 2) E 7 6 (.ref (k.2.2.2.1 31)) hi_X2_giveUp_X2 (cwG7 _ _) rfl (by decide) hk_X2_giveUp_25 rfl dX2_giveUp_1 ?_
  refine g_iload_n E 1 dX2_giveUp_4 rfl rfl ?_
  obtain ⟨hi1, hf⟩ := gd hf
  refine g_lald E 31 (σ.2.2 31) (cwG31 _ _) hi1 dX2_giveUp_5 ?_
  refine g_ldc2 (v := (-1152921504606846976 : Int64)) E (by decide +kernel) dX2_giveUp_6 ?_
  refine g_lcmp E dX2_giveUp_9 ?_
  refine g_if_ne (tgt := 15) E dX2_giveUp_10 (by decide) (fun c2 => ?_) (fun c2 => ?_)
  · have hf := gn hf c2
    refine g_aload_n E 0 dX2_giveUp_15 rfl rfl ?_
    refine g_get (C := RX2) (T := TX2) (N := 9) (ci := 2) E 7 6 (.ref (k.2.2.2.1 31)) hi_X2_giveUp_X2 (cwG7 _ _) rfl (by decide) hk_X2_giveUp_25 rfl dX2_giveUp_16 ?_
    refine g_iload_n E 1 dX2_giveUp_19 rfl rfl ?_
    obtain ⟨hi3, hf⟩ := gd hf
    refine g_lald E 31 (σ.2.2 31) (cwG31 _ _) hi3 dX2_giveUp_20 ?_
    refine g_aload_n E 0 dX2_giveUp_21 rfl rfl ?_
    refine g_iload_n E 1 dX2_giveUp_22 rfl rfl ?_
    refine g_iload_n E 2 dX2_giveUp_23 rfl rfl ?_
    obtain ⟨q4, hq5, hf⟩ := gb hf
    refine g_callV (C := RX2) (T := TX2) (N := 9) (ci := 2) (As := [.int x1, .int x2]) (rest := [.long (σ.2.2 31 x1.toNatClampNeg)]) (n := 2) E 7 (fX2_weight_c k σ x1 x2 q4 hq5) gX2_giveUp_X2_weight rfl rfl rfl (by decide +kernel) ⟨Nat.le_of_ble_eq_true rfl, Nat.le_of_ble_eq_true rfl⟩ rfl rfl (Nat.le_of_ble_eq_true rfl) rfl (cwG7 _ _) dX2_giveUp_24 ?_
    refine g_lsub E dX2_giveUp_27 ?_
    refine g_lstore_n E [(3, .long ((σ.2.2 31 x1.toNatClampNeg) - q4.1)), (0, .ref (k.2.2.2.1 7)), (1, .int x1), (2, .int x2)] dX2_giveUp_28 rfl (by decide) rfl ?_
    refine g_lload_n E 0 dX2_giveUp_29 rfl rfl ?_
    refine g_aload_n E 1 dX2_giveUp_30 rfl rfl ?_
    refine g_get (C := RX2) (T := TX2) (N := 9) (ci := 2) E 7 5 (.ref (k.2.2.2.1 30)) hi_X2_giveUp_X2 (cwG7 _ _) rfl (by decide) hk_X2_giveUp_21 rfl dX2_giveUp_31 ?_
    refine g_iload_n E 3 dX2_giveUp_34 rfl rfl ?_
    obtain ⟨hi6, hf⟩ := gd hf
    refine g_lald E 30 (q4.2.2.2 30) (cwG30 _ _) hi6 dX2_giveUp_35 ?_
    refine g_lcmp E dX2_giveUp_36 ?_
    refine g_if_gt (tgt := 42) E dX2_giveUp_37 (by decide) (fun c7 => ?_) (fun c7 => ?_)
    · have hf := gp hf c7
      refine g_aload_n E 1 dX2_giveUp_42 rfl rfl ?_
      refine g_get (C := RX2) (T := TX2) (N := 9) (ci := 2) E 7 5 (.ref (k.2.2.2.1 30)) hi_X2_giveUp_X2 (cwG7 _ _) rfl (by decide) hk_X2_giveUp_21 rfl dX2_giveUp_43 ?_
      refine g_iload_n E 3 dX2_giveUp_46 rfl rfl ?_
      refine g_lload_n E 0 dX2_giveUp_47 rfl rfl ?_
      obtain ⟨hi8, hf⟩ := gd hf
      refine g_last E 30 (cw k.2.2.2 (uL q4.2 30 x2.toNatClampNeg (((σ.2.2 31 x1.toNatClampNeg) - q4.1)))) (q4.2.2.2 30) (cwG30 _ _) hi8 (cwL30 _ _ _ _) dX2_giveUp_48 ?_
      refine g_aload_n E 1 dX2_giveUp_49 rfl rfl ?_
      refine g_get (C := RX2) (T := TX2) (N := 9) (ci := 2) E 7 7 (.ref (k.2.2.2.1 32)) hi_X2_giveUp_X2 (cwG7 _ _) rfl (by decide) hk_X2_giveUp_28 rfl dX2_giveUp_50 ?_
      refine g_iload_n E 3 dX2_giveUp_53 rfl rfl ?_
      refine g_iload_n E 2 dX2_giveUp_54 rfl rfl ?_
      obtain ⟨hi9, hf⟩ := gd hf
      refine g_iast E 32 (cw k.2.2.2 (uA ((uL q4.2 30 x2.toNatClampNeg (((σ.2.2 31 x1.toNatClampNeg) - q4.1)))) 32 x2.toNatClampNeg x1)) (((uL q4.2 30 x2.toNatClampNeg (((σ.2.2 31 x1.toNatClampNeg) - q4.1)))).1 32) (cwG32 _ _) hi9 (cwA32 _ _ _ _) dX2_giveUp_55 ?_
      refine g_iconst (v := (1 : Int32)) E dX2_giveUp_56 (by decide) ?_
      cases hf
      exact g_zret E (Or.inr rfl) dX2_giveUp_57
    · have hf := gn hf c7
      refine g_iconst (v := (0 : Int32)) E dX2_giveUp_40 (by decide) ?_
      cases hf
      exact g_zret E (Or.inl rfl) dX2_giveUp_41
  · have hf := gp hf c2
    refine g_iconst (v := (0 : Int32)) E dX2_giveUp_13 (by decide) ?_
    cases hf
    exact g_zret E (Or.inl rfl) dX2_giveUp_14
def rm_fJ7_fill_d0a16_31 : Room := { frames := 0, cells := 0, slots := 0, locals := 0 }
set_option maxHeartbeats 4000000 in
set_option maxRecDepth 100000 in
theorem fJ7_fill_d0a16_31_w6 {k : gK} {X : gX} (E : gE k X cJ7_fill_d0a16 RJ7 wsJ7_fill_d0a16 5 none rm_fJ7_fill_d0a16_31) (rc6 : St → Int64 → Int32 → Int32 → Option (Unit × St)) (hrc6 : ∀ (σ : St) (x1 : Int64) (x3 : Int32) (x4 : Int32) (r : Unit × St), rc6 σ x1 x3 x4 = some r → G k X 5 (none) (cw k.2.2.2 r.2) (cw k.2.2.2 σ) [(0, .ref (k.2.2.2.1 31)), (1, .long x1), (3, .int x3), (4, .int x4)] [] 6) (σ : St) (x1 : Int64) (x3 : Int32) (x4 : Int32) (r : Unit × St) (hf : fJ7_fill_d0a16_31_b6 rc6 σ x1 x3 x4 = some r) : G k X 5 (none) (cw k.2.2.2 r.2) (cw k.2.2.2 σ) [(0, .ref (k.2.2.2.1 31)), (1, .long x1), (3, .int x3), (4, .int x4)] [] 6 := by
  unfold fJ7_fill_d0a16_31_b6 at hf
  refine g_iload_n E 2 dJ7_fill_d0a16_6 rfl rfl ?_
  refine g_iload E 3 dJ7_fill_d0a16_7 rfl ?_
  refine g_icmp_ge (tgt := 22) E dJ7_fill_d0a16_9 (by decide) (fun c1 => ?_) (fun c1 => ?_)
  · have hf := gp hf c1
    cases hf
    exact g_vret E dJ7_fill_d0a16_22
  · have hf := gn hf c1
    refine g_aload_n E 0 dJ7_fill_d0a16_12 rfl rfl ?_
    refine g_iload_n E 2 dJ7_fill_d0a16_13 rfl rfl ?_
    refine g_lload_n E 1 dJ7_fill_d0a16_14 rfl rfl ?_
    obtain ⟨hi2, hf⟩ := gd hf
    refine g_last E 31 (cw k.2.2.2 (uL σ 31 x3.toNatClampNeg x1)) (σ.2.2 31) (cwG31 _ _) hi2 (cwL31 _ _ _ _) dJ7_fill_d0a16_15 ?_
    refine g_iinc E 2 [(3, .int (x3 + (1 : Int32))), (0, .ref (k.2.2.2.1 31)), (1, .long x1), (4, .int x4)] (x3 + (1 : Int32)) dJ7_fill_d0a16_16 rfl (by rfl) (by decide) rfl ?_
    refine g_goto (tgt := 6) E dJ7_fill_d0a16_19 (by decide) ?_
    exact g_sub [1, 2, 0, 3] rfl (hrc6 (uL σ 31 x3.toNatClampNeg x1) x1 (x3 + (1 : Int32)) x4 r hf)
theorem fJ7_fill_d0a16_31_v6 {k : gK} {X : gX} (E : gE k X cJ7_fill_d0a16 RJ7 wsJ7_fill_d0a16 5 none rm_fJ7_fill_d0a16_31) : ∀ (n : Nat) (σ : St) (x1 : Int64) (x3 : Int32) (x4 : Int32) (r : Unit × St), fJ7_fill_d0a16_31_l6 n σ x1 x3 x4 = some r → G k X 5 (none) (cw k.2.2.2 r.2) (cw k.2.2.2 σ) [(0, .ref (k.2.2.2.1 31)), (1, .long x1), (3, .int x3), (4, .int x4)] [] 6 := by
  intro n
  induction n with
  | zero => intro σ x1 x3 x4 r hf; cases hf
  | succ n ih => intro σ x1 x3 x4 r hf; exact fJ7_fill_d0a16_31_w6 E (fJ7_fill_d0a16_31_l6 n) ih σ x1 x3 x4 r hf
set_option maxHeartbeats 4000000 in
set_option maxRecDepth 100000 in
theorem fJ7_fill_d0a16_31_c (k : gK) (σ : St) (x1 : Int64) (r : Unit × St) (hf : fJ7_fill_d0a16_31 σ x1 = some r) : MC k yJ7_fill_d0a16 wsJ7_fill_d0a16 rm_fJ7_fill_d0a16_31 [.ref (k.2.2.2.1 31), .long x1] (cw k.2.2.2 σ) (none) (cw k.2.2.2 r.2) := by
  refine MC_of (cc := cJ7_fill_d0a16) (maxL := 5) (ret := none) (own := RJ7) (lvs := [(0, .ref (k.2.2.2.1 31)), (1, .long x1)]) (by decide) rfl rfl (Nat.le_of_ble_eq_true rfl) rfl (fun X E => ?_)
  unfold fJ7_fill_d0a16_31 at hf
  refine g_iconst (v := (0 : Int32)) E dJ7_fill_d0a16_0 (by decide) ?_
  refine g_istore_n E [(3, .int (0 : Int32)), (0, .ref (k.2.2.2.1 31)), (1, .long x1)] dJ7_fill_d0a16_1 rfl (by decide) rfl ?_
  refine g_aload_n E 1 dJ7_fill_d0a16_2 rfl rfl ?_
  refine g_alenL (v := (6 : Int32)) E 31 (σ.2.2 31) (cwG31 _ _) (by decide) dJ7_fill_d0a16_3 ?_
  refine g_istore E [(4, .int (6 : Int32)), (3, .int (0 : Int32)), (0, .ref (k.2.2.2.1 31)), (1, .long x1)] dJ7_fill_d0a16_4 (by decide) rfl ?_
  exact g_sub [2, 3, 1, 0] rfl (fJ7_fill_d0a16_31_v6 E gF σ x1 (0 : Int32) (6 : Int32) r hf)
def rm_fJ7_fill_53178_32 : Room := { frames := 0, cells := 0, slots := 0, locals := 0 }
set_option maxHeartbeats 4000000 in
set_option maxRecDepth 100000 in
theorem fJ7_fill_53178_32_w5 {k : gK} {X : gX} (E : gE k X cJ7_fill_53178 RJ7 wsJ7_fill_53178 4 none rm_fJ7_fill_53178_32) (rc5 : St → Int32 → Int32 → Int32 → Option (Unit × St)) (hrc5 : ∀ (σ : St) (x1 : Int32) (x2 : Int32) (x3 : Int32) (r : Unit × St), rc5 σ x1 x2 x3 = some r → G k X 4 (none) (cw k.2.2.2 r.2) (cw k.2.2.2 σ) [(0, .ref (k.2.2.2.1 32)), (1, .int x1), (2, .int x2), (3, .int x3)] [] 5) (σ : St) (x1 : Int32) (x2 : Int32) (x3 : Int32) (r : Unit × St) (hf : fJ7_fill_53178_32_b5 rc5 σ x1 x2 x3 = some r) : G k X 4 (none) (cw k.2.2.2 r.2) (cw k.2.2.2 σ) [(0, .ref (k.2.2.2.1 32)), (1, .int x1), (2, .int x2), (3, .int x3)] [] 5 := by
  unfold fJ7_fill_53178_32_b5 at hf
  refine g_iload_n E 2 dJ7_fill_53178_5 rfl rfl ?_
  refine g_iload_n E 3 dJ7_fill_53178_6 rfl rfl ?_
  refine g_icmp_ge (tgt := 20) E dJ7_fill_53178_7 (by decide) (fun c1 => ?_) (fun c1 => ?_)
  · have hf := gp hf c1
    cases hf
    exact g_vret E dJ7_fill_53178_20
  · have hf := gn hf c1
    refine g_aload_n E 0 dJ7_fill_53178_10 rfl rfl ?_
    refine g_iload_n E 2 dJ7_fill_53178_11 rfl rfl ?_
    refine g_iload_n E 1 dJ7_fill_53178_12 rfl rfl ?_
    obtain ⟨hi2, hf⟩ := gd hf
    refine g_iast E 32 (cw k.2.2.2 (uA σ 32 x2.toNatClampNeg x1)) (σ.1 32) (cwG32 _ _) hi2 (cwA32 _ _ _ _) dJ7_fill_53178_13 ?_
    refine g_iinc E 2 [(2, .int (x2 + (1 : Int32))), (0, .ref (k.2.2.2.1 32)), (1, .int x1), (3, .int x3)] (x2 + (1 : Int32)) dJ7_fill_53178_14 rfl (by rfl) (by decide) rfl ?_
    refine g_goto (tgt := 5) E dJ7_fill_53178_17 (by decide) ?_
    exact g_sub [1, 2, 0, 3] rfl (hrc5 (uA σ 32 x2.toNatClampNeg x1) x1 (x2 + (1 : Int32)) x3 r hf)
theorem fJ7_fill_53178_32_v5 {k : gK} {X : gX} (E : gE k X cJ7_fill_53178 RJ7 wsJ7_fill_53178 4 none rm_fJ7_fill_53178_32) : ∀ (n : Nat) (σ : St) (x1 : Int32) (x2 : Int32) (x3 : Int32) (r : Unit × St), fJ7_fill_53178_32_l5 n σ x1 x2 x3 = some r → G k X 4 (none) (cw k.2.2.2 r.2) (cw k.2.2.2 σ) [(0, .ref (k.2.2.2.1 32)), (1, .int x1), (2, .int x2), (3, .int x3)] [] 5 := by
  intro n
  induction n with
  | zero => intro σ x1 x2 x3 r hf; cases hf
  | succ n ih => intro σ x1 x2 x3 r hf; exact fJ7_fill_53178_32_w5 E (fJ7_fill_53178_32_l5 n) ih σ x1 x2 x3 r hf
set_option maxHeartbeats 4000000 in
set_option maxRecDepth 100000 in
theorem fJ7_fill_53178_32_c (k : gK) (σ : St) (x1 : Int32) (r : Unit × St) (hf : fJ7_fill_53178_32 σ x1 = some r) : MC k yJ7_fill_53178 wsJ7_fill_53178 rm_fJ7_fill_53178_32 [.ref (k.2.2.2.1 32), .int x1] (cw k.2.2.2 σ) (none) (cw k.2.2.2 r.2) := by
  refine MC_of (cc := cJ7_fill_53178) (maxL := 4) (ret := none) (own := RJ7) (lvs := [(0, .ref (k.2.2.2.1 32)), (1, .int x1)]) (by decide) rfl rfl (Nat.le_of_ble_eq_true rfl) rfl (fun X E => ?_)
  unfold fJ7_fill_53178_32 at hf
  refine g_iconst (v := (0 : Int32)) E dJ7_fill_53178_0 (by decide) ?_
  refine g_istore_n E [(2, .int (0 : Int32)), (0, .ref (k.2.2.2.1 32)), (1, .int x1)] dJ7_fill_53178_1 rfl (by decide) rfl ?_
  refine g_aload_n E 1 dJ7_fill_53178_2 rfl rfl ?_
  refine g_alenI (v := (6 : Int32)) E 32 (σ.1 32) (cwG32 _ _) (by decide) dJ7_fill_53178_3 ?_
  refine g_istore_n E [(3, .int (6 : Int32)), (2, .int (0 : Int32)), (0, .ref (k.2.2.2.1 32)), (1, .int x1)] dJ7_fill_53178_4 rfl (by decide) rfl ?_
  exact g_sub [2, 3, 1, 0] rfl (fJ7_fill_53178_32_v5 E gF σ x1 (0 : Int32) (6 : Int32) r hf)
def rm_fJ7_fill_53178_33 : Room := { frames := 0, cells := 0, slots := 0, locals := 0 }
set_option maxHeartbeats 4000000 in
set_option maxRecDepth 100000 in
theorem fJ7_fill_53178_33_w5 {k : gK} {X : gX} (E : gE k X cJ7_fill_53178 RJ7 wsJ7_fill_53178 4 none rm_fJ7_fill_53178_33) (rc5 : St → Int32 → Int32 → Int32 → Option (Unit × St)) (hrc5 : ∀ (σ : St) (x1 : Int32) (x2 : Int32) (x3 : Int32) (r : Unit × St), rc5 σ x1 x2 x3 = some r → G k X 4 (none) (cw k.2.2.2 r.2) (cw k.2.2.2 σ) [(0, .ref (k.2.2.2.1 33)), (1, .int x1), (2, .int x2), (3, .int x3)] [] 5) (σ : St) (x1 : Int32) (x2 : Int32) (x3 : Int32) (r : Unit × St) (hf : fJ7_fill_53178_33_b5 rc5 σ x1 x2 x3 = some r) : G k X 4 (none) (cw k.2.2.2 r.2) (cw k.2.2.2 σ) [(0, .ref (k.2.2.2.1 33)), (1, .int x1), (2, .int x2), (3, .int x3)] [] 5 := by
  unfold fJ7_fill_53178_33_b5 at hf
  refine g_iload_n E 2 dJ7_fill_53178_5 rfl rfl ?_
  refine g_iload_n E 3 dJ7_fill_53178_6 rfl rfl ?_
  refine g_icmp_ge (tgt := 20) E dJ7_fill_53178_7 (by decide) (fun c1 => ?_) (fun c1 => ?_)
  · have hf := gp hf c1
    cases hf
    exact g_vret E dJ7_fill_53178_20
  · have hf := gn hf c1
    refine g_aload_n E 0 dJ7_fill_53178_10 rfl rfl ?_
    refine g_iload_n E 2 dJ7_fill_53178_11 rfl rfl ?_
    refine g_iload_n E 1 dJ7_fill_53178_12 rfl rfl ?_
    obtain ⟨hi2, hf⟩ := gd hf
    refine g_iast E 33 (cw k.2.2.2 (uA σ 33 x2.toNatClampNeg x1)) (σ.1 33) (cwG33 _ _) hi2 (cwA33 _ _ _ _) dJ7_fill_53178_13 ?_
    refine g_iinc E 2 [(2, .int (x2 + (1 : Int32))), (0, .ref (k.2.2.2.1 33)), (1, .int x1), (3, .int x3)] (x2 + (1 : Int32)) dJ7_fill_53178_14 rfl (by rfl) (by decide) rfl ?_
    refine g_goto (tgt := 5) E dJ7_fill_53178_17 (by decide) ?_
    exact g_sub [1, 2, 0, 3] rfl (hrc5 (uA σ 33 x2.toNatClampNeg x1) x1 (x2 + (1 : Int32)) x3 r hf)
theorem fJ7_fill_53178_33_v5 {k : gK} {X : gX} (E : gE k X cJ7_fill_53178 RJ7 wsJ7_fill_53178 4 none rm_fJ7_fill_53178_33) : ∀ (n : Nat) (σ : St) (x1 : Int32) (x2 : Int32) (x3 : Int32) (r : Unit × St), fJ7_fill_53178_33_l5 n σ x1 x2 x3 = some r → G k X 4 (none) (cw k.2.2.2 r.2) (cw k.2.2.2 σ) [(0, .ref (k.2.2.2.1 33)), (1, .int x1), (2, .int x2), (3, .int x3)] [] 5 := by
  intro n
  induction n with
  | zero => intro σ x1 x2 x3 r hf; cases hf
  | succ n ih => intro σ x1 x2 x3 r hf; exact fJ7_fill_53178_33_w5 E (fJ7_fill_53178_33_l5 n) ih σ x1 x2 x3 r hf
set_option maxHeartbeats 4000000 in
set_option maxRecDepth 100000 in
theorem fJ7_fill_53178_33_c (k : gK) (σ : St) (x1 : Int32) (r : Unit × St) (hf : fJ7_fill_53178_33 σ x1 = some r) : MC k yJ7_fill_53178 wsJ7_fill_53178 rm_fJ7_fill_53178_33 [.ref (k.2.2.2.1 33), .int x1] (cw k.2.2.2 σ) (none) (cw k.2.2.2 r.2) := by
  refine MC_of (cc := cJ7_fill_53178) (maxL := 4) (ret := none) (own := RJ7) (lvs := [(0, .ref (k.2.2.2.1 33)), (1, .int x1)]) (by decide) rfl rfl (Nat.le_of_ble_eq_true rfl) rfl (fun X E => ?_)
  unfold fJ7_fill_53178_33 at hf
  refine g_iconst (v := (0 : Int32)) E dJ7_fill_53178_0 (by decide) ?_
  refine g_istore_n E [(2, .int (0 : Int32)), (0, .ref (k.2.2.2.1 33)), (1, .int x1)] dJ7_fill_53178_1 rfl (by decide) rfl ?_
  refine g_aload_n E 1 dJ7_fill_53178_2 rfl rfl ?_
  refine g_alenI (v := (6 : Int32)) E 33 (σ.1 33) (cwG33 _ _) (by decide) dJ7_fill_53178_3 ?_
  refine g_istore_n E [(3, .int (6 : Int32)), (2, .int (0 : Int32)), (0, .ref (k.2.2.2.1 33)), (1, .int x1)] dJ7_fill_53178_4 rfl (by decide) rfl ?_
  exact g_sub [2, 3, 1, 0] rfl (fJ7_fill_53178_33_v5 E gF σ x1 (0 : Int32) (6 : Int32) r hf)
