theorem hi_X8_ring_X8 : ∀ w ∈ wsX80, w ∈ wsX8_ring := by decide +kernel
theorem hi_X8_ring_X0 : ∀ w ∈ wsX00, w ∈ wsX8_ring := by decide +kernel
theorem hk_X8_ring_10 : Cond.fieldLink RX8 10 "PaperMarks" "judges" "LPaperMarks$Judges;" ∈ wsX8_ring := by decide +kernel
theorem hk_X8_ring_191 : Cond.fieldLink RX8 191 "PaperMarks$Judges" "count" "I" ∈ wsX8_ring := by decide +kernel
def rm_fX8_ring : Room := { frames := 2, cells := 0, slots := 0, locals := 45 }
set_option maxHeartbeats 4000000 in
set_option maxRecDepth 100000 in
theorem fX8_ring_w109 {k : gK} {X : gX} (E : gE k X cX8_ring RX8 wsX8_ring 6 (some .int) rm_fX8_ring) (rc4 : St → Int32 → Int32 → Int32 → Option (Int32 × St)) (hrc4 : ∀ (σ : St) (x1 : Int32) (x2 : Int32) (x3 : Int32) (r : Int32 × St), rc4 σ x1 x2 x3 = some r → G k X 6 (some (.int r.1)) (cw k.2.2.2 r.2) (cw k.2.2.2 σ) [(0, .ref (k.2.2.2.1 0)), (1, .int x1), (2, .int x2), (3, .int x3)] [] 4) (rc20 : St → Int32 → Int32 → Int32 → Int32 → Option (Int32 × St)) (hrc20 : ∀ (σ : St) (x1 : Int32) (x2 : Int32) (x3 : Int32) (x4 : Int32) (r : Int32 × St), rc20 σ x1 x2 x3 x4 = some r → G k X 6 (some (.int r.1)) (cw k.2.2.2 r.2) (cw k.2.2.2 σ) [(0, .ref (k.2.2.2.1 0)), (1, .int x1), (2, .int x2), (3, .int x3), (4, .int x4)] [] 20) (rc37 : St → Int32 → Int32 → Int32 → Int32 → Int32 → Option (Int32 × St)) (hrc37 : ∀ (σ : St) (x1 : Int32) (x2 : Int32) (x3 : Int32) (x4 : Int32) (x5 : Int32) (r : Int32 × St), rc37 σ x1 x2 x3 x4 x5 = some r → G k X 6 (some (.int r.1)) (cw k.2.2.2 r.2) (cw k.2.2.2 σ) [(0, .ref (k.2.2.2.1 0)), (1, .int x1), (2, .int x2), (3, .int x3), (4, .int x4), (5, .int x5)] [] 37) (σ : St) (x1 : Int32) (x2 : Int32) (x3 : Int32) (x4 : Int32) (x5 : Int32) (r : Int32 × St) (hf : fX8_ring_b109 rc4 rc20 rc37 σ x1 x2 x3 x4 x5 = some r) : G k X 6 (some (.int r.1)) (cw k.2.2.2 r.2) (cw k.2.2.2 σ) [(0, .ref (k.2.2.2.1 0)), (1, .int x1), (2, .int x2), (3, .int x3), (4, .int x4), (5, .int x5)] [] 109 := by
  unfold fX8_ring_b109 at hf
  refine g_iinc E 5 [(5, .int (x5 + (1 : Int32))), (0, .ref (k.2.2.2.1 0)), (1, .int x1), (2, .int x2), (3, .int x3), (4, .int x4)] (x5 + (1 : Int32)) dX8_ring_109 rfl (by rfl) (by decide) rfl ?_
  refine g_goto (tgt := 37) E dX8_ring_112 (by decide) ?_
  exact g_sub [1, 2, 3, 4, 5, 0] rfl (hrc37 σ x1 x2 x3 x4 (x5 + (1 : Int32)) r hf)
set_option maxHeartbeats 4000000 in
set_option maxRecDepth 100000 in
theorem fX8_ring_w37 {k : gK} {X : gX} (E : gE k X cX8_ring RX8 wsX8_ring 6 (some .int) rm_fX8_ring) (rc4 : St → Int32 → Int32 → Int32 → Option (Int32 × St)) (hrc4 : ∀ (σ : St) (x1 : Int32) (x2 : Int32) (x3 : Int32) (r : Int32 × St), rc4 σ x1 x2 x3 = some r → G k X 6 (some (.int r.1)) (cw k.2.2.2 r.2) (cw k.2.2.2 σ) [(0, .ref (k.2.2.2.1 0)), (1, .int x1), (2, .int x2), (3, .int x3)] [] 4) (rc20 : St → Int32 → Int32 → Int32 → Int32 → Option (Int32 × St)) (hrc20 : ∀ (σ : St) (x1 : Int32) (x2 : Int32) (x3 : Int32) (x4 : Int32) (r : Int32 × St), rc20 σ x1 x2 x3 x4 = some r → G k X 6 (some (.int r.1)) (cw k.2.2.2 r.2) (cw k.2.2.2 σ) [(0, .ref (k.2.2.2.1 0)), (1, .int x1), (2, .int x2), (3, .int x3), (4, .int x4)] [] 20) (rc37 : St → Int32 → Int32 → Int32 → Int32 → Int32 → Option (Int32 × St)) (hrc37 : ∀ (σ : St) (x1 : Int32) (x2 : Int32) (x3 : Int32) (x4 : Int32) (x5 : Int32) (r : Int32 × St), rc37 σ x1 x2 x3 x4 x5 = some r → G k X 6 (some (.int r.1)) (cw k.2.2.2 r.2) (cw k.2.2.2 σ) [(0, .ref (k.2.2.2.1 0)), (1, .int x1), (2, .int x2), (3, .int x3), (4, .int x4), (5, .int x5)] [] 37) (σ : St) (x1 : Int32) (x2 : Int32) (x3 : Int32) (x4 : Int32) (x5 : Int32) (r : Int32 × St) (hf : fX8_ring_b37 rc4 rc20 rc37 σ x1 x2 x3 x4 x5 = some r) : G k X 6 (some (.int r.1)) (cw k.2.2.2 r.2) (cw k.2.2.2 σ) [(0, .ref (k.2.2.2.1 0)), (1, .int x1), (2, .int x2), (3, .int x3), (4, .int x4), (5, .int x5)] [] 37 := by
  unfold fX8_ring_b37 at hf
  refine g_iload E 5 dX8_ring_37 rfl ?_
  refine g_aload_n E 0 dX8_ring_39 rfl rfl ?_
  refine g_get (C := RX8) (T := TX8) (N := 7) (ci := 8) E 0 0 (.ref (k.2.2.2.1 1)) hi_X8_ring_X8 (cwG0 _ _) rfl (by decide) hk_X8_ring_10 rfl dX8_ring_40 ?_
  refine g_get (C := RX0) (T := TX0) (N := 5) (ci := 0) E 1 4 (.int (σ.2.1 0)) hi_X8_ring_X0 (cwG1 _ _) rfl (by decide) hk_X8_ring_191 rfl dX8_ring_43 ?_
  refine g_icmp_ge (tgt := 115) E dX8_ring_46 (by decide) (fun c1 => ?_) (fun c1 => ?_)
  · have hf := gp hf c1
    refine g_iinc E 4 [(4, .int (x4 + (1 : Int32))), (0, .ref (k.2.2.2.1 0)), (1, .int x1), (2, .int x2), (3, .int x3), (5, .int x5)] (x4 + (1 : Int32)) dX8_ring_115 rfl (by rfl) (by decide) rfl ?_
    refine g_goto (tgt := 20) E dX8_ring_118 (by decide) ?_
    exact g_sub [1, 2, 3, 4, 0] rfl (hrc20 σ x1 x2 x3 (x4 + (1 : Int32)) r hf)
  · have hf := gn hf c1
    refine g_iload E 4 dX8_ring_49 rfl ?_
    refine g_iload E 5 dX8_ring_51 rfl ?_
    refine g_icmp_eq (tgt := 109) E dX8_ring_53 (by decide) (fun c2 => ?_) (fun c2 => ?_)
    · have hf := gp hf c2
      exact fX8_ring_w109 E rc4 hrc4 rc20 hrc20 rc37 hrc37 σ x1 x2 x3 x4 x5 r hf
    · have hf := gn hf c2
      refine g_aload_n E 0 dX8_ring_56 rfl rfl ?_
      refine g_iload_n E 3 dX8_ring_57 rfl rfl ?_
      refine g_iload E 4 dX8_ring_58 rfl ?_
      obtain ⟨q3, hq4, hf⟩ := gb hf
      refine g_callV (C := RX8) (T := TX8) (N := 7) (ci := 8) (As := [.int x3, .int x4]) (rest := []) (n := 2) E 0 (fX8_favours_c k σ x3 x4 q3 hq4) gX8_ring_X8_favours rfl rfl rfl (by decide +kernel) ⟨Nat.le_of_ble_eq_true rfl, Nat.le_of_ble_eq_true rfl⟩ rfl rfl (Nat.le_of_ble_eq_true rfl) rfl (cwG0 _ _) dX8_ring_60 ?_
      refine g_if_eq (tgt := 109) E dX8_ring_63 (by decide) (fun c5 => ?_) (fun c5 => ?_)
      · have hf := gp hf c5
        exact fX8_ring_w109 E rc4 hrc4 rc20 hrc20 rc37 hrc37 q3.2 x1 x2 x3 x4 x5 r hf
      · have hf := gn hf c5
        refine g_aload_n E 0 dX8_ring_66 rfl rfl ?_
        refine g_iload E 4 dX8_ring_67 rfl ?_
        refine g_iload E 5 dX8_ring_69 rfl ?_
        obtain ⟨q6, hq7, hf⟩ := gb hf
        refine g_callV (C := RX8) (T := TX8) (N := 7) (ci := 8) (As := [.int x4, .int x5]) (rest := []) (n := 2) E 0 (fX8_favours_c k q3.2 x4 x5 q6 hq7) gX8_ring_X8_favours rfl rfl rfl (by decide +kernel) ⟨Nat.le_of_ble_eq_true rfl, Nat.le_of_ble_eq_true rfl⟩ rfl rfl (Nat.le_of_ble_eq_true rfl) rfl (cwG0 _ _) dX8_ring_71 ?_
        refine g_if_eq (tgt := 109) E dX8_ring_74 (by decide) (fun c8 => ?_) (fun c8 => ?_)
        · have hf := gp hf c8
          exact fX8_ring_w109 E rc4 hrc4 rc20 hrc20 rc37 hrc37 q6.2 x1 x2 x3 x4 x5 r hf
        · have hf := gn hf c8
          refine g_aload_n E 0 dX8_ring_77 rfl rfl ?_
          refine g_iload E 5 dX8_ring_78 rfl ?_
          refine g_iload_n E 3 dX8_ring_80 rfl rfl ?_
          obtain ⟨q9, hq10, hf⟩ := gb hf
          refine g_callV (C := RX8) (T := TX8) (N := 7) (ci := 8) (As := [.int x5, .int x3]) (rest := []) (n := 2) E 0 (fX8_favours_c k q6.2 x5 x3 q9 hq10) gX8_ring_X8_favours rfl rfl rfl (by decide +kernel) ⟨Nat.le_of_ble_eq_true rfl, Nat.le_of_ble_eq_true rfl⟩ rfl rfl (Nat.le_of_ble_eq_true rfl) rfl (cwG0 _ _) dX8_ring_81 ?_
          refine g_if_eq (tgt := 109) E dX8_ring_84 (by decide) (fun c11 => ?_) (fun c11 => ?_)
          · have hf := gp hf c11
            exact fX8_ring_w109 E rc4 hrc4 rc20 hrc20 rc37 hrc37 q9.2 x1 x2 x3 x4 x5 r hf
          · have hf := gn hf c11
            refine g_iload_n E 2 dX8_ring_87 rfl rfl ?_
            refine g_iload_n E 1 dX8_ring_88 rfl rfl ?_
            refine g_icmp_ne (tgt := 106) E dX8_ring_89 (by decide) (fun c12 => ?_) (fun c12 => ?_)
            · have hf := gn hf c12
              refine g_iinc E 2 [(2, .int (x2 + (1 : Int32))), (0, .ref (k.2.2.2.1 0)), (1, .int x1), (3, .int x3), (4, .int x4), (5, .int x5)] (x2 + (1 : Int32)) dX8_ring_106 rfl (by rfl) (by decide) rfl ?_
              exact g_sub [1, 2, 0, 3, 4, 5] rfl (fX8_ring_w109 E rc4 hrc4 rc20 hrc20 rc37 hrc37 q9.2 x1 (x2 + (1 : Int32)) x3 x4 x5 r hf)
            · have hf := gp hf c12
              refine g_bipush (v := (100 : Int32)) E dX8_ring_92 (by decide) ?_
              refine g_iload_n E 3 dX8_ring_94 rfl rfl ?_
              refine g_imul E dX8_ring_95 ?_
              refine g_bipush (v := (10 : Int32)) E dX8_ring_96 (by decide) ?_
              refine g_iload E 4 dX8_ring_98 rfl ?_
              refine g_imul E dX8_ring_100 ?_
              refine g_iadd E dX8_ring_101 ?_
              refine g_iload E 5 dX8_ring_102 rfl ?_
              refine g_iadd E dX8_ring_104 ?_
              have hf := Option.some.inj hf
              subst hf
              exact g_iret E dX8_ring_105
theorem fX8_ring_v37 {k : gK} {X : gX} (E : gE k X cX8_ring RX8 wsX8_ring 6 (some .int) rm_fX8_ring) (rc4 : St → Int32 → Int32 → Int32 → Option (Int32 × St)) (hrc4 : ∀ (σ : St) (x1 : Int32) (x2 : Int32) (x3 : Int32) (r : Int32 × St), rc4 σ x1 x2 x3 = some r → G k X 6 (some (.int r.1)) (cw k.2.2.2 r.2) (cw k.2.2.2 σ) [(0, .ref (k.2.2.2.1 0)), (1, .int x1), (2, .int x2), (3, .int x3)] [] 4) (rc20 : St → Int32 → Int32 → Int32 → Int32 → Option (Int32 × St)) (hrc20 : ∀ (σ : St) (x1 : Int32) (x2 : Int32) (x3 : Int32) (x4 : Int32) (r : Int32 × St), rc20 σ x1 x2 x3 x4 = some r → G k X 6 (some (.int r.1)) (cw k.2.2.2 r.2) (cw k.2.2.2 σ) [(0, .ref (k.2.2.2.1 0)), (1, .int x1), (2, .int x2), (3, .int x3), (4, .int x4)] [] 20) : ∀ (n : Nat) (σ : St) (x1 : Int32) (x2 : Int32) (x3 : Int32) (x4 : Int32) (x5 : Int32) (r : Int32 × St), fX8_ring_l37 rc4 rc20 n σ x1 x2 x3 x4 x5 = some r → G k X 6 (some (.int r.1)) (cw k.2.2.2 r.2) (cw k.2.2.2 σ) [(0, .ref (k.2.2.2.1 0)), (1, .int x1), (2, .int x2), (3, .int x3), (4, .int x4), (5, .int x5)] [] 37 := by
  intro n
  induction n with
  | zero => intro σ x1 x2 x3 x4 x5 r hf; cases hf
  | succ n ih => intro σ x1 x2 x3 x4 x5 r hf; exact fX8_ring_w37 E rc4 hrc4 rc20 hrc20 (fX8_ring_l37 rc4 rc20 n) ih σ x1 x2 x3 x4 x5 r hf
set_option maxHeartbeats 4000000 in
set_option maxRecDepth 100000 in
theorem fX8_ring_w20 {k : gK} {X : gX} (E : gE k X cX8_ring RX8 wsX8_ring 6 (some .int) rm_fX8_ring) (rc4 : St → Int32 → Int32 → Int32 → Option (Int32 × St)) (hrc4 : ∀ (σ : St) (x1 : Int32) (x2 : Int32) (x3 : Int32) (r : Int32 × St), rc4 σ x1 x2 x3 = some r → G k X 6 (some (.int r.1)) (cw k.2.2.2 r.2) (cw k.2.2.2 σ) [(0, .ref (k.2.2.2.1 0)), (1, .int x1), (2, .int x2), (3, .int x3)] [] 4) (rc20 : St → Int32 → Int32 → Int32 → Int32 → Option (Int32 × St)) (hrc20 : ∀ (σ : St) (x1 : Int32) (x2 : Int32) (x3 : Int32) (x4 : Int32) (r : Int32 × St), rc20 σ x1 x2 x3 x4 = some r → G k X 6 (some (.int r.1)) (cw k.2.2.2 r.2) (cw k.2.2.2 σ) [(0, .ref (k.2.2.2.1 0)), (1, .int x1), (2, .int x2), (3, .int x3), (4, .int x4)] [] 20) (σ : St) (x1 : Int32) (x2 : Int32) (x3 : Int32) (x4 : Int32) (r : Int32 × St) (hf : fX8_ring_b20 rc4 rc20 σ x1 x2 x3 x4 = some r) : G k X 6 (some (.int r.1)) (cw k.2.2.2 r.2) (cw k.2.2.2 σ) [(0, .ref (k.2.2.2.1 0)), (1, .int x1), (2, .int x2), (3, .int x3), (4, .int x4)] [] 20 := by
  unfold fX8_ring_b20 at hf
  refine g_iload E 4 dX8_ring_20 rfl ?_
  refine g_aload_n E 0 dX8_ring_22 rfl rfl ?_
  refine g_get (C := RX8) (T := TX8) (N := 7) (ci := 8) E 0 0 (.ref (k.2.2.2.1 1)) hi_X8_ring_X8 (cwG0 _ _) rfl (by decide) hk_X8_ring_10 rfl dX8_ring_23 ?_
  refine g_get (C := RX0) (T := TX0) (N := 5) (ci := 0) E 1 4 (.int (σ.2.1 0)) hi_X8_ring_X0 (cwG1 _ _) rfl (by decide) hk_X8_ring_191 rfl dX8_ring_26 ?_
  refine g_icmp_ge (tgt := 121) E dX8_ring_29 (by decide) (fun c1 => ?_) (fun c1 => ?_)
  · have hf := gp hf c1
    refine g_iinc E 3 [(3, .int (x3 + (1 : Int32))), (0, .ref (k.2.2.2.1 0)), (1, .int x1), (2, .int x2), (4, .int x4)] (x3 + (1 : Int32)) dX8_ring_121 rfl (by rfl) (by decide) rfl ?_
    refine g_goto (tgt := 4) E dX8_ring_124 (by decide) ?_
    exact g_sub [1, 2, 3, 0] rfl (hrc4 σ x1 x2 (x3 + (1 : Int32)) r hf)
  · have hf := gn hf c1
    refine g_iload_n E 3 dX8_ring_32 rfl rfl ?_
    refine g_iconst (v := (1 : Int32)) E dX8_ring_33 (by decide) ?_
    refine g_iadd E dX8_ring_34 ?_
    refine g_istore E [(5, .int (x3 + (1 : Int32))), (0, .ref (k.2.2.2.1 0)), (1, .int x1), (2, .int x2), (3, .int x3), (4, .int x4)] dX8_ring_35 (by decide) rfl ?_
    exact g_sub [1, 2, 3, 4, 5, 0] rfl (fX8_ring_v37 E rc4 hrc4 rc20 hrc20 gF σ x1 x2 x3 x4 (x3 + (1 : Int32)) r hf)
theorem fX8_ring_v20 {k : gK} {X : gX} (E : gE k X cX8_ring RX8 wsX8_ring 6 (some .int) rm_fX8_ring) (rc4 : St → Int32 → Int32 → Int32 → Option (Int32 × St)) (hrc4 : ∀ (σ : St) (x1 : Int32) (x2 : Int32) (x3 : Int32) (r : Int32 × St), rc4 σ x1 x2 x3 = some r → G k X 6 (some (.int r.1)) (cw k.2.2.2 r.2) (cw k.2.2.2 σ) [(0, .ref (k.2.2.2.1 0)), (1, .int x1), (2, .int x2), (3, .int x3)] [] 4) : ∀ (n : Nat) (σ : St) (x1 : Int32) (x2 : Int32) (x3 : Int32) (x4 : Int32) (r : Int32 × St), fX8_ring_l20 rc4 n σ x1 x2 x3 x4 = some r → G k X 6 (some (.int r.1)) (cw k.2.2.2 r.2) (cw k.2.2.2 σ) [(0, .ref (k.2.2.2.1 0)), (1, .int x1), (2, .int x2), (3, .int x3), (4, .int x4)] [] 20 := by
  intro n
  induction n with
  | zero => intro σ x1 x2 x3 x4 r hf; cases hf
  | succ n ih => intro σ x1 x2 x3 x4 r hf; exact fX8_ring_w20 E rc4 hrc4 (fX8_ring_l20 rc4 n) ih σ x1 x2 x3 x4 r hf
set_option maxHeartbeats 4000000 in
set_option maxRecDepth 100000 in
theorem fX8_ring_w4 {k : gK} {X : gX} (E : gE k X cX8_ring RX8 wsX8_ring 6 (some .int) rm_fX8_ring) (rc4 : St → Int32 → Int32 → Int32 → Option (Int32 × St)) (hrc4 : ∀ (σ : St) (x1 : Int32) (x2 : Int32) (x3 : Int32) (r : Int32 × St), rc4 σ x1 x2 x3 = some r → G k X 6 (some (.int r.1)) (cw k.2.2.2 r.2) (cw k.2.2.2 σ) [(0, .ref (k.2.2.2.1 0)), (1, .int x1), (2, .int x2), (3, .int x3)] [] 4) (σ : St) (x1 : Int32) (x2 : Int32) (x3 : Int32) (r : Int32 × St) (hf : fX8_ring_b4 rc4 σ x1 x2 x3 = some r) : G k X 6 (some (.int r.1)) (cw k.2.2.2 r.2) (cw k.2.2.2 σ) [(0, .ref (k.2.2.2.1 0)), (1, .int x1), (2, .int x2), (3, .int x3)] [] 4 := by
  unfold fX8_ring_b4 at hf
  refine g_iload_n E 3 dX8_ring_4 rfl rfl ?_
  refine g_aload_n E 0 dX8_ring_5 rfl rfl ?_
  refine g_get (C := RX8) (T := TX8) (N := 7) (ci := 8) E 0 0 (.ref (k.2.2.2.1 1)) hi_X8_ring_X8 (cwG0 _ _) rfl (by decide) hk_X8_ring_10 rfl dX8_ring_6 ?_
  refine g_get (C := RX0) (T := TX0) (N := 5) (ci := 0) E 1 4 (.int (σ.2.1 0)) hi_X8_ring_X0 (cwG1 _ _) rfl (by decide) hk_X8_ring_191 rfl dX8_ring_9 ?_
  refine g_icmp_ge (tgt := 127) E dX8_ring_12 (by decide) (fun c1 => ?_) (fun c1 => ?_)
  · have hf := gp hf c1
    refine g_iload_n E 1 dX8_ring_127 rfl rfl ?_
    refine g_iconst (v := (-1 : Int32)) E dX8_ring_128 (by decide) ?_
    refine g_icmp_ne (tgt := 136) E dX8_ring_129 (by decide) (fun c2 => ?_) (fun c2 => ?_)
    · have hf := gn hf c2
      refine g_bipush (v := (-6 : Int32)) E dX8_ring_136 (by decide) ?_
      have hf := Option.some.inj hf
      subst hf
      exact g_iret E dX8_ring_138
    · have hf := gp hf c2
      refine g_iload_n E 2 dX8_ring_132 rfl rfl ?_
      refine g_goto (tgt := 138) E dX8_ring_133 (by decide) ?_
      have hf := Option.some.inj hf
      subst hf
      exact g_iret E dX8_ring_138
  · have hf := gn hf c1
    refine g_iload_n E 3 dX8_ring_15 rfl rfl ?_
    refine g_iconst (v := (1 : Int32)) E dX8_ring_16 (by decide) ?_
    refine g_iadd E dX8_ring_17 ?_
    refine g_istore E [(4, .int (x3 + (1 : Int32))), (0, .ref (k.2.2.2.1 0)), (1, .int x1), (2, .int x2), (3, .int x3)] dX8_ring_18 (by decide) rfl ?_
    exact g_sub [1, 2, 3, 4, 0] rfl (fX8_ring_v20 E rc4 hrc4 gF σ x1 x2 x3 (x3 + (1 : Int32)) r hf)
theorem fX8_ring_v4 {k : gK} {X : gX} (E : gE k X cX8_ring RX8 wsX8_ring 6 (some .int) rm_fX8_ring) : ∀ (n : Nat) (σ : St) (x1 : Int32) (x2 : Int32) (x3 : Int32) (r : Int32 × St), fX8_ring_l4 n σ x1 x2 x3 = some r → G k X 6 (some (.int r.1)) (cw k.2.2.2 r.2) (cw k.2.2.2 σ) [(0, .ref (k.2.2.2.1 0)), (1, .int x1), (2, .int x2), (3, .int x3)] [] 4 := by
  intro n
  induction n with
  | zero => intro σ x1 x2 x3 r hf; cases hf
  | succ n ih => intro σ x1 x2 x3 r hf; exact fX8_ring_w4 E (fX8_ring_l4 n) ih σ x1 x2 x3 r hf
set_option maxHeartbeats 4000000 in
set_option maxRecDepth 100000 in
theorem fX8_ring_c (k : gK) (σ : St) (x1 : Int32) (r : Int32 × St) (hf : fX8_ring σ x1 = some r) : MC k yX8_ring wsX8_ring rm_fX8_ring [.ref (k.2.2.2.1 0), .int x1] (cw k.2.2.2 σ) (some (.int r.1)) (cw k.2.2.2 r.2) := by
  refine MC_of (cc := cX8_ring) (maxL := 6) (ret := (some .int)) (own := RX8) (lvs := [(0, .ref (k.2.2.2.1 0)), (1, .int x1)]) (by decide) rfl rfl (Nat.le_of_ble_eq_true rfl) rfl (fun X E => ?_)
  unfold fX8_ring at hf
  refine g_iconst (v := (0 : Int32)) E dX8_ring_0 (by decide) ?_
  refine g_istore_n E [(2, .int (0 : Int32)), (0, .ref (k.2.2.2.1 0)), (1, .int x1)] dX8_ring_1 rfl (by decide) rfl ?_
  refine g_iconst (v := (0 : Int32)) E dX8_ring_2 (by decide) ?_
  refine g_istore_n E [(3, .int (0 : Int32)), (2, .int (0 : Int32)), (0, .ref (k.2.2.2.1 0)), (1, .int x1)] dX8_ring_3 rfl (by decide) rfl ?_
  exact g_sub [2, 3, 1, 0] rfl (fX8_ring_v4 E gF σ x1 (0 : Int32) (0 : Int32) r hf)
theorem hi_X0_withKeys_X0 : ∀ w ∈ wsX00, w ∈ wsX0_withKeys := by decide +kernel
theorem hk_X0_withKeys_24 : Cond.fieldLink RX0 24 "PaperMarks$Judges" "count" "I" ∈ wsX0_withKeys := by decide +kernel
theorem hk_X0_withKeys_18 : Cond.fieldLink RX0 18 "PaperMarks$Judges" "keys" "[I" ∈ wsX0_withKeys := by decide +kernel
def rm_fX0_withKeys : Room := { frames := 0, cells := 0, slots := 0, locals := 0 }
set_option maxHeartbeats 4000000 in
set_option maxRecDepth 100000 in
theorem fX0_withKeys_w30 {k : gK} {X : gX} (E : gE k X cX0_withKeys RX0 wsX0_withKeys 4 (some .int) rm_fX0_withKeys) (rc4 : St → Int32 → Int32 → Int32 → Option (Int32 × St)) (hrc4 : ∀ (σ : St) (x1 : Int32) (x2 : Int32) (x3 : Int32) (r : Int32 × St), rc4 σ x1 x2 x3 = some r → G k X 4 (some (.int r.1)) (cw k.2.2.2 r.2) (cw k.2.2.2 σ) [(0, .ref (k.2.2.2.1 1)), (1, .int x1), (2, .int x2), (3, .int x3)] [] 4) (σ : St) (x1 : Int32) (x2 : Int32) (x3 : Int32) (r : Int32 × St) (hf : fX0_withKeys_b30 rc4 σ x1 x2 x3 = some r) : G k X 4 (some (.int r.1)) (cw k.2.2.2 r.2) (cw k.2.2.2 σ) [(0, .ref (k.2.2.2.1 1)), (1, .int x1), (2, .int x2), (3, .int x3)] [] 30 := by
  unfold fX0_withKeys_b30 at hf
  refine g_iinc E 3 [(3, .int (x3 + (1 : Int32))), (0, .ref (k.2.2.2.1 1)), (1, .int x1), (2, .int x2)] (x3 + (1 : Int32)) dX0_withKeys_30 rfl (by rfl) (by decide) rfl ?_
  refine g_goto (tgt := 4) E dX0_withKeys_33 (by decide) ?_
  exact g_sub [1, 2, 3, 0] rfl (hrc4 σ x1 x2 (x3 + (1 : Int32)) r hf)
set_option maxHeartbeats 4000000 in
set_option maxRecDepth 100000 in
theorem fX0_withKeys_w4 {k : gK} {X : gX} (E : gE k X cX0_withKeys RX0 wsX0_withKeys 4 (some .int) rm_fX0_withKeys) (rc4 : St → Int32 → Int32 → Int32 → Option (Int32 × St)) (hrc4 : ∀ (σ : St) (x1 : Int32) (x2 : Int32) (x3 : Int32) (r : Int32 × St), rc4 σ x1 x2 x3 = some r → G k X 4 (some (.int r.1)) (cw k.2.2.2 r.2) (cw k.2.2.2 σ) [(0, .ref (k.2.2.2.1 1)), (1, .int x1), (2, .int x2), (3, .int x3)] [] 4) (σ : St) (x1 : Int32) (x2 : Int32) (x3 : Int32) (r : Int32 × St) (hf : fX0_withKeys_b4 rc4 σ x1 x2 x3 = some r) : G k X 4 (some (.int r.1)) (cw k.2.2.2 r.2) (cw k.2.2.2 σ) [(0, .ref (k.2.2.2.1 1)), (1, .int x1), (2, .int x2), (3, .int x3)] [] 4 := by
  unfold fX0_withKeys_b4 at hf
  refine g_iload_n E 3 dX0_withKeys_4 rfl rfl ?_
  refine g_aload_n E 0 dX0_withKeys_5 rfl rfl ?_
  refine g_get (C := RX0) (T := TX0) (N := 5) (ci := 0) E 1 4 (.int (σ.2.1 0)) hi_X0_withKeys_X0 (cwG1 _ _) rfl (by decide) hk_X0_withKeys_24 rfl dX0_withKeys_6 ?_
  refine g_icmp_ge (tgt := 36) E dX0_withKeys_9 (by decide) (fun c1 => ?_) (fun c1 => ?_)
  · have hf := gp hf c1
    refine g_iload_n E 2 dX0_withKeys_36 rfl rfl ?_
    have hf := Option.some.inj hf
    subst hf
    exact g_iret E dX0_withKeys_37
  · have hf := gn hf c1
    refine g_aload_n E 0 dX0_withKeys_12 rfl rfl ?_
    refine g_get (C := RX0) (T := TX0) (N := 5) (ci := 0) E 1 2 (.ref (k.2.2.2.1 12)) hi_X0_withKeys_X0 (cwG1 _ _) rfl (by decide) hk_X0_withKeys_18 rfl dX0_withKeys_13 ?_
    refine g_iload_n E 3 dX0_withKeys_16 rfl rfl ?_
    obtain ⟨hi2, hf⟩ := gd hf
    refine g_iald E 12 (σ.1 12) (cwG12 _ _) hi2 dX0_withKeys_17 ?_
    refine g_iload_n E 1 dX0_withKeys_18 rfl rfl ?_
    refine g_iand E dX0_withKeys_19 ?_
    refine g_iload_n E 1 dX0_withKeys_20 rfl rfl ?_
    refine g_icmp_ne (tgt := 30) E dX0_withKeys_21 (by decide) (fun c3 => ?_) (fun c3 => ?_)
    · have hf := gn hf c3
      exact fX0_withKeys_w30 E rc4 hrc4 σ x1 x2 x3 r hf
    · have hf := gp hf c3
      refine g_iload_n E 2 dX0_withKeys_24 rfl rfl ?_
      refine g_iconst (v := (1 : Int32)) E dX0_withKeys_25 (by decide) ?_
      refine g_iload_n E 3 dX0_withKeys_26 rfl rfl ?_
      refine g_ishl E dX0_withKeys_27 ?_
      refine g_ior E dX0_withKeys_28 ?_
      refine g_istore_n E [(2, .int (x2 ||| (((1 : Int32) <<< (x3 &&& 31))))), (0, .ref (k.2.2.2.1 1)), (1, .int x1), (3, .int x3)] dX0_withKeys_29 rfl (by decide) rfl ?_
      exact g_sub [1, 2, 0, 3] rfl (fX0_withKeys_w30 E rc4 hrc4 σ x1 (x2 ||| (((1 : Int32) <<< (x3 &&& 31)))) x3 r hf)
theorem fX0_withKeys_v4 {k : gK} {X : gX} (E : gE k X cX0_withKeys RX0 wsX0_withKeys 4 (some .int) rm_fX0_withKeys) : ∀ (n : Nat) (σ : St) (x1 : Int32) (x2 : Int32) (x3 : Int32) (r : Int32 × St), fX0_withKeys_l4 n σ x1 x2 x3 = some r → G k X 4 (some (.int r.1)) (cw k.2.2.2 r.2) (cw k.2.2.2 σ) [(0, .ref (k.2.2.2.1 1)), (1, .int x1), (2, .int x2), (3, .int x3)] [] 4 := by
  intro n
  induction n with
  | zero => intro σ x1 x2 x3 r hf; cases hf
  | succ n ih => intro σ x1 x2 x3 r hf; exact fX0_withKeys_w4 E (fX0_withKeys_l4 n) ih σ x1 x2 x3 r hf
set_option maxHeartbeats 4000000 in
set_option maxRecDepth 100000 in
theorem fX0_withKeys_c (k : gK) (σ : St) (x1 : Int32) (r : Int32 × St) (hf : fX0_withKeys σ x1 = some r) : MC k yX0_withKeys wsX0_withKeys rm_fX0_withKeys [.ref (k.2.2.2.1 1), .int x1] (cw k.2.2.2 σ) (some (.int r.1)) (cw k.2.2.2 r.2) := by
  refine MC_of (cc := cX0_withKeys) (maxL := 4) (ret := (some .int)) (own := RX0) (lvs := [(0, .ref (k.2.2.2.1 1)), (1, .int x1)]) (by decide) rfl rfl (Nat.le_of_ble_eq_true rfl) rfl (fun X E => ?_)
  unfold fX0_withKeys at hf
  refine g_iconst (v := (0 : Int32)) E dX0_withKeys_0 (by decide) ?_
  refine g_istore_n E [(2, .int (0 : Int32)), (0, .ref (k.2.2.2.1 1)), (1, .int x1)] dX0_withKeys_1 rfl (by decide) rfl ?_
  refine g_iconst (v := (0 : Int32)) E dX0_withKeys_2 (by decide) ?_
  refine g_istore_n E [(3, .int (0 : Int32)), (2, .int (0 : Int32)), (0, .ref (k.2.2.2.1 1)), (1, .int x1)] dX0_withKeys_3 rfl (by decide) rfl ?_
  exact g_sub [2, 3, 1, 0] rfl (fX0_withKeys_v4 E gF σ x1 (0 : Int32) (0 : Int32) r hf)
