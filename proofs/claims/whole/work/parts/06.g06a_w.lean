theorem hi_X8_held_X8 : ∀ w ∈ wsX80, w ∈ wsX8_held := by decide +kernel
theorem hi_X8_held_X4 : ∀ w ∈ wsX40, w ∈ wsX8_held := by decide +kernel
theorem hk_X8_held_19 : Cond.fieldLink RX8 19 "PaperMarks" "papers" "LPaperMarks$Papers;" ∈ wsX8_held := by decide +kernel
theorem hk_X8_held_192 : Cond.fieldLink RX8 192 "PaperMarks$Papers" "count" "I" ∈ wsX8_held := by decide +kernel
def rm_fX8_held : Room := { frames := 5, cells := 0, slots := 0, locals := 115 }
set_option maxHeartbeats 4000000 in
set_option maxRecDepth 100000 in
theorem fX8_held_w72 {k : gK} {X : gX} (E : gE k X cX8_held RX8 wsX8_held 6 (some .int) rm_fX8_held) (rc27 : St → Int32 → Int32 → Int32 → Option (Int32 × St)) (hrc27 : ∀ (σ : St) (x2 : Int32) (x3 : Int32) (x4 : Int32) (r : Int32 × St), rc27 σ x2 x3 x4 = some r → G k X 6 (some (.int r.1)) (cw k.2.2.2 r.2) (cw k.2.2.2 σ) [(0, .ref (k.2.2.2.1 0)), (2, .int x2), (3, .int x3), (4, .int x4)] [] 27) (rc45 : St → Int32 → Int32 → Int32 → Int32 → Option (Int32 × St)) (hrc45 : ∀ (σ : St) (x2 : Int32) (x3 : Int32) (x4 : Int32) (x5 : Int32) (r : Int32 × St), rc45 σ x2 x3 x4 x5 = some r → G k X 6 (some (.int r.1)) (cw k.2.2.2 r.2) (cw k.2.2.2 σ) [(0, .ref (k.2.2.2.1 0)), (2, .int x2), (3, .int x3), (4, .int x4), (5, .int x5)] [] 45) (σ : St) (x2 : Int32) (x3 : Int32) (x4 : Int32) (x5 : Int32) (r : Int32 × St) (hf : fX8_held_b72 rc27 rc45 σ x2 x3 x4 x5 = some r) : G k X 6 (some (.int r.1)) (cw k.2.2.2 r.2) (cw k.2.2.2 σ) [(0, .ref (k.2.2.2.1 0)), (2, .int x2), (3, .int x3), (4, .int x4), (5, .int x5)] [] 72 := by
  unfold fX8_held_b72 at hf
  refine g_iinc E 4 [(5, .int (x5 + (1 : Int32))), (0, .ref (k.2.2.2.1 0)), (2, .int x2), (3, .int x3), (4, .int x4)] (x5 + (1 : Int32)) dX8_held_72 rfl (by rfl) (by decide) rfl ?_
  refine g_goto (tgt := 45) E dX8_held_75 (by decide) ?_
  exact g_sub [1, 2, 3, 4, 0] rfl (hrc45 σ x2 x3 x4 (x5 + (1 : Int32)) r hf)
set_option maxHeartbeats 4000000 in
set_option maxRecDepth 100000 in
theorem fX8_held_w45 {k : gK} {X : gX} (E : gE k X cX8_held RX8 wsX8_held 6 (some .int) rm_fX8_held) (rc27 : St → Int32 → Int32 → Int32 → Option (Int32 × St)) (hrc27 : ∀ (σ : St) (x2 : Int32) (x3 : Int32) (x4 : Int32) (r : Int32 × St), rc27 σ x2 x3 x4 = some r → G k X 6 (some (.int r.1)) (cw k.2.2.2 r.2) (cw k.2.2.2 σ) [(0, .ref (k.2.2.2.1 0)), (2, .int x2), (3, .int x3), (4, .int x4)] [] 27) (rc45 : St → Int32 → Int32 → Int32 → Int32 → Option (Int32 × St)) (hrc45 : ∀ (σ : St) (x2 : Int32) (x3 : Int32) (x4 : Int32) (x5 : Int32) (r : Int32 × St), rc45 σ x2 x3 x4 x5 = some r → G k X 6 (some (.int r.1)) (cw k.2.2.2 r.2) (cw k.2.2.2 σ) [(0, .ref (k.2.2.2.1 0)), (2, .int x2), (3, .int x3), (4, .int x4), (5, .int x5)] [] 45) (σ : St) (x2 : Int32) (x3 : Int32) (x4 : Int32) (x5 : Int32) (r : Int32 × St) (hf : fX8_held_b45 rc27 rc45 σ x2 x3 x4 x5 = some r) : G k X 6 (some (.int r.1)) (cw k.2.2.2 r.2) (cw k.2.2.2 σ) [(0, .ref (k.2.2.2.1 0)), (2, .int x2), (3, .int x3), (4, .int x4), (5, .int x5)] [] 45 := by
  unfold fX8_held_b45 at hf
  refine g_iload E 4 dX8_held_45 rfl ?_
  refine g_aload_n E 0 dX8_held_47 rfl rfl ?_
  refine g_get (C := RX8) (T := TX8) (N := 7) (ci := 8) E 0 1 (.ref (k.2.2.2.1 2)) hi_X8_held_X8 (cwG0 _ _) rfl (by decide) hk_X8_held_19 rfl dX8_held_48 ?_
  refine g_get (C := RX4) (T := TX4) (N := 6) (ci := 4) E 2 5 (.int (σ.2.1 1)) hi_X8_held_X4 (cwG2 _ _) rfl (by decide) hk_X8_held_192 rfl dX8_held_51 ?_
  refine g_icmp_ge (tgt := 78) E dX8_held_54 (by decide) (fun c1 => ?_) (fun c1 => ?_)
  · have hf := gp hf c1
    refine g_iinc E 3 [(4, .int (x4 + (1 : Int32))), (0, .ref (k.2.2.2.1 0)), (2, .int x2), (3, .int x3), (5, .int x5)] (x4 + (1 : Int32)) dX8_held_78 rfl (by rfl) (by decide) rfl ?_
    refine g_goto (tgt := 27) E dX8_held_81 (by decide) ?_
    exact g_sub [1, 2, 3, 0] rfl (hrc27 σ x2 x3 (x4 + (1 : Int32)) r hf)
  · have hf := gn hf c1
    refine g_aload_n E 0 dX8_held_57 rfl rfl ?_
    refine g_iload E 3 dX8_held_58 rfl ?_
    refine g_iload E 4 dX8_held_60 rfl ?_
    obtain ⟨q2, hq3, hf⟩ := gb hf
    refine g_callV (C := RX8) (T := TX8) (N := 7) (ci := 8) (As := [.int x4, .int x5]) (rest := []) (n := 2) E 0 (fX8_agreement_c k σ x4 x5 q2 hq3) gX8_held_X8_agreement rfl rfl rfl (by decide +kernel) ⟨Nat.le_of_ble_eq_true rfl, Nat.le_of_ble_eq_true rfl⟩ rfl rfl (Nat.le_of_ble_eq_true rfl) rfl (cwG0 _ _) dX8_held_62 ?_
    refine g_iload_n E 1 dX8_held_65 rfl rfl ?_
    refine g_icmp_ne (tgt := 72) E dX8_held_66 (by decide) (fun c4 => ?_) (fun c4 => ?_)
    · have hf := gn hf c4
      exact fX8_held_w72 E rc27 hrc27 rc45 hrc45 q2.2 x2 x3 x4 x5 r hf
    · have hf := gp hf c4
      refine g_iinc E 2 [(3, .int (x3 + (1 : Int32))), (0, .ref (k.2.2.2.1 0)), (2, .int x2), (4, .int x4), (5, .int x5)] (x3 + (1 : Int32)) dX8_held_69 rfl (by rfl) (by decide) rfl ?_
      exact g_sub [1, 2, 0, 3, 4] rfl (fX8_held_w72 E rc27 hrc27 rc45 hrc45 q2.2 x2 (x3 + (1 : Int32)) x4 x5 r hf)
theorem fX8_held_v45 {k : gK} {X : gX} (E : gE k X cX8_held RX8 wsX8_held 6 (some .int) rm_fX8_held) (rc27 : St → Int32 → Int32 → Int32 → Option (Int32 × St)) (hrc27 : ∀ (σ : St) (x2 : Int32) (x3 : Int32) (x4 : Int32) (r : Int32 × St), rc27 σ x2 x3 x4 = some r → G k X 6 (some (.int r.1)) (cw k.2.2.2 r.2) (cw k.2.2.2 σ) [(0, .ref (k.2.2.2.1 0)), (2, .int x2), (3, .int x3), (4, .int x4)] [] 27) : ∀ (n : Nat) (σ : St) (x2 : Int32) (x3 : Int32) (x4 : Int32) (x5 : Int32) (r : Int32 × St), fX8_held_l45 rc27 n σ x2 x3 x4 x5 = some r → G k X 6 (some (.int r.1)) (cw k.2.2.2 r.2) (cw k.2.2.2 σ) [(0, .ref (k.2.2.2.1 0)), (2, .int x2), (3, .int x3), (4, .int x4), (5, .int x5)] [] 45 := by
  intro n
  induction n with
  | zero => intro σ x2 x3 x4 x5 r hf; cases hf
  | succ n ih => intro σ x2 x3 x4 x5 r hf; exact fX8_held_w45 E rc27 hrc27 (fX8_held_l45 rc27 n) ih σ x2 x3 x4 x5 r hf
set_option maxHeartbeats 4000000 in
set_option maxRecDepth 100000 in
theorem fX8_held_w27 {k : gK} {X : gX} (E : gE k X cX8_held RX8 wsX8_held 6 (some .int) rm_fX8_held) (rc27 : St → Int32 → Int32 → Int32 → Option (Int32 × St)) (hrc27 : ∀ (σ : St) (x2 : Int32) (x3 : Int32) (x4 : Int32) (r : Int32 × St), rc27 σ x2 x3 x4 = some r → G k X 6 (some (.int r.1)) (cw k.2.2.2 r.2) (cw k.2.2.2 σ) [(0, .ref (k.2.2.2.1 0)), (2, .int x2), (3, .int x3), (4, .int x4)] [] 27) (σ : St) (x2 : Int32) (x3 : Int32) (x4 : Int32) (r : Int32 × St) (hf : fX8_held_b27 rc27 σ x2 x3 x4 = some r) : G k X 6 (some (.int r.1)) (cw k.2.2.2 r.2) (cw k.2.2.2 σ) [(0, .ref (k.2.2.2.1 0)), (2, .int x2), (3, .int x3), (4, .int x4)] [] 27 := by
  unfold fX8_held_b27 at hf
  refine g_iload E 3 dX8_held_27 rfl ?_
  refine g_aload_n E 0 dX8_held_29 rfl rfl ?_
  refine g_get (C := RX8) (T := TX8) (N := 7) (ci := 8) E 0 1 (.ref (k.2.2.2.1 2)) hi_X8_held_X8 (cwG0 _ _) rfl (by decide) hk_X8_held_19 rfl dX8_held_30 ?_
  refine g_get (C := RX4) (T := TX4) (N := 6) (ci := 4) E 2 5 (.int (σ.2.1 1)) hi_X8_held_X4 (cwG2 _ _) rfl (by decide) hk_X8_held_192 rfl dX8_held_33 ?_
  refine g_icmp_ge (tgt := 84) E dX8_held_36 (by decide) (fun c1 => ?_) (fun c1 => ?_)
  · have hf := gp hf c1
    refine g_iload_n E 2 dX8_held_84 rfl rfl ?_
    have hf := Option.some.inj hf
    subst hf
    exact g_iret E dX8_held_85
  · have hf := gn hf c1
    refine g_iload E 3 dX8_held_39 rfl ?_
    refine g_iconst (v := (1 : Int32)) E dX8_held_41 (by decide) ?_
    refine g_iadd E dX8_held_42 ?_
    refine g_istore E [(5, .int (x4 + (1 : Int32))), (0, .ref (k.2.2.2.1 0)), (2, .int x2), (3, .int x3), (4, .int x4)] dX8_held_43 (by decide) rfl ?_
    exact g_sub [1, 2, 3, 4, 0] rfl (fX8_held_v45 E rc27 hrc27 gF σ x2 x3 x4 (x4 + (1 : Int32)) r hf)
theorem fX8_held_v27 {k : gK} {X : gX} (E : gE k X cX8_held RX8 wsX8_held 6 (some .int) rm_fX8_held) : ∀ (n : Nat) (σ : St) (x2 : Int32) (x3 : Int32) (x4 : Int32) (r : Int32 × St), fX8_held_l27 n σ x2 x3 x4 = some r → G k X 6 (some (.int r.1)) (cw k.2.2.2 r.2) (cw k.2.2.2 σ) [(0, .ref (k.2.2.2.1 0)), (2, .int x2), (3, .int x3), (4, .int x4)] [] 27 := by
  intro n
  induction n with
  | zero => intro σ x2 x3 x4 r hf; cases hf
  | succ n ih => intro σ x2 x3 x4 r hf; exact fX8_held_w27 E (fX8_held_l27 n) ih σ x2 x3 x4 r hf
set_option maxHeartbeats 4000000 in
set_option maxRecDepth 100000 in
theorem fX8_held_w21 {k : gK} {X : gX} (E : gE k X cX8_held RX8 wsX8_held 6 (some .int) rm_fX8_held) (σ : St) (t0 : Int32) (r : Int32 × St) (hf : fX8_held_b21 σ t0 = some r) : G k X 6 (some (.int r.1)) (cw k.2.2.2 r.2) (cw k.2.2.2 σ) [(0, .ref (k.2.2.2.1 0))] [.int t0] 21 := by
  unfold fX8_held_b21 at hf
  refine g_istore_n E [(2, .int t0), (0, .ref (k.2.2.2.1 0))] dX8_held_21 rfl (by decide) rfl ?_
  refine g_iconst (v := (0 : Int32)) E dX8_held_22 (by decide) ?_
  refine g_istore_n E [(3, .int (0 : Int32)), (2, .int t0), (0, .ref (k.2.2.2.1 0))] dX8_held_23 rfl (by decide) rfl ?_
  refine g_iconst (v := (0 : Int32)) E dX8_held_24 (by decide) ?_
  refine g_istore E [(4, .int (0 : Int32)), (3, .int (0 : Int32)), (2, .int t0), (0, .ref (k.2.2.2.1 0))] dX8_held_25 (by decide) rfl ?_
  exact g_sub [3, 2, 1, 0] rfl (fX8_held_v27 E gF σ t0 (0 : Int32) (0 : Int32) r hf)
set_option maxHeartbeats 4000000 in
set_option maxRecDepth 100000 in
theorem fX8_held_c (k : gK) (σ : St) (x1 : Int32) (r : Int32 × St) (hf : fX8_held σ x1 = some r) : MC k yX8_held wsX8_held rm_fX8_held [.ref (k.2.2.2.1 0), .int x1] (cw k.2.2.2 σ) (some (.int r.1)) (cw k.2.2.2 r.2) := by
  refine MC_of (cc := cX8_held) (maxL := 6) (ret := (some .int)) (own := RX8) (lvs := [(0, .ref (k.2.2.2.1 0)), (1, .int x1)]) (by decide) rfl rfl (Nat.le_of_ble_eq_true rfl) rfl (fun X E => ?_)
  unfold fX8_held at hf
  refine g_iload_n E 1 dX8_held_0 rfl rfl ?_
  refine g_iconst (v := (0 : Int32)) E dX8_held_1 (by decide) ?_
  refine g_iconst (v := (1 : Int32)) E dX8_held_2 (by decide) ?_
  obtain ⟨q1, hq2, hf⟩ := gb hf
  refine g_callS (As := [.int x1, .int (0 : Int32), .int (1 : Int32)]) (rest := []) (n := 3) E (fX8_within_c k σ x1 (0 : Int32) (1 : Int32) q1 hq2) gX8_held_X8_within rfl rfl rfl (by decide +kernel) ⟨Nat.le_of_ble_eq_true rfl, Nat.le_of_ble_eq_true rfl⟩ rfl rfl (Nat.le_of_ble_eq_true rfl) dX8_held_3 ?_
  refine g_if_ne (tgt := 12) E dX8_held_6 (by decide) (fun c3 => ?_) (fun c3 => ?_)
  · have hf := gn hf c3
    refine g_iload_n E 1 dX8_held_12 rfl rfl ?_
    refine g_if_ne (tgt := 20) E dX8_held_13 (by decide) (fun c4 => ?_) (fun c4 => ?_)
    · have hf := gn hf c4
      refine g_iconst (v := (-1 : Int32)) E dX8_held_20 (by decide) ?_
      exact g_sub [0] rfl (fX8_held_w21 E q1.2 (-1 : Int32) r hf)
    · have hf := gp hf c4
      refine g_iconst (v := (1 : Int32)) E dX8_held_16 (by decide) ?_
      refine g_goto (tgt := 21) E dX8_held_17 (by decide) ?_
      exact g_sub [0] rfl (fX8_held_w21 E q1.2 (1 : Int32) r hf)
  · have hf := gp hf c3
    refine g_bipush (v := (-2 : Int32)) E dX8_held_9 (by decide) ?_
    have hf := Option.some.inj hf
    subst hf
    exact g_iret E dX8_held_11
def rm_fX1_countAll : Room := { frames := 4, cells := 0, slots := 0, locals := 88 }
set_option maxHeartbeats 4000000 in
set_option maxRecDepth 100000 in
theorem fX1_countAll_w4 {k : gK} {X : gX} (E : gE k X cX1_countAll RX1 wsX1_countAll 3 (some .int) rm_fX1_countAll) (rc4 : St → Int32 → Int32 → Option (Int32 × St)) (hrc4 : ∀ (σ : St) (x1 : Int32) (x2 : Int32) (r : Int32 × St), rc4 σ x1 x2 = some r → G k X 3 (some (.int r.1)) (cw k.2.2.2 r.2) (cw k.2.2.2 σ) [(0, .ref (k.2.2.2.1 3)), (1, .int x1), (2, .int x2)] [] 4) (σ : St) (x1 : Int32) (x2 : Int32) (r : Int32 × St) (hf : fX1_countAll_b4 rc4 σ x1 x2 = some r) : G k X 3 (some (.int r.1)) (cw k.2.2.2 r.2) (cw k.2.2.2 σ) [(0, .ref (k.2.2.2.1 3)), (1, .int x1), (2, .int x2)] [] 4 := by
  unfold fX1_countAll_b4 at hf
  refine g_iload_n E 2 dX1_countAll_4 rfl rfl ?_
  refine g_bipush (v := (6 : Int32)) E dX1_countAll_5 (by decide) ?_
  refine g_icmp_ge (tgt := 24) E dX1_countAll_7 (by decide) (fun c1 => ?_) (fun c1 => ?_)
  · have hf := gp hf c1
    refine g_iload_n E 1 dX1_countAll_24 rfl rfl ?_
    have hf := Option.some.inj hf
    subst hf
    exact g_iret E dX1_countAll_25
  · have hf := gn hf c1
    refine g_iload_n E 1 dX1_countAll_10 rfl rfl ?_
    refine g_aload_n E 0 dX1_countAll_11 rfl rfl ?_
    refine g_iload_n E 2 dX1_countAll_12 rfl rfl ?_
    obtain ⟨q2, hq3, hf⟩ := gb hf
    refine g_callV (C := RX1) (T := TX1) (N := 2) (ci := 1) (As := [.int x2]) (rest := [.int x1]) (n := 1) E 3 (fX1_countOf_c k σ x2 q2 hq3) gX1_countAll_X1_countOf rfl rfl rfl (by decide +kernel) ⟨Nat.le_of_ble_eq_true rfl, Nat.le_of_ble_eq_true rfl⟩ rfl rfl (Nat.le_of_ble_eq_true rfl) rfl (cwG3 _ _) dX1_countAll_13 ?_
    refine g_iadd E dX1_countAll_16 ?_
    refine g_istore_n E [(1, .int (x1 + q2.1)), (0, .ref (k.2.2.2.1 3)), (2, .int x2)] dX1_countAll_17 rfl (by decide) rfl ?_
    refine g_iinc E 2 [(2, .int (x2 + (1 : Int32))), (1, .int (x1 + q2.1)), (0, .ref (k.2.2.2.1 3))] (x2 + (1 : Int32)) dX1_countAll_18 rfl (by rfl) (by decide) rfl ?_
    refine g_goto (tgt := 4) E dX1_countAll_21 (by decide) ?_
    exact g_sub [2, 1, 0] rfl (hrc4 q2.2 (x1 + q2.1) (x2 + (1 : Int32)) r hf)
theorem fX1_countAll_v4 {k : gK} {X : gX} (E : gE k X cX1_countAll RX1 wsX1_countAll 3 (some .int) rm_fX1_countAll) : ∀ (n : Nat) (σ : St) (x1 : Int32) (x2 : Int32) (r : Int32 × St), fX1_countAll_l4 n σ x1 x2 = some r → G k X 3 (some (.int r.1)) (cw k.2.2.2 r.2) (cw k.2.2.2 σ) [(0, .ref (k.2.2.2.1 3)), (1, .int x1), (2, .int x2)] [] 4 := by
  intro n
  induction n with
  | zero => intro σ x1 x2 r hf; cases hf
  | succ n ih => intro σ x1 x2 r hf; exact fX1_countAll_w4 E (fX1_countAll_l4 n) ih σ x1 x2 r hf
set_option maxHeartbeats 4000000 in
set_option maxRecDepth 100000 in
theorem fX1_countAll_c (k : gK) (σ : St) (r : Int32 × St) (hf : fX1_countAll σ = some r) : MC k yX1_countAll wsX1_countAll rm_fX1_countAll [.ref (k.2.2.2.1 3)] (cw k.2.2.2 σ) (some (.int r.1)) (cw k.2.2.2 r.2) := by
  refine MC_of (cc := cX1_countAll) (maxL := 3) (ret := (some .int)) (own := RX1) (lvs := [(0, .ref (k.2.2.2.1 3))]) (by decide) rfl rfl (Nat.le_of_ble_eq_true rfl) rfl (fun X E => ?_)
  unfold fX1_countAll at hf
  refine g_iconst (v := (0 : Int32)) E dX1_countAll_0 (by decide) ?_
  refine g_istore_n E [(1, .int (0 : Int32)), (0, .ref (k.2.2.2.1 3))] dX1_countAll_1 rfl (by decide) rfl ?_
  refine g_iconst (v := (0 : Int32)) E dX1_countAll_2 (by decide) ?_
  refine g_istore_n E [(2, .int (0 : Int32)), (1, .int (0 : Int32)), (0, .ref (k.2.2.2.1 3))] dX1_countAll_3 rfl (by decide) rfl ?_
  exact g_sub [2, 1, 0] rfl (fX1_countAll_v4 E gF σ (0 : Int32) (0 : Int32) r hf)
theorem hi_X8_told_X8 : ∀ w ∈ wsX80, w ∈ wsX8_told := by decide +kernel
theorem hi_X8_told_X0 : ∀ w ∈ wsX00, w ∈ wsX8_told := by decide +kernel
theorem hi_X8_told_X4 : ∀ w ∈ wsX40, w ∈ wsX8_told := by decide +kernel
theorem hi_X8_told_X6 : ∀ w ∈ wsX60, w ∈ wsX8_told := by decide +kernel
theorem hi_X8_told_X5 : ∀ w ∈ wsX50, w ∈ wsX8_told := by decide +kernel
theorem hk_X8_told_10 : Cond.fieldLink RX8 10 "PaperMarks" "judges" "LPaperMarks$Judges;" ∈ wsX8_told := by decide +kernel
theorem hk_X8_told_191 : Cond.fieldLink RX8 191 "PaperMarks$Judges" "count" "I" ∈ wsX8_told := by decide +kernel
theorem hk_X8_told_19 : Cond.fieldLink RX8 19 "PaperMarks" "papers" "LPaperMarks$Papers;" ∈ wsX8_told := by decide +kernel
theorem hk_X8_told_192 : Cond.fieldLink RX8 192 "PaperMarks$Papers" "count" "I" ∈ wsX8_told := by decide +kernel
theorem hk_X8_told_33 : Cond.fieldLink RX8 33 "PaperMarks" "signs" "LPaperMarks$Signs;" ∈ wsX8_told := by decide +kernel
theorem hk_X8_told_222 : Cond.fieldLink RX8 222 "PaperMarks$Signs" "count" "I" ∈ wsX8_told := by decide +kernel
theorem hk_X8_told_40 : Cond.fieldLink RX8 40 "PaperMarks" "rule" "LPaperMarks$Rule;" ∈ wsX8_told := by decide +kernel
theorem hk_X8_told_122 : Cond.fieldLink RX8 122 "PaperMarks$Rule" "count" "I" ∈ wsX8_told := by decide +kernel
theorem hk_X8_told_26 : Cond.fieldLink RX8 26 "PaperMarks" "marks" "LPaperMarks$Marks;" ∈ wsX8_told := by decide +kernel
def rm_fX8_told : Room := { frames := 5, cells := 0, slots := 0, locals := 110 }
set_option maxHeartbeats 4000000 in
set_option maxRecDepth 100000 in
theorem fX8_told_c (k : gK) (σ : St) (x1 : Int32) (r : Int32 × St) (hf : fX8_told σ x1 = some r) : MC k yX8_told wsX8_told rm_fX8_told [.ref (k.2.2.2.1 0), .int x1] (cw k.2.2.2 σ) (some (.int r.1)) (cw k.2.2.2 r.2) := by
  refine MC_of (cc := cX8_told) (maxL := 2) (ret := (some .int)) (own := RX8) (lvs := [(0, .ref (k.2.2.2.1 0)), (1, .int x1)]) (by decide) rfl rfl (Nat.le_of_ble_eq_true rfl) rfl (fun X E => ?_)
  unfold fX8_told at hf
  refine g_iload_n E 1 dX8_told_0 rfl rfl ?_
  by_cases c1 : x1 = (0 : Int32)
  · have hf := gp hf c1
    refine g_tabIn (tgt := 36) (off := 35) E (0 : Int32) c1 dX8_told_1 (by decide) (by decide) (by decide) (by decide) ?_
    refine g_aload_n E 0 dX8_told_36 rfl rfl ?_
    refine g_get (C := RX8) (T := TX8) (N := 7) (ci := 8) E 0 0 (.ref (k.2.2.2.1 1)) hi_X8_told_X8 (cwG0 _ _) rfl (by decide) hk_X8_told_10 rfl dX8_told_37 ?_
    refine g_get (C := RX0) (T := TX0) (N := 5) (ci := 0) E 1 4 (.int (σ.2.1 0)) hi_X8_told_X0 (cwG1 _ _) rfl (by decide) hk_X8_told_191 rfl dX8_told_40 ?_
    have hf := Option.some.inj hf
    subst hf
    exact g_iret E dX8_told_43
  · have hf := gn hf c1
    by_cases c2 : x1 = (1 : Int32)
    · have hf := gp hf c2
      refine g_tabIn (tgt := 44) (off := 43) E (1 : Int32) c2 dX8_told_1 (by decide) (by decide) (by decide) (by decide) ?_
      refine g_aload_n E 0 dX8_told_44 rfl rfl ?_
      refine g_get (C := RX8) (T := TX8) (N := 7) (ci := 8) E 0 1 (.ref (k.2.2.2.1 2)) hi_X8_told_X8 (cwG0 _ _) rfl (by decide) hk_X8_told_19 rfl dX8_told_45 ?_
      refine g_get (C := RX4) (T := TX4) (N := 6) (ci := 4) E 2 5 (.int (σ.2.1 1)) hi_X8_told_X4 (cwG2 _ _) rfl (by decide) hk_X8_told_192 rfl dX8_told_48 ?_
      have hf := Option.some.inj hf
      subst hf
      exact g_iret E dX8_told_51
    · have hf := gn hf c2
      by_cases c3 : x1 = (2 : Int32)
      · have hf := gp hf c3
        refine g_tabIn (tgt := 52) (off := 51) E (2 : Int32) c3 dX8_told_1 (by decide) (by decide) (by decide) (by decide) ?_
        refine g_aload_n E 0 dX8_told_52 rfl rfl ?_
        refine g_get (C := RX8) (T := TX8) (N := 7) (ci := 8) E 0 3 (.ref (k.2.2.2.1 4)) hi_X8_told_X8 (cwG0 _ _) rfl (by decide) hk_X8_told_33 rfl dX8_told_53 ?_
        refine g_get (C := RX6) (T := TX6) (N := 2) (ci := 6) E 4 1 (.int (σ.2.1 2)) hi_X8_told_X6 (cwG4 _ _) rfl (by decide) hk_X8_told_222 rfl dX8_told_56 ?_
        have hf := Option.some.inj hf
        subst hf
        exact g_iret E dX8_told_59
      · have hf := gn hf c3
        by_cases c4 : x1 = (3 : Int32)
        · have hf := gp hf c4
          refine g_tabIn (tgt := 60) (off := 59) E (3 : Int32) c4 dX8_told_1 (by decide) (by decide) (by decide) (by decide) ?_
          refine g_aload_n E 0 dX8_told_60 rfl rfl ?_
          refine g_get (C := RX8) (T := TX8) (N := 7) (ci := 8) E 0 4 (.ref (k.2.2.2.1 5)) hi_X8_told_X8 (cwG0 _ _) rfl (by decide) hk_X8_told_40 rfl dX8_told_61 ?_
          refine g_get (C := RX5) (T := TX5) (N := 4) (ci := 5) E 5 3 (.int (σ.2.1 3)) hi_X8_told_X5 (cwG5 _ _) rfl (by decide) hk_X8_told_122 rfl dX8_told_64 ?_
          have hf := Option.some.inj hf
          subst hf
          exact g_iret E dX8_told_67
        · have hf := gn hf c4
          by_cases c5 : x1 = (4 : Int32)
          · have hf := gp hf c5
            refine g_tabIn (tgt := 68) (off := 67) E (4 : Int32) c5 dX8_told_1 (by decide) (by decide) (by decide) (by decide) ?_
            refine g_aload_n E 0 dX8_told_68 rfl rfl ?_
            refine g_get (C := RX8) (T := TX8) (N := 7) (ci := 8) E 0 2 (.ref (k.2.2.2.1 3)) hi_X8_told_X8 (cwG0 _ _) rfl (by decide) hk_X8_told_26 rfl dX8_told_69 ?_
            obtain ⟨q6, hq7, hf⟩ := gb hf
            refine g_callV (C := RX1) (T := TX1) (N := 2) (ci := 1) (As := []) (rest := []) (n := 0) E 3 (fX1_countAll_c k σ  q6 hq7) gX8_told_X1_countAll rfl rfl rfl (by decide +kernel) ⟨Nat.le_of_ble_eq_true rfl, Nat.le_of_ble_eq_true rfl⟩ rfl rfl (Nat.le_of_ble_eq_true rfl) rfl (cwG3 _ _) dX8_told_72 ?_
            have hf := Option.some.inj hf
            subst hf
            exact g_iret E dX8_told_75
          · have hf := gn hf c5
            have hout : (x1).toInt < 0 ∨ 4 < (x1).toInt := by
              have := lv_neT c1 (a := 0) rfl
              have := lv_neT c2 (a := 1) rfl
              have := lv_neT c3 (a := 2) rfl
              have := lv_neT c4 (a := 3) rfl
              have := lv_neT c5 (a := 4) rfl
              omega
            refine g_tabOut (tgt := 76) E dX8_told_1 hout (by decide) ?_
            refine g_bipush (v := (-2 : Int32)) E dX8_told_76 (by decide) ?_
            have hf := Option.some.inj hf
            subst hf
            exact g_iret E dX8_told_78
def rm_fX9_at : Room := { frames := 0, cells := 0, slots := 0, locals := 0 }
set_option maxHeartbeats 4000000 in
set_option maxRecDepth 100000 in
theorem fX9_at_c (k : gK) (σ : St) (x0 : Int32) (x1 : Int32) (r : Int32 × St) (hf : fX9_at σ x0 x1 = some r) : MC k yX9_at wsX9_at rm_fX9_at [.int x0, .int x1] (mw k.2.2.2 σ) (some (.int r.1)) (mw k.2.2.2 r.2) := by
  refine MC_of (cc := cX9_at) (maxL := 2) (ret := (some .int)) (own := RX9) (lvs := [(0, .int x0), (1, .int x1)]) (by decide) rfl rfl (Nat.le_of_ble_eq_true rfl) rfl (fun X E => ?_)
  unfold fX9_at at hf
  refine g_bipush (v := (6 : Int32)) E dX9_at_0 (by decide) ?_
  refine g_iload_n E 0 dX9_at_2 rfl rfl ?_
  refine g_imul E dX9_at_3 ?_
  refine g_iload_n E 1 dX9_at_4 rfl rfl ?_
  refine g_iadd E dX9_at_5 ?_
  have hf := Option.some.inj hf
  subst hf
  exact g_iret E dX9_at_6
def rm_fX9_in : Room := { frames := 0, cells := 0, slots := 0, locals := 0 }
set_option maxHeartbeats 4000000 in
set_option maxRecDepth 100000 in
theorem fX9_in_c (k : gK) (σ : St) (x0 : Int64) (x2 : Int64) (x4 : Int64) (r : Int32 × St) (hf : fX9_in σ x0 x2 x4 = some r) : MC k yX9_in wsX9_in rm_fX9_in [.long x0, .long x2, .long x4] (mw k.2.2.2 σ) (some (.int r.1)) (mw k.2.2.2 r.2) := by
  refine MC_of (cc := cX9_in) (maxL := 6) (ret := (some .boolean)) (own := RX9) (lvs := [(0, .long x0), (2, .long x2), (4, .long x4)]) (by decide) rfl rfl (Nat.le_of_ble_eq_true rfl) rfl (fun X E => ?_)
  unfold fX9_in at hf
  refine g_lload_n E 0 dX9_in_0 rfl rfl ?_
  refine g_lload_n E 1 dX9_in_1 rfl rfl ?_
  refine g_lcmp E dX9_in_2 ?_
  refine g_if_lt (tgt := 17) E dX9_in_3 (by decide) (fun c1 => ?_) (fun c1 => ?_)
  · have hf := gp hf c1
    refine g_iconst (v := (0 : Int32)) E dX9_in_17 (by decide) ?_
    have hf := Option.some.inj hf
    subst hf
    exact g_zret E (Or.inl rfl) dX9_in_18
  · have hf := gn hf c1
    refine g_lload_n E 0 dX9_in_6 rfl rfl ?_
    refine g_lload E 2 dX9_in_7 rfl ?_
    refine g_lcmp E dX9_in_9 ?_
    refine g_if_gt (tgt := 17) E dX9_in_10 (by decide) (fun c2 => ?_) (fun c2 => ?_)
    · have hf := gp hf c2
      refine g_iconst (v := (0 : Int32)) E dX9_in_17 (by decide) ?_
      have hf := Option.some.inj hf
      subst hf
      exact g_zret E (Or.inl rfl) dX9_in_18
    · have hf := gn hf c2
      refine g_iconst (v := (1 : Int32)) E dX9_in_13 (by decide) ?_
      refine g_goto (tgt := 18) E dX9_in_14 (by decide) ?_
      have hf := Option.some.inj hf
      subst hf
      exact g_zret E (Or.inr rfl) dX9_in_18
