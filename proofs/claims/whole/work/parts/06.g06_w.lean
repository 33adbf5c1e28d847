theorem hi_X8_held_X8 : ∀ w ∈ wsX80, w ∈ wsX8_held := by decide +kernel
theorem hi_X8_held_X4 : ∀ w ∈ wsX40, w ∈ wsX8_held := by decide +kernel
theorem hk_X8_held_19 : Cond.fieldLink RX8 19 "PaperMarks" "papers" "LPaperMarks$Papers;" ∈ wsX8_held := by decide +kernel
theorem hk_X8_held_192 : Cond.fieldLink RX8 192 "PaperMarks$Papers" "count" "I" ∈ wsX8_held := by decide +kernel
def rm_fX8_held : Room := { frames := 5, cells := 0, slots := 0, locals := 115 }
set_option maxHeartbeats 4000000 in
set_option maxRecDepth 100000 in
theorem fX8_held_w72 {k : gK} {X : gX} (E : gE k X cX8_held RX8 wsX8_held 6 (some .int) rm_fX8_held) (rc27 : St → Int32 → Int32 → Int32 → Option (Int32 × St)) (hrc27 : ∀ (σ : St) (x2 : Int32) (x3 : Int32) (x4 : Int32) (r : Int32 × St), rc27 σ x2 x3 x4 = some r → G k X 6 (some (.int r.1)) (cw k.2.2.2 r.2) (cw k.2.2.2 σ) [(0, .ref (k.2.2.2.1 0)), (2, .int x2), (3, .int x3), (4, .int x4)] [] 27) (rc45 : St → Int32 → Int32 → Int32 → Int32 → Option (Int32 × St)) (hrc45 : ∀ (σ : St) (x2 : Int32) (x3 : Int32) (x4 : Int32) (x5 : Int32) (r : Int32 × St), rc45 σ x2 x3 x4 x5 = some r → G k X 6 (some (.int r.1)) (cw k.2.2.2 r.2) (cw k.2.2.2 σ) [(0, .ref (k.2.2.2.1 0)), (2, .int x2), (3, .int x3), (4, .int x4), (5, .int x5)] [] 45) (σ : St) (x2 : Int32) (x3 : Int32) (x4 : Int32) (x5 : Int32) (r : Int32 × St) (hf : fX8_held_b72 rc27 rc45 σ x2 x3 x4 x5 = some r) : G k X 6 (some (.int r.1)) (cw k.2.2.2 r.2) (cw k.2.2.2 σ) [(0, .ref (k.2.2.2.1 0)), (2, .int x2), (3, .int x3), (4, .int x4), (5, .int x5)] [] 72 := by
  unfold fX8_held_b72 at hf
  refine g_iinc E 4 [(5, .int (x5 + (1 : Int32))), (0, .ref (k.2.2.2.1 0)), (2, .int x2), (3, .int x3), (4, .int x4)] (x5 + (1 : Int32)) dX8_held_72 rfl (by rfl) (by decide) rfl ?_
  refine g_goto (tgt := 45) E dX8_held_75 (by decide) ?_
  exact g_sub [1, 2, 3, 4, 0] rfl (hrc45 σ x2 x3 x4 (x5 + (1 : Int32)) r hf)
set_option maxHeartbeats 4000000 in
set_option maxRecDepth 100000 in
theorem fX8_held_w45 {k : gK} {X : gX} (E : gE k X cX8_held RX8 wsX8_held 6 (some .int) rm_fX8_held) (rc27 : St → Int32 → Int32 → Int32 → Option (Int32 × St)) (hrc27 : ∀ (σ : St) (x2 : Int32) (x3 : Int32) (x4 : Int32) (r : Int32 × St), rc27 σ x2 x3 x4 = some r → G k X 6 (some (.int r.1)) (cw k.2.2.2 r.2) (cw k.2.2.2 σ) [(0, .ref (k.2.2.2.1 0)), (2, .int x2), (3, .int x3), (4, .int x4)] [] 27) (rc45 : St → Int32 → Int32 → Int32 → Int32 → Option (Int32 × St)) (hrc45 : ∀ (σ : St) (x2 : Int32) (x3 : Int32) (x4 : Int32) (x5 : Int32) (r : Int32 × St), rc45 σ x2 x3 x4 x5 = some r → G k X 6 (some (.int r.1)) (cw k.2.2.2 r.2) (cw k.2.2.2 σ) [(0, .ref (k.2.2.2.1 0)), (2, .int x2), (3, .int x3), (4, .int x4), (5, .int x5)] [] 45) (σ : St) (x2 : Int32) (x3 : Int32) (x4 : Int32) (x5 : Int32) (r : Int32 × St) (hf : fX8_held_b45 rc27 rc45 σ x2 x3 x4 x5 = some r) : G k X 6 (some (.int r.1)) (cw k.2.2.2 r.2) (cw k.2.2.2 σ) [(0, .ref (k.2.2.2.1 0)), (2, .int x2), (3, .int x3), (4, .int x4), (5, .int x5)] [] 45 := by
  unfold fX8_held_b45 at hf
  refine g_iload E 4 dX8_held_45 rfl ?_
  refine g_aload_n E 0 dX8_held_47 rfl rfl ?_
  refine g_get (C := RX8) (T := TX8) (N := 7) (ci := 8) E 0 1 (.ref (k.2.2.2.1 2)) hi_X8_held_X8 (cwG0 _ _) rfl (by decide) hk_X8_held_19 rfl dX8_held_48 ?_
  refine g_get (C := RX4) (T := TX4) (N := 6) (ci := 4) E 2 5 (.int (σ.2.1 1)) hi_X8_held_X4 (cwG2 _ _) rfl (by decide) hk_X8_held_192 rfl dX8_held_51 ?_
  refine g_icmp_ge (tgt := 78) E dX8_held_54 (by decide) (fun c1 => ?_) (fun c1 => ?_)
  · have hf := gp hf c1
    refine g_iinc E 3 [(4, .int (x4 + (1 : Int32))), (0, .ref (k.2.2.2.1 0)), (2, .int x2), (3, .int x3), (5, .int x5)] (x4 + (1 : Int32)) dX8_held_78 rfl (by rfl) (by decide) rfl ?_
    refine g_goto (tgt := 27) E dX8_held_81 (by decide) ?_
    exact g_sub [1, 2, 3, 0] rfl (hrc27 σ x2 x3 (x4 + (1 : Int32)) r hf)
  · have hf := gn hf c1
    refine g_aload_n E 0 dX8_held_57 rfl rfl ?_
    refine g_iload E 3 dX8_held_58 rfl ?_
    refine g_iload E 4 dX8_held_60 rfl ?_
    obtain ⟨q2, hq3, hf⟩ := gb hf
    refine g_callV (C := RX8) (T := TX8) (N := 7) (ci := 8) (As := [.int x4, .int x5]) (rest := []) (n := 2) E 0 (fX8_agreement_c k σ x4 x5 q2 hq3) gX8_held_X8_agreement rfl rfl rfl (by decide +kernel) ⟨Nat.le_of_ble_eq_true rfl, Nat.le_of_ble_eq_true rfl⟩ rfl rfl (Nat.le_of_ble_eq_true rfl) rfl (cwG0 _ _) dX8_held_62 ?_
    refine g_iload_n E 1 dX8_held_65 rfl rfl ?_
    refine g_icmp_ne (tgt := 72) E dX8_held_66 (by decide) (fun c4 => ?_) (fun c4 => ?_)
    · have hf := gn hf c4
      exact fX8_held_w72 E rc27 hrc27 rc45 hrc45 q2.2 x2 x3 x4 x5 r hf
    · have hf := gp hf c4
      refine g_iinc E 2 [(3, .int (x3 + (1 : Int32))), (0, .ref (k.2.2.2.1 0)), (2, .int x2), (4, .int x4), (5, .int x5)] (x3 + (1 : Int32)) dX8_held_69 rfl (by rfl) (by decide) rfl ?_
      exact g_sub [1, 2, 0, 3, 4] rfl (fX8_held_w72 E rc27 hrc27 rc45 hrc45 q2.2 x2 (x3 + (1 : Int32)) x4 x5 r hf)
theorem fX8_held_v45 {k : gK} {X : gX} (E : gE k X cX8_held RX8 wsX8_held 6 (some .int) rm_fX8_held) (rc27 : St → Int32 → Int32 → Int32 → Option (Int32 × St)) (hrc27 : ∀ (σ : St) (x2 : Int32) (x3 : Int32) (x4 : Int32) (r : Int32 × St), rc27 σ x2 x3 x4 = some r → G k X 6 (some (.int r.1)) (cw k.2.2.2 r.2) (cw k.2.2.2 σ) [(0, .ref (k.2.2.2.1 0)), (2, .int x2), (3, .int x3), (4, .int x4)] [] 27) : ∀ (n : Nat) (σ : St) (x2 : Int32) (x3 : Int32) (x4 : Int32) (x5 : Int32) (r : Int32 × St), fX8_held_l45 rc27 n σ x2 x3 x4 x5 = some r → G k X 6 (some (.int r.1)) (cw k.2.2.2 r.2) (cw k.2.2.2 σ) [(0, .ref (k.2.2.2.1 0)), (2, .int x2), (3, .int x3), (4, .int x4), (5, .int x5)] [] 45 := by
  intro n
  induction n with
  | zero => intro σ x2 x3 x4 x5 r hf; cases hf
  | succ n ih => intro σ x2 x3 x4 x5 r hf; exact fX8_held_w45 E rc27 hrc27 (fX8_held_l45 rc27 n) ih σ x2 x3 x4 x5 r hf
set_option maxHeartbeats 4000000 in
set_option maxRecDepth 100000 in
theorem fX8_held_w27 {k : gK} {X : gX} (E : gE k X cX8_held RX8 wsX8_held 6 (some .int) rm_fX8_held) (rc27 : St → Int32 → Int32 → Int32 → Option (Int32 × St)) (hrc27 : ∀ (σ : St) (x2 : Int32) (x3 : Int32) (x4 : Int32) (r : Int32 × St), rc27 σ x2 x3 x4 = some r → G k X 6 (some (.int r.1)) (cw k.2.2.2 r.2) (cw k.2.2.2 σ) [(0, .ref (k.2.2.2.1 0)), (2, .int x2), (3, .int x3), (4, .int x4)] [] 27) (σ : St) (x2 : Int32) (x3 : Int32) (x4 : Int32) (r : Int32 × St) (hf : fX8_held_b27 rc27 σ x2 x3 x4 = some r) : G k X 6 (some (.int r.1)) (cw k.2.2.2 r.2) (cw k.2.2.2 σ) [(0, .ref (k.2.2.2.1 0)), (2, .int x2), (3, .int x3), (4, .int x4)] [] 27 := by
  unfold fX8_held_b27 at hf
  refine g_iload E 3 dX8_held_27 rfl ?_
  refine g_aload_n E 0 dX8_held_29 rfl rfl ?_
  refine g_get (C := RX8) (T := TX8) (N := 7) (ci := 8) E 0 1 (.ref (k.2.2.2.1 2)) hi_X8_held_X8 (cwG0 _ _) rfl (by decide) hk_X8_held_19 rfl dX8_held_30 ?_
  refine g_get (C := RX4) (T := TX4) (N := 6) (ci := 4) E 2 5 (.int (σ.2.1 1)) hi_X8_held_X4 (cwG2 _ _) rfl (by decide) hk_X8_held_192 rfl dX8_held_33 ?_
  refine g_icmp_ge (tgt := 84) E dX8_held_36 (by decide) (fun c1 => ?_) (fun c1 => ?_)
  · have hf := gp hf c1
    refine g_iload_n E 2 dX8_held_84 rfl rfl ?_
    cases hf
    exact g_iret E dX8_held_85
  · have hf := gn hf c1
    refine g_iload E 3 dX8_held_39 rfl ?_
    refine g_iconst (v := (1 : Int32)) E dX8_held_41 (by decide) ?_
    refine g_iadd E dX8_held_42 ?_
    refine g_istore E [(5, .int (x4 + (1 : Int32))), (0, .ref (k.2.2.2.1 0)), (2, .int x2), (3, .int x3), (4, .int x4)] dX8_held_43 (by decide) rfl ?_
    exact g_sub [1, 2, 3, 4, 0] rfl (fX8_held_v45 E rc27 hrc27 gF σ x2 x3 x4 (x4 + (1 : Int32)) r hf)
theorem fX8_held_v27 {k : gK} {X : gX} (E : gE k X cX8_held RX8 wsX8_held 6 (some .int) rm_fX8_held) : ∀ (n : Nat) (σ : St) (x2 : Int32) (x3 : Int32) (x4 : Int32) (r : Int32 × St), fX8_held_l27 n σ x2 x3 x4 = some r → G k X 6 (some (.int r.1)) (cw k.2.2.2 r.2) (cw k.2.2.2 σ) [(0, .ref (k.2.2.2.1 0)), (2, .int x2), (3, .int x3), (4, .int x4)] [] 27 := by
  intro n
  induction n with
  | zero => intro σ x2 x3 x4 r hf; cases hf
  | succ n ih => intro σ x2 x3 x4 r hf; exact fX8_held_w27 E (fX8_held_l27 n) ih σ x2 x3 x4 r hf
set_option maxHeartbeats 4000000 in
set_option maxRecDepth 100000 in
theorem fX8_held_w21 {k : gK} {X : gX} (E : gE k X cX8_held RX8 wsX8_held 6 (some .int) rm_fX8_held) (σ : St) (t0 : Int32) (r : Int32 × St) (hf : fX8_held_b21 σ t0 = some r) : G k X 6 (some (.int r.1)) (cw k.2.2.2 r.2) (cw k.2.2.2 σ) [(0, .ref (k.2.2.2.1 0))] [.int t0] 21 := by
  unfold fX8_held_b21 at hf
  refine g_istore_n E [(2, .int t0), (0, .ref (k.2.2.2.1 0))] dX8_held_21 rfl (by decide) rfl ?_
  refine g_iconst (v := (0 : Int32)) E dX8_held_22 (by decide) ?_
  refine g_istore_n E [(3, .int (0 : Int32)), (2, .int t0), (0, .ref (k.2.2.2.1 0))] dX8_held_23 rfl (by decide) rfl ?_
  refine g_iconst (v := (0 : Int32)) E dX8_held_24 (by decide) ?_
  refine g_istore E [(4, .int (0 : Int32)), (3, .int (0 : Int32)), (2, .int t0), (0, .ref (k.2.2.2.1 0))] dX8_held_25 (by decide) rfl ?_
  exact g_sub [3, 2, 1, 0] rfl (fX8_held_v27 E gF σ t0 (0 : Int32) (0 : Int32) r hf)
set_option maxHeartbeats 4000000 in
set_option maxRecDepth 100000 in
theorem fX8_held_c (k : gK) (σ : St) (x1 : Int32) (r : Int32 × St) (hf : fX8_held σ x1 = some r) : MC k yX8_held wsX8_held rm_fX8_held [.ref (k.2.2.2.1 0), .int x1] (cw k.2.2.2 σ) (some (.int r.1)) (cw k.2.2.2 r.2) := by
  refine MC_of (cc := cX8_held) (maxL := 6) (ret := (some .int)) (own := RX8) (lvs := [(0, .ref (k.2.2.2.1 0)), (1, .int x1)]) (by decide) rfl rfl (Nat.le_of_ble_eq_true rfl) rfl (fun X E => ?_)
  unfold fX8_held at hf
  refine g_iload_n E 1 dX8_held_0 rfl rfl ?_
  refine g_iconst (v := (0 : Int32)) E dX8_held_1 (by decide) ?_
  refine g_iconst (v := (1 : Int32)) E dX8_held_2 (by decide) ?_
  obtain ⟨q1, hq2, hf⟩ := gb hf
  refine g_callS (As := [.int x1, .int (0 : Int32), .int (1 : Int32)]) (rest := []) (n := 3) E (fX8_within_c k σ x1 (0 : Int32) (1 : Int32) q1 hq2) gX8_held_X8_within rfl rfl rfl (by decide +kernel) ⟨Nat.le_of_ble_eq_true rfl, Nat.le_of_ble_eq_true rfl⟩ rfl rfl (Nat.le_of_ble_eq_true rfl) dX8_held_3 ?_
  refine g_if_ne (tgt := 12) E dX8_held_6 (by decide) (fun c3 => ?_) (fun c3 => ?_)
  · have hf := gn hf c3
    refine g_iload_n E 1 dX8_held_12 rfl rfl ?_
    refine g_if_ne (tgt := 20) E dX8_held_13 (by decide) (fun c4 => ?_) (fun c4 => ?_)
    · have hf := gn hf c4
      refine g_iconst (v := (-1 : Int32)) E dX8_held_20 (by decide) ?_
      exact g_sub [0] rfl (fX8_held_w21 E q1.2 (-1 : Int32) r hf)
    · have hf := gp hf c4
      refine g_iconst (v := (1 : Int32)) E dX8_held_16 (by decide) ?_
      refine g_goto (tgt := 21) E dX8_held_17 (by decide) ?_
      exact g_sub [0] rfl (fX8_held_w21 E q1.2 (1 : Int32) r hf)
  · have hf := gp hf c3
    refine g_bipush (v := (-2 : Int32)) E dX8_held_9 (by decide) ?_
    cases hf
    exact g_iret E dX8_held_11
def rm_fX1_countAll : Room := { frames := 4, cells := 0, slots := 0, locals := 88 }
set_option maxHeartbeats 4000000 in
set_option maxRecDepth 100000 in
theorem fX1_countAll_w4 {k : gK} {X : gX} (E : gE k X cX1_countAll RX1 wsX1_countAll 3 (some .int) rm_fX1_countAll) (rc4 : St → Int32 → Int32 → Option (Int32 × St)) (hrc4 : ∀ (σ : St) (x1 : Int32) (x2 : Int32) (r : Int32 × St), rc4 σ x1 x2 = some r → G k X 3 (some (.int r.1)) (cw k.2.2.2 r.2) (cw k.2.2.2 σ) [(0, .ref (k.2.2.2.1 3)), (1, .int x1), (2, .int x2)] [] 4) (σ : St) (x1 : Int32) (x2 : Int32) (r : Int32 × St) (hf : fX1_countAll_b4 rc4 σ x1 x2 = some r) : G k X 3 (some (.int r.1)) (cw k.2.2.2 r.2) (cw k.2.2.2 σ) [(0, .ref (k.2.2.2.1 3)), (1, .int x1), (2, .int x2)] [] 4 := by
  unfold fX1_countAll_b4 at hf
  refine g_iload_n E 2 dX1_countAll_4 rfl rfl ?_
  refine g_bipush (v := (6 : Int32)) E dX1_countAll_5 (by decide) ?_
  refine g_icmp_ge (tgt := 24) E dX1_countAll_7 (by decide) (fun c1 => ?_) (fun c1 => ?_)
  · have hf := gp hf c1
    refine g_iload_n E 1 dX1_countAll_24 rfl rfl ?_
    cases hf
    exact g_iret E dX1_countAll_25
  · have hf := gn hf c1
    refine g_iload_n E 1 dX1_countAll_10 rfl rfl ?_
    refine g_aload_n E 0 dX1_countAll_11 rfl rfl ?_
    refine g_iload_n E 2 dX1_countAll_12 rfl rfl ?_
    obtain ⟨q2, hq3, hf⟩ := gb hf
    refine g_callV (C := RX1) (T := TX1) (N := 2) (ci := 1) (As := [.int x2]) (rest := [.int x1]) (n := 1) E 3 (fX1_countOf_c k σ x2 q2 hq3) gX1_countAll_X1_countOf rfl rfl rfl (by decide +kernel) ⟨Nat.le_of_ble_eq_true rfl, Nat.le_of_ble_eq_true rfl⟩ rfl rfl (Nat.le_of_ble_eq_true rfl) rfl (cwG3 _ _) dX1_countAll_13 ?_
    refine g_iadd E dX1_countAll_16 ?_
    refine g_istore_n E [(1, .int (x1 + q2.1)), (0, .ref (k.2.2.2.1 3)), (2, .int x2)] dX1_countAll_17 rfl (by decide) rfl ?_
    refine g_iinc E 2 [(2, .int (x2 + (1 : Int32))), (1, .int (x1 + q2.1)), (0, .ref (k.2.2.2.1 3))] (x2 + (1 : Int32)) dX1_countAll_18 rfl (by rfl) (by decide) rfl ?_
    refine g_goto (tgt := 4) E dX1_countAll_21 (by decide) ?_
    exact g_sub [2, 1, 0] rfl (hrc4 q2.2 (x1 + q2.1) (x2 + (1 : Int32)) r hf)
theorem fX1_countAll_v4 {k : gK} {X : gX} (E : gE k X cX1_countAll RX1 wsX1_countAll 3 (some .int) rm_fX1_countAll) : ∀ (n : Nat) (σ : St) (x1 : Int32) (x2 : Int32) (r : Int32 × St), fX1_countAll_l4 n σ x1 x2 = some r → G k X 3 (some (.int r.1)) (cw k.2.2.2 r.2) (cw k.2.2.2 σ) [(0, .ref (k.2.2.2.1 3)), (1, .int x1), (2, .int x2)] [] 4 := by
  intro n
  induction n with
  | zero => intro σ x1 x2 r hf; cases hf
  | succ n ih => intro σ x1 x2 r hf; exact fX1_countAll_w4 E (fX1_countAll_l4 n) ih σ x1 x2 r hf
set_option maxHeartbeats 4000000 in
set_option maxRecDepth 100000 in
theorem fX1_countAll_c (k : gK) (σ : St) (r : Int32 × St) (hf : fX1_countAll σ = some r) : MC k yX1_countAll wsX1_countAll rm_fX1_countAll [.ref (k.2.2.2.1 3)] (cw k.2.2.2 σ) (some (.int r.1)) (cw k.2.2.2 r.2) := by
  refine MC_of (cc := cX1_countAll) (maxL := 3) (ret := (some .int)) (own := RX1) (lvs := [(0, .ref (k.2.2.2.1 3))]) (by decide) rfl rfl (Nat.le_of_ble_eq_true rfl) rfl (fun X E => ?_)
  unfold fX1_countAll at hf
  refine g_iconst (v := (0 : Int32)) E dX1_countAll_0 (by decide) ?_
  refine g_istore_n E [(1, .int (0 : Int32)), (0, .ref (k.2.2.2.1 3))] dX1_countAll_1 rfl (by decide) rfl ?_
  refine g_iconst (v := (0 : Int32)) E dX1_countAll_2 (by decide) ?_
  refine g_istore_n E [(2, .int (0 : Int32)), (1, .int (0 : Int32)), (0, .ref (k.2.2.2.1 3))] dX1_countAll_3 rfl (by decide) rfl ?_
  exact g_sub [2, 1, 0] rfl (fX1_countAll_v4 E gF σ (0 : Int32) (0 : Int32) r hf)
theorem hi_X8_told_X8 : ∀ w ∈ wsX80, w ∈ wsX8_told := by decide +kernel
theorem hi_X8_told_X0 : ∀ w ∈ wsX00, w ∈ wsX8_told := by decide +kernel
theorem hi_X8_told_X4 : ∀ w ∈ wsX40, w ∈ wsX8_told := by decide +kernel
theorem hi_X8_told_X6 : ∀ w ∈ wsX60, w ∈ wsX8_told := by decide +kernel
theorem hi_X8_told_X5 : ∀ w ∈ wsX50, w ∈ wsX8_told := by decide +kernel
theorem hk_X8_told_10 : Cond.fieldLink RX8 10 "PaperMarks" "judges" "LPaperMarks$Judges;" ∈ wsX8_told := by decide +kernel
theorem hk_X8_told_191 : Cond.fieldLink RX8 191 "PaperMarks$Judges" "count" "I" ∈ wsX8_told := by decide +kernel
theorem hk_X8_told_19 : Cond.fieldLink RX8 19 "PaperMarks" "papers" "LPaperMarks$Papers;" ∈ wsX8_told := by decide +kernel
theorem hk_X8_told_192 : Cond.fieldLink RX8 192 "PaperMarks$Papers" "count" "I" ∈ wsX8_told := by decide +kernel
theorem hk_X8_told_33 : Cond.fieldLink RX8 33 "PaperMarks" "signs" "LPaperMarks$Signs;" ∈ wsX8_told := by decide +kernel
theorem hk_X8_told_222 : Cond.fieldLink RX8 222 "PaperMarks$Signs" "count" "I" ∈ wsX8_told := by decide +kernel
theorem hk_X8_told_40 : Cond.fieldLink RX8 40 "PaperMarks" "rule" "LPaperMarks$Rule;" ∈ wsX8_told := by decide +kernel
theorem hk_X8_told_122 : Cond.fieldLink RX8 122 "PaperMarks$Rule" "count" "I" ∈ wsX8_told := by decide +kernel
theorem hk_X8_told_26 : Cond.fieldLink RX8 26 "PaperMarks" "marks" "LPaperMarks$Marks;" ∈ wsX8_told := by decide +kernel
def rm_fX8_told : Room := { frames := 5, cells := 0, slots := 0, locals := 110 }
set_option maxHeartbeats 4000000 in
set_option maxRecDepth 100000 in
theorem fX8_told_c (k : gK) (σ : St) (x1 : Int32) (r : Int32 × St) (hf : fX8_told σ x1 = some r) : MC k yX8_told wsX8_told rm_fX8_told [.ref (k.2.2.2.1 0), .int x1] (cw k.2.2.2 σ) (some (.int r.1)) (cw k.2.2.2 r.2) := by
  refine MC_of (cc := cX8_told) (maxL := 2) (ret := (some .int)) (own := RX8) (lvs := [(0, .ref (k.2.2.2.1 0)), (1, .int x1)]) (by decide) rfl rfl (Nat.le_of_ble_eq_true rfl) rfl (fun X E => ?_)
  unfold fX8_told at hf
  refine g_iload_n E 1 dX8_told_0 rfl rfl ?_
  by_cases c1 : x1 = (0 : Int32)
  · have hf := gp hf c1
    refine g_tabIn (tgt := 36) E (0 : Int32) c1 dX8_told_1 (by decide) (by decide) (by decide) (by decide) ?_
    refine g_aload_n E 0 dX8_told_36 rfl rfl ?_
    refine g_get (C := RX8) (T := TX8) (N := 7) (ci := 8) E 0 0 (.ref (k.2.2.2.1 1)) hi_X8_told_X8 (cwG0 _ _) rfl (by decide) hk_X8_told_10 rfl dX8_told_37 ?_
    refine g_get (C := RX0) (T := TX0) (N := 5) (ci := 0) E 1 4 (.int (σ.2.1 0)) hi_X8_told_X0 (cwG1 _ _) rfl (by decide) hk_X8_told_191 rfl dX8_told_40 ?_
    cases hf
    exact g_iret E dX8_told_43
  · have hf := gn hf c1
    by_cases c2 : x1 = (1 : Int32)
    · have hf := gp hf c2
      refine g_tabIn (tgt := 44) E (1 : Int32) c2 dX8_told_1 (by decide) (by decide) (by decide) (by decide) ?_
      refine g_aload_n E 0 dX8_told_44 rfl rfl ?_
      refine g_get (C := RX8) (T := TX8) (N := 7) (ci := 8) E 0 1 (.ref (k.2.2.2.1 2)) hi_X8_told_X8 (cwG0 _ _) rfl (by decide) hk_X8_told_19 rfl dX8_told_45 ?_
      refine g_get (C := RX4) (T := TX4) (N := 6) (ci := 4) E 2 5 (.int (σ.2.1 1)) hi_X8_told_X4 (cwG2 _ _) rfl (by decide) hk_X8_told_192 rfl dX8_told_48 ?_
      cases hf
      exact g_iret E dX8_told_51
    · have hf := gn hf c2
      by_cases c3 : x1 = (2 : Int32)
      · have hf := gp hf c3
        refine g_tabIn (tgt := 52) E (2 : Int32) c3 dX8_told_1 (by decide) (by decide) (by decide) (by decide) ?_
        refine g_aload_n E 0 dX8_told_52 rfl rfl ?_
        refine g_get (C := RX8) (T := TX8) (N := 7) (ci := 8) E 0 3 (.ref (k.2.2.2.1 4)) hi_X8_told_X8 (cwG0 _ _) rfl (by decide) hk_X8_told_33 rfl dX8_told_53 ?_
        refine g_get (C := RX6) (T := TX6) (N := 2) (ci := 6) E 4 1 (.int (σ.2.1 2)) hi_X8_told_X6 (cwG4 _ _) rfl (by decide) hk_X8_told_222 rfl dX8_told_56 ?_
        cases hf
        exact g_iret E dX8_told_59
      · have hf := gn hf c3
        by_cases c4 : x1 = (3 : Int32)
        · have hf := gp hf c4
          refine g_tabIn (tgt := 60) E (3 : Int32) c4 dX8_told_1 (by decide) (by decide) (by decide) (by decide) ?_
          refine g_aload_n E 0 dX8_told_60 rfl rfl ?_
          refine g_get (C := RX8) (T := TX8) (N := 7) (ci := 8) E 0 4 (.ref (k.2.2.2.1 5)) hi_X8_told_X8 (cwG0 _ _) rfl (by decide) hk_X8_told_40 rfl dX8_told_61 ?_
          refine g_get (C := RX5) (T := TX5) (N := 4) (ci := 5) E 5 3 (.int (σ.2.1 3)) hi_X8_told_X5 (cwG5 _ _) rfl (by decide) hk_X8_told_122 rfl dX8_told_64 ?_
          cases hf
          exact g_iret E dX8_told_67
        · have hf := gn hf c4
          by_cases c5 : x1 = (4 : Int32)
          · have hf := gp hf c5
            refine g_tabIn (tgt := 68) E (4 : Int32) c5 dX8_told_1 (by decide) (by decide) (by decide) (by decide) ?_
            refine g_aload_n E 0 dX8_told_68 rfl rfl ?_
            refine g_get (C := RX8) (T := TX8) (N := 7) (ci := 8) E 0 2 (.ref (k.2.2.2.1 3)) hi_X8_told_X8 (cwG0 _ _) rfl (by decide) hk_X8_told_26 rfl dX8_told_69 ?_
            obtain ⟨q6, hq7, hf⟩ := gb hf
            refine g_callV (C := RX1) (T := TX1) (N := 2) (ci := 1) (As := []) (rest := []) (n := 0) E 3 (fX1_countAll_c k σ  q6 hq7) gX8_told_X1_countAll rfl rfl rfl (by decide +kernel) ⟨Nat.le_of_ble_eq_true rfl, Nat.le_of_ble_eq_true rfl⟩ rfl rfl (Nat.le_of_ble_eq_true rfl) rfl (cwG3 _ _) dX8_told_72 ?_
            cases hf
            exact g_iret E dX8_told_75
          · have hf := gn hf c5
            have hout : (x1).toInt < 0 ∨ 4 < (x1).toInt := by
              have := lv_neT c1 (a := 0) rfl
              have := lv_neT c2 (a := 1) rfl
              have := lv_neT c3 (a := 2) rfl
              have := lv_neT c4 (a := 3) rfl
              have := lv_neT c5 (a := 4) rfl
              omega
            refine g_tabOut (tgt := 76) E dX8_told_1 hout (by decide) ?_
            refine g_bipush (v := (-2 : Int32)) E dX8_told_76 (by decide) ?_
            cases hf
            exact g_iret E dX8_told_78
def rm_fX9_at : Room := { frames := 0, cells := 0, slots := 0, locals := 0 }
set_option maxHeartbeats 4000000 in
set_option maxRecDepth 100000 in
theorem fX9_at_c (k : gK) (σ : St) (x0 : Int32) (x1 : Int32) (r : Int32 × St) (hf : fX9_at σ x0 x1 = some r) : MC k yX9_at wsX9_at rm_fX9_at [.int x0, .int x1] (mw k.2.2.2 σ) (some (.int r.1)) (mw k.2.2.2 r.2) := by
  refine MC_of (cc := cX9_at) (maxL := 2) (ret := (some .int)) (own := RX9) (lvs := [(0, .int x0), (1, .int x1)]) (by decide) rfl rfl (Nat.le_of_ble_eq_true rfl) rfl (fun X E => ?_)
  unfold fX9_at at hf
  refine g_bipush (v := (6 : Int32)) E dX9_at_0 (by decide) ?_
  refine g_iload_n E 0 dX9_at_2 rfl rfl ?_
  refine g_imul E dX9_at_3 ?_
  refine g_iload_n E 1 dX9_at_4 rfl rfl ?_
  refine g_iadd E dX9_at_5 ?_
  cases hf
  exact g_iret E dX9_at_6
def rm_fX9_in : Room := { frames := 0, cells := 0, slots := 0, locals := 0 }
set_option maxHeartbeats 4000000 in
set_option maxRecDepth 100000 in
theorem fX9_in_c (k : gK) (σ : St) (x0 : Int64) (x2 : Int64) (x4 : Int64) (r : Int32 × St) (hf : fX9_in σ x0 x2 x4 = some r) : MC k yX9_in wsX9_in rm_fX9_in [.long x0, .long x2, .long x4] (mw k.2.2.2 σ) (some (.int r.1)) (mw k.2.2.2 r.2) := by
  refine MC_of (cc := cX9_in) (maxL := 6) (ret := (some .boolean)) (own := RX9) (lvs := [(0, .long x0), (2, .long x2), (4, .long x4)]) (by decide) rfl rfl (Nat.le_of_ble_eq_true rfl) rfl (fun X E => ?_)
  unfold fX9_in at hf
  refine g_lload_n E 0 dX9_in_0 rfl rfl ?_
  refine g_lload_n E 1 dX9_in_1 rfl rfl ?_
  refine g_lcmp E dX9_in_2 ?_
  refine g_if_lt (tgt := 17) E dX9_in_3 (by decide) (fun c1 => ?_) (fun c1 => ?_)
  · have hf := gp hf c1
    refine g_iconst (v := (0 : Int32)) E dX9_in_17 (by decide) ?_
    cases hf
    exact g_zret E (Or.inl rfl) dX9_in_18
  · have hf := gn hf c1
    refine g_lload_n E 0 dX9_in_6 rfl rfl ?_
    refine g_lload E 2 dX9_in_7 rfl ?_
    refine g_lcmp E dX9_in_9 ?_
    refine g_if_gt (tgt := 17) E dX9_in_10 (by decide) (fun c2 => ?_) (fun c2 => ?_)
    · have hf := gp hf c2
      refine g_iconst (v := (0 : Int32)) E dX9_in_17 (by decide) ?_
      cases hf
      exact g_zret E (Or.inl rfl) dX9_in_18
    · have hf := gn hf c2
      refine g_iconst (v := (1 : Int32)) E dX9_in_13 (by decide) ?_
      refine g_goto (tgt := 18) E dX9_in_14 (by decide) ?_
      cases hf
      exact g_zret E (Or.inr rfl) dX9_in_18
theorem hi_X9_judge_X9 : ∀ w ∈ wsX90, w ∈ wsX9_judge := by decide +kernel
theorem hk_X9_judge_63 : Cond.fieldLink RX9 63 "PaperMarksModel" "judges" "I" ∈ wsX9_judge := by decide +kernel
theorem hk_X9_judge_34 : Cond.fieldLink RX9 34 "PaperMarksModel" "marks" "[I" ∈ wsX9_judge := by decide +kernel
theorem hk_X9_judge_7 : Cond.fieldLink RX9 7 "PaperMarksModel" "leans" "[I" ∈ wsX9_judge := by decide +kernel
theorem hk_X9_judge_13 : Cond.fieldLink RX9 13 "PaperMarksModel" "slips" "[I" ∈ wsX9_judge := by decide +kernel
def rm_fX9_judge : Room := { frames := 1, cells := 0, slots := 0, locals := 25 }
set_option maxHeartbeats 4000000 in
set_option maxRecDepth 100000 in
theorem fX9_judge_w63 {k : gK} {X : gX} (E : gE k X cX9_judge RX9 wsX9_judge 4 (some .int) rm_fX9_judge) (rc63 : St → Int32 → Option (Int32 × St)) (hrc63 : ∀ (σ : St) (x3 : Int32) (r : Int32 × St), rc63 σ x3 = some r → G k X 4 (some (.int r.1)) (mw k.2.2.2 r.2) (mw k.2.2.2 σ) [(0, .ref (k.2.2.2.1 0)), (3, .int x3)] [] 63) (σ : St) (x3 : Int32) (r : Int32 × St) (hf : fX9_judge_b63 rc63 σ x3 = some r) : G k X 4 (some (.int r.1)) (mw k.2.2.2 r.2) (mw k.2.2.2 σ) [(0, .ref (k.2.2.2.1 0)), (3, .int x3)] [] 63 := by
  unfold fX9_judge_b63 at hf
  refine g_iload_n E 1 dX9_judge_63 rfl rfl ?_
  refine g_bipush (v := (6 : Int32)) E dX9_judge_64 (by decide) ?_
  refine g_icmp_ge (tgt := 90) E dX9_judge_66 (by decide) (fun c1 => ?_) (fun c1 => ?_)
  · have hf := gp hf c1
    refine g_aload_n E 0 dX9_judge_90 rfl rfl ?_
    refine g_dup E dX9_judge_91 rfl ?_
    refine g_get (C := RX9) (T := TX9) (N := 20) (ci := 9) E 0 3 (.int (σ.2.1 0)) hi_X9_judge_X9 (mwG0 _ _) rfl (by decide) hk_X9_judge_63 rfl dX9_judge_92 ?_
    refine g_iconst (v := (1 : Int32)) E dX9_judge_95 (by decide) ?_
    refine g_iadd E dX9_judge_96 ?_
    refine g_put (C := RX9) (T := TX9) (N := 20) (ci := 9) E 0 3 (mw k.2.2.2 (uI σ 0 (((σ.2.1 0) + (1 : Int32))))) hi_X9_judge_X9 tyX9 tyX9_ok nmX9 (mwG0 _ _) rfl (by decide) hk_X9_judge_63 rfl (by decide +kernel) (Nat.le_of_ble_eq_true rfl) (mwI0 _ _ _) dX9_judge_97 ?_
    refine g_aload_n E 0 dX9_judge_100 rfl rfl ?_
    refine g_get (C := RX9) (T := TX9) (N := 20) (ci := 9) E 0 3 (.int (((uI σ 0 (((σ.2.1 0) + (1 : Int32))))).2.1 0)) hi_X9_judge_X9 (mwG0 _ _) rfl (by decide) hk_X9_judge_63 rfl dX9_judge_101 ?_
    refine g_iconst (v := (1 : Int32)) E dX9_judge_104 (by decide) ?_
    refine g_isub E dX9_judge_105 ?_
    cases hf
    exact g_iret E dX9_judge_106
  · have hf := gn hf c1
    refine g_aload_n E 0 dX9_judge_69 rfl rfl ?_
    refine g_get (C := RX9) (T := TX9) (N := 20) (ci := 9) E 0 10 (.ref (k.2.2.2.1 9)) hi_X9_judge_X9 (mwG0 _ _) rfl (by decide) hk_X9_judge_34 rfl dX9_judge_70 ?_
    refine g_aload_n E 0 dX9_judge_73 rfl rfl ?_
    refine g_get (C := RX9) (T := TX9) (N := 20) (ci := 9) E 0 3 (.int (σ.2.1 0)) hi_X9_judge_X9 (mwG0 _ _) rfl (by decide) hk_X9_judge_63 rfl dX9_judge_74 ?_
    refine g_iload_n E 1 dX9_judge_77 rfl rfl ?_
    obtain ⟨q2, hq3, hf⟩ := gb hf
    refine g_callS (As := [.int (σ.2.1 0), .int x3]) (rest := [.ref (k.2.2.2.1 9)]) (n := 2) E (fX9_at_c k σ (σ.2.1 0) x3 q2 hq3) gX9_judge_X9_at rfl rfl rfl (by decide +kernel) ⟨Nat.le_of_ble_eq_true rfl, Nat.le_of_ble_eq_true rfl⟩ rfl rfl (Nat.le_of_ble_eq_true rfl) dX9_judge_78 ?_
    refine g_bipush (v := (-6 : Int32)) E dX9_judge_81 (by decide) ?_
    obtain ⟨hi4, hf⟩ := gd hf
    refine g_iast E 9 (mw k.2.2.2 (uA q2.2 9 q2.1.toNatClampNeg (-6 : Int32))) (q2.2.1 9) (mwG9 _ _) hi4 (mwA9 _ _ _ _) dX9_judge_83 ?_
    refine g_iinc E 1 [(3, .int (x3 + (1 : Int32))), (0, .ref (k.2.2.2.1 0))] (x3 + (1 : Int32)) dX9_judge_84 rfl (by rfl) (by decide) rfl ?_
    refine g_goto (tgt := 63) E dX9_judge_87 (by decide) ?_
    exact g_sub [1, 0] rfl (hrc63 (uA q2.2 9 q2.1.toNatClampNeg (-6 : Int32)) (x3 + (1 : Int32)) r hf)
theorem fX9_judge_v63 {k : gK} {X : gX} (E : gE k X cX9_judge RX9 wsX9_judge 4 (some .int) rm_fX9_judge) : ∀ (n : Nat) (σ : St) (x3 : Int32) (r : Int32 × St), fX9_judge_l63 n σ x3 = some r → G k X 4 (some (.int r.1)) (mw k.2.2.2 r.2) (mw k.2.2.2 σ) [(0, .ref (k.2.2.2.1 0)), (3, .int x3)] [] 63 := by
  intro n
  induction n with
  | zero => intro σ x3 r hf; cases hf
  | succ n ih => intro σ x3 r hf; exact fX9_judge_w63 E (fX9_judge_l63 n) ih σ x3 r hf
set_option maxHeartbeats 4000000 in
set_option maxRecDepth 100000 in
theorem fX9_judge_c (k : gK) (σ : St) (x1 : Int32) (x2 : Int32) (r : Int32 × St) (hf : fX9_judge σ x1 x2 = some r) : MC k yX9_judge wsX9_judge rm_fX9_judge [.ref (k.2.2.2.1 0), .int x1, .int x2] (mw k.2.2.2 σ) (some (.int r.1)) (mw k.2.2.2 r.2) := by
  refine MC_of (cc := cX9_judge) (maxL := 4) (ret := (some .int)) (own := RX9) (lvs := [(0, .ref (k.2.2.2.1 0)), (1, .int x1), (2, .int x2)]) (by decide) rfl rfl (Nat.le_of_ble_eq_true rfl) rfl (fun X E => ?_)
  unfold fX9_judge at hf
  refine g_iload_n E 1 dX9_judge_0 rfl rfl ?_
  refine g_i2l E dX9_judge_1 ?_
  refine g_ldc2 (v := (-2 : Int64)) E (by decide +kernel) dX9_judge_2 ?_
  refine g_ldc2 (v := (2 : Int64)) E (by decide +kernel) dX9_judge_5 ?_
  obtain ⟨q1, hq2, hf⟩ := gb hf
  refine g_callS (As := [.long x1.toInt64, .long (-2 : Int64), .long (2 : Int64)]) (rest := []) (n := 3) E (fX9_in_c k σ x1.toInt64 (-2 : Int64) (2 : Int64) q1 hq2) gX9_judge_X9_in rfl rfl rfl (by decide +kernel) ⟨Nat.le_of_ble_eq_true rfl, Nat.le_of_ble_eq_true rfl⟩ rfl rfl (Nat.le_of_ble_eq_true rfl) dX9_judge_8 ?_
  refine g_if_eq (tgt := 26) E dX9_judge_11 (by decide) (fun c3 => ?_) (fun c3 => ?_)
  · have hf := gp hf c3
    refine g_bipush (v := (-2 : Int32)) E dX9_judge_26 (by decide) ?_
    cases hf
    exact g_iret E dX9_judge_28
  · have hf := gn hf c3
    refine g_iload_n E 2 dX9_judge_14 rfl rfl ?_
    refine g_i2l E dX9_judge_15 ?_
    refine g_lconst (v := (0 : Int64)) E dX9_judge_16 (by decide) ?_
    refine g_ldc2 (v := (2 : Int64)) E (by decide +kernel) dX9_judge_17 ?_
    obtain ⟨q4, hq5, hf⟩ := gb hf
    refine g_callS (As := [.long x2.toInt64, .long (0 : Int64), .long (2 : Int64)]) (rest := []) (n := 3) E (fX9_in_c k q1.2 x2.toInt64 (0 : Int64) (2 : Int64) q4 hq5) gX9_judge_X9_in rfl rfl rfl (by decide +kernel) ⟨Nat.le_of_ble_eq_true rfl, Nat.le_of_ble_eq_true rfl⟩ rfl rfl (Nat.le_of_ble_eq_true rfl) dX9_judge_20 ?_
    refine g_if_ne (tgt := 29) E dX9_judge_23 (by decide) (fun c6 => ?_) (fun c6 => ?_)
    · have hf := gn hf c6
      refine g_aload_n E 0 dX9_judge_29 rfl rfl ?_
      refine g_get (C := RX9) (T := TX9) (N := 20) (ci := 9) E 0 3 (.int (q4.2.2.1 0)) hi_X9_judge_X9 (mwG0 _ _) rfl (by decide) hk_X9_judge_63 rfl dX9_judge_30 ?_
      refine g_bipush (v := (6 : Int32)) E dX9_judge_33 (by decide) ?_
      refine g_icmp_ne (tgt := 41) E dX9_judge_35 (by decide) (fun c7 => ?_) (fun c7 => ?_)
      · have hf := gn hf c7
        refine g_aload_n E 0 dX9_judge_41 rfl rfl ?_
        refine g_get (C := RX9) (T := TX9) (N := 20) (ci := 9) E 0 0 (.ref (k.2.2.2.1 1)) hi_X9_judge_X9 (mwG0 _ _) rfl (by decide) hk_X9_judge_7 rfl dX9_judge_42 ?_
        refine g_aload_n E 0 dX9_judge_45 rfl rfl ?_
        refine g_get (C := RX9) (T := TX9) (N := 20) (ci := 9) E 0 3 (.int (q4.2.2.1 0)) hi_X9_judge_X9 (mwG0 _ _) rfl (by decide) hk_X9_judge_63 rfl dX9_judge_46 ?_
        refine g_iload_n E 1 dX9_judge_49 rfl rfl ?_
        obtain ⟨hi8, hf⟩ := gd hf
        refine g_iast E 1 (mw k.2.2.2 (uA q4.2 1 (q4.2.2.1 0).toNatClampNeg x1)) (q4.2.1 1) (mwG1 _ _) hi8 (mwA1 _ _ _ _) dX9_judge_50 ?_
        refine g_aload_n E 0 dX9_judge_51 rfl rfl ?_
        refine g_get (C := RX9) (T := TX9) (N := 20) (ci := 9) E 0 1 (.ref (k.2.2.2.1 2)) hi_X9_judge_X9 (mwG0 _ _) rfl (by decide) hk_X9_judge_13 rfl dX9_judge_52 ?_
        refine g_aload_n E 0 dX9_judge_55 rfl rfl ?_
        refine g_get (C := RX9) (T := TX9) (N := 20) (ci := 9) E 0 3 (.int (((uA q4.2 1 (q4.2.2.1 0).toNatClampNeg x1)).2.1 0)) hi_X9_judge_X9 (mwG0 _ _) rfl (by decide) hk_X9_judge_63 rfl dX9_judge_56 ?_
        refine g_iload_n E 2 dX9_judge_59 rfl rfl ?_
        obtain ⟨hi9, hf⟩ := gd hf
        refine g_iast E 2 (mw k.2.2.2 (uA ((uA q4.2 1 (q4.2.2.1 0).toNatClampNeg x1)) 2 ((((uA q4.2 1 (q4.2.2.1 0).toNatClampNeg x1)).2.1 0)).toNatClampNeg x2)) (((uA q4.2 1 (q4.2.2.1 0).toNatClampNeg x1)).1 2) (mwG2 _ _) hi9 (mwA2 _ _ _ _) dX9_judge_60 ?_
        refine g_iconst (v := (0 : Int32)) E dX9_judge_61 (by decide) ?_
        refine g_istore_n E [(3, .int (0 : Int32)), (0, .ref (k.2.2.2.1 0)), (1, .int x1), (2, .int x2)] dX9_judge_62 rfl (by decide) rfl ?_
        exact g_sub [1, 0] rfl (fX9_judge_v63 E gF (uA ((uA q4.2 1 (q4.2.2.1 0).toNatClampNeg x1)) 2 ((((uA q4.2 1 (q4.2.2.1 0).toNatClampNeg x1)).2.1 0)).toNatClampNeg x2) (0 : Int32) r hf)
      · have hf := gp hf c7
        refine g_bipush (v := (-4 : Int32)) E dX9_judge_38 (by decide) ?_
        cases hf
        exact g_iret E dX9_judge_40
    · have hf := gp hf c6
      refine g_bipush (v := (-2 : Int32)) E dX9_judge_26 (by decide) ?_
      cases hf
      exact g_iret E dX9_judge_28
theorem hi_X9_isJudge_X9 : ∀ w ∈ wsX90, w ∈ wsX9_isJudge := by decide +kernel
theorem hk_X9_isJudge_63 : Cond.fieldLink RX9 63 "PaperMarksModel" "judges" "I" ∈ wsX9_isJudge := by decide +kernel
def rm_fX9_isJudge : Room := { frames := 1, cells := 0, slots := 0, locals := 25 }
set_option maxHeartbeats 4000000 in
set_option maxRecDepth 100000 in
theorem fX9_isJudge_c (k : gK) (σ : St) (x1 : Int32) (r : Int32 × St) (hf : fX9_isJudge σ x1 = some r) : MC k yX9_isJudge wsX9_isJudge rm_fX9_isJudge [.ref (k.2.2.2.1 0), .int x1] (mw k.2.2.2 σ) (some (.int r.1)) (mw k.2.2.2 r.2) := by
  refine MC_of (cc := cX9_isJudge) (maxL := 2) (ret := (some .boolean)) (own := RX9) (lvs := [(0, .ref (k.2.2.2.1 0)), (1, .int x1)]) (by decide) rfl rfl (Nat.le_of_ble_eq_true rfl) rfl (fun X E => ?_)
  unfold fX9_isJudge at hf
  refine g_iload_n E 1 dX9_isJudge_0 rfl rfl ?_
  refine g_i2l E dX9_isJudge_1 ?_
  refine g_lconst (v := (0 : Int64)) E dX9_isJudge_2 (by decide) ?_
  refine g_aload_n E 0 dX9_isJudge_3 rfl rfl ?_
  refine g_get (C := RX9) (T := TX9) (N := 20) (ci := 9) E 0 3 (.int (σ.2.1 0)) hi_X9_isJudge_X9 (mwG0 _ _) rfl (by decide) hk_X9_isJudge_63 rfl dX9_isJudge_4 ?_
  refine g_iconst (v := (1 : Int32)) E dX9_isJudge_7 (by decide) ?_
  refine g_isub E dX9_isJudge_8 ?_
  refine g_i2l E dX9_isJudge_9 ?_
  obtain ⟨q1, hq2, hf⟩ := gb hf
  refine g_callS (As := [.long x1.toInt64, .long (0 : Int64), .long (((σ.2.1 0) - (1 : Int32))).toInt64]) (rest := []) (n := 3) E (fX9_in_c k σ x1.toInt64 (0 : Int64) ((((σ.2.1 0) - (1 : Int32))).toInt64) q1 hq2) gX9_isJudge_X9_in rfl rfl rfl (by decide +kernel) ⟨Nat.le_of_ble_eq_true rfl, Nat.le_of_ble_eq_true rfl⟩ rfl rfl (Nat.le_of_ble_eq_true rfl) dX9_isJudge_10 ?_
  obtain ⟨hv3, hf⟩ := gd hf
  cases hf
  exact g_zret E hv3 dX9_isJudge_13
theorem hi_X9_paper_X9 : ∀ w ∈ wsX90, w ∈ wsX9_paper := by decide +kernel
theorem hk_X9_paper_67 : Cond.fieldLink RX9 67 "PaperMarksModel" "papers" "I" ∈ wsX9_paper := by decide +kernel
theorem hk_X9_paper_22 : Cond.fieldLink RX9 22 "PaperMarksModel" "worths" "[I" ∈ wsX9_paper := by decide +kernel
theorem hk_X9_paper_25 : Cond.fieldLink RX9 25 "PaperMarksModel" "writers" "[I" ∈ wsX9_paper := by decide +kernel
theorem hk_X9_paper_31 : Cond.fieldLink RX9 31 "PaperMarksModel" "laters" "[I" ∈ wsX9_paper := by decide +kernel
def rm_fX9_paper : Room := { frames := 2, cells := 0, slots := 0, locals := 46 }
set_option maxHeartbeats 4000000 in
set_option maxRecDepth 100000 in
theorem fX9_paper_w16 {k : gK} {X : gX} (E : gE k X cX9_paper RX9 wsX9_paper 3 (some .int) rm_fX9_paper) (σ : St) (x1 : Int32) (x2 : Int32) (r : Int32 × St) (hf : fX9_paper_b16 σ x1 x2 = some r) : G k X 3 (some (.int r.1)) (mw k.2.2.2 r.2) (mw k.2.2.2 σ) [(0, .ref (k.2.2.2.1 0)), (1, .int x1), (2, .int x2)] [] 16 := by
  unfold fX9_paper_b16 at hf
  refine g_iload_n E 1 dX9_paper_16 rfl rfl ?_
  refine g_i2l E dX9_paper_17 ?_
  refine g_lconst (v := (0 : Int64)) E dX9_paper_18 (by decide) ?_
  refine g_ldc2 (v := (5 : Int64)) E (by decide +kernel) dX9_paper_19 ?_
  obtain ⟨q1, hq2, hf⟩ := gb hf
  refine g_callS (As := [.long x1.toInt64, .long (0 : Int64), .long (5 : Int64)]) (rest := []) (n := 3) E (fX9_in_c k σ x1.toInt64 (0 : Int64) (5 : Int64) q1 hq2) gX9_paper_X9_in rfl rfl rfl (by decide +kernel) ⟨Nat.le_of_ble_eq_true rfl, Nat.le_of_ble_eq_true rfl⟩ rfl rfl (Nat.le_of_ble_eq_true rfl) dX9_paper_22 ?_
  refine g_if_ne (tgt := 31) E dX9_paper_25 (by decide) (fun c3 => ?_) (fun c3 => ?_)
  · have hf := gn hf c3
    refine g_aload_n E 0 dX9_paper_31 rfl rfl ?_
    refine g_get (C := RX9) (T := TX9) (N := 20) (ci := 9) E 0 9 (.int (q1.2.2.1 1)) hi_X9_paper_X9 (mwG0 _ _) rfl (by decide) hk_X9_paper_67 rfl dX9_paper_32 ?_
    refine g_bipush (v := (6 : Int32)) E dX9_paper_35 (by decide) ?_
    refine g_icmp_ne (tgt := 43) E dX9_paper_37 (by decide) (fun c4 => ?_) (fun c4 => ?_)
    · have hf := gn hf c4
      refine g_aload_n E 0 dX9_paper_43 rfl rfl ?_
      refine g_get (C := RX9) (T := TX9) (N := 20) (ci := 9) E 0 5 (.ref (k.2.2.2.1 5)) hi_X9_paper_X9 (mwG0 _ _) rfl (by decide) hk_X9_paper_22 rfl dX9_paper_44 ?_
      refine g_aload_n E 0 dX9_paper_47 rfl rfl ?_
      refine g_get (C := RX9) (T := TX9) (N := 20) (ci := 9) E 0 9 (.int (q1.2.2.1 1)) hi_X9_paper_X9 (mwG0 _ _) rfl (by decide) hk_X9_paper_67 rfl dX9_paper_48 ?_
      refine g_iload_n E 1 dX9_paper_51 rfl rfl ?_
      obtain ⟨hi5, hf⟩ := gd hf
      refine g_iast E 5 (mw k.2.2.2 (uA q1.2 5 (q1.2.2.1 1).toNatClampNeg x1)) (q1.2.1 5) (mwG5 _ _) hi5 (mwA5 _ _ _ _) dX9_paper_52 ?_
      refine g_aload_n E 0 dX9_paper_53 rfl rfl ?_
      refine g_get (C := RX9) (T := TX9) (N := 20) (ci := 9) E 0 6 (.ref (k.2.2.2.1 6)) hi_X9_paper_X9 (mwG0 _ _) rfl (by decide) hk_X9_paper_25 rfl dX9_paper_54 ?_
      refine g_aload_n E 0 dX9_paper_57 rfl rfl ?_
      refine g_get (C := RX9) (T := TX9) (N := 20) (ci := 9) E 0 9 (.int (((uA q1.2 5 (q1.2.2.1 1).toNatClampNeg x1)).2.1 1)) hi_X9_paper_X9 (mwG0 _ _) rfl (by decide) hk_X9_paper_67 rfl dX9_paper_58 ?_
      refine g_iload_n E 2 dX9_paper_61 rfl rfl ?_
      obtain ⟨hi6, hf⟩ := gd hf
      refine g_iast E 6 (mw k.2.2.2 (uA ((uA q1.2 5 (q1.2.2.1 1).toNatClampNeg x1)) 6 ((((uA q1.2 5 (q1.2.2.1 1).toNatClampNeg x1)).2.1 1)).toNatClampNeg x2)) (((uA q1.2 5 (q1.2.2.1 1).toNatClampNeg x1)).1 6) (mwG6 _ _) hi6 (mwA6 _ _ _ _) dX9_paper_62 ?_
      refine g_aload_n E 0 dX9_paper_63 rfl rfl ?_
      refine g_get (C := RX9) (T := TX9) (N := 20) (ci := 9) E 0 8 (.ref (k.2.2.2.1 8)) hi_X9_paper_X9 (mwG0 _ _) rfl (by decide) hk_X9_paper_31 rfl dX9_paper_64 ?_
      refine g_aload_n E 0 dX9_paper_67 rfl rfl ?_
      refine g_get (C := RX9) (T := TX9) (N := 20) (ci := 9) E 0 9 (.int (((uA ((uA q1.2 5 (q1.2.2.1 1).toNatClampNeg x1)) 6 ((((uA q1.2 5 (q1.2.2.1 1).toNatClampNeg x1)).2.1 1)).toNatClampNeg x2)).2.1 1)) hi_X9_paper_X9 (mwG0 _ _) rfl (by decide) hk_X9_paper_67 rfl dX9_paper_68 ?_
      refine g_bipush (v := (-6 : Int32)) E dX9_paper_71 (by decide) ?_
      obtain ⟨hi7, hf⟩ := gd hf
      refine g_iast E 8 (mw k.2.2.2 (uA ((uA ((uA q1.2 5 (q1.2.2.1 1).toNatClampNeg x1)) 6 ((((uA q1.2 5 (q1.2.2.1 1).toNatClampNeg x1)).2.1 1)).toNatClampNeg x2)) 8 ((((uA ((uA q1.2 5 (q1.2.2.1 1).toNatClampNeg x1)) 6 ((((uA q1.2 5 (q1.2.2.1 1).toNatClampNeg x1)).2.1 1)).toNatClampNeg x2)).2.1 1)).toNatClampNeg (-6 : Int32))) (((uA ((uA q1.2 5 (q1.2.2.1 1).toNatClampNeg x1)) 6 ((((uA q1.2 5 (q1.2.2.1 1).toNatClampNeg x1)).2.1 1)).toNatClampNeg x2)).1 8) (mwG8 _ _) hi7 (mwA8 _ _ _ _) dX9_paper_73 ?_
      refine g_aload_n E 0 dX9_paper_74 rfl rfl ?_
      refine g_dup E dX9_paper_75 rfl ?_
      refine g_get (C := RX9) (T := TX9) (N := 20) (ci := 9) E 0 9 (.int (((uA ((uA ((uA q1.2 5 (q1.2.2.1 1).toNatClampNeg x1)) 6 ((((uA q1.2 5 (q1.2.2.1 1).toNatClampNeg x1)).2.1 1)).toNatClampNeg x2)) 8 ((((uA ((uA q1.2 5 (q1.2.2.1 1).toNatClampNeg x1)) 6 ((((uA q1.2 5 (q1.2.2.1 1).toNatClampNeg x1)).2.1 1)).toNatClampNeg x2)).2.1 1)).toNatClampNeg (-6 : Int32))).2.1 1)) hi_X9_paper_X9 (mwG0 _ _) rfl (by decide) hk_X9_paper_67 rfl dX9_paper_76 ?_
      refine g_iconst (v := (1 : Int32)) E dX9_paper_79 (by decide) ?_
      refine g_iadd E dX9_paper_80 ?_
      refine g_put (C := RX9) (T := TX9) (N := 20) (ci := 9) E 0 9 (mw k.2.2.2 (uI ((uA ((uA ((uA q1.2 5 (q1.2.2.1 1).toNatClampNeg x1)) 6 ((((uA q1.2 5 (q1.2.2.1 1).toNatClampNeg x1)).2.1 1)).toNatClampNeg x2)) 8 ((((uA ((uA q1.2 5 (q1.2.2.1 1).toNatClampNeg x1)) 6 ((((uA q1.2 5 (q1.2.2.1 1).toNatClampNeg x1)).2.1 1)).toNatClampNeg x2)).2.1 1)).toNatClampNeg (-6 : Int32))) 1 ((((((uA ((uA ((uA q1.2 5 (q1.2.2.1 1).toNatClampNeg x1)) 6 ((((uA q1.2 5 (q1.2.2.1 1).toNatClampNeg x1)).2.1 1)).toNatClampNeg x2)) 8 ((((uA ((uA q1.2 5 (q1.2.2.1 1).toNatClampNeg x1)) 6 ((((uA q1.2 5 (q1.2.2.1 1).toNatClampNeg x1)).2.1 1)).toNatClampNeg x2)).2.1 1)).toNatClampNeg (-6 : Int32))).2.1 1)) + (1 : Int32))))) hi_X9_paper_X9 tyX9 tyX9_ok nmX9 (mwG0 _ _) rfl (by decide) hk_X9_paper_67 rfl (by decide +kernel) (Nat.le_of_ble_eq_true rfl) (mwI1 _ _ _) dX9_paper_81 ?_
      refine g_aload_n E 0 dX9_paper_84 rfl rfl ?_
      refine g_get (C := RX9) (T := TX9) (N := 20) (ci := 9) E 0 9 (.int (((uI ((uA ((uA ((uA q1.2 5 (q1.2.2.1 1).toNatClampNeg x1)) 6 ((((uA q1.2 5 (q1.2.2.1 1).toNatClampNeg x1)).2.1 1)).toNatClampNeg x2)) 8 ((((uA ((uA q1.2 5 (q1.2.2.1 1).toNatClampNeg x1)) 6 ((((uA q1.2 5 (q1.2.2.1 1).toNatClampNeg x1)).2.1 1)).toNatClampNeg x2)).2.1 1)).toNatClampNeg (-6 : Int32))) 1 ((((((uA ((uA ((uA q1.2 5 (q1.2.2.1 1).toNatClampNeg x1)) 6 ((((uA q1.2 5 (q1.2.2.1 1).toNatClampNeg x1)).2.1 1)).toNatClampNeg x2)) 8 ((((uA ((uA q1.2 5 (q1.2.2.1 1).toNatClampNeg x1)) 6 ((((uA q1.2 5 (q1.2.2.1 1).toNatClampNeg x1)).2.1 1)).toNatClampNeg x2)).2.1 1)).toNatClampNeg (-6 : Int32))).2.1 1)) + (1 : Int32))))).2.1 1)) hi_X9_paper_X9 (mwG0 _ _) rfl (by decide) hk_X9_paper_67 rfl dX9_paper_85 ?_
      refine g_iconst (v := (1 : Int32)) E dX9_paper_88 (by decide) ?_
      refine g_isub E dX9_paper_89 ?_
      cases hf
      exact g_iret E dX9_paper_90
    · have hf := gp hf c4
      refine g_bipush (v := (-4 : Int32)) E dX9_paper_40 (by decide) ?_
      cases hf
      exact g_iret E dX9_paper_42
  · have hf := gp hf c3
    refine g_bipush (v := (-2 : Int32)) E dX9_paper_28 (by decide) ?_
    cases hf
    exact g_iret E dX9_paper_30
set_option maxHeartbeats 4000000 in
set_option maxRecDepth 100000 in
theorem fX9_paper_c (k : gK) (σ : St) (x1 : Int32) (x2 : Int32) (r : Int32 × St) (hf : fX9_paper σ x1 x2 = some r) : MC k yX9_paper wsX9_paper rm_fX9_paper [.ref (k.2.2.2.1 0), .int x1, .int x2] (mw k.2.2.2 σ) (some (.int r.1)) (mw k.2.2.2 r.2) := by
  refine MC_of (cc := cX9_paper) (maxL := 3) (ret := (some .int)) (own := RX9) (lvs := [(0, .ref (k.2.2.2.1 0)), (1, .int x1), (2, .int x2)]) (by decide) rfl rfl (Nat.le_of_ble_eq_true rfl) rfl (fun X E => ?_)
  unfold fX9_paper at hf
  refine g_iload_n E 2 dX9_paper_0 rfl rfl ?_
  refine g_bipush (v := (-6 : Int32)) E dX9_paper_1 (by decide) ?_
  refine g_icmp_eq (tgt := 16) E dX9_paper_3 (by decide) (fun c1 => ?_) (fun c1 => ?_)
  · have hf := gp hf c1
    exact fX9_paper_w16 E σ x1 x2 r hf
  · have hf := gn hf c1
    refine g_aload_n E 0 dX9_paper_6 rfl rfl ?_
    refine g_iload_n E 2 dX9_paper_7 rfl rfl ?_
    obtain ⟨q2, hq3, hf⟩ := gb hf
    refine g_callV (C := RX9) (T := TX9) (N := 20) (ci := 9) (As := [.int x2]) (rest := []) (n := 1) E 0 (fX9_isJudge_c k σ x2 q2 hq3) gX9_paper_X9_isJudge rfl rfl rfl (by decide +kernel) ⟨Nat.le_of_ble_eq_true rfl, Nat.le_of_ble_eq_true rfl⟩ rfl rfl (Nat.le_of_ble_eq_true rfl) rfl (mwG0 _ _) dX9_paper_8 ?_
    refine g_if_ne (tgt := 16) E dX9_paper_11 (by decide) (fun c4 => ?_) (fun c4 => ?_)
    · have hf := gn hf c4
      exact fX9_paper_w16 E q2.2 x1 x2 r hf
    · have hf := gp hf c4
      refine g_iconst (v := (-1 : Int32)) E dX9_paper_14 (by decide) ?_
      cases hf
      exact g_iret E dX9_paper_15
theorem hi_X9_tie_X9 : ∀ w ∈ wsX90, w ∈ wsX9_tie := by decide +kernel
theorem hk_X9_tie_19 : Cond.fieldLink RX9 19 "PaperMarksModel" "ties" "[I" ∈ wsX9_tie := by decide +kernel
def rm_fX9_tie : Room := { frames := 2, cells := 0, slots := 0, locals := 46 }
set_option maxHeartbeats 4000000 in
set_option maxRecDepth 100000 in
theorem fX9_tie_c (k : gK) (σ : St) (x1 : Int32) (x2 : Int32) (x3 : Int32) (r : Int32 × St) (hf : fX9_tie σ x1 x2 x3 = some r) : MC k yX9_tie wsX9_tie rm_fX9_tie [.ref (k.2.2.2.1 0), .int x1, .int x2, .int x3] (mw k.2.2.2 σ) (some (.int r.1)) (mw k.2.2.2 r.2) := by
  refine MC_of (cc := cX9_tie) (maxL := 5) (ret := (some .int)) (own := RX9) (lvs := [(0, .ref (k.2.2.2.1 0)), (1, .int x1), (2, .int x2), (3, .int x3)]) (by decide) rfl rfl (Nat.le_of_ble_eq_true rfl) rfl (fun X E => ?_)
  unfold fX9_tie at hf
  refine g_aload_n E 0 dX9_tie_0 rfl rfl ?_
  refine g_iload_n E 1 dX9_tie_1 rfl rfl ?_
  obtain ⟨q1, hq2, hf⟩ := gb hf
  refine g_callV (C := RX9) (T := TX9) (N := 20) (ci := 9) (As := [.int x1]) (rest := []) (n := 1) E 0 (fX9_isJudge_c k σ x1 q1 hq2) gX9_tie_X9_isJudge rfl rfl rfl (by decide +kernel) ⟨Nat.le_of_ble_eq_true rfl, Nat.le_of_ble_eq_true rfl⟩ rfl rfl (Nat.le_of_ble_eq_true rfl) rfl (mwG0 _ _) dX9_tie_2 ?_
  refine g_if_eq (tgt := 21) E dX9_tie_5 (by decide) (fun c3 => ?_) (fun c3 => ?_)
  · have hf := gp hf c3
    refine g_iconst (v := (-1 : Int32)) E dX9_tie_21 (by decide) ?_
    cases hf
    exact g_iret E dX9_tie_22
  · have hf := gn hf c3
    refine g_aload_n E 0 dX9_tie_8 rfl rfl ?_
    refine g_iload_n E 2 dX9_tie_9 rfl rfl ?_
    obtain ⟨q4, hq5, hf⟩ := gb hf
    refine g_callV (C := RX9) (T := TX9) (N := 20) (ci := 9) (As := [.int x2]) (rest := []) (n := 1) E 0 (fX9_isJudge_c k q1.2 x2 q4 hq5) gX9_tie_X9_isJudge rfl rfl rfl (by decide +kernel) ⟨Nat.le_of_ble_eq_true rfl, Nat.le_of_ble_eq_true rfl⟩ rfl rfl (Nat.le_of_ble_eq_true rfl) rfl (mwG0 _ _) dX9_tie_10 ?_
    refine g_if_eq (tgt := 21) E dX9_tie_13 (by decide) (fun c6 => ?_) (fun c6 => ?_)
    · have hf := gp hf c6
      refine g_iconst (v := (-1 : Int32)) E dX9_tie_21 (by decide) ?_
      cases hf
      exact g_iret E dX9_tie_22
    · have hf := gn hf c6
      refine g_iload_n E 1 dX9_tie_16 rfl rfl ?_
      refine g_iload_n E 2 dX9_tie_17 rfl rfl ?_
      refine g_icmp_ne (tgt := 23) E dX9_tie_18 (by decide) (fun c7 => ?_) (fun c7 => ?_)
      · have hf := gn hf c7
        refine g_iload_n E 3 dX9_tie_23 rfl rfl ?_
        refine g_i2l E dX9_tie_24 ?_
        refine g_ldc2 (v := (-1 : Int64)) E (by decide +kernel) dX9_tie_25 ?_
        refine g_lconst (v := (1 : Int64)) E dX9_tie_28 (by decide) ?_
        obtain ⟨q8, hq9, hf⟩ := gb hf
        refine g_callS (As := [.long x3.toInt64, .long (-1 : Int64), .long (1 : Int64)]) (rest := []) (n := 3) E (fX9_in_c k q4.2 x3.toInt64 (-1 : Int64) (1 : Int64) q8 hq9) gX9_tie_X9_in rfl rfl rfl (by decide +kernel) ⟨Nat.le_of_ble_eq_true rfl, Nat.le_of_ble_eq_true rfl⟩ rfl rfl (Nat.le_of_ble_eq_true rfl) dX9_tie_29 ?_
        refine g_if_ne (tgt := 38) E dX9_tie_32 (by decide) (fun c10 => ?_) (fun c10 => ?_)
        · have hf := gn hf c10
          refine g_aload_n E 0 dX9_tie_38 rfl rfl ?_
          refine g_get (C := RX9) (T := TX9) (N := 20) (ci := 9) E 0 4 (.ref (k.2.2.2.1 4)) hi_X9_tie_X9 (mwG0 _ _) rfl (by decide) hk_X9_tie_19 rfl dX9_tie_39 ?_
          refine g_bipush (v := (6 : Int32)) E dX9_tie_42 (by decide) ?_
          refine g_iload_n E 1 dX9_tie_44 rfl rfl ?_
          refine g_imul E dX9_tie_45 ?_
          refine g_iload_n E 2 dX9_tie_46 rfl rfl ?_
          refine g_iadd E dX9_tie_47 ?_
          obtain ⟨hi11, hf⟩ := gd hf
          refine g_iald E 4 (q8.2.1 4) (mwG4 _ _) hi11 dX9_tie_48 ?_
          refine g_istore E [(4, .int (q8.2.1 4 (((((6 : Int32) * x1)) + x2)).toNatClampNeg)), (0, .ref (k.2.2.2.1 0)), (1, .int x1), (2, .int x2), (3, .int x3)] dX9_tie_49 (by decide) rfl ?_
          refine g_aload_n E 1 dX9_tie_51 rfl rfl ?_
          refine g_get (C := RX9) (T := TX9) (N := 20) (ci := 9) E 0 4 (.ref (k.2.2.2.1 4)) hi_X9_tie_X9 (mwG0 _ _) rfl (by decide) hk_X9_tie_19 rfl dX9_tie_52 ?_
          refine g_bipush (v := (6 : Int32)) E dX9_tie_55 (by decide) ?_
          refine g_iload_n E 2 dX9_tie_57 rfl rfl ?_
          refine g_imul E dX9_tie_58 ?_
          refine g_iload_n E 3 dX9_tie_59 rfl rfl ?_
          refine g_iadd E dX9_tie_60 ?_
          refine g_iload_n E 4 dX9_tie_61 rfl rfl ?_
          obtain ⟨hi12, hf⟩ := gd hf
          refine g_iast E 4 (mw k.2.2.2 (uA q8.2 4 (((((6 : Int32) * x1)) + x2)).toNatClampNeg x3)) (q8.2.1 4) (mwG4 _ _) hi12 (mwA4 _ _ _ _) dX9_tie_62 ?_
          refine g_aload_n E 1 dX9_tie_63 rfl rfl ?_
          refine g_get (C := RX9) (T := TX9) (N := 20) (ci := 9) E 0 4 (.ref (k.2.2.2.1 4)) hi_X9_tie_X9 (mwG0 _ _) rfl (by decide) hk_X9_tie_19 rfl dX9_tie_64 ?_
          refine g_bipush (v := (6 : Int32)) E dX9_tie_67 (by decide) ?_
          refine g_iload_n E 3 dX9_tie_69 rfl rfl ?_
          refine g_imul E dX9_tie_70 ?_
          refine g_iload_n E 2 dX9_tie_71 rfl rfl ?_
          refine g_iadd E dX9_tie_72 ?_
          refine g_iload_n E 4 dX9_tie_73 rfl rfl ?_
          obtain ⟨hi13, hf⟩ := gd hf
          refine g_iast E 4 (mw k.2.2.2 (uA ((uA q8.2 4 (((((6 : Int32) * x1)) + x2)).toNatClampNeg x3)) 4 (((((6 : Int32) * x2)) + x1)).toNatClampNeg x3)) (((uA q8.2 4 (((((6 : Int32) * x1)) + x2)).toNatClampNeg x3)).1 4) (mwG4 _ _) hi13 (mwA4 _ _ _ _) dX9_tie_74 ?_
          refine g_iload E 0 dX9_tie_75 rfl ?_
          refine g_bipush (v := (10 : Int32)) E dX9_tie_77 (by decide) ?_
          refine g_iadd E dX9_tie_79 ?_
          cases hf
          exact g_iret E dX9_tie_80
        · have hf := gp hf c10
          refine g_bipush (v := (-2 : Int32)) E dX9_tie_35 (by decide) ?_
          cases hf
          exact g_iret E dX9_tie_37
      · have hf := gp hf c7
        refine g_iconst (v := (-1 : Int32)) E dX9_tie_21 (by decide) ?_
        cases hf
        exact g_iret E dX9_tie_22
theorem hi_X9_isPaper_X9 : ∀ w ∈ wsX90, w ∈ wsX9_isPaper := by decide +kernel
theorem hk_X9_isPaper_67 : Cond.fieldLink RX9 67 "PaperMarksModel" "papers" "I" ∈ wsX9_isPaper := by decide +kernel
def rm_fX9_isPaper : Room := { frames := 1, cells := 0, slots := 0, locals := 25 }
set_option maxHeartbeats 4000000 in
set_option maxRecDepth 100000 in
theorem fX9_isPaper_c (k : gK) (σ : St) (x1 : Int32) (r : Int32 × St) (hf : fX9_isPaper σ x1 = some r) : MC k yX9_isPaper wsX9_isPaper rm_fX9_isPaper [.ref (k.2.2.2.1 0), .int x1] (mw k.2.2.2 σ) (some (.int r.1)) (mw k.2.2.2 r.2) := by
  refine MC_of (cc := cX9_isPaper) (maxL := 2) (ret := (some .boolean)) (own := RX9) (lvs := [(0, .ref (k.2.2.2.1 0)), (1, .int x1)]) (by decide) rfl rfl (Nat.le_of_ble_eq_true rfl) rfl (fun X E => ?_)
  unfold fX9_isPaper at hf
  refine g_iload_n E 1 dX9_isPaper_0 rfl rfl ?_
  refine g_i2l E dX9_isPaper_1 ?_
  refine g_lconst (v := (0 : Int64)) E dX9_isPaper_2 (by decide) ?_
  refine g_aload_n E 0 dX9_isPaper_3 rfl rfl ?_
  refine g_get (C := RX9) (T := TX9) (N := 20) (ci := 9) E 0 9 (.int (σ.2.1 1)) hi_X9_isPaper_X9 (mwG0 _ _) rfl (by decide) hk_X9_isPaper_67 rfl dX9_isPaper_4 ?_
  refine g_iconst (v := (1 : Int32)) E dX9_isPaper_7 (by decide) ?_
  refine g_isub E dX9_isPaper_8 ?_
  refine g_i2l E dX9_isPaper_9 ?_
  obtain ⟨q1, hq2, hf⟩ := gb hf
  refine g_callS (As := [.long x1.toInt64, .long (0 : Int64), .long (((σ.2.1 1) - (1 : Int32))).toInt64]) (rest := []) (n := 3) E (fX9_in_c k σ x1.toInt64 (0 : Int64) ((((σ.2.1 1) - (1 : Int32))).toInt64) q1 hq2) gX9_isPaper_X9_in rfl rfl rfl (by decide +kernel) ⟨Nat.le_of_ble_eq_true rfl, Nat.le_of_ble_eq_true rfl⟩ rfl rfl (Nat.le_of_ble_eq_true rfl) dX9_isPaper_10 ?_
  obtain ⟨hv3, hf⟩ := gd hf
  cases hf
  exact g_zret E hv3 dX9_isPaper_13
theorem hi_X9_mark_X9 : ∀ w ∈ wsX90, w ∈ wsX9_mark := by decide +kernel
theorem hk_X9_mark_25 : Cond.fieldLink RX9 25 "PaperMarksModel" "writers" "[I" ∈ wsX9_mark := by decide +kernel
theorem hk_X9_mark_34 : Cond.fieldLink RX9 34 "PaperMarksModel" "marks" "[I" ∈ wsX9_mark := by decide +kernel
def rm_fX9_mark : Room := { frames := 2, cells := 0, slots := 0, locals := 46 }
set_option maxHeartbeats 4000000 in
set_option maxRecDepth 100000 in
theorem fX9_mark_c (k : gK) (σ : St) (x1 : Int32) (x2 : Int32) (x3 : Int32) (r : Int32 × St) (hf : fX9_mark σ x1 x2 x3 = some r) : MC k yX9_mark wsX9_mark rm_fX9_mark [.ref (k.2.2.2.1 0), .int x1, .int x2, .int x3] (mw k.2.2.2 σ) (some (.int r.1)) (mw k.2.2.2 r.2) := by
  refine MC_of (cc := cX9_mark) (maxL := 5) (ret := (some .int)) (own := RX9) (lvs := [(0, .ref (k.2.2.2.1 0)), (1, .int x1), (2, .int x2), (3, .int x3)]) (by decide) rfl rfl (Nat.le_of_ble_eq_true rfl) rfl (fun X E => ?_)
  unfold fX9_mark at hf
  refine g_aload_n E 0 dX9_mark_0 rfl rfl ?_
  refine g_iload_n E 1 dX9_mark_1 rfl rfl ?_
  obtain ⟨q1, hq2, hf⟩ := gb hf
  refine g_callV (C := RX9) (T := TX9) (N := 20) (ci := 9) (As := [.int x1]) (rest := []) (n := 1) E 0 (fX9_isJudge_c k σ x1 q1 hq2) gX9_mark_X9_isJudge rfl rfl rfl (by decide +kernel) ⟨Nat.le_of_ble_eq_true rfl, Nat.le_of_ble_eq_true rfl⟩ rfl rfl (Nat.le_of_ble_eq_true rfl) rfl (mwG0 _ _) dX9_mark_2 ?_
  refine g_if_eq (tgt := 16) E dX9_mark_5 (by decide) (fun c3 => ?_) (fun c3 => ?_)
  · have hf := gp hf c3
    refine g_iconst (v := (-1 : Int32)) E dX9_mark_16 (by decide) ?_
    cases hf
    exact g_iret E dX9_mark_17
  · have hf := gn hf c3
    refine g_aload_n E 0 dX9_mark_8 rfl rfl ?_
    refine g_iload_n E 2 dX9_mark_9 rfl rfl ?_
    obtain ⟨q4, hq5, hf⟩ := gb hf
    refine g_callV (C := RX9) (T := TX9) (N := 20) (ci := 9) (As := [.int x2]) (rest := []) (n := 1) E 0 (fX9_isPaper_c k q1.2 x2 q4 hq5) gX9_mark_X9_isPaper rfl rfl rfl (by decide +kernel) ⟨Nat.le_of_ble_eq_true rfl, Nat.le_of_ble_eq_true rfl⟩ rfl rfl (Nat.le_of_ble_eq_true rfl) rfl (mwG0 _ _) dX9_mark_10 ?_
    refine g_if_ne (tgt := 18) E dX9_mark_13 (by decide) (fun c6 => ?_) (fun c6 => ?_)
    · have hf := gn hf c6
      refine g_iload_n E 3 dX9_mark_18 rfl rfl ?_
      refine g_i2l E dX9_mark_19 ?_
      refine g_ldc2 (v := (-1 : Int64)) E (by decide +kernel) dX9_mark_20 ?_
      refine g_ldc2 (v := (5 : Int64)) E (by decide +kernel) dX9_mark_23 ?_
      obtain ⟨q7, hq8, hf⟩ := gb hf
      refine g_callS (As := [.long x3.toInt64, .long (-1 : Int64), .long (5 : Int64)]) (rest := []) (n := 3) E (fX9_in_c k q4.2 x3.toInt64 (-1 : Int64) (5 : Int64) q7 hq8) gX9_mark_X9_in rfl rfl rfl (by decide +kernel) ⟨Nat.le_of_ble_eq_true rfl, Nat.le_of_ble_eq_true rfl⟩ rfl rfl (Nat.le_of_ble_eq_true rfl) dX9_mark_26 ?_
      refine g_if_ne (tgt := 35) E dX9_mark_29 (by decide) (fun c9 => ?_) (fun c9 => ?_)
      · have hf := gn hf c9
        refine g_aload_n E 0 dX9_mark_35 rfl rfl ?_
        refine g_get (C := RX9) (T := TX9) (N := 20) (ci := 9) E 0 6 (.ref (k.2.2.2.1 6)) hi_X9_mark_X9 (mwG0 _ _) rfl (by decide) hk_X9_mark_25 rfl dX9_mark_36 ?_
        refine g_iload_n E 2 dX9_mark_39 rfl rfl ?_
        obtain ⟨hi10, hf⟩ := gd hf
        refine g_iald E 6 (q7.2.1 6) (mwG6 _ _) hi10 dX9_mark_40 ?_
        refine g_iload_n E 1 dX9_mark_41 rfl rfl ?_
        refine g_icmp_ne (tgt := 48) E dX9_mark_42 (by decide) (fun c11 => ?_) (fun c11 => ?_)
        · have hf := gn hf c11
          refine g_aload_n E 0 dX9_mark_48 rfl rfl ?_
          refine g_get (C := RX9) (T := TX9) (N := 20) (ci := 9) E 0 10 (.ref (k.2.2.2.1 9)) hi_X9_mark_X9 (mwG0 _ _) rfl (by decide) hk_X9_mark_34 rfl dX9_mark_49 ?_
          refine g_iload_n E 1 dX9_mark_52 rfl rfl ?_
          refine g_iload_n E 2 dX9_mark_53 rfl rfl ?_
          obtain ⟨q12, hq13, hf⟩ := gb hf
          refine g_callS (As := [.int x1, .int x2]) (rest := [.ref (k.2.2.2.1 9)]) (n := 2) E (fX9_at_c k q7.2 x1 x2 q12 hq13) gX9_mark_X9_at rfl rfl rfl (by decide +kernel) ⟨Nat.le_of_ble_eq_true rfl, Nat.le_of_ble_eq_true rfl⟩ rfl rfl (Nat.le_of_ble_eq_true rfl) dX9_mark_54 ?_
          obtain ⟨hi14, hf⟩ := gd hf
          refine g_iald E 9 (q12.2.1 9) (mwG9 _ _) hi14 dX9_mark_57 ?_
          refine g_istore E [(4, .int (q12.2.1 9 q12.1.toNatClampNeg)), (0, .ref (k.2.2.2.1 0)), (1, .int x1), (2, .int x2), (3, .int x3)] dX9_mark_58 (by decide) rfl ?_
          refine g_aload_n E 1 dX9_mark_60 rfl rfl ?_
          refine g_get (C := RX9) (T := TX9) (N := 20) (ci := 9) E 0 10 (.ref (k.2.2.2.1 9)) hi_X9_mark_X9 (mwG0 _ _) rfl (by decide) hk_X9_mark_34 rfl dX9_mark_61 ?_
          refine g_iload_n E 2 dX9_mark_64 rfl rfl ?_
          refine g_iload_n E 3 dX9_mark_65 rfl rfl ?_
          obtain ⟨q15, hq16, hf⟩ := gb hf
          refine g_callS (As := [.int x1, .int x2]) (rest := [.ref (k.2.2.2.1 9)]) (n := 2) E (fX9_at_c k q12.2 x1 x2 q15 hq16) gX9_mark_X9_at rfl rfl rfl (by decide +kernel) ⟨Nat.le_of_ble_eq_true rfl, Nat.le_of_ble_eq_true rfl⟩ rfl rfl (Nat.le_of_ble_eq_true rfl) dX9_mark_66 ?_
          refine g_iload_n E 4 dX9_mark_69 rfl rfl ?_
          refine g_if_ge (tgt := 78) E dX9_mark_70 (by decide) (fun c17 => ?_) (fun c17 => ?_)
          · have hf := gp hf c17
            refine g_iload_n E 4 dX9_mark_78 rfl rfl ?_
            obtain ⟨hi18, hf⟩ := gd hf
            refine g_iast E 9 (mw k.2.2.2 (uA q15.2 9 q15.1.toNatClampNeg x3)) (q15.2.1 9) (mwG9 _ _) hi18 (mwA9 _ _ _ _) dX9_mark_79 ?_
            refine g_iload E 0 dX9_mark_80 rfl ?_
            cases hf
            exact g_iret E dX9_mark_82
          · have hf := gn hf c17
            refine g_bipush (v := (-6 : Int32)) E dX9_mark_73 (by decide) ?_
            refine g_goto (tgt := 79) E dX9_mark_75 (by decide) ?_
            obtain ⟨hi19, hf⟩ := gd hf
            refine g_iast E 9 (mw k.2.2.2 (uA q15.2 9 q15.1.toNatClampNeg (-6 : Int32))) (q15.2.1 9) (mwG9 _ _) hi19 (mwA9 _ _ _ _) dX9_mark_79 ?_
            refine g_iload E 0 dX9_mark_80 rfl ?_
            cases hf
            exact g_iret E dX9_mark_82
        · have hf := gp hf c11
          refine g_bipush (v := (-5 : Int32)) E dX9_mark_45 (by decide) ?_
          cases hf
          exact g_iret E dX9_mark_47
      · have hf := gp hf c9
        refine g_bipush (v := (-2 : Int32)) E dX9_mark_32 (by decide) ?_
        cases hf
        exact g_iret E dX9_mark_34
    · have hf := gp hf c6
      refine g_iconst (v := (-1 : Int32)) E dX9_mark_16 (by decide) ?_
      cases hf
      exact g_iret E dX9_mark_17
theorem hi_X9_set_X9 : ∀ w ∈ wsX90, w ∈ wsX9_set := by decide +kernel
theorem hk_X9_set_31 : Cond.fieldLink RX9 31 "PaperMarksModel" "laters" "[I" ∈ wsX9_set := by decide +kernel
theorem hk_X9_set_28 : Cond.fieldLink RX9 28 "PaperMarksModel" "paperKeys" "[I" ∈ wsX9_set := by decide +kernel
theorem hk_X9_set_16 : Cond.fieldLink RX9 16 "PaperMarksModel" "judgeKeys" "[I" ∈ wsX9_set := by decide +kernel
def rm_fX9_set : Room := { frames := 2, cells := 0, slots := 0, locals := 46 }
set_option maxHeartbeats 4000000 in
set_option maxRecDepth 100000 in
theorem fX9_set_w110 {k : gK} {X : gX} (E : gE k X cX9_set RX9 wsX9_set 5 (some .int) rm_fX9_set) (σ : St) (x1 : Int32) (x2 : Int32) (x3 : Int32) (t0 : Int32) (r : Int32 × St) (hf : fX9_set_b110 σ x1 x2 x3 t0 = some r) : G k X 5 (some (.int r.1)) (mw k.2.2.2 r.2) (mw k.2.2.2 σ) [(0, .ref (k.2.2.2.1 0)), (1, .int x1), (2, .int x2), (3, .int x3)] [.int t0] 110 := by
  unfold fX9_set_b110 at hf
  refine g_istore E [(4, .int t0), (0, .ref (k.2.2.2.1 0)), (1, .int x1), (2, .int x2), (3, .int x3)] dX9_set_110 (by decide) rfl ?_
  refine g_iload_n E 2 dX9_set_112 rfl rfl ?_
  refine g_if_ne (tgt := 126) E dX9_set_113 (by decide) (fun c1 => ?_) (fun c1 => ?_)
  · have hf := gn hf c1
    refine g_iload_n E 2 dX9_set_126 rfl rfl ?_
    refine g_iconst (v := (1 : Int32)) E dX9_set_127 (by decide) ?_
    refine g_icmp_ne (tgt := 141) E dX9_set_128 (by decide) (fun c2 => ?_) (fun c2 => ?_)
    · have hf := gn hf c2
      refine g_aload_n E 1 dX9_set_141 rfl rfl ?_
      refine g_get (C := RX9) (T := TX9) (N := 20) (ci := 9) E 0 8 (.ref (k.2.2.2.1 8)) hi_X9_set_X9 (mwG0 _ _) rfl (by decide) hk_X9_set_31 rfl dX9_set_142 ?_
      refine g_iload_n E 3 dX9_set_145 rfl rfl ?_
      refine g_iload_n E 4 dX9_set_146 rfl rfl ?_
      refine g_if_ge (tgt := 155) E dX9_set_147 (by decide) (fun c3 => ?_) (fun c3 => ?_)
      · have hf := gp hf c3
        refine g_iload_n E 4 dX9_set_155 rfl rfl ?_
        obtain ⟨hi4, hf⟩ := gd hf
        refine g_iast E 8 (mw k.2.2.2 (uA σ 8 x2.toNatClampNeg x3)) (σ.1 8) (mwG8 _ _) hi4 (mwA8 _ _ _ _) dX9_set_156 ?_
        refine g_iload E 0 dX9_set_157 rfl ?_
        cases hf
        exact g_iret E dX9_set_159
      · have hf := gn hf c3
        refine g_bipush (v := (-6 : Int32)) E dX9_set_150 (by decide) ?_
        refine g_goto (tgt := 156) E dX9_set_152 (by decide) ?_
        obtain ⟨hi5, hf⟩ := gd hf
        refine g_iast E 8 (mw k.2.2.2 (uA σ 8 x2.toNatClampNeg (-6 : Int32))) (σ.1 8) (mwG8 _ _) hi5 (mwA8 _ _ _ _) dX9_set_156 ?_
        refine g_iload E 0 dX9_set_157 rfl ?_
        cases hf
        exact g_iret E dX9_set_159
    · have hf := gp hf c2
      refine g_aload_n E 1 dX9_set_131 rfl rfl ?_
      refine g_get (C := RX9) (T := TX9) (N := 20) (ci := 9) E 0 7 (.ref (k.2.2.2.1 7)) hi_X9_set_X9 (mwG0 _ _) rfl (by decide) hk_X9_set_28 rfl dX9_set_132 ?_
      refine g_iload_n E 3 dX9_set_135 rfl rfl ?_
      refine g_iload_n E 4 dX9_set_136 rfl rfl ?_
      obtain ⟨hi6, hf⟩ := gd hf
      refine g_iast E 7 (mw k.2.2.2 (uA σ 7 x2.toNatClampNeg x3)) (σ.1 7) (mwG7 _ _) hi6 (mwA7 _ _ _ _) dX9_set_137 ?_
      refine g_goto (tgt := 157) E dX9_set_138 (by decide) ?_
      refine g_iload E 0 dX9_set_157 rfl ?_
      cases hf
      exact g_iret E dX9_set_159
  · have hf := gp hf c1
    refine g_aload_n E 1 dX9_set_116 rfl rfl ?_
    refine g_get (C := RX9) (T := TX9) (N := 20) (ci := 9) E 0 2 (.ref (k.2.2.2.1 3)) hi_X9_set_X9 (mwG0 _ _) rfl (by decide) hk_X9_set_16 rfl dX9_set_117 ?_
    refine g_iload_n E 3 dX9_set_120 rfl rfl ?_
    refine g_iload_n E 4 dX9_set_121 rfl rfl ?_
    obtain ⟨hi7, hf⟩ := gd hf
    refine g_iast E 3 (mw k.2.2.2 (uA σ 3 x2.toNatClampNeg x3)) (σ.1 3) (mwG3 _ _) hi7 (mwA3 _ _ _ _) dX9_set_122 ?_
    refine g_goto (tgt := 157) E dX9_set_123 (by decide) ?_
    refine g_iload E 0 dX9_set_157 rfl ?_
    cases hf
    exact g_iret E dX9_set_159
set_option maxHeartbeats 4000000 in
set_option maxRecDepth 100000 in
theorem fX9_set_w68 {k : gK} {X : gX} (E : gE k X cX9_set RX9 wsX9_set 5 (some .int) rm_fX9_set) (σ : St) (x1 : Int32) (x2 : Int32) (x3 : Int32) (t0 : Int64) (t1 : Int64) (t2 : Int64) (r : Int32 × St) (hf : fX9_set_b68 σ x1 x2 x3 t0 t1 t2 = some r) : G k X 5 (some (.int r.1)) (mw k.2.2.2 r.2) (mw k.2.2.2 σ) [(0, .ref (k.2.2.2.1 0)), (1, .int x1), (2, .int x2), (3, .int x3)] [.long t2, .long t1, .long t0] 68 := by
  unfold fX9_set_b68 at hf
  obtain ⟨q1, hq2, hf⟩ := gb hf
  refine g_callS (As := [.long t0, .long t1, .long t2]) (rest := []) (n := 3) E (fX9_in_c k σ t0 t1 t2 q1 hq2) gX9_set_X9_in rfl rfl rfl (by decide +kernel) ⟨Nat.le_of_ble_eq_true rfl, Nat.le_of_ble_eq_true rfl⟩ rfl rfl (Nat.le_of_ble_eq_true rfl) dX9_set_68 ?_
  refine g_if_ne (tgt := 77) E dX9_set_71 (by decide) (fun c3 => ?_) (fun c3 => ?_)
  · have hf := gn hf c3
    refine g_iload_n E 1 dX9_set_77 rfl rfl ?_
    refine g_if_ne (tgt := 90) E dX9_set_78 (by decide) (fun c4 => ?_) (fun c4 => ?_)
    · have hf := gn hf c4
      refine g_iload_n E 1 dX9_set_90 rfl rfl ?_
      refine g_iconst (v := (1 : Int32)) E dX9_set_91 (by decide) ?_
      refine g_icmp_ne (tgt := 104) E dX9_set_92 (by decide) (fun c5 => ?_) (fun c5 => ?_)
      · have hf := gn hf c5
        refine g_aload_n E 0 dX9_set_104 rfl rfl ?_
        refine g_get (C := RX9) (T := TX9) (N := 20) (ci := 9) E 0 8 (.ref (k.2.2.2.1 8)) hi_X9_set_X9 (mwG0 _ _) rfl (by decide) hk_X9_set_31 rfl dX9_set_105 ?_
        refine g_iload_n E 2 dX9_set_108 rfl rfl ?_
        obtain ⟨hi6, hf⟩ := gd hf
        refine g_iald E 8 (q1.2.1 8) (mwG8 _ _) hi6 dX9_set_109 ?_
        exact fX9_set_w110 E q1.2 x1 x2 x3 (q1.2.1 8 x2.toNatClampNeg) r hf
      · have hf := gp hf c5
        refine g_aload_n E 0 dX9_set_95 rfl rfl ?_
        refine g_get (C := RX9) (T := TX9) (N := 20) (ci := 9) E 0 7 (.ref (k.2.2.2.1 7)) hi_X9_set_X9 (mwG0 _ _) rfl (by decide) hk_X9_set_28 rfl dX9_set_96 ?_
        refine g_iload_n E 2 dX9_set_99 rfl rfl ?_
        obtain ⟨hi7, hf⟩ := gd hf
        refine g_iald E 7 (q1.2.1 7) (mwG7 _ _) hi7 dX9_set_100 ?_
        refine g_goto (tgt := 110) E dX9_set_101 (by decide) ?_
        exact fX9_set_w110 E q1.2 x1 x2 x3 (q1.2.1 7 x2.toNatClampNeg) r hf
    · have hf := gp hf c4
      refine g_aload_n E 0 dX9_set_81 rfl rfl ?_
      refine g_get (C := RX9) (T := TX9) (N := 20) (ci := 9) E 0 2 (.ref (k.2.2.2.1 3)) hi_X9_set_X9 (mwG0 _ _) rfl (by decide) hk_X9_set_16 rfl dX9_set_82 ?_
      refine g_iload_n E 2 dX9_set_85 rfl rfl ?_
      obtain ⟨hi8, hf⟩ := gd hf
      refine g_iald E 3 (q1.2.1 3) (mwG3 _ _) hi8 dX9_set_86 ?_
      refine g_goto (tgt := 110) E dX9_set_87 (by decide) ?_
      exact fX9_set_w110 E q1.2 x1 x2 x3 (q1.2.1 3 x2.toNatClampNeg) r hf
  · have hf := gp hf c3
    refine g_bipush (v := (-2 : Int32)) E dX9_set_74 (by decide) ?_
    cases hf
    exact g_iret E dX9_set_76
set_option maxHeartbeats 4000000 in
set_option maxRecDepth 100000 in
theorem fX9_set_w54 {k : gK} {X : gX} (E : gE k X cX9_set RX9 wsX9_set 5 (some .int) rm_fX9_set) (σ : St) (x1 : Int32) (x2 : Int32) (x3 : Int32) (t0 : Int64) (t1 : Int64) (r : Int32 × St) (hf : fX9_set_b54 σ x1 x2 x3 t0 t1 = some r) : G k X 5 (some (.int r.1)) (mw k.2.2.2 r.2) (mw k.2.2.2 σ) [(0, .ref (k.2.2.2.1 0)), (1, .int x1), (2, .int x2), (3, .int x3)] [.long t1, .long t0] 54 := by
  unfold fX9_set_b54 at hf
  refine g_iload_n E 1 dX9_set_54 rfl rfl ?_
  refine g_iconst (v := (2 : Int32)) E dX9_set_55 (by decide) ?_
  refine g_icmp_ne (tgt := 65) E dX9_set_56 (by decide) (fun c1 => ?_) (fun c1 => ?_)
  · have hf := gn hf c1
    refine g_ldc2 (v := (63 : Int64)) E (by decide +kernel) dX9_set_65 ?_
    exact fX9_set_w68 E σ x1 x2 x3 t0 t1 (63 : Int64) r hf
  · have hf := gp hf c1
    refine g_ldc2 (v := (9 : Int64)) E (by decide +kernel) dX9_set_59 ?_
    refine g_goto (tgt := 68) E dX9_set_62 (by decide) ?_
    exact fX9_set_w68 E σ x1 x2 x3 t0 t1 (9 : Int64) r hf
set_option maxHeartbeats 4000000 in
set_option maxRecDepth 100000 in
theorem fX9_set_w40 {k : gK} {X : gX} (E : gE k X cX9_set RX9 wsX9_set 5 (some .int) rm_fX9_set) (σ : St) (x1 : Int32) (x2 : Int32) (x3 : Int32) (r : Int32 × St) (hf : fX9_set_b40 σ x1 x2 x3 = some r) : G k X 5 (some (.int r.1)) (mw k.2.2.2 r.2) (mw k.2.2.2 σ) [(0, .ref (k.2.2.2.1 0)), (1, .int x1), (2, .int x2), (3, .int x3)] [] 40 := by
  unfold fX9_set_b40 at hf
  refine g_iload_n E 3 dX9_set_40 rfl rfl ?_
  refine g_i2l E dX9_set_41 ?_
  refine g_iload_n E 1 dX9_set_42 rfl rfl ?_
  refine g_iconst (v := (2 : Int32)) E dX9_set_43 (by decide) ?_
  refine g_icmp_ne (tgt := 53) E dX9_set_44 (by decide) (fun c1 => ?_) (fun c1 => ?_)
  · have hf := gn hf c1
    refine g_lconst (v := (0 : Int64)) E dX9_set_53 (by decide) ?_
    exact fX9_set_w54 E σ x1 x2 x3 x3.toInt64 (0 : Int64) r hf
  · have hf := gp hf c1
    refine g_ldc2 (v := (-1 : Int64)) E (by decide +kernel) dX9_set_47 ?_
    refine g_goto (tgt := 54) E dX9_set_50 (by decide) ?_
    exact fX9_set_w54 E σ x1 x2 x3 x3.toInt64 (-1 : Int64) r hf
set_option maxHeartbeats 4000000 in
set_option maxRecDepth 100000 in
theorem fX9_set_c (k : gK) (σ : St) (x1 : Int32) (x2 : Int32) (x3 : Int32) (r : Int32 × St) (hf : fX9_set σ x1 x2 x3 = some r) : MC k yX9_set wsX9_set rm_fX9_set [.ref (k.2.2.2.1 0), .int x1, .int x2, .int x3] (mw k.2.2.2 σ) (some (.int r.1)) (mw k.2.2.2 r.2) := by
  refine MC_of (cc := cX9_set) (maxL := 5) (ret := (some .int)) (own := RX9) (lvs := [(0, .ref (k.2.2.2.1 0)), (1, .int x1), (2, .int x2), (3, .int x3)]) (by decide) rfl rfl (Nat.le_of_ble_eq_true rfl) rfl (fun X E => ?_)
  unfold fX9_set at hf
  refine g_iload_n E 1 dX9_set_0 rfl rfl ?_
  refine g_i2l E dX9_set_1 ?_
  refine g_lconst (v := (0 : Int64)) E dX9_set_2 (by decide) ?_
  refine g_ldc2 (v := (2 : Int64)) E (by decide +kernel) dX9_set_3 ?_
  obtain ⟨q1, hq2, hf⟩ := gb hf
  refine g_callS (As := [.long x1.toInt64, .long (0 : Int64), .long (2 : Int64)]) (rest := []) (n := 3) E (fX9_in_c k σ x1.toInt64 (0 : Int64) (2 : Int64) q1 hq2) gX9_set_X9_in rfl rfl rfl (by decide +kernel) ⟨Nat.le_of_ble_eq_true rfl, Nat.le_of_ble_eq_true rfl⟩ rfl rfl (Nat.le_of_ble_eq_true rfl) dX9_set_6 ?_
  refine g_if_ne (tgt := 15) E dX9_set_9 (by decide) (fun c3 => ?_) (fun c3 => ?_)
  · have hf := gn hf c3
    refine g_iload_n E 1 dX9_set_15 rfl rfl ?_
    refine g_if_ne (tgt := 30) E dX9_set_16 (by decide) (fun c4 => ?_) (fun c4 => ?_)
    · have hf := gn hf c4
      refine g_aload_n E 0 dX9_set_30 rfl rfl ?_
      refine g_iload_n E 2 dX9_set_31 rfl rfl ?_
      obtain ⟨q5, hq6, hf⟩ := gb hf
      refine g_callV (C := RX9) (T := TX9) (N := 20) (ci := 9) (As := [.int x2]) (rest := []) (n := 1) E 0 (fX9_isPaper_c k q1.2 x2 q5 hq6) gX9_set_X9_isPaper rfl rfl rfl (by decide +kernel) ⟨Nat.le_of_ble_eq_true rfl, Nat.le_of_ble_eq_true rfl⟩ rfl rfl (Nat.le_of_ble_eq_true rfl) rfl (mwG0 _ _) dX9_set_32 ?_
      refine g_if_ne (tgt := 40) E dX9_set_35 (by decide) (fun c7 => ?_) (fun c7 => ?_)
      · have hf := gn hf c7
        exact fX9_set_w40 E q5.2 x1 x2 x3 r hf
      · have hf := gp hf c7
        refine g_iconst (v := (-1 : Int32)) E dX9_set_38 (by decide) ?_
        cases hf
        exact g_iret E dX9_set_39
    · have hf := gp hf c4
      refine g_aload_n E 0 dX9_set_19 rfl rfl ?_
      refine g_iload_n E 2 dX9_set_20 rfl rfl ?_
      obtain ⟨q8, hq9, hf⟩ := gb hf
      refine g_callV (C := RX9) (T := TX9) (N := 20) (ci := 9) (As := [.int x2]) (rest := []) (n := 1) E 0 (fX9_isJudge_c k q1.2 x2 q8 hq9) gX9_set_X9_isJudge rfl rfl rfl (by decide +kernel) ⟨Nat.le_of_ble_eq_true rfl, Nat.le_of_ble_eq_true rfl⟩ rfl rfl (Nat.le_of_ble_eq_true rfl) rfl (mwG0 _ _) dX9_set_21 ?_
      refine g_if_ne (tgt := 40) E dX9_set_24 (by decide) (fun c10 => ?_) (fun c10 => ?_)
      · have hf := gn hf c10
        exact fX9_set_w40 E q8.2 x1 x2 x3 r hf
      · have hf := gp hf c10
        refine g_goto (tgt := 38) E dX9_set_27 (by decide) ?_
        refine g_iconst (v := (-1 : Int32)) E dX9_set_38 (by decide) ?_
        cases hf
        exact g_iret E dX9_set_39
  · have hf := gp hf c3
    refine g_bipush (v := (-2 : Int32)) E dX9_set_12 (by decide) ?_
    cases hf
    exact g_iret E dX9_set_14
theorem hi_X9_say_X9 : ∀ w ∈ wsX90, w ∈ wsX9_say := by decide +kernel
theorem hk_X9_say_97 : Cond.fieldLink RX9 97 "PaperMarksModel" "signMany" "I" ∈ wsX9_say := by decide +kernel
theorem hk_X9_say_40 : Cond.fieldLink RX9 40 "PaperMarksModel" "signs" "[I" ∈ wsX9_say := by decide +kernel
def rm_fX9_say : Room := { frames := 1, cells := 0, slots := 0, locals := 25 }
set_option maxHeartbeats 4000000 in
set_option maxRecDepth 100000 in
theorem fX9_say_c (k : gK) (σ : St) (x1 : Int32) (r : Int32 × St) (hf : fX9_say σ x1 = some r) : MC k yX9_say wsX9_say rm_fX9_say [.ref (k.2.2.2.1 0), .int x1] (mw k.2.2.2 σ) (some (.int r.1)) (mw k.2.2.2 r.2) := by
  refine MC_of (cc := cX9_say) (maxL := 2) (ret := (some .int)) (own := RX9) (lvs := [(0, .ref (k.2.2.2.1 0)), (1, .int x1)]) (by decide) rfl rfl (Nat.le_of_ble_eq_true rfl) rfl (fun X E => ?_)
  unfold fX9_say at hf
  refine g_iload_n E 1 dX9_say_0 rfl rfl ?_
  refine g_i2l E dX9_say_1 ?_
  refine g_ldc2 (v := (33 : Int64)) E (by decide +kernel) dX9_say_2 ?_
  refine g_ldc2 (v := (126 : Int64)) E (by decide +kernel) dX9_say_5 ?_
  obtain ⟨q1, hq2, hf⟩ := gb hf
  refine g_callS (As := [.long x1.toInt64, .long (33 : Int64), .long (126 : Int64)]) (rest := []) (n := 3) E (fX9_in_c k σ x1.toInt64 (33 : Int64) (126 : Int64) q1 hq2) gX9_say_X9_in rfl rfl rfl (by decide +kernel) ⟨Nat.le_of_ble_eq_true rfl, Nat.le_of_ble_eq_true rfl⟩ rfl rfl (Nat.le_of_ble_eq_true rfl) dX9_say_8 ?_
  refine g_if_ne (tgt := 17) E dX9_say_11 (by decide) (fun c3 => ?_) (fun c3 => ?_)
  · have hf := gn hf c3
    refine g_aload_n E 0 dX9_say_17 rfl rfl ?_
    refine g_get (C := RX9) (T := TX9) (N := 20) (ci := 9) E 0 13 (.int (q1.2.2.1 2)) hi_X9_say_X9 (mwG0 _ _) rfl (by decide) hk_X9_say_97 rfl dX9_say_18 ?_
    refine g_bipush (v := (40 : Int32)) E dX9_say_21 (by decide) ?_
    refine g_icmp_ne (tgt := 29) E dX9_say_23 (by decide) (fun c4 => ?_) (fun c4 => ?_)
    · have hf := gn hf c4
      refine g_aload_n E 0 dX9_say_29 rfl rfl ?_
      refine g_get (C := RX9) (T := TX9) (N := 20) (ci := 9) E 0 12 (.ref (k.2.2.2.1 11)) hi_X9_say_X9 (mwG0 _ _) rfl (by decide) hk_X9_say_40 rfl dX9_say_30 ?_
      refine g_aload_n E 0 dX9_say_33 rfl rfl ?_
      refine g_get (C := RX9) (T := TX9) (N := 20) (ci := 9) E 0 13 (.int (q1.2.2.1 2)) hi_X9_say_X9 (mwG0 _ _) rfl (by decide) hk_X9_say_97 rfl dX9_say_34 ?_
      refine g_iload_n E 1 dX9_say_37 rfl rfl ?_
      obtain ⟨hi5, hf⟩ := gd hf
      refine g_iast E 11 (mw k.2.2.2 (uA q1.2 11 (q1.2.2.1 2).toNatClampNeg x1)) (q1.2.1 11) (mwG11 _ _) hi5 (mwA11 _ _ _ _) dX9_say_38 ?_
      refine g_aload_n E 0 dX9_say_39 rfl rfl ?_
      refine g_dup E dX9_say_40 rfl ?_
      refine g_get (C := RX9) (T := TX9) (N := 20) (ci := 9) E 0 13 (.int (((uA q1.2 11 (q1.2.2.1 2).toNatClampNeg x1)).2.1 2)) hi_X9_say_X9 (mwG0 _ _) rfl (by decide) hk_X9_say_97 rfl dX9_say_41 ?_
      refine g_iconst (v := (1 : Int32)) E dX9_say_44 (by decide) ?_
      refine g_iadd E dX9_say_45 ?_
      refine g_put (C := RX9) (T := TX9) (N := 20) (ci := 9) E 0 13 (mw k.2.2.2 (uI ((uA q1.2 11 (q1.2.2.1 2).toNatClampNeg x1)) 2 ((((((uA q1.2 11 (q1.2.2.1 2).toNatClampNeg x1)).2.1 2)) + (1 : Int32))))) hi_X9_say_X9 tyX9 tyX9_ok nmX9 (mwG0 _ _) rfl (by decide) hk_X9_say_97 rfl (by decide +kernel) (Nat.le_of_ble_eq_true rfl) (mwI2 _ _ _) dX9_say_46 ?_
      refine g_aload_n E 0 dX9_say_49 rfl rfl ?_
      refine g_get (C := RX9) (T := TX9) (N := 20) (ci := 9) E 0 13 (.int (((uI ((uA q1.2 11 (q1.2.2.1 2).toNatClampNeg x1)) 2 ((((((uA q1.2 11 (q1.2.2.1 2).toNatClampNeg x1)).2.1 2)) + (1 : Int32))))).2.1 2)) hi_X9_say_X9 (mwG0 _ _) rfl (by decide) hk_X9_say_97 rfl dX9_say_50 ?_
      cases hf
      exact g_iret E dX9_say_53
    · have hf := gp hf c4
      refine g_bipush (v := (-4 : Int32)) E dX9_say_26 (by decide) ?_
      cases hf
      exact g_iret E dX9_say_28
  · have hf := gp hf c3
    refine g_bipush (v := (-2 : Int32)) E dX9_say_14 (by decide) ?_
    cases hf
    exact g_iret E dX9_say_16
theorem hi_X9_wipe_X9 : ∀ w ∈ wsX90, w ∈ wsX9_wipe := by decide +kernel
theorem hk_X9_wipe_97 : Cond.fieldLink RX9 97 "PaperMarksModel" "signMany" "I" ∈ wsX9_wipe := by decide +kernel
def rm_fX9_wipe : Room := { frames := 0, cells := 0, slots := 0, locals := 0 }
set_option maxHeartbeats 4000000 in
set_option maxRecDepth 100000 in
theorem fX9_wipe_c (k : gK) (σ : St) (r : Int32 × St) (hf : fX9_wipe σ = some r) : MC k yX9_wipe wsX9_wipe rm_fX9_wipe [.ref (k.2.2.2.1 0)] (mw k.2.2.2 σ) (some (.int r.1)) (mw k.2.2.2 r.2) := by
  refine MC_of (cc := cX9_wipe) (maxL := 2) (ret := (some .int)) (own := RX9) (lvs := [(0, .ref (k.2.2.2.1 0))]) (by decide) rfl rfl (Nat.le_of_ble_eq_true rfl) rfl (fun X E => ?_)
  unfold fX9_wipe at hf
  refine g_aload_n E 0 dX9_wipe_0 rfl rfl ?_
  refine g_get (C := RX9) (T := TX9) (N := 20) (ci := 9) E 0 13 (.int (σ.2.1 2)) hi_X9_wipe_X9 (mwG0 _ _) rfl (by decide) hk_X9_wipe_97 rfl dX9_wipe_1 ?_
  refine g_istore_n E [(1, .int (σ.2.1 2)), (0, .ref (k.2.2.2.1 0))] dX9_wipe_4 rfl (by decide) rfl ?_
  refine g_aload_n E 1 dX9_wipe_5 rfl rfl ?_
  refine g_iconst (v := (0 : Int32)) E dX9_wipe_6 (by decide) ?_
  refine g_put (C := RX9) (T := TX9) (N := 20) (ci := 9) E 0 13 (mw k.2.2.2 (uI σ 2 (0 : Int32))) hi_X9_wipe_X9 tyX9 tyX9_ok nmX9 (mwG0 _ _) rfl (by decide) hk_X9_wipe_97 rfl (by decide +kernel) (Nat.le_of_ble_eq_true rfl) (mwI2 _ _ _) dX9_wipe_7 ?_
  refine g_iload_n E 0 dX9_wipe_10 rfl rfl ?_
  cases hf
  exact g_iret E dX9_wipe_11
def rm_fX9_isJoin : Room := { frames := 0, cells := 0, slots := 0, locals := 0 }
set_option maxHeartbeats 4000000 in
set_option maxRecDepth 100000 in
theorem fX9_isJoin_w24 {k : gK} {X : gX} (E : gE k X cX9_isJoin RX9 wsX9_isJoin 1 (some .boolean) rm_fX9_isJoin) (σ : St) (r : Int32 × St) (hf : fX9_isJoin_b24 σ = some r) : G k X 1 (some (.int r.1)) (mw k.2.2.2 r.2) (mw k.2.2.2 σ) [] [] 24 := by
  unfold fX9_isJoin_b24 at hf
  refine g_iconst (v := (1 : Int32)) E dX9_isJoin_24 (by decide) ?_
  refine g_goto (tgt := 29) E dX9_isJoin_25 (by decide) ?_
  cases hf
  exact g_zret E (Or.inr rfl) dX9_isJoin_29
set_option maxHeartbeats 4000000 in
set_option maxRecDepth 100000 in
theorem fX9_isJoin_c (k : gK) (σ : St) (x0 : Int32) (r : Int32 × St) (hf : fX9_isJoin σ x0 = some r) : MC k yX9_isJoin wsX9_isJoin rm_fX9_isJoin [.int x0] (mw k.2.2.2 σ) (some (.int r.1)) (mw k.2.2.2 r.2) := by
  refine MC_of (cc := cX9_isJoin) (maxL := 1) (ret := (some .boolean)) (own := RX9) (lvs := [(0, .int x0)]) (by decide) rfl rfl (Nat.le_of_ble_eq_true rfl) rfl (fun X E => ?_)
  unfold fX9_isJoin at hf
  refine g_iload_n E 0 dX9_isJoin_0 rfl rfl ?_
  refine g_bipush (v := (97 : Int32)) E dX9_isJoin_1 (by decide) ?_
  refine g_icmp_eq (tgt := 24) E dX9_isJoin_3 (by decide) (fun c1 => ?_) (fun c1 => ?_)
  · have hf := gp hf c1
    exact g_sub [] rfl (fX9_isJoin_w24 E σ r hf)
  · have hf := gn hf c1
    refine g_iload_n E 0 dX9_isJoin_6 rfl rfl ?_
    refine g_bipush (v := (109 : Int32)) E dX9_isJoin_7 (by decide) ?_
    refine g_icmp_eq (tgt := 24) E dX9_isJoin_9 (by decide) (fun c2 => ?_) (fun c2 => ?_)
    · have hf := gp hf c2
      exact g_sub [] rfl (fX9_isJoin_w24 E σ r hf)
    · have hf := gn hf c2
      refine g_iload_n E 0 dX9_isJoin_12 rfl rfl ?_
      refine g_bipush (v := (108 : Int32)) E dX9_isJoin_13 (by decide) ?_
      refine g_icmp_eq (tgt := 24) E dX9_isJoin_15 (by decide) (fun c3 => ?_) (fun c3 => ?_)
      · have hf := gp hf c3
        exact g_sub [] rfl (fX9_isJoin_w24 E σ r hf)
      · have hf := gn hf c3
        refine g_iload_n E 0 dX9_isJoin_18 rfl rfl ?_
        refine g_bipush (v := (103 : Int32)) E dX9_isJoin_19 (by decide) ?_
        refine g_icmp_ne (tgt := 28) E dX9_isJoin_21 (by decide) (fun c4 => ?_) (fun c4 => ?_)
        · have hf := gn hf c4
          refine g_iconst (v := (0 : Int32)) E dX9_isJoin_28 (by decide) ?_
          cases hf
          exact g_zret E (Or.inl rfl) dX9_isJoin_29
        · have hf := gp hf c4
          exact g_sub [] rfl (fX9_isJoin_w24 E σ r hf)
def rm_fX9_stepOf : Room := { frames := 1, cells := 0, slots := 0, locals := 25 }
set_option maxHeartbeats 4000000 in
set_option maxRecDepth 100000 in
theorem fX9_stepOf_c (k : gK) (σ : St) (x0 : Int32) (x1 : Int32) (r : Int32 × St) (hf : fX9_stepOf σ x0 x1 = some r) : MC k yX9_stepOf wsX9_stepOf rm_fX9_stepOf [.int x0, .int x1] (mw k.2.2.2 σ) (some (.int r.1)) (mw k.2.2.2 r.2) := by
  refine MC_of (cc := cX9_stepOf) (maxL := 3) (ret := (some .int)) (own := RX9) (lvs := [(0, .int x0), (1, .int x1)]) (by decide) rfl rfl (Nat.le_of_ble_eq_true rfl) rfl (fun X E => ?_)
  unfold fX9_stepOf at hf
  refine g_iload_n E 1 dX9_stepOf_0 rfl rfl ?_
  refine g_i2l E dX9_stepOf_1 ?_
  refine g_ldc2 (v := (48 : Int64)) E (by decide +kernel) dX9_stepOf_2 ?_
  refine g_ldc2 (v := (57 : Int64)) E (by decide +kernel) dX9_stepOf_5 ?_
  obtain ⟨q1, hq2, hf⟩ := gb hf
  refine g_callS (As := [.long x1.toInt64, .long (48 : Int64), .long (57 : Int64)]) (rest := []) (n := 3) E (fX9_in_c k σ x1.toInt64 (48 : Int64) (57 : Int64) q1 hq2) gX9_stepOf_X9_in rfl rfl rfl (by decide +kernel) ⟨Nat.le_of_ble_eq_true rfl, Nat.le_of_ble_eq_true rfl⟩ rfl rfl (Nat.le_of_ble_eq_true rfl) dX9_stepOf_8 ?_
  refine g_istore_n E [(2, .int q1.1), (0, .int x0), (1, .int x1)] dX9_stepOf_11 rfl (by decide) rfl ?_
  refine g_iload_n E 1 dX9_stepOf_12 rfl rfl ?_
  by_cases c3 : x0 = (0 : Int32)
  · have hf := gp hf c3
    refine g_tabIn (tgt := 56) E (0 : Int32) c3 dX9_stepOf_13 (by decide) (by decide) (by decide) (by decide) ?_
    refine g_iload_n E 2 dX9_stepOf_56 rfl rfl ?_
    obtain ⟨q4, hq5, hf⟩ := gb hf
    refine g_callS (As := [.int x1]) (rest := []) (n := 1) E (fX9_isJoin_c k q1.2 x1 q4 hq5) gX9_stepOf_X9_isJoin rfl rfl rfl (by decide +kernel) ⟨Nat.le_of_ble_eq_true rfl, Nat.le_of_ble_eq_true rfl⟩ rfl rfl (Nat.le_of_ble_eq_true rfl) dX9_stepOf_57 ?_
    refine g_if_eq (tgt := 67) E dX9_stepOf_60 (by decide) (fun c6 => ?_) (fun c6 => ?_)
    · have hf := gp hf c6
      refine g_iconst (v := (-1 : Int32)) E dX9_stepOf_67 (by decide) ?_
      cases hf
      exact g_iret E dX9_stepOf_68
    · have hf := gn hf c6
      refine g_iconst (v := (1 : Int32)) E dX9_stepOf_63 (by decide) ?_
      refine g_goto (tgt := 68) E dX9_stepOf_64 (by decide) ?_
      cases hf
      exact g_iret E dX9_stepOf_68
  · have hf := gn hf c3
    by_cases c7 : x0 = (1 : Int32)
    · have hf := gp hf c7
      refine g_tabIn (tgt := 69) E (1 : Int32) c7 dX9_stepOf_13 (by decide) (by decide) (by decide) (by decide) ?_
      refine g_iload_n E 2 dX9_stepOf_69 rfl rfl ?_
      refine g_bipush (v := (62 : Int32)) E dX9_stepOf_70 (by decide) ?_
      refine g_icmp_ne (tgt := 79) E dX9_stepOf_72 (by decide) (fun c8 => ?_) (fun c8 => ?_)
      · have hf := gn hf c8
        refine g_iconst (v := (-1 : Int32)) E dX9_stepOf_79 (by decide) ?_
        cases hf
        exact g_iret E dX9_stepOf_80
      · have hf := gp hf c8
        refine g_iconst (v := (2 : Int32)) E dX9_stepOf_75 (by decide) ?_
        refine g_goto (tgt := 80) E dX9_stepOf_76 (by decide) ?_
        cases hf
        exact g_iret E dX9_stepOf_80
    · have hf := gn hf c7
      by_cases c9 : x0 = (2 : Int32)
      · have hf := gp hf c9
        refine g_tabIn (tgt := 81) E (2 : Int32) c9 dX9_stepOf_13 (by decide) (by decide) (by decide) (by decide) ?_
        refine g_iload_n E 0 dX9_stepOf_81 rfl rfl ?_
        refine g_if_eq (tgt := 89) E dX9_stepOf_82 (by decide) (fun c10 => ?_) (fun c10 => ?_)
        · have hf := gp hf c10
          refine g_iconst (v := (-1 : Int32)) E dX9_stepOf_89 (by decide) ?_
          cases hf
          exact g_iret E dX9_stepOf_90
        · have hf := gn hf c10
          refine g_iconst (v := (3 : Int32)) E dX9_stepOf_85 (by decide) ?_
          refine g_goto (tgt := 90) E dX9_stepOf_86 (by decide) ?_
          cases hf
          exact g_iret E dX9_stepOf_90
      · have hf := gn hf c9
        by_cases c11 : x0 = (3 : Int32)
        · have hf := gp hf c11
          refine g_tabIn (tgt := 124) E (3 : Int32) c11 dX9_stepOf_13 (by decide) (by decide) (by decide) (by decide) ?_
          refine g_iload_n E 2 dX9_stepOf_124 rfl rfl ?_
          refine g_bipush (v := (59 : Int32)) E dX9_stepOf_125 (by decide) ?_
          refine g_icmp_ne (tgt := 134) E dX9_stepOf_127 (by decide) (fun c12 => ?_) (fun c12 => ?_)
          · have hf := gn hf c12
            refine g_iload_n E 2 dX9_stepOf_134 rfl rfl ?_
            refine g_bipush (v := (63 : Int32)) E dX9_stepOf_135 (by decide) ?_
            refine g_icmp_ne (tgt := 144) E dX9_stepOf_137 (by decide) (fun c13 => ?_) (fun c13 => ?_)
            · have hf := gn hf c13
              refine g_iload_n E 0 dX9_stepOf_144 rfl rfl ?_
              refine g_if_eq (tgt := 157) E dX9_stepOf_145 (by decide) (fun c14 => ?_) (fun c14 => ?_)
              · have hf := gp hf c14
                refine g_iconst (v := (-1 : Int32)) E dX9_stepOf_157 (by decide) ?_
                cases hf
                exact g_iret E dX9_stepOf_158
              · have hf := gn hf c14
                refine g_iload_n E 1 dX9_stepOf_148 rfl rfl ?_
                refine g_iconst (v := (3 : Int32)) E dX9_stepOf_149 (by decide) ?_
                refine g_icmp_ne (tgt := 157) E dX9_stepOf_150 (by decide) (fun c15 => ?_) (fun c15 => ?_)
                · have hf := gn hf c15
                  refine g_iconst (v := (-1 : Int32)) E dX9_stepOf_157 (by decide) ?_
                  cases hf
                  exact g_iret E dX9_stepOf_158
                · have hf := gp hf c15
                  refine g_iconst (v := (4 : Int32)) E dX9_stepOf_153 (by decide) ?_
                  refine g_goto (tgt := 158) E dX9_stepOf_154 (by decide) ?_
                  cases hf
                  exact g_iret E dX9_stepOf_158
            · have hf := gp hf c13
              refine g_iconst (v := (5 : Int32)) E dX9_stepOf_140 (by decide) ?_
              refine g_goto (tgt := 158) E dX9_stepOf_141 (by decide) ?_
              cases hf
              exact g_iret E dX9_stepOf_158
          · have hf := gp hf c12
            refine g_iconst (v := (0 : Int32)) E dX9_stepOf_130 (by decide) ?_
            refine g_goto (tgt := 158) E dX9_stepOf_131 (by decide) ?_
            cases hf
            exact g_iret E dX9_stepOf_158
        · have hf := gn hf c11
          by_cases c16 : x0 = (4 : Int32)
          · have hf := gp hf c16
            refine g_tabIn (tgt := 124) E (4 : Int32) c16 dX9_stepOf_13 (by decide) (by decide) (by decide) (by decide) ?_
            refine g_iload_n E 2 dX9_stepOf_124 rfl rfl ?_
            refine g_bipush (v := (59 : Int32)) E dX9_stepOf_125 (by decide) ?_
            refine g_icmp_ne (tgt := 134) E dX9_stepOf_127 (by decide) (fun c17 => ?_) (fun c17 => ?_)
            · have hf := gn hf c17
              refine g_iload_n E 2 dX9_stepOf_134 rfl rfl ?_
              refine g_bipush (v := (63 : Int32)) E dX9_stepOf_135 (by decide) ?_
              refine g_icmp_ne (tgt := 144) E dX9_stepOf_137 (by decide) (fun c18 => ?_) (fun c18 => ?_)
              · have hf := gn hf c18
                refine g_iload_n E 0 dX9_stepOf_144 rfl rfl ?_
                refine g_if_eq (tgt := 157) E dX9_stepOf_145 (by decide) (fun c19 => ?_) (fun c19 => ?_)
                · have hf := gp hf c19
                  refine g_iconst (v := (-1 : Int32)) E dX9_stepOf_157 (by decide) ?_
                  cases hf
                  exact g_iret E dX9_stepOf_158
                · have hf := gn hf c19
                  refine g_iload_n E 1 dX9_stepOf_148 rfl rfl ?_
                  refine g_iconst (v := (3 : Int32)) E dX9_stepOf_149 (by decide) ?_
                  refine g_icmp_ne (tgt := 157) E dX9_stepOf_150 (by decide) (fun c20 => ?_) (fun c20 => ?_)
                  · have hf := gn hf c20
                    refine g_iconst (v := (-1 : Int32)) E dX9_stepOf_157 (by decide) ?_
                    cases hf
                    exact g_iret E dX9_stepOf_158
                  · have hf := gp hf c20
                    refine g_iconst (v := (4 : Int32)) E dX9_stepOf_153 (by decide) ?_
                    refine g_goto (tgt := 158) E dX9_stepOf_154 (by decide) ?_
                    cases hf
                    exact g_iret E dX9_stepOf_158
              · have hf := gp hf c18
                refine g_iconst (v := (5 : Int32)) E dX9_stepOf_140 (by decide) ?_
                refine g_goto (tgt := 158) E dX9_stepOf_141 (by decide) ?_
                cases hf
                exact g_iret E dX9_stepOf_158
            · have hf := gp hf c17
              refine g_iconst (v := (0 : Int32)) E dX9_stepOf_130 (by decide) ?_
              refine g_goto (tgt := 158) E dX9_stepOf_131 (by decide) ?_
              cases hf
              exact g_iret E dX9_stepOf_158
          · have hf := gn hf c16
            by_cases c21 : x0 = (5 : Int32)
            · have hf := gp hf c21
              refine g_tabIn (tgt := 91) E (5 : Int32) c21 dX9_stepOf_13 (by decide) (by decide) (by decide) (by decide) ?_
              refine g_iload_n E 2 dX9_stepOf_91 rfl rfl ?_
              refine g_i2l E dX9_stepOf_92 ?_
              refine g_ldc2 (v := (49 : Int64)) E (by decide +kernel) dX9_stepOf_93 ?_
              refine g_ldc2 (v := (51 : Int64)) E (by decide +kernel) dX9_stepOf_96 ?_
              obtain ⟨q22, hq23, hf⟩ := gb hf
              refine g_callS (As := [.long x1.toInt64, .long (49 : Int64), .long (51 : Int64)]) (rest := []) (n := 3) E (fX9_in_c k q1.2 x1.toInt64 (49 : Int64) (51 : Int64) q22 hq23) gX9_stepOf_X9_in rfl rfl rfl (by decide +kernel) ⟨Nat.le_of_ble_eq_true rfl, Nat.le_of_ble_eq_true rfl⟩ rfl rfl (Nat.le_of_ble_eq_true rfl) dX9_stepOf_99 ?_
              refine g_if_eq (tgt := 110) E dX9_stepOf_102 (by decide) (fun c24 => ?_) (fun c24 => ?_)
              · have hf := gp hf c24
                refine g_iconst (v := (-1 : Int32)) E dX9_stepOf_110 (by decide) ?_
                cases hf
                exact g_iret E dX9_stepOf_111
              · have hf := gn hf c24
                refine g_bipush (v := (6 : Int32)) E dX9_stepOf_105 (by decide) ?_
                refine g_goto (tgt := 111) E dX9_stepOf_107 (by decide) ?_
                cases hf
                exact g_iret E dX9_stepOf_111
            · have hf := gn hf c21
              by_cases c25 : x0 = (6 : Int32)
              · have hf := gp hf c25
                refine g_tabIn (tgt := 112) E (6 : Int32) c25 dX9_stepOf_13 (by decide) (by decide) (by decide) (by decide) ?_
                refine g_iload_n E 2 dX9_stepOf_112 rfl rfl ?_
                refine g_bipush (v := (59 : Int32)) E dX9_stepOf_113 (by decide) ?_
                refine g_icmp_ne (tgt := 122) E dX9_stepOf_115 (by decide) (fun c26 => ?_) (fun c26 => ?_)
                · have hf := gn hf c26
                  refine g_iconst (v := (-1 : Int32)) E dX9_stepOf_122 (by decide) ?_
                  cases hf
                  exact g_iret E dX9_stepOf_123
                · have hf := gp hf c26
                  refine g_iconst (v := (0 : Int32)) E dX9_stepOf_118 (by decide) ?_
                  refine g_goto (tgt := 123) E dX9_stepOf_119 (by decide) ?_
                  cases hf
                  exact g_iret E dX9_stepOf_123
              · have hf := gn hf c25
                have hout : (x0).toInt < 0 ∨ 6 < (x0).toInt := by
                  have := lv_neT c3 (a := 0) rfl
                  have := lv_neT c7 (a := 1) rfl
                  have := lv_neT c9 (a := 2) rfl
                  have := lv_neT c11 (a := 3) rfl
                  have := lv_neT c16 (a := 4) rfl
                  have := lv_neT c21 (a := 5) rfl
                  have := lv_neT c25 (a := 6) rfl
                  omega
                refine g_tabOut (tgt := 124) E dX9_stepOf_13 hout (by decide) ?_
                refine g_iload_n E 2 dX9_stepOf_124 rfl rfl ?_
                refine g_bipush (v := (59 : Int32)) E dX9_stepOf_125 (by decide) ?_
                refine g_icmp_ne (tgt := 134) E dX9_stepOf_127 (by decide) (fun c27 => ?_) (fun c27 => ?_)
                · have hf := gn hf c27
                  refine g_iload_n E 2 dX9_stepOf_134 rfl rfl ?_
                  refine g_bipush (v := (63 : Int32)) E dX9_stepOf_135 (by decide) ?_
                  refine g_icmp_ne (tgt := 144) E dX9_stepOf_137 (by decide) (fun c28 => ?_) (fun c28 => ?_)
                  · have hf := gn hf c28
                    refine g_iload_n E 0 dX9_stepOf_144 rfl rfl ?_
                    refine g_if_eq (tgt := 157) E dX9_stepOf_145 (by decide) (fun c29 => ?_) (fun c29 => ?_)
                    · have hf := gp hf c29
                      refine g_iconst (v := (-1 : Int32)) E dX9_stepOf_157 (by decide) ?_
                      cases hf
                      exact g_iret E dX9_stepOf_158
                    · have hf := gn hf c29
                      refine g_iload_n E 1 dX9_stepOf_148 rfl rfl ?_
                      refine g_iconst (v := (3 : Int32)) E dX9_stepOf_149 (by decide) ?_
                      refine g_icmp_ne (tgt := 157) E dX9_stepOf_150 (by decide) (fun c30 => ?_) (fun c30 => ?_)
                      · have hf := gn hf c30
                        refine g_iconst (v := (-1 : Int32)) E dX9_stepOf_157 (by decide) ?_
                        cases hf
                        exact g_iret E dX9_stepOf_158
                      · have hf := gp hf c30
                        refine g_iconst (v := (4 : Int32)) E dX9_stepOf_153 (by decide) ?_
                        refine g_goto (tgt := 158) E dX9_stepOf_154 (by decide) ?_
                        cases hf
                        exact g_iret E dX9_stepOf_158
                  · have hf := gp hf c28
                    refine g_iconst (v := (5 : Int32)) E dX9_stepOf_140 (by decide) ?_
                    refine g_goto (tgt := 158) E dX9_stepOf_141 (by decide) ?_
                    cases hf
                    exact g_iret E dX9_stepOf_158
                · have hf := gp hf c27
                  refine g_iconst (v := (0 : Int32)) E dX9_stepOf_130 (by decide) ?_
                  refine g_goto (tgt := 158) E dX9_stepOf_131 (by decide) ?_
                  cases hf
                  exact g_iret E dX9_stepOf_158
