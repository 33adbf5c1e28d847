theorem hi_X2_spreadChains_X2 : ∀ w ∈ wsX20, w ∈ wsX2_spreadChains := by decide +kernel
theorem hi_X2_spreadChains_X0 : ∀ w ∈ wsX00, w ∈ wsX2_spreadChains := by decide +kernel
theorem hi_X2_spreadChains_X4 : ∀ w ∈ wsX40, w ∈ wsX2_spreadChains := by decide +kernel
theorem hk_X2_spreadChains_34 : Cond.fieldLink RX2 34 "PaperMarks$Match" "judges" "LPaperMarks$Judges;" ∈ wsX2_spreadChains := by decide +kernel
theorem hk_X2_spreadChains_65 : Cond.fieldLink RX2 65 "PaperMarks$Judges" "count" "I" ∈ wsX2_spreadChains := by decide +kernel
theorem hk_X2_spreadChains_9 : Cond.fieldLink RX2 9 "PaperMarks$Match" "sets" "[I" ∈ wsX2_spreadChains := by decide +kernel
theorem hk_X2_spreadChains_38 : Cond.fieldLink RX2 38 "PaperMarks$Match" "papers" "LPaperMarks$Papers;" ∈ wsX2_spreadChains := by decide +kernel
theorem hk_X2_spreadChains_48 : Cond.fieldLink RX2 48 "PaperMarks$Papers" "count" "I" ∈ wsX2_spreadChains := by decide +kernel
theorem hk_X2_spreadChains_25 : Cond.fieldLink RX2 25 "PaperMarks$Match" "judgeGains" "[J" ∈ wsX2_spreadChains := by decide +kernel
theorem hk_X2_spreadChains_28 : Cond.fieldLink RX2 28 "PaperMarks$Match" "givers" "[I" ∈ wsX2_spreadChains := by decide +kernel
theorem hk_X2_spreadChains_31 : Cond.fieldLink RX2 31 "PaperMarks$Match" "gets" "[I" ∈ wsX2_spreadChains := by decide +kernel
theorem hk_X2_spreadChains_21 : Cond.fieldLink RX2 21 "PaperMarks$Match" "paperGains" "[J" ∈ wsX2_spreadChains := by decide +kernel
theorem hk_X2_spreadChains_15 : Cond.fieldLink RX2 15 "PaperMarks$Match" "wants" "[I" ∈ wsX2_spreadChains := by decide +kernel
def rm_fX2_spreadChains : Room := { frames := 4, cells := 0, slots := 0, locals := 90 }
set_option maxHeartbeats 4000000 in
set_option maxRecDepth 100000 in
theorem fX2_spreadChains_w140 {k : gK} {X : gX} (E : gE k X cX2_spreadChains RX2 wsX2_spreadChains 5 none rm_fX2_spreadChains) (rc68 : St → Int32 → Int32 → Option (Unit × St)) (hrc68 : ∀ (σ : St) (x1 : Int32) (x2 : Int32) (r : Unit × St), rc68 σ x1 x2 = some r → G k X 5 (none) (cw k.2.2.2 r.2) (cw k.2.2.2 σ) [(0, .ref (k.2.2.2.1 7)), (1, .int x1), (2, .int x2)] [] 68) (rc82 : St → Int32 → Int32 → Int32 → Option (Unit × St)) (hrc82 : ∀ (σ : St) (x1 : Int32) (x2 : Int32) (x3 : Int32) (r : Unit × St), rc82 σ x1 x2 x3 = some r → G k X 5 (none) (cw k.2.2.2 r.2) (cw k.2.2.2 σ) [(0, .ref (k.2.2.2.1 7)), (1, .int x1), (2, .int x2), (3, .int x3)] [] 82) (rc96 : St → Int32 → Int32 → Int32 → Int32 → Option (Unit × St)) (hrc96 : ∀ (σ : St) (x1 : Int32) (x2 : Int32) (x3 : Int32) (x4 : Int32) (r : Unit × St), rc96 σ x1 x2 x3 x4 = some r → G k X 5 (none) (cw k.2.2.2 r.2) (cw k.2.2.2 σ) [(0, .ref (k.2.2.2.1 7)), (1, .int x1), (2, .int x2), (3, .int x3), (4, .int x4)] [] 96) (σ : St) (x2 : Int32) (x3 : Int32) (x4 : Int32) (t0 : Int32) (t1 : Int32) (r : Unit × St) (hf : fX2_spreadChains_b140 rc68 rc82 rc96 σ x2 x3 x4 t0 t1 = some r) : G k X 5 (none) (cw k.2.2.2 r.2) (cw k.2.2.2 σ) [(0, .ref (k.2.2.2.1 7)), (2, .int x2), (3, .int x3), (4, .int x4)] [.int t1, .int t0] 140 := by
  unfold fX2_spreadChains_b140 at hf
  refine g_ior E dX2_spreadChains_140 ?_
  refine g_istore_n E [(1, .int (t0 ||| t1)), (0, .ref (k.2.2.2.1 7)), (2, .int x2), (3, .int x3), (4, .int x4)] dX2_spreadChains_141 rfl (by decide) rfl ?_
  refine g_iinc E 4 [(4, .int (x4 + (1 : Int32))), (1, .int (t0 ||| t1)), (0, .ref (k.2.2.2.1 7)), (2, .int x2), (3, .int x3)] (x4 + (1 : Int32)) dX2_spreadChains_142 rfl (by rfl) (by decide) rfl ?_
  refine g_goto (tgt := 96) E dX2_spreadChains_145 (by decide) ?_
  exact g_sub [2, 1, 3, 4, 0] rfl (hrc96 σ (t0 ||| t1) x2 x3 (x4 + (1 : Int32)) r hf)
set_option maxHeartbeats 4000000 in
set_option maxRecDepth 100000 in
theorem fX2_spreadChains_w96 {k : gK} {X : gX} (E : gE k X cX2_spreadChains RX2 wsX2_spreadChains 5 none rm_fX2_spreadChains) (rc68 : St → Int32 → Int32 → Option (Unit × St)) (hrc68 : ∀ (σ : St) (x1 : Int32) (x2 : Int32) (r : Unit × St), rc68 σ x1 x2 = some r → G k X 5 (none) (cw k.2.2.2 r.2) (cw k.2.2.2 σ) [(0, .ref (k.2.2.2.1 7)), (1, .int x1), (2, .int x2)] [] 68) (rc82 : St → Int32 → Int32 → Int32 → Option (Unit × St)) (hrc82 : ∀ (σ : St) (x1 : Int32) (x2 : Int32) (x3 : Int32) (r : Unit × St), rc82 σ x1 x2 x3 = some r → G k X 5 (none) (cw k.2.2.2 r.2) (cw k.2.2.2 σ) [(0, .ref (k.2.2.2.1 7)), (1, .int x1), (2, .int x2), (3, .int x3)] [] 82) (rc96 : St → Int32 → Int32 → Int32 → Int32 → Option (Unit × St)) (hrc96 : ∀ (σ : St) (x1 : Int32) (x2 : Int32) (x3 : Int32) (x4 : Int32) (r : Unit × St), rc96 σ x1 x2 x3 x4 = some r → G k X 5 (none) (cw k.2.2.2 r.2) (cw k.2.2.2 σ) [(0, .ref (k.2.2.2.1 7)), (1, .int x1), (2, .int x2), (3, .int x3), (4, .int x4)] [] 96) (σ : St) (x1 : Int32) (x2 : Int32) (x3 : Int32) (x4 : Int32) (r : Unit × St) (hf : fX2_spreadChains_b96 rc68 rc82 rc96 σ x1 x2 x3 x4 = some r) : G k X 5 (none) (cw k.2.2.2 r.2) (cw k.2.2.2 σ) [(0, .ref (k.2.2.2.1 7)), (1, .int x1), (2, .int x2), (3, .int x3), (4, .int x4)] [] 96 := by
  unfold fX2_spreadChains_b96 at hf
  refine g_iload E 4 dX2_spreadChains_96 rfl ?_
  refine g_aload_n E 0 dX2_spreadChains_98 rfl rfl ?_
  refine g_get (C := RX2) (T := TX2) (N := 9) (ci := 2) E 7 0 (.ref (k.2.2.2.1 1)) hi_X2_spreadChains_X2 (cwG7 _ _) rfl (by decide) hk_X2_spreadChains_34 rfl dX2_spreadChains_99 ?_
  refine g_get (C := RX0) (T := TX0) (N := 5) (ci := 0) E 1 4 (.int (σ.2.1 0)) hi_X2_spreadChains_X0 (cwG1 _ _) rfl (by decide) hk_X2_spreadChains_65 rfl dX2_spreadChains_102 ?_
  refine g_icmp_ge (tgt := 148) E dX2_spreadChains_105 (by decide) (fun c1 => ?_) (fun c1 => ?_)
  · have hf := gp hf c1
    refine g_iinc E 3 [(3, .int (x3 + (1 : Int32))), (0, .ref (k.2.2.2.1 7)), (1, .int x1), (2, .int x2), (4, .int x4)] (x3 + (1 : Int32)) dX2_spreadChains_148 rfl (by rfl) (by decide) rfl ?_
    refine g_goto (tgt := 82) E dX2_spreadChains_151 (by decide) ?_
    exact g_sub [1, 2, 3, 0] rfl (hrc82 σ x1 x2 (x3 + (1 : Int32)) r hf)
  · have hf := gn hf c1
    refine g_iload_n E 1 dX2_spreadChains_108 rfl rfl ?_
    refine g_aload_n E 0 dX2_spreadChains_109 rfl rfl ?_
    refine g_get (C := RX2) (T := TX2) (N := 9) (ci := 2) E 7 2 (.ref (k.2.2.2.1 27)) hi_X2_spreadChains_X2 (cwG7 _ _) rfl (by decide) hk_X2_spreadChains_9 rfl dX2_spreadChains_110 ?_
    refine g_iload_n E 3 dX2_spreadChains_113 rfl rfl ?_
    obtain ⟨hi2, hf⟩ := gd hf
    refine g_iald E 27 (σ.1 27) (cwG27 _ _) hi2 dX2_spreadChains_114 ?_
    refine g_iload E 4 dX2_spreadChains_115 rfl ?_
    obtain ⟨q3, hq4, hf⟩ := gb hf
    refine g_callSN (As := [.int (σ.1 27 x3.toNatClampNeg), .int x4]) (rest := [.int x1]) (n := 2) E (fX8_hasBit_c k σ (σ.1 27 x3.toNatClampNeg) x4 q3 hq4) gX2_spreadChains_X8_hasBit_n68 rfl rfl rfl (by decide +kernel) (by decide +kernel) (by decide +kernel) (by decide +kernel) ⟨Nat.le_of_ble_eq_true rfl, Nat.le_of_ble_eq_true rfl⟩ rfl rfl (Nat.le_of_ble_eq_true rfl) dX2_spreadChains_117 ?_
    refine g_if_eq (tgt := 133) E dX2_spreadChains_120 (by decide) (fun c5 => ?_) (fun c5 => ?_)
    · have hf := gp hf c5
      refine g_aload_n E 0 dX2_spreadChains_133 rfl rfl ?_
      refine g_iload E 4 dX2_spreadChains_134 rfl ?_
      refine g_iload_n E 3 dX2_spreadChains_136 rfl rfl ?_
      obtain ⟨q6, hq7, hf⟩ := gb hf
      refine g_callV (C := RX2) (T := TX2) (N := 9) (ci := 2) (As := [.int x4, .int x3]) (rest := [.int x1]) (n := 2) E 7 (fX2_giveTo_c k q3.2 x4 x3 q6 hq7) gX2_spreadChains_X2_giveTo rfl rfl rfl (by decide +kernel) ⟨Nat.le_of_ble_eq_true rfl, Nat.le_of_ble_eq_true rfl⟩ rfl rfl (Nat.le_of_ble_eq_true rfl) rfl (cwG7 _ _) dX2_spreadChains_137 ?_
      exact g_sub [0, 2, 3, 4] rfl (fX2_spreadChains_w140 E rc68 hrc68 rc82 hrc82 rc96 hrc96 q6.2 x2 x3 x4 x1 q6.1 r hf)
    · have hf := gn hf c5
      refine g_aload_n E 0 dX2_spreadChains_123 rfl rfl ?_
      refine g_iload E 4 dX2_spreadChains_124 rfl ?_
      refine g_iload_n E 3 dX2_spreadChains_126 rfl rfl ?_
      obtain ⟨q8, hq9, hf⟩ := gb hf
      refine g_callV (C := RX2) (T := TX2) (N := 9) (ci := 2) (As := [.int x4, .int x3]) (rest := [.int x1]) (n := 2) E 7 (fX2_giveUp_c k q3.2 x4 x3 q8 hq9) gX2_spreadChains_X2_giveUp rfl rfl rfl (by decide +kernel) ⟨Nat.le_of_ble_eq_true rfl, Nat.le_of_ble_eq_true rfl⟩ rfl rfl (Nat.le_of_ble_eq_true rfl) rfl (cwG7 _ _) dX2_spreadChains_127 ?_
      refine g_goto (tgt := 140) E dX2_spreadChains_130 (by decide) ?_
      exact g_sub [0, 2, 3, 4] rfl (fX2_spreadChains_w140 E rc68 hrc68 rc82 hrc82 rc96 hrc96 q8.2 x2 x3 x4 x1 q8.1 r hf)
theorem fX2_spreadChains_v96 {k : gK} {X : gX} (E : gE k X cX2_spreadChains RX2 wsX2_spreadChains 5 none rm_fX2_spreadChains) (rc68 : St → Int32 → Int32 → Option (Unit × St)) (hrc68 : ∀ (σ : St) (x1 : Int32) (x2 : Int32) (r : Unit × St), rc68 σ x1 x2 = some r → G k X 5 (none) (cw k.2.2.2 r.2) (cw k.2.2.2 σ) [(0, .ref (k.2.2.2.1 7)), (1, .int x1), (2, .int x2)] [] 68) (rc82 : St → Int32 → Int32 → Int32 → Option (Unit × St)) (hrc82 : ∀ (σ : St) (x1 : Int32) (x2 : Int32) (x3 : Int32) (r : Unit × St), rc82 σ x1 x2 x3 = some r → G k X 5 (none) (cw k.2.2.2 r.2) (cw k.2.2.2 σ) [(0, .ref (k.2.2.2.1 7)), (1, .int x1), (2, .int x2), (3, .int x3)] [] 82) : ∀ (n : Nat) (σ : St) (x1 : Int32) (x2 : Int32) (x3 : Int32) (x4 : Int32) (r : Unit × St), fX2_spreadChains_l96 rc68 rc82 n σ x1 x2 x3 x4 = some r → G k X 5 (none) (cw k.2.2.2 r.2) (cw k.2.2.2 σ) [(0, .ref (k.2.2.2.1 7)), (1, .int x1), (2, .int x2), (3, .int x3), (4, .int x4)] [] 96 := by
  intro n
  induction n with
  | zero => intro σ x1 x2 x3 x4 r hf; cases hf
  | succ n ih => intro σ x1 x2 x3 x4 r hf; exact fX2_spreadChains_w96 E rc68 hrc68 rc82 hrc82 (fX2_spreadChains_l96 rc68 rc82 n) ih σ x1 x2 x3 x4 r hf
set_option maxHeartbeats 4000000 in
set_option maxRecDepth 100000 in
theorem fX2_spreadChains_w82 {k : gK} {X : gX} (E : gE k X cX2_spreadChains RX2 wsX2_spreadChains 5 none rm_fX2_spreadChains) (rc68 : St → Int32 → Int32 → Option (Unit × St)) (hrc68 : ∀ (σ : St) (x1 : Int32) (x2 : Int32) (r : Unit × St), rc68 σ x1 x2 = some r → G k X 5 (none) (cw k.2.2.2 r.2) (cw k.2.2.2 σ) [(0, .ref (k.2.2.2.1 7)), (1, .int x1), (2, .int x2)] [] 68) (rc82 : St → Int32 → Int32 → Int32 → Option (Unit × St)) (hrc82 : ∀ (σ : St) (x1 : Int32) (x2 : Int32) (x3 : Int32) (r : Unit × St), rc82 σ x1 x2 x3 = some r → G k X 5 (none) (cw k.2.2.2 r.2) (cw k.2.2.2 σ) [(0, .ref (k.2.2.2.1 7)), (1, .int x1), (2, .int x2), (3, .int x3)] [] 82) (σ : St) (x1 : Int32) (x2 : Int32) (x3 : Int32) (r : Unit × St) (hf : fX2_spreadChains_b82 rc68 rc82 σ x1 x2 x3 = some r) : G k X 5 (none) (cw k.2.2.2 r.2) (cw k.2.2.2 σ) [(0, .ref (k.2.2.2.1 7)), (1, .int x1), (2, .int x2), (3, .int x3)] [] 82 := by
  unfold fX2_spreadChains_b82 at hf
  refine g_iload_n E 3 dX2_spreadChains_82 rfl rfl ?_
  refine g_aload_n E 0 dX2_spreadChains_83 rfl rfl ?_
  refine g_get (C := RX2) (T := TX2) (N := 9) (ci := 2) E 7 1 (.ref (k.2.2.2.1 2)) hi_X2_spreadChains_X2 (cwG7 _ _) rfl (by decide) hk_X2_spreadChains_38 rfl dX2_spreadChains_84 ?_
  refine g_get (C := RX4) (T := TX4) (N := 6) (ci := 4) E 2 5 (.int (σ.2.1 1)) hi_X2_spreadChains_X4 (cwG2 _ _) rfl (by decide) hk_X2_spreadChains_48 rfl dX2_spreadChains_87 ?_
  refine g_icmp_ge (tgt := 154) E dX2_spreadChains_90 (by decide) (fun c1 => ?_) (fun c1 => ?_)
  · have hf := gp hf c1
    refine g_iinc E 2 [(2, .int (x2 + (1 : Int32))), (0, .ref (k.2.2.2.1 7)), (1, .int x1), (3, .int x3)] (x2 + (1 : Int32)) dX2_spreadChains_154 rfl (by rfl) (by decide) rfl ?_
    refine g_goto (tgt := 68) E dX2_spreadChains_157 (by decide) ?_
    exact g_sub [1, 2, 0] rfl (hrc68 σ x1 (x2 + (1 : Int32)) r hf)
  · have hf := gn hf c1
    refine g_iconst (v := (0 : Int32)) E dX2_spreadChains_93 (by decide) ?_
    refine g_istore E [(4, .int (0 : Int32)), (0, .ref (k.2.2.2.1 7)), (1, .int x1), (2, .int x2), (3, .int x3)] dX2_spreadChains_94 (by decide) rfl ?_
    exact g_sub [1, 2, 3, 4, 0] rfl (fX2_spreadChains_v96 E rc68 hrc68 rc82 hrc82 gF σ x1 x2 x3 (0 : Int32) r hf)
theorem fX2_spreadChains_v82 {k : gK} {X : gX} (E : gE k X cX2_spreadChains RX2 wsX2_spreadChains 5 none rm_fX2_spreadChains) (rc68 : St → Int32 → Int32 → Option (Unit × St)) (hrc68 : ∀ (σ : St) (x1 : Int32) (x2 : Int32) (r : Unit × St), rc68 σ x1 x2 = some r → G k X 5 (none) (cw k.2.2.2 r.2) (cw k.2.2.2 σ) [(0, .ref (k.2.2.2.1 7)), (1, .int x1), (2, .int x2)] [] 68) : ∀ (n : Nat) (σ : St) (x1 : Int32) (x2 : Int32) (x3 : Int32) (r : Unit × St), fX2_spreadChains_l82 rc68 n σ x1 x2 x3 = some r → G k X 5 (none) (cw k.2.2.2 r.2) (cw k.2.2.2 σ) [(0, .ref (k.2.2.2.1 7)), (1, .int x1), (2, .int x2), (3, .int x3)] [] 82 := by
  intro n
  induction n with
  | zero => intro σ x1 x2 x3 r hf; cases hf
  | succ n ih => intro σ x1 x2 x3 r hf; exact fX2_spreadChains_w82 E rc68 hrc68 (fX2_spreadChains_l82 rc68 n) ih σ x1 x2 x3 r hf
set_option maxHeartbeats 4000000 in
set_option maxRecDepth 100000 in
theorem fX2_spreadChains_w68 {k : gK} {X : gX} (E : gE k X cX2_spreadChains RX2 wsX2_spreadChains 5 none rm_fX2_spreadChains) (rc68 : St → Int32 → Int32 → Option (Unit × St)) (hrc68 : ∀ (σ : St) (x1 : Int32) (x2 : Int32) (r : Unit × St), rc68 σ x1 x2 = some r → G k X 5 (none) (cw k.2.2.2 r.2) (cw k.2.2.2 σ) [(0, .ref (k.2.2.2.1 7)), (1, .int x1), (2, .int x2)] [] 68) (σ : St) (x1 : Int32) (x2 : Int32) (r : Unit × St) (hf : fX2_spreadChains_b68 rc68 σ x1 x2 = some r) : G k X 5 (none) (cw k.2.2.2 r.2) (cw k.2.2.2 σ) [(0, .ref (k.2.2.2.1 7)), (1, .int x1), (2, .int x2)] [] 68 := by
  unfold fX2_spreadChains_b68 at hf
  refine g_iload_n E 2 dX2_spreadChains_68 rfl rfl ?_
  refine g_bipush (v := (12 : Int32)) E dX2_spreadChains_69 (by decide) ?_
  refine g_icmp_ge (tgt := 160) E dX2_spreadChains_71 (by decide) (fun c1 => ?_) (fun c1 => ?_)
  · have hf := gp hf c1
    cases hf
    exact g_vret E dX2_spreadChains_160
  · have hf := gn hf c1
    refine g_iload_n E 1 dX2_spreadChains_74 rfl rfl ?_
    refine g_if_eq (tgt := 160) E dX2_spreadChains_75 (by decide) (fun c2 => ?_) (fun c2 => ?_)
    · have hf := gp hf c2
      cases hf
      exact g_vret E dX2_spreadChains_160
    · have hf := gn hf c2
      refine g_iconst (v := (0 : Int32)) E dX2_spreadChains_78 (by decide) ?_
      refine g_istore_n E [(1, .int (0 : Int32)), (0, .ref (k.2.2.2.1 7)), (2, .int x2)] dX2_spreadChains_79 rfl (by decide) rfl ?_
      refine g_iconst (v := (0 : Int32)) E dX2_spreadChains_80 (by decide) ?_
      refine g_istore_n E [(3, .int (0 : Int32)), (1, .int (0 : Int32)), (0, .ref (k.2.2.2.1 7)), (2, .int x2)] dX2_spreadChains_81 rfl (by decide) rfl ?_
      exact g_sub [2, 1, 3, 0] rfl (fX2_spreadChains_v82 E rc68 hrc68 gF σ (0 : Int32) x2 (0 : Int32) r hf)
theorem fX2_spreadChains_v68 {k : gK} {X : gX} (E : gE k X cX2_spreadChains RX2 wsX2_spreadChains 5 none rm_fX2_spreadChains) : ∀ (n : Nat) (σ : St) (x1 : Int32) (x2 : Int32) (r : Unit × St), fX2_spreadChains_l68 n σ x1 x2 = some r → G k X 5 (none) (cw k.2.2.2 r.2) (cw k.2.2.2 σ) [(0, .ref (k.2.2.2.1 7)), (1, .int x1), (2, .int x2)] [] 68 := by
  intro n
  induction n with
  | zero => intro σ x1 x2 r hf; cases hf
  | succ n ih => intro σ x1 x2 r hf; exact fX2_spreadChains_w68 E (fX2_spreadChains_l68 n) ih σ x1 x2 r hf
set_option maxHeartbeats 4000000 in
set_option maxRecDepth 100000 in
theorem fX2_spreadChains_w29 {k : gK} {X : gX} (E : gE k X cX2_spreadChains RX2 wsX2_spreadChains 5 none rm_fX2_spreadChains) (rc2 : St → Int32 → Option (Unit × St)) (hrc2 : ∀ (σ : St) (x1 : Int32) (r : Unit × St), rc2 σ x1 = some r → G k X 5 (none) (cw k.2.2.2 r.2) (cw k.2.2.2 σ) [(0, .ref (k.2.2.2.1 7)), (1, .int x1)] [] 2) (σ : St) (x1 : Int32) (t1 : Int32) (t2 : Int64) (r : Unit × St) (hf : fX2_spreadChains_b29 rc2 σ x1 t1 t2 = some r) : G k X 5 (none) (cw k.2.2.2 r.2) (cw k.2.2.2 σ) [(0, .ref (k.2.2.2.1 7)), (1, .int x1)] [.long t2, .int t1, .ref (k.2.2.2.1 30)] 29 := by
  unfold fX2_spreadChains_b29 at hf
  obtain ⟨hi1, hf⟩ := gd hf
  refine g_last E 30 (cw k.2.2.2 (uL σ 30 t1.toNatClampNeg t2)) (σ.2.2 30) (cwG30 _ _) hi1 (cwL30 _ _ _ _) dX2_spreadChains_29 ?_
  refine g_iinc E 1 [(1, .int (x1 + (1 : Int32))), (0, .ref (k.2.2.2.1 7))] (x1 + (1 : Int32)) dX2_spreadChains_30 rfl (by rfl) (by decide) rfl ?_
  refine g_goto (tgt := 2) E dX2_spreadChains_33 (by decide) ?_
  exact g_sub [1, 0] rfl (hrc2 (uL σ 30 t1.toNatClampNeg t2) (x1 + (1 : Int32)) r hf)
set_option maxHeartbeats 4000000 in
set_option maxRecDepth 100000 in
theorem fX2_spreadChains_w2 {k : gK} {X : gX} (E : gE k X cX2_spreadChains RX2 wsX2_spreadChains 5 none rm_fX2_spreadChains) (rc2 : St → Int32 → Option (Unit × St)) (hrc2 : ∀ (σ : St) (x1 : Int32) (r : Unit × St), rc2 σ x1 = some r → G k X 5 (none) (cw k.2.2.2 r.2) (cw k.2.2.2 σ) [(0, .ref (k.2.2.2.1 7)), (1, .int x1)] [] 2) (σ : St) (x1 : Int32) (r : Unit × St) (hf : fX2_spreadChains_b2 rc2 σ x1 = some r) : G k X 5 (none) (cw k.2.2.2 r.2) (cw k.2.2.2 σ) [(0, .ref (k.2.2.2.1 7)), (1, .int x1)] [] 2 := by
  unfold fX2_spreadChains_b2 at hf
  refine g_iload_n E 1 dX2_spreadChains_2 rfl rfl ?_
  refine g_bipush (v := (6 : Int32)) E dX2_spreadChains_3 (by decide) ?_
  refine g_icmp_ge (tgt := 36) E dX2_spreadChains_5 (by decide) (fun c1 => ?_) (fun c1 => ?_)
  · have hf := gp hf c1
    refine g_aload_n E 0 dX2_spreadChains_36 rfl rfl ?_
    refine g_get (C := RX2) (T := TX2) (N := 9) (ci := 2) E 7 6 (.ref (k.2.2.2.1 31)) hi_X2_spreadChains_X2 (cwG7 _ _) rfl (by decide) hk_X2_spreadChains_25 rfl dX2_spreadChains_37 ?_
    refine g_ldc2 (v := (-1152921504606846976 : Int64)) E (by decide +kernel) dX2_spreadChains_40 ?_
    obtain ⟨q2, hq3, hf⟩ := gb hf
    refine g_callS (As := [.ref (k.2.2.2.1 31), .long (-1152921504606846976 : Int64)]) (rest := []) (n := 2) E (fJ7_fill_d0a16_31_c k σ (-1152921504606846976 : Int64) q2 hq3) gX2_spreadChains_J7_fill_d0a16 rfl rfl rfl (by decide +kernel) ⟨Nat.le_of_ble_eq_true rfl, Nat.le_of_ble_eq_true rfl⟩ rfl rfl (Nat.le_of_ble_eq_true rfl) dX2_spreadChains_43 ?_
    refine g_aload_n E 0 dX2_spreadChains_46 rfl rfl ?_
    refine g_get (C := RX2) (T := TX2) (N := 9) (ci := 2) E 7 7 (.ref (k.2.2.2.1 32)) hi_X2_spreadChains_X2 (cwG7 _ _) rfl (by decide) hk_X2_spreadChains_28 rfl dX2_spreadChains_47 ?_
    refine g_bipush (v := (-6 : Int32)) E dX2_spreadChains_50 (by decide) ?_
    obtain ⟨q4, hq5, hf⟩ := gb hf
    refine g_callS (As := [.ref (k.2.2.2.1 32), .int (-6 : Int32)]) (rest := []) (n := 2) E (fJ7_fill_53178_32_c k q2.2 (-6 : Int32) q4 hq5) gX2_spreadChains_J7_fill_53178 rfl rfl rfl (by decide +kernel) ⟨Nat.le_of_ble_eq_true rfl, Nat.le_of_ble_eq_true rfl⟩ rfl rfl (Nat.le_of_ble_eq_true rfl) dX2_spreadChains_52 ?_
    refine g_aload_n E 0 dX2_spreadChains_55 rfl rfl ?_
    refine g_get (C := RX2) (T := TX2) (N := 9) (ci := 2) E 7 8 (.ref (k.2.2.2.1 33)) hi_X2_spreadChains_X2 (cwG7 _ _) rfl (by decide) hk_X2_spreadChains_31 rfl dX2_spreadChains_56 ?_
    refine g_bipush (v := (-6 : Int32)) E dX2_spreadChains_59 (by decide) ?_
    obtain ⟨q6, hq7, hf⟩ := gb hf
    refine g_callS (As := [.ref (k.2.2.2.1 33), .int (-6 : Int32)]) (rest := []) (n := 2) E (fJ7_fill_53178_33_c k q4.2 (-6 : Int32) q6 hq7) gX2_spreadChains_J7_fill_53178 rfl rfl rfl (by decide +kernel) ⟨Nat.le_of_ble_eq_true rfl, Nat.le_of_ble_eq_true rfl⟩ rfl rfl (Nat.le_of_ble_eq_true rfl) dX2_spreadChains_61 ?_
    refine g_iconst (v := (1 : Int32)) E dX2_spreadChains_64 (by decide) ?_
    refine g_istore_n E [(1, .int (1 : Int32)), (0, .ref (k.2.2.2.1 7))] dX2_spreadChains_65 rfl (by decide) rfl ?_
    refine g_iconst (v := (0 : Int32)) E dX2_spreadChains_66 (by decide) ?_
    refine g_istore_n E [(2, .int (0 : Int32)), (1, .int (1 : Int32)), (0, .ref (k.2.2.2.1 7))] dX2_spreadChains_67 rfl (by decide) rfl ?_
    exact g_sub [2, 1, 0] rfl (fX2_spreadChains_v68 E gF q6.2 (1 : Int32) (0 : Int32) r hf)
  · have hf := gn hf c1
    refine g_aload_n E 0 dX2_spreadChains_8 rfl rfl ?_
    refine g_get (C := RX2) (T := TX2) (N := 9) (ci := 2) E 7 5 (.ref (k.2.2.2.1 30)) hi_X2_spreadChains_X2 (cwG7 _ _) rfl (by decide) hk_X2_spreadChains_21 rfl dX2_spreadChains_9 ?_
    refine g_iload_n E 1 dX2_spreadChains_12 rfl rfl ?_
    refine g_aload_n E 0 dX2_spreadChains_13 rfl rfl ?_
    refine g_get (C := RX2) (T := TX2) (N := 9) (ci := 2) E 7 3 (.ref (k.2.2.2.1 28)) hi_X2_spreadChains_X2 (cwG7 _ _) rfl (by decide) hk_X2_spreadChains_15 rfl dX2_spreadChains_14 ?_
    refine g_iload_n E 1 dX2_spreadChains_17 rfl rfl ?_
    obtain ⟨hi8, hf⟩ := gd hf
    refine g_iald E 28 (σ.1 28) (cwG28 _ _) hi8 dX2_spreadChains_18 ?_
    refine g_if_le (tgt := 26) E dX2_spreadChains_19 (by decide) (fun c9 => ?_) (fun c9 => ?_)
    · have hf := gp hf c9
      refine g_ldc2 (v := (-1152921504606846976 : Int64)) E (by decide +kernel) dX2_spreadChains_26 ?_
      exact fX2_spreadChains_w29 E rc2 hrc2 σ x1 x1 (-1152921504606846976 : Int64) r hf
    · have hf := gn hf c9
      refine g_lconst (v := (0 : Int64)) E dX2_spreadChains_22 (by decide) ?_
      refine g_goto (tgt := 29) E dX2_spreadChains_23 (by decide) ?_
      exact fX2_spreadChains_w29 E rc2 hrc2 σ x1 x1 (0 : Int64) r hf
theorem fX2_spreadChains_v2 {k : gK} {X : gX} (E : gE k X cX2_spreadChains RX2 wsX2_spreadChains 5 none rm_fX2_spreadChains) : ∀ (n : Nat) (σ : St) (x1 : Int32) (r : Unit × St), fX2_spreadChains_l2 n σ x1 = some r → G k X 5 (none) (cw k.2.2.2 r.2) (cw k.2.2.2 σ) [(0, .ref (k.2.2.2.1 7)), (1, .int x1)] [] 2 := by
  intro n
  induction n with
  | zero => intro σ x1 r hf; cases hf
  | succ n ih => intro σ x1 r hf; exact fX2_spreadChains_w2 E (fX2_spreadChains_l2 n) ih σ x1 r hf
set_option maxHeartbeats 4000000 in
set_option maxRecDepth 100000 in
theorem fX2_spreadChains_c (k : gK) (σ : St) (r : Unit × St) (hf : fX2_spreadChains σ = some r) : MC k yX2_spreadChains wsX2_spreadChains rm_fX2_spreadChains [.ref (k.2.2.2.1 7)] (cw k.2.2.2 σ) (none) (cw k.2.2.2 r.2) := by
  refine MC_of (cc := cX2_spreadChains) (maxL := 5) (ret := none) (own := RX2) (lvs := [(0, .ref (k.2.2.2.1 7))]) (by decide) rfl rfl (Nat.le_of_ble_eq_true rfl) rfl (fun X E => ?_)
  unfold fX2_spreadChains at hf
  refine g_iconst (v := (0 : Int32)) E dX2_spreadChains_0 (by decide) ?_
  refine g_istore_n E [(1, .int (0 : Int32)), (0, .ref (k.2.2.2.1 7))] dX2_spreadChains_1 rfl (by decide) rfl ?_
  exact g_sub [1, 0] rfl (fX2_spreadChains_v2 E gF σ (0 : Int32) r hf)
theorem hi_X2_bestEnd_X2 : ∀ w ∈ wsX20, w ∈ wsX2_bestEnd := by decide +kernel
theorem hi_X2_bestEnd_X0 : ∀ w ∈ wsX00, w ∈ wsX2_bestEnd := by decide +kernel
theorem hk_X2_bestEnd_34 : Cond.fieldLink RX2 34 "PaperMarks$Match" "judges" "LPaperMarks$Judges;" ∈ wsX2_bestEnd := by decide +kernel
theorem hk_X2_bestEnd_65 : Cond.fieldLink RX2 65 "PaperMarks$Judges" "count" "I" ∈ wsX2_bestEnd := by decide +kernel
theorem hk_X2_bestEnd_18 : Cond.fieldLink RX2 18 "PaperMarks$Match" "loads" "[I" ∈ wsX2_bestEnd := by decide +kernel
theorem hk_X2_bestEnd_25 : Cond.fieldLink RX2 25 "PaperMarks$Match" "judgeGains" "[J" ∈ wsX2_bestEnd := by decide +kernel
def rm_fX2_bestEnd : Room := { frames := 0, cells := 0, slots := 0, locals := 0 }
set_option maxHeartbeats 4000000 in
set_option maxRecDepth 100000 in
theorem fX2_bestEnd_w56 {k : gK} {X : gX} (E : gE k X cX2_bestEnd RX2 wsX2_bestEnd 6 (some .int) rm_fX2_bestEnd) (rc10 : St → Int32 → Int32 → Int64 → Int32 → Option (Int32 × St)) (hrc10 : ∀ (σ : St) (x1 : Int32) (x2 : Int32) (x3 : Int64) (x5 : Int32) (r : Int32 × St), rc10 σ x1 x2 x3 x5 = some r → G k X 6 (some (.int r.1)) (cw k.2.2.2 r.2) (cw k.2.2.2 σ) [(0, .ref (k.2.2.2.1 7)), (1, .int x1), (2, .int x2), (3, .long x3), (5, .int x5)] [] 10) (σ : St) (x1 : Int32) (x2 : Int32) (x3 : Int64) (x5 : Int32) (r : Int32 × St) (hf : fX2_bestEnd_b56 rc10 σ x1 x2 x3 x5 = some r) : G k X 6 (some (.int r.1)) (cw k.2.2.2 r.2) (cw k.2.2.2 σ) [(0, .ref (k.2.2.2.1 7)), (1, .int x1), (2, .int x2), (3, .long x3), (5, .int x5)] [] 56 := by
  unfold fX2_bestEnd_b56 at hf
  refine g_iinc E 4 [(5, .int (x5 + (1 : Int32))), (0, .ref (k.2.2.2.1 7)), (1, .int x1), (2, .int x2), (3, .long x3)] (x5 + (1 : Int32)) dX2_bestEnd_56 rfl (by rfl) (by decide) rfl ?_
  refine g_goto (tgt := 10) E dX2_bestEnd_59 (by decide) ?_
  exact g_sub [1, 2, 3, 4, 0] rfl (hrc10 σ x1 x2 x3 (x5 + (1 : Int32)) r hf)
set_option maxHeartbeats 4000000 in
set_option maxRecDepth 100000 in
theorem fX2_bestEnd_w10 {k : gK} {X : gX} (E : gE k X cX2_bestEnd RX2 wsX2_bestEnd 6 (some .int) rm_fX2_bestEnd) (rc10 : St → Int32 → Int32 → Int64 → Int32 → Option (Int32 × St)) (hrc10 : ∀ (σ : St) (x1 : Int32) (x2 : Int32) (x3 : Int64) (x5 : Int32) (r : Int32 × St), rc10 σ x1 x2 x3 x5 = some r → G k X 6 (some (.int r.1)) (cw k.2.2.2 r.2) (cw k.2.2.2 σ) [(0, .ref (k.2.2.2.1 7)), (1, .int x1), (2, .int x2), (3, .long x3), (5, .int x5)] [] 10) (σ : St) (x1 : Int32) (x2 : Int32) (x3 : Int64) (x5 : Int32) (r : Int32 × St) (hf : fX2_bestEnd_b10 rc10 σ x1 x2 x3 x5 = some r) : G k X 6 (some (.int r.1)) (cw k.2.2.2 r.2) (cw k.2.2.2 σ) [(0, .ref (k.2.2.2.1 7)), (1, .int x1), (2, .int x2), (3, .long x3), (5, .int x5)] [] 10 := by
  unfold fX2_bestEnd_b10 at hf
  refine g_iload E 4 dX2_bestEnd_10 rfl ?_
  refine g_aload_n E 0 dX2_bestEnd_12 rfl rfl ?_
  refine g_get (C := RX2) (T := TX2) (N := 9) (ci := 2) E 7 0 (.ref (k.2.2.2.1 1)) hi_X2_bestEnd_X2 (cwG7 _ _) rfl (by decide) hk_X2_bestEnd_34 rfl dX2_bestEnd_13 ?_
  refine g_get (C := RX0) (T := TX0) (N := 5) (ci := 0) E 1 4 (.int (σ.2.1 0)) hi_X2_bestEnd_X0 (cwG1 _ _) rfl (by decide) hk_X2_bestEnd_65 rfl dX2_bestEnd_16 ?_
  refine g_icmp_ge (tgt := 62) E dX2_bestEnd_19 (by decide) (fun c1 => ?_) (fun c1 => ?_)
  · have hf := gp hf c1
    refine g_iload_n E 2 dX2_bestEnd_62 rfl rfl ?_
    cases hf
    exact g_iret E dX2_bestEnd_63
  · have hf := gn hf c1
    refine g_aload_n E 0 dX2_bestEnd_22 rfl rfl ?_
    refine g_get (C := RX2) (T := TX2) (N := 9) (ci := 2) E 7 4 (.ref (k.2.2.2.1 29)) hi_X2_bestEnd_X2 (cwG7 _ _) rfl (by decide) hk_X2_bestEnd_18 rfl dX2_bestEnd_23 ?_
    refine g_iload E 4 dX2_bestEnd_26 rfl ?_
    obtain ⟨hi2, hf⟩ := gd hf
    refine g_iald E 29 (σ.1 29) (cwG29 _ _) hi2 dX2_bestEnd_28 ?_
    refine g_iload_n E 1 dX2_bestEnd_29 rfl rfl ?_
    refine g_icmp_ge (tgt := 56) E dX2_bestEnd_30 (by decide) (fun c3 => ?_) (fun c3 => ?_)
    · have hf := gp hf c3
      exact fX2_bestEnd_w56 E rc10 hrc10 σ x1 x2 x3 x5 r hf
    · have hf := gn hf c3
      refine g_aload_n E 0 dX2_bestEnd_33 rfl rfl ?_
      refine g_get (C := RX2) (T := TX2) (N := 9) (ci := 2) E 7 6 (.ref (k.2.2.2.1 31)) hi_X2_bestEnd_X2 (cwG7 _ _) rfl (by decide) hk_X2_bestEnd_25 rfl dX2_bestEnd_34 ?_
      refine g_iload E 4 dX2_bestEnd_37 rfl ?_
      obtain ⟨hi4, hf⟩ := gd hf
      refine g_lald E 31 (σ.2.2 31) (cwG31 _ _) hi4 dX2_bestEnd_39 ?_
      refine g_lload_n E 3 dX2_bestEnd_40 rfl rfl ?_
      refine g_lcmp E dX2_bestEnd_41 ?_
      refine g_if_le (tgt := 56) E dX2_bestEnd_42 (by decide) (fun c5 => ?_) (fun c5 => ?_)
      · have hf := gp hf c5
        exact fX2_bestEnd_w56 E rc10 hrc10 σ x1 x2 x3 x5 r hf
      · have hf := gn hf c5
        refine g_iload E 4 dX2_bestEnd_45 rfl ?_
        refine g_istore_n E [(2, .int x5), (0, .ref (k.2.2.2.1 7)), (1, .int x1), (3, .long x3), (5, .int x5)] dX2_bestEnd_47 rfl (by decide) rfl ?_
        refine g_aload_n E 1 dX2_bestEnd_48 rfl rfl ?_
        refine g_get (C := RX2) (T := TX2) (N := 9) (ci := 2) E 7 6 (.ref (k.2.2.2.1 31)) hi_X2_bestEnd_X2 (cwG7 _ _) rfl (by decide) hk_X2_bestEnd_25 rfl dX2_bestEnd_49 ?_
        refine g_iload E 4 dX2_bestEnd_52 rfl ?_
        obtain ⟨hi6, hf⟩ := gd hf
        refine g_lald E 31 (σ.2.2 31) (cwG31 _ _) hi6 dX2_bestEnd_54 ?_
        refine g_lstore_n E [(3, .long (σ.2.2 31 x5.toNatClampNeg)), (2, .int x5), (0, .ref (k.2.2.2.1 7)), (1, .int x1), (5, .int x5)] dX2_bestEnd_55 rfl (by decide) rfl ?_
        exact g_sub [2, 3, 1, 0, 4] rfl (fX2_bestEnd_w56 E rc10 hrc10 σ x1 x5 (σ.2.2 31 x5.toNatClampNeg) x5 r hf)
theorem fX2_bestEnd_v10 {k : gK} {X : gX} (E : gE k X cX2_bestEnd RX2 wsX2_bestEnd 6 (some .int) rm_fX2_bestEnd) : ∀ (n : Nat) (σ : St) (x1 : Int32) (x2 : Int32) (x3 : Int64) (x5 : Int32) (r : Int32 × St), fX2_bestEnd_l10 n σ x1 x2 x3 x5 = some r → G k X 6 (some (.int r.1)) (cw k.2.2.2 r.2) (cw k.2.2.2 σ) [(0, .ref (k.2.2.2.1 7)), (1, .int x1), (2, .int x2), (3, .long x3), (5, .int x5)] [] 10 := by
  intro n
  induction n with
  | zero => intro σ x1 x2 x3 x5 r hf; cases hf
  | succ n ih => intro σ x1 x2 x3 x5 r hf; exact fX2_bestEnd_w10 E (fX2_bestEnd_l10 n) ih σ x1 x2 x3 x5 r hf
set_option maxHeartbeats 4000000 in
set_option maxRecDepth 100000 in
theorem fX2_bestEnd_c (k : gK) (σ : St) (x1 : Int32) (r : Int32 × St) (hf : fX2_bestEnd σ x1 = some r) : MC k yX2_bestEnd wsX2_bestEnd rm_fX2_bestEnd [.ref (k.2.2.2.1 7), .int x1] (cw k.2.2.2 σ) (some (.int r.1)) (cw k.2.2.2 r.2) := by
  refine MC_of (cc := cX2_bestEnd) (maxL := 6) (ret := (some .int)) (own := RX2) (lvs := [(0, .ref (k.2.2.2.1 7)), (1, .int x1)]) (by decide) rfl rfl (Nat.le_of_ble_eq_true rfl) rfl (fun X E => ?_)
  unfold fX2_bestEnd at hf
  refine g_bipush (v := (-6 : Int32)) E dX2_bestEnd_0 (by decide) ?_
  refine g_istore_n E [(2, .int (-6 : Int32)), (0, .ref (k.2.2.2.1 7)), (1, .int x1)] dX2_bestEnd_2 rfl (by decide) rfl ?_
  refine g_ldc2 (v := (-1152921504606846976 : Int64)) E (by decide +kernel) dX2_bestEnd_3 ?_
  refine g_lstore_n E [(3, .long (-1152921504606846976 : Int64)), (2, .int (-6 : Int32)), (0, .ref (k.2.2.2.1 7)), (1, .int x1)] dX2_bestEnd_6 rfl (by decide) rfl ?_
  refine g_iconst (v := (0 : Int32)) E dX2_bestEnd_7 (by decide) ?_
  refine g_istore E [(5, .int (0 : Int32)), (3, .long (-1152921504606846976 : Int64)), (2, .int (-6 : Int32)), (0, .ref (k.2.2.2.1 7)), (1, .int x1)] dX2_bestEnd_8 (by decide) rfl ?_
  exact g_sub [3, 4, 2, 1, 0] rfl (fX2_bestEnd_v10 E gF σ x1 (-6 : Int32) (-1152921504606846976 : Int64) (0 : Int32) r hf)
theorem hi_X2_change_X2 : ∀ w ∈ wsX20, w ∈ wsX2_change := by decide +kernel
theorem hk_X2_change_31 : Cond.fieldLink RX2 31 "PaperMarks$Match" "gets" "[I" ∈ wsX2_change := by decide +kernel
theorem hk_X2_change_9 : Cond.fieldLink RX2 9 "PaperMarks$Match" "sets" "[I" ∈ wsX2_change := by decide +kernel
theorem hk_X2_change_28 : Cond.fieldLink RX2 28 "PaperMarks$Match" "givers" "[I" ∈ wsX2_change := by decide +kernel
theorem hk_X2_change_15 : Cond.fieldLink RX2 15 "PaperMarks$Match" "wants" "[I" ∈ wsX2_change := by decide +kernel
theorem hk_X2_change_18 : Cond.fieldLink RX2 18 "PaperMarks$Match" "loads" "[I" ∈ wsX2_change := by decide +kernel
def rm_fX2_change : Room := { frames := 0, cells := 0, slots := 0, locals := 0 }
set_option maxHeartbeats 4000000 in
set_option maxRecDepth 100000 in
theorem fX2_change_w98 {k : gK} {X : gX} (E : gE k X cX2_change RX2 wsX2_change 5 none rm_fX2_change) (rc14 : St → Int32 → Int32 → Option (Unit × St)) (hrc14 : ∀ (σ : St) (x2 : Int32) (x3 : Int32) (r : Unit × St), rc14 σ x2 x3 = some r → G k X 5 (none) (cw k.2.2.2 r.2) (cw k.2.2.2 σ) [(0, .ref (k.2.2.2.1 7)), (2, .int x2), (3, .int x3)] [] 14) (σ : St) (x2 : Int32) (x3 : Int32) (r : Unit × St) (hf : fX2_change_b98 rc14 σ x2 x3 = some r) : G k X 5 (none) (cw k.2.2.2 r.2) (cw k.2.2.2 σ) [(0, .ref (k.2.2.2.1 7)), (2, .int x2), (3, .int x3)] [] 98 := by
  unfold fX2_change_b98 at hf
  refine g_iinc E 2 [(3, .int (x3 + (1 : Int32))), (0, .ref (k.2.2.2.1 7)), (2, .int x2)] (x3 + (1 : Int32)) dX2_change_98 rfl (by rfl) (by decide) rfl ?_
  refine g_goto (tgt := 14) E dX2_change_101 (by decide) ?_
  exact g_sub [1, 2, 0] rfl (hrc14 σ x2 (x3 + (1 : Int32)) r hf)
set_option maxHeartbeats 4000000 in
set_option maxRecDepth 100000 in
theorem fX2_change_w14 {k : gK} {X : gX} (E : gE k X cX2_change RX2 wsX2_change 5 none rm_fX2_change) (rc14 : St → Int32 → Int32 → Option (Unit × St)) (hrc14 : ∀ (σ : St) (x2 : Int32) (x3 : Int32) (r : Unit × St), rc14 σ x2 x3 = some r → G k X 5 (none) (cw k.2.2.2 r.2) (cw k.2.2.2 σ) [(0, .ref (k.2.2.2.1 7)), (2, .int x2), (3, .int x3)] [] 14) (σ : St) (x2 : Int32) (x3 : Int32) (r : Unit × St) (hf : fX2_change_b14 rc14 σ x2 x3 = some r) : G k X 5 (none) (cw k.2.2.2 r.2) (cw k.2.2.2 σ) [(0, .ref (k.2.2.2.1 7)), (2, .int x2), (3, .int x3)] [] 14 := by
  unfold fX2_change_b14 at hf
  refine g_iload_n E 2 dX2_change_14 rfl rfl ?_
  refine g_bipush (v := (6 : Int32)) E dX2_change_15 (by decide) ?_
  refine g_icmp_ge (tgt := 104) E dX2_change_17 (by decide) (fun c1 => ?_) (fun c1 => ?_)
  · have hf := gp hf c1
    cases hf
    exact g_vret E dX2_change_104
  · have hf := gn hf c1
    refine g_iload_n E 1 dX2_change_20 rfl rfl ?_
    refine g_bipush (v := (-6 : Int32)) E dX2_change_21 (by decide) ?_
    refine g_icmp_eq (tgt := 104) E dX2_change_23 (by decide) (fun c2 => ?_) (fun c2 => ?_)
    · have hf := gp hf c2
      cases hf
      exact g_vret E dX2_change_104
    · have hf := gn hf c2
      refine g_aload_n E 0 dX2_change_26 rfl rfl ?_
      refine g_get (C := RX2) (T := TX2) (N := 9) (ci := 2) E 7 8 (.ref (k.2.2.2.1 33)) hi_X2_change_X2 (cwG7 _ _) rfl (by decide) hk_X2_change_31 rfl dX2_change_27 ?_
      refine g_iload_n E 1 dX2_change_30 rfl rfl ?_
      obtain ⟨hi3, hf⟩ := gd hf
      refine g_iald E 33 (σ.1 33) (cwG33 _ _) hi3 dX2_change_31 ?_
      refine g_istore E [(4, .int (σ.1 33 x2.toNatClampNeg)), (0, .ref (k.2.2.2.1 7)), (2, .int x2), (3, .int x3)] dX2_change_32 (by decide) rfl ?_
      refine g_iload E 0 dX2_change_34 rfl ?_
      refine g_bipush (v := (-6 : Int32)) E dX2_change_36 (by decide) ?_
      refine g_icmp_ne (tgt := 42) E dX2_change_38 (by decide) (fun c4 => ?_) (fun c4 => ?_)
      · have hf := gn hf c4
        refine g_aload_n E 1 dX2_change_42 rfl rfl ?_
        refine g_get (C := RX2) (T := TX2) (N := 9) (ci := 2) E 7 2 (.ref (k.2.2.2.1 27)) hi_X2_change_X2 (cwG7 _ _) rfl (by decide) hk_X2_change_9 rfl dX2_change_43 ?_
        refine g_iload E 0 dX2_change_46 rfl ?_
        refine g_dup2 E dX2_change_48 rfl rfl ?_
        obtain ⟨hi5, hf⟩ := gd hf
        refine g_iald E 27 (σ.1 27) (cwG27 _ _) hi5 dX2_change_49 ?_
        refine g_iconst (v := (1 : Int32)) E dX2_change_50 (by decide) ?_
        refine g_iload_n E 2 dX2_change_51 rfl rfl ?_
        refine g_ishl E dX2_change_52 ?_
        refine g_ior E dX2_change_53 ?_
        obtain ⟨hi6, hf⟩ := gd hf
        refine g_iast E 27 (cw k.2.2.2 (uA σ 27 (σ.1 33 x2.toNatClampNeg).toNatClampNeg ((((σ.1 27 (σ.1 33 x2.toNatClampNeg).toNatClampNeg)) ||| (((1 : Int32) <<< (x2 &&& 31))))))) (σ.1 27) (cwG27 _ _) hi6 (cwA27 _ _ _ _) dX2_change_54 ?_
        refine g_aload_n E 1 dX2_change_55 rfl rfl ?_
        refine g_get (C := RX2) (T := TX2) (N := 9) (ci := 2) E 7 7 (.ref (k.2.2.2.1 32)) hi_X2_change_X2 (cwG7 _ _) rfl (by decide) hk_X2_change_28 rfl dX2_change_56 ?_
        refine g_iload E 0 dX2_change_59 rfl ?_
        obtain ⟨hi7, hf⟩ := gd hf
        refine g_iald E 32 (((uA σ 27 (σ.1 33 x2.toNatClampNeg).toNatClampNeg ((((σ.1 27 (σ.1 33 x2.toNatClampNeg).toNatClampNeg)) ||| (((1 : Int32) <<< (x2 &&& 31))))))).1 32) (cwG32 _ _) hi7 dX2_change_61 ?_
        refine g_istore_n E [(2, .int (((uA σ 27 (σ.1 33 x2.toNatClampNeg).toNatClampNeg ((((σ.1 27 (σ.1 33 x2.toNatClampNeg).toNatClampNeg)) ||| (((1 : Int32) <<< (x2 &&& 31))))))).1 32 (σ.1 33 x2.toNatClampNeg).toNatClampNeg)), (4, .int (σ.1 33 x2.toNatClampNeg)), (0, .ref (k.2.2.2.1 7)), (3, .int x3)] dX2_change_62 rfl (by decide) rfl ?_
        refine g_iload_n E 0 dX2_change_63 rfl rfl ?_
        refine g_bipush (v := (-6 : Int32)) E dX2_change_64 (by decide) ?_
        refine g_icmp_ne (tgt := 83) E dX2_change_66 (by decide) (fun c8 => ?_) (fun c8 => ?_)
        · have hf := gn hf c8
          refine g_aload_n E 2 dX2_change_83 rfl rfl ?_
          refine g_get (C := RX2) (T := TX2) (N := 9) (ci := 2) E 7 2 (.ref (k.2.2.2.1 27)) hi_X2_change_X2 (cwG7 _ _) rfl (by decide) hk_X2_change_9 rfl dX2_change_84 ?_
          refine g_iload E 1 dX2_change_87 rfl ?_
          refine g_dup2 E dX2_change_89 rfl rfl ?_
          obtain ⟨hi9, hf⟩ := gd hf
          refine g_iald E 27 (((uA σ 27 (σ.1 33 x2.toNatClampNeg).toNatClampNeg ((((σ.1 27 (σ.1 33 x2.toNatClampNeg).toNatClampNeg)) ||| (((1 : Int32) <<< (x2 &&& 31))))))).1 27) (cwG27 _ _) hi9 dX2_change_90 ?_
          refine g_iconst (v := (1 : Int32)) E dX2_change_91 (by decide) ?_
          refine g_iload_n E 0 dX2_change_92 rfl rfl ?_
          refine g_ishl E dX2_change_93 ?_
          refine g_iconst (v := (-1 : Int32)) E dX2_change_94 (by decide) ?_
          refine g_ixor E dX2_change_95 ?_
          refine g_iand E dX2_change_96 ?_
          obtain ⟨hi10, hf⟩ := gd hf
          refine g_iast E 27 (cw k.2.2.2 (uA ((uA σ 27 (σ.1 33 x2.toNatClampNeg).toNatClampNeg ((((σ.1 27 (σ.1 33 x2.toNatClampNeg).toNatClampNeg)) ||| (((1 : Int32) <<< (x2 &&& 31))))))) 27 (σ.1 33 x2.toNatClampNeg).toNatClampNeg ((((((uA σ 27 (σ.1 33 x2.toNatClampNeg).toNatClampNeg ((((σ.1 27 (σ.1 33 x2.toNatClampNeg).toNatClampNeg)) ||| (((1 : Int32) <<< (x2 &&& 31))))))).1 27 (σ.1 33 x2.toNatClampNeg).toNatClampNeg)) &&& (((((1 : Int32) <<< (((((uA σ 27 (σ.1 33 x2.toNatClampNeg).toNatClampNeg ((((σ.1 27 (σ.1 33 x2.toNatClampNeg).toNatClampNeg)) ||| (((1 : Int32) <<< (x2 &&& 31))))))).1 32 (σ.1 33 x2.toNatClampNeg).toNatClampNeg)) &&& 31))) ^^^ (-1 : Int32))))))) (((uA σ 27 (σ.1 33 x2.toNatClampNeg).toNatClampNeg ((((σ.1 27 (σ.1 33 x2.toNatClampNeg).toNatClampNeg)) ||| (((1 : Int32) <<< (x2 &&& 31))))))).1 27) (cwG27 _ _) hi10 (cwA27 _ _ _ _) dX2_change_97 ?_
          exact g_sub [2, 0, 3] rfl (fX2_change_w98 E rc14 hrc14 (uA ((uA σ 27 (σ.1 33 x2.toNatClampNeg).toNatClampNeg ((((σ.1 27 (σ.1 33 x2.toNatClampNeg).toNatClampNeg)) ||| (((1 : Int32) <<< (x2 &&& 31))))))) 27 (σ.1 33 x2.toNatClampNeg).toNatClampNeg ((((((uA σ 27 (σ.1 33 x2.toNatClampNeg).toNatClampNeg ((((σ.1 27 (σ.1 33 x2.toNatClampNeg).toNatClampNeg)) ||| (((1 : Int32) <<< (x2 &&& 31))))))).1 27 (σ.1 33 x2.toNatClampNeg).toNatClampNeg)) &&& (((((1 : Int32) <<< (((((uA σ 27 (σ.1 33 x2.toNatClampNeg).toNatClampNeg ((((σ.1 27 (σ.1 33 x2.toNatClampNeg).toNatClampNeg)) ||| (((1 : Int32) <<< (x2 &&& 31))))))).1 32 (σ.1 33 x2.toNatClampNeg).toNatClampNeg)) &&& 31))) ^^^ (-1 : Int32)))))) (((uA σ 27 (σ.1 33 x2.toNatClampNeg).toNatClampNeg ((((σ.1 27 (σ.1 33 x2.toNatClampNeg).toNatClampNeg)) ||| (((1 : Int32) <<< (x2 &&& 31))))))).1 32 (σ.1 33 x2.toNatClampNeg).toNatClampNeg) x3 r hf)
        · have hf := gp hf c8
          refine g_aload_n E 2 dX2_change_69 rfl rfl ?_
          refine g_get (C := RX2) (T := TX2) (N := 9) (ci := 2) E 7 3 (.ref (k.2.2.2.1 28)) hi_X2_change_X2 (cwG7 _ _) rfl (by decide) hk_X2_change_15 rfl dX2_change_70 ?_
          refine g_iload E 1 dX2_change_73 rfl ?_
          refine g_dup2 E dX2_change_75 rfl rfl ?_
          obtain ⟨hi11, hf⟩ := gd hf
          refine g_iald E 28 (((uA σ 27 (σ.1 33 x2.toNatClampNeg).toNatClampNeg ((((σ.1 27 (σ.1 33 x2.toNatClampNeg).toNatClampNeg)) ||| (((1 : Int32) <<< (x2 &&& 31))))))).1 28) (cwG28 _ _) hi11 dX2_change_76 ?_
          refine g_iconst (v := (1 : Int32)) E dX2_change_77 (by decide) ?_
          refine g_isub E dX2_change_78 ?_
          obtain ⟨hi12, hf⟩ := gd hf
          refine g_iast E 28 (cw k.2.2.2 (uA ((uA σ 27 (σ.1 33 x2.toNatClampNeg).toNatClampNeg ((((σ.1 27 (σ.1 33 x2.toNatClampNeg).toNatClampNeg)) ||| (((1 : Int32) <<< (x2 &&& 31))))))) 28 (σ.1 33 x2.toNatClampNeg).toNatClampNeg ((((((uA σ 27 (σ.1 33 x2.toNatClampNeg).toNatClampNeg ((((σ.1 27 (σ.1 33 x2.toNatClampNeg).toNatClampNeg)) ||| (((1 : Int32) <<< (x2 &&& 31))))))).1 28 (σ.1 33 x2.toNatClampNeg).toNatClampNeg)) - (1 : Int32))))) (((uA σ 27 (σ.1 33 x2.toNatClampNeg).toNatClampNeg ((((σ.1 27 (σ.1 33 x2.toNatClampNeg).toNatClampNeg)) ||| (((1 : Int32) <<< (x2 &&& 31))))))).1 28) (cwG28 _ _) hi12 (cwA28 _ _ _ _) dX2_change_79 ?_
          refine g_goto (tgt := 98) E dX2_change_80 (by decide) ?_
          exact g_sub [2, 0, 3] rfl (fX2_change_w98 E rc14 hrc14 (uA ((uA σ 27 (σ.1 33 x2.toNatClampNeg).toNatClampNeg ((((σ.1 27 (σ.1 33 x2.toNatClampNeg).toNatClampNeg)) ||| (((1 : Int32) <<< (x2 &&& 31))))))) 28 (σ.1 33 x2.toNatClampNeg).toNatClampNeg ((((((uA σ 27 (σ.1 33 x2.toNatClampNeg).toNatClampNeg ((((σ.1 27 (σ.1 33 x2.toNatClampNeg).toNatClampNeg)) ||| (((1 : Int32) <<< (x2 &&& 31))))))).1 28 (σ.1 33 x2.toNatClampNeg).toNatClampNeg)) - (1 : Int32)))) (((uA σ 27 (σ.1 33 x2.toNatClampNeg).toNatClampNeg ((((σ.1 27 (σ.1 33 x2.toNatClampNeg).toNatClampNeg)) ||| (((1 : Int32) <<< (x2 &&& 31))))))).1 32 (σ.1 33 x2.toNatClampNeg).toNatClampNeg) x3 r hf)
      · have hf := gp hf c4
        cases hf
        exact g_vret E dX2_change_41
theorem fX2_change_v14 {k : gK} {X : gX} (E : gE k X cX2_change RX2 wsX2_change 5 none rm_fX2_change) : ∀ (n : Nat) (σ : St) (x2 : Int32) (x3 : Int32) (r : Unit × St), fX2_change_l14 n σ x2 x3 = some r → G k X 5 (none) (cw k.2.2.2 r.2) (cw k.2.2.2 σ) [(0, .ref (k.2.2.2.1 7)), (2, .int x2), (3, .int x3)] [] 14 := by
  intro n
  induction n with
  | zero => intro σ x2 x3 r hf; cases hf
  | succ n ih => intro σ x2 x3 r hf; exact fX2_change_w14 E (fX2_change_l14 n) ih σ x2 x3 r hf
set_option maxHeartbeats 4000000 in
set_option maxRecDepth 100000 in
theorem fX2_change_c (k : gK) (σ : St) (x1 : Int32) (r : Unit × St) (hf : fX2_change σ x1 = some r) : MC k yX2_change wsX2_change rm_fX2_change [.ref (k.2.2.2.1 7), .int x1] (cw k.2.2.2 σ) (none) (cw k.2.2.2 r.2) := by
  refine MC_of (cc := cX2_change) (maxL := 5) (ret := none) (own := RX2) (lvs := [(0, .ref (k.2.2.2.1 7)), (1, .int x1)]) (by decide) rfl rfl (Nat.le_of_ble_eq_true rfl) rfl (fun X E => ?_)
  unfold fX2_change at hf
  refine g_aload_n E 0 dX2_change_0 rfl rfl ?_
  refine g_get (C := RX2) (T := TX2) (N := 9) (ci := 2) E 7 4 (.ref (k.2.2.2.1 29)) hi_X2_change_X2 (cwG7 _ _) rfl (by decide) hk_X2_change_18 rfl dX2_change_1 ?_
  refine g_iload_n E 1 dX2_change_4 rfl rfl ?_
  refine g_dup2 E dX2_change_5 rfl rfl ?_
  obtain ⟨hi1, hf⟩ := gd hf
  refine g_iald E 29 (σ.1 29) (cwG29 _ _) hi1 dX2_change_6 ?_
  refine g_iconst (v := (1 : Int32)) E dX2_change_7 (by decide) ?_
  refine g_iadd E dX2_change_8 ?_
  obtain ⟨hi2, hf⟩ := gd hf
  refine g_iast E 29 (cw k.2.2.2 (uA σ 29 x1.toNatClampNeg (((σ.1 29 x1.toNatClampNeg) + (1 : Int32))))) (σ.1 29) (cwG29 _ _) hi2 (cwA29 _ _ _ _) dX2_change_9 ?_
  refine g_iload_n E 1 dX2_change_10 rfl rfl ?_
  refine g_istore_n E [(2, .int x1), (0, .ref (k.2.2.2.1 7)), (1, .int x1)] dX2_change_11 rfl (by decide) rfl ?_
  refine g_iconst (v := (0 : Int32)) E dX2_change_12 (by decide) ?_
  refine g_istore_n E [(3, .int (0 : Int32)), (2, .int x1), (0, .ref (k.2.2.2.1 7)), (1, .int x1)] dX2_change_13 rfl (by decide) rfl ?_
  exact g_sub [2, 1, 0] rfl (fX2_change_v14 E gF (uA σ 29 x1.toNatClampNeg (((σ.1 29 x1.toNatClampNeg) + (1 : Int32)))) x1 (0 : Int32) r hf)
def rm_fJ7_fill_53178_27 : Room := { frames := 0, cells := 0, slots := 0, locals := 0 }
set_option maxHeartbeats 4000000 in
set_option maxRecDepth 100000 in
theorem fJ7_fill_53178_27_w5 {k : gK} {X : gX} (E : gE k X cJ7_fill_53178 RJ7 wsJ7_fill_53178 4 none rm_fJ7_fill_53178_27) (rc5 : St → Int32 → Int32 → Int32 → Option (Unit × St)) (hrc5 : ∀ (σ : St) (x1 : Int32) (x2 : Int32) (x3 : Int32) (r : Unit × St), rc5 σ x1 x2 x3 = some r → G k X 4 (none) (cw k.2.2.2 r.2) (cw k.2.2.2 σ) [(0, .ref (k.2.2.2.1 27)), (1, .int x1), (2, .int x2), (3, .int x3)] [] 5) (σ : St) (x1 : Int32) (x2 : Int32) (x3 : Int32) (r : Unit × St) (hf : fJ7_fill_53178_27_b5 rc5 σ x1 x2 x3 = some r) : G k X 4 (none) (cw k.2.2.2 r.2) (cw k.2.2.2 σ) [(0, .ref (k.2.2.2.1 27)), (1, .int x1), (2, .int x2), (3, .int x3)] [] 5 := by
  unfold fJ7_fill_53178_27_b5 at hf
  refine g_iload_n E 2 dJ7_fill_53178_5 rfl rfl ?_
  refine g_iload_n E 3 dJ7_fill_53178_6 rfl rfl ?_
  refine g_icmp_ge (tgt := 20) E dJ7_fill_53178_7 (by decide) (fun c1 => ?_) (fun c1 => ?_)
  · have hf := gp hf c1
    cases hf
    exact g_vret E dJ7_fill_53178_20
  · have hf := gn hf c1
    refine g_aload_n E 0 dJ7_fill_53178_10 rfl rfl ?_
    refine g_iload_n E 2 dJ7_fill_53178_11 rfl rfl ?_
    refine g_iload_n E 1 dJ7_fill_53178_12 rfl rfl ?_
    obtain ⟨hi2, hf⟩ := gd hf
    refine g_iast E 27 (cw k.2.2.2 (uA σ 27 x2.toNatClampNeg x1)) (σ.1 27) (cwG27 _ _) hi2 (cwA27 _ _ _ _) dJ7_fill_53178_13 ?_
    refine g_iinc E 2 [(2, .int (x2 + (1 : Int32))), (0, .ref (k.2.2.2.1 27)), (1, .int x1), (3, .int x3)] (x2 + (1 : Int32)) dJ7_fill_53178_14 rfl (by rfl) (by decide) rfl ?_
    refine g_goto (tgt := 5) E dJ7_fill_53178_17 (by decide) ?_
    exact g_sub [1, 2, 0, 3] rfl (hrc5 (uA σ 27 x2.toNatClampNeg x1) x1 (x2 + (1 : Int32)) x3 r hf)
theorem fJ7_fill_53178_27_v5 {k : gK} {X : gX} (E : gE k X cJ7_fill_53178 RJ7 wsJ7_fill_53178 4 none rm_fJ7_fill_53178_27) : ∀ (n : Nat) (σ : St) (x1 : Int32) (x2 : Int32) (x3 : Int32) (r : Unit × St), fJ7_fill_53178_27_l5 n σ x1 x2 x3 = some r → G k X 4 (none) (cw k.2.2.2 r.2) (cw k.2.2.2 σ) [(0, .ref (k.2.2.2.1 27)), (1, .int x1), (2, .int x2), (3, .int x3)] [] 5 := by
  intro n
  induction n with
  | zero => intro σ x1 x2 x3 r hf; cases hf
  | succ n ih => intro σ x1 x2 x3 r hf; exact fJ7_fill_53178_27_w5 E (fJ7_fill_53178_27_l5 n) ih σ x1 x2 x3 r hf
set_option maxHeartbeats 4000000 in
set_option maxRecDepth 100000 in
theorem fJ7_fill_53178_27_c (k : gK) (σ : St) (x1 : Int32) (r : Unit × St) (hf : fJ7_fill_53178_27 σ x1 = some r) : MC k yJ7_fill_53178 wsJ7_fill_53178 rm_fJ7_fill_53178_27 [.ref (k.2.2.2.1 27), .int x1] (cw k.2.2.2 σ) (none) (cw k.2.2.2 r.2) := by
  refine MC_of (cc := cJ7_fill_53178) (maxL := 4) (ret := none) (own := RJ7) (lvs := [(0, .ref (k.2.2.2.1 27)), (1, .int x1)]) (by decide) rfl rfl (Nat.le_of_ble_eq_true rfl) rfl (fun X E => ?_)
  unfold fJ7_fill_53178_27 at hf
  refine g_iconst (v := (0 : Int32)) E dJ7_fill_53178_0 (by decide) ?_
  refine g_istore_n E [(2, .int (0 : Int32)), (0, .ref (k.2.2.2.1 27)), (1, .int x1)] dJ7_fill_53178_1 rfl (by decide) rfl ?_
  refine g_aload_n E 1 dJ7_fill_53178_2 rfl rfl ?_
  refine g_alenI (v := (6 : Int32)) E 27 (σ.1 27) (cwG27 _ _) (by decide) dJ7_fill_53178_3 ?_
  refine g_istore_n E [(3, .int (6 : Int32)), (2, .int (0 : Int32)), (0, .ref (k.2.2.2.1 27)), (1, .int x1)] dJ7_fill_53178_4 rfl (by decide) rfl ?_
  exact g_sub [2, 3, 1, 0] rfl (fJ7_fill_53178_27_v5 E gF σ x1 (0 : Int32) (6 : Int32) r hf)
def rm_fJ7_fill_53178_29 : Room := { frames := 0, cells := 0, slots := 0, locals := 0 }
set_option maxHeartbeats 4000000 in
set_option maxRecDepth 100000 in
theorem fJ7_fill_53178_29_w5 {k : gK} {X : gX} (E : gE k X cJ7_fill_53178 RJ7 wsJ7_fill_53178 4 none rm_fJ7_fill_53178_29) (rc5 : St → Int32 → Int32 → Int32 → Option (Unit × St)) (hrc5 : ∀ (σ : St) (x1 : Int32) (x2 : Int32) (x3 : Int32) (r : Unit × St), rc5 σ x1 x2 x3 = some r → G k X 4 (none) (cw k.2.2.2 r.2) (cw k.2.2.2 σ) [(0, .ref (k.2.2.2.1 29)), (1, .int x1), (2, .int x2), (3, .int x3)] [] 5) (σ : St) (x1 : Int32) (x2 : Int32) (x3 : Int32) (r : Unit × St) (hf : fJ7_fill_53178_29_b5 rc5 σ x1 x2 x3 = some r) : G k X 4 (none) (cw k.2.2.2 r.2) (cw k.2.2.2 σ) [(0, .ref (k.2.2.2.1 29)), (1, .int x1), (2, .int x2), (3, .int x3)] [] 5 := by
  unfold fJ7_fill_53178_29_b5 at hf
  refine g_iload_n E 2 dJ7_fill_53178_5 rfl rfl ?_
  refine g_iload_n E 3 dJ7_fill_53178_6 rfl rfl ?_
  refine g_icmp_ge (tgt := 20) E dJ7_fill_53178_7 (by decide) (fun c1 => ?_) (fun c1 => ?_)
  · have hf := gp hf c1
    cases hf
    exact g_vret E dJ7_fill_53178_20
  · have hf := gn hf c1
    refine g_aload_n E 0 dJ7_fill_53178_10 rfl rfl ?_
    refine g_iload_n E 2 dJ7_fill_53178_11 rfl rfl ?_
    refine g_iload_n E 1 dJ7_fill_53178_12 rfl rfl ?_
    obtain ⟨hi2, hf⟩ := gd hf
    refine g_iast E 29 (cw k.2.2.2 (uA σ 29 x2.toNatClampNeg x1)) (σ.1 29) (cwG29 _ _) hi2 (cwA29 _ _ _ _) dJ7_fill_53178_13 ?_
    refine g_iinc E 2 [(2, .int (x2 + (1 : Int32))), (0, .ref (k.2.2.2.1 29)), (1, .int x1), (3, .int x3)] (x2 + (1 : Int32)) dJ7_fill_53178_14 rfl (by rfl) (by decide) rfl ?_
    refine g_goto (tgt := 5) E dJ7_fill_53178_17 (by decide) ?_
    exact g_sub [1, 2, 0, 3] rfl (hrc5 (uA σ 29 x2.toNatClampNeg x1) x1 (x2 + (1 : Int32)) x3 r hf)
theorem fJ7_fill_53178_29_v5 {k : gK} {X : gX} (E : gE k X cJ7_fill_53178 RJ7 wsJ7_fill_53178 4 none rm_fJ7_fill_53178_29) : ∀ (n : Nat) (σ : St) (x1 : Int32) (x2 : Int32) (x3 : Int32) (r : Unit × St), fJ7_fill_53178_29_l5 n σ x1 x2 x3 = some r → G k X 4 (none) (cw k.2.2.2 r.2) (cw k.2.2.2 σ) [(0, .ref (k.2.2.2.1 29)), (1, .int x1), (2, .int x2), (3, .int x3)] [] 5 := by
  intro n
  induction n with
  | zero => intro σ x1 x2 x3 r hf; cases hf
  | succ n ih => intro σ x1 x2 x3 r hf; exact fJ7_fill_53178_29_w5 E (fJ7_fill_53178_29_l5 n) ih σ x1 x2 x3 r hf
set_option maxHeartbeats 4000000 in
set_option maxRecDepth 100000 in
theorem fJ7_fill_53178_29_c (k : gK) (σ : St) (x1 : Int32) (r : Unit × St) (hf : fJ7_fill_53178_29 σ x1 = some r) : MC k yJ7_fill_53178 wsJ7_fill_53178 rm_fJ7_fill_53178_29 [.ref (k.2.2.2.1 29), .int x1] (cw k.2.2.2 σ) (none) (cw k.2.2.2 r.2) := by
  refine MC_of (cc := cJ7_fill_53178) (maxL := 4) (ret := none) (own := RJ7) (lvs := [(0, .ref (k.2.2.2.1 29)), (1, .int x1)]) (by decide) rfl rfl (Nat.le_of_ble_eq_true rfl) rfl (fun X E => ?_)
  unfold fJ7_fill_53178_29 at hf
  refine g_iconst (v := (0 : Int32)) E dJ7_fill_53178_0 (by decide) ?_
  refine g_istore_n E [(2, .int (0 : Int32)), (0, .ref (k.2.2.2.1 29)), (1, .int x1)] dJ7_fill_53178_1 rfl (by decide) rfl ?_
  refine g_aload_n E 1 dJ7_fill_53178_2 rfl rfl ?_
  refine g_alenI (v := (6 : Int32)) E 29 (σ.1 29) (cwG29 _ _) (by decide) dJ7_fill_53178_3 ?_
  refine g_istore_n E [(3, .int (6 : Int32)), (2, .int (0 : Int32)), (0, .ref (k.2.2.2.1 29)), (1, .int x1)] dJ7_fill_53178_4 rfl (by decide) rfl ?_
  exact g_sub [2, 3, 1, 0] rfl (fJ7_fill_53178_29_v5 E gF σ x1 (0 : Int32) (6 : Int32) r hf)
def rm_fJ7_fill_53178_28 : Room := { frames := 0, cells := 0, slots := 0, locals := 0 }
set_option maxHeartbeats 4000000 in
set_option maxRecDepth 100000 in
theorem fJ7_fill_53178_28_w5 {k : gK} {X : gX} (E : gE k X cJ7_fill_53178 RJ7 wsJ7_fill_53178 4 none rm_fJ7_fill_53178_28) (rc5 : St → Int32 → Int32 → Int32 → Option (Unit × St)) (hrc5 : ∀ (σ : St) (x1 : Int32) (x2 : Int32) (x3 : Int32) (r : Unit × St), rc5 σ x1 x2 x3 = some r → G k X 4 (none) (cw k.2.2.2 r.2) (cw k.2.2.2 σ) [(0, .ref (k.2.2.2.1 28)), (1, .int x1), (2, .int x2), (3, .int x3)] [] 5) (σ : St) (x1 : Int32) (x2 : Int32) (x3 : Int32) (r : Unit × St) (hf : fJ7_fill_53178_28_b5 rc5 σ x1 x2 x3 = some r) : G k X 4 (none) (cw k.2.2.2 r.2) (cw k.2.2.2 σ) [(0, .ref (k.2.2.2.1 28)), (1, .int x1), (2, .int x2), (3, .int x3)] [] 5 := by
  unfold fJ7_fill_53178_28_b5 at hf
  refine g_iload_n E 2 dJ7_fill_53178_5 rfl rfl ?_
  refine g_iload_n E 3 dJ7_fill_53178_6 rfl rfl ?_
  refine g_icmp_ge (tgt := 20) E dJ7_fill_53178_7 (by decide) (fun c1 => ?_) (fun c1 => ?_)
  · have hf := gp hf c1
    cases hf
    exact g_vret E dJ7_fill_53178_20
  · have hf := gn hf c1
    refine g_aload_n E 0 dJ7_fill_53178_10 rfl rfl ?_
    refine g_iload_n E 2 dJ7_fill_53178_11 rfl rfl ?_
    refine g_iload_n E 1 dJ7_fill_53178_12 rfl rfl ?_
    obtain ⟨hi2, hf⟩ := gd hf
    refine g_iast E 28 (cw k.2.2.2 (uA σ 28 x2.toNatClampNeg x1)) (σ.1 28) (cwG28 _ _) hi2 (cwA28 _ _ _ _) dJ7_fill_53178_13 ?_
    refine g_iinc E 2 [(2, .int (x2 + (1 : Int32))), (0, .ref (k.2.2.2.1 28)), (1, .int x1), (3, .int x3)] (x2 + (1 : Int32)) dJ7_fill_53178_14 rfl (by rfl) (by decide) rfl ?_
    refine g_goto (tgt := 5) E dJ7_fill_53178_17 (by decide) ?_
    exact g_sub [1, 2, 0, 3] rfl (hrc5 (uA σ 28 x2.toNatClampNeg x1) x1 (x2 + (1 : Int32)) x3 r hf)
theorem fJ7_fill_53178_28_v5 {k : gK} {X : gX} (E : gE k X cJ7_fill_53178 RJ7 wsJ7_fill_53178 4 none rm_fJ7_fill_53178_28) : ∀ (n : Nat) (σ : St) (x1 : Int32) (x2 : Int32) (x3 : Int32) (r : Unit × St), fJ7_fill_53178_28_l5 n σ x1 x2 x3 = some r → G k X 4 (none) (cw k.2.2.2 r.2) (cw k.2.2.2 σ) [(0, .ref (k.2.2.2.1 28)), (1, .int x1), (2, .int x2), (3, .int x3)] [] 5 := by
  intro n
  induction n with
  | zero => intro σ x1 x2 x3 r hf; cases hf
  | succ n ih => intro σ x1 x2 x3 r hf; exact fJ7_fill_53178_28_w5 E (fJ7_fill_53178_28_l5 n) ih σ x1 x2 x3 r hf
set_option maxHeartbeats 4000000 in
set_option maxRecDepth 100000 in
theorem fJ7_fill_53178_28_c (k : gK) (σ : St) (x1 : Int32) (r : Unit × St) (hf : fJ7_fill_53178_28 σ x1 = some r) : MC k yJ7_fill_53178 wsJ7_fill_53178 rm_fJ7_fill_53178_28 [.ref (k.2.2.2.1 28), .int x1] (cw k.2.2.2 σ) (none) (cw k.2.2.2 r.2) := by
  refine MC_of (cc := cJ7_fill_53178) (maxL := 4) (ret := none) (own := RJ7) (lvs := [(0, .ref (k.2.2.2.1 28)), (1, .int x1)]) (by decide) rfl rfl (Nat.le_of_ble_eq_true rfl) rfl (fun X E => ?_)
  unfold fJ7_fill_53178_28 at hf
  refine g_iconst (v := (0 : Int32)) E dJ7_fill_53178_0 (by decide) ?_
  refine g_istore_n E [(2, .int (0 : Int32)), (0, .ref (k.2.2.2.1 28)), (1, .int x1)] dJ7_fill_53178_1 rfl (by decide) rfl ?_
  refine g_aload_n E 1 dJ7_fill_53178_2 rfl rfl ?_
  refine g_alenI (v := (6 : Int32)) E 28 (σ.1 28) (cwG28 _ _) (by decide) dJ7_fill_53178_3 ?_
  refine g_istore_n E [(3, .int (6 : Int32)), (2, .int (0 : Int32)), (0, .ref (k.2.2.2.1 28)), (1, .int x1)] dJ7_fill_53178_4 rfl (by decide) rfl ?_
  exact g_sub [2, 3, 1, 0] rfl (fJ7_fill_53178_28_v5 E gF σ x1 (0 : Int32) (6 : Int32) r hf)
theorem hi_X2_find_X2 : ∀ w ∈ wsX20, w ∈ wsX2_find := by decide +kernel
theorem hi_X2_find_X4 : ∀ w ∈ wsX40, w ∈ wsX2_find := by decide +kernel
theorem hk_X2_find_38 : Cond.fieldLink RX2 38 "PaperMarks$Match" "papers" "LPaperMarks$Papers;" ∈ wsX2_find := by decide +kernel
theorem hk_X2_find_48 : Cond.fieldLink RX2 48 "PaperMarks$Papers" "count" "I" ∈ wsX2_find := by decide +kernel
theorem hk_X2_find_9 : Cond.fieldLink RX2 9 "PaperMarks$Match" "sets" "[I" ∈ wsX2_find := by decide +kernel
theorem hk_X2_find_18 : Cond.fieldLink RX2 18 "PaperMarks$Match" "loads" "[I" ∈ wsX2_find := by decide +kernel
theorem hk_X2_find_15 : Cond.fieldLink RX2 15 "PaperMarks$Match" "wants" "[I" ∈ wsX2_find := by decide +kernel
def rm_fX2_find : Room := { frames := 5, cells := 0, slots := 0, locals := 114 }
set_option maxHeartbeats 4000000 in
set_option maxRecDepth 100000 in
theorem fX2_find_w26 {k : gK} {X : gX} (E : gE k X cX2_find RX2 wsX2_find 5 (some .boolean) rm_fX2_find) (rc26 : St → Int32 → Int32 → Int32 → Option (Int32 × St)) (hrc26 : ∀ (σ : St) (x1 : Int32) (x2 : Int32) (x3 : Int32) (r : Int32 × St), rc26 σ x1 x2 x3 = some r → G k X 5 (some (.int r.1)) (cw k.2.2.2 r.2) (cw k.2.2.2 σ) [(0, .ref (k.2.2.2.1 7)), (1, .int x1), (2, .int x2), (3, .int x3)] [] 26) (σ : St) (x1 : Int32) (x2 : Int32) (x3 : Int32) (r : Int32 × St) (hf : fX2_find_b26 rc26 σ x1 x2 x3 = some r) : G k X 5 (some (.int r.1)) (cw k.2.2.2 r.2) (cw k.2.2.2 σ) [(0, .ref (k.2.2.2.1 7)), (1, .int x1), (2, .int x2), (3, .int x3)] [] 26 := by
  unfold fX2_find_b26 at hf
  refine g_iload_n E 3 dX2_find_26 rfl rfl ?_
  refine g_iload_n E 1 dX2_find_27 rfl rfl ?_
  refine g_aload_n E 0 dX2_find_28 rfl rfl ?_
  refine g_get (C := RX2) (T := TX2) (N := 9) (ci := 2) E 7 1 (.ref (k.2.2.2.1 2)) hi_X2_find_X2 (cwG7 _ _) rfl (by decide) hk_X2_find_38 rfl dX2_find_29 ?_
  refine g_get (C := RX4) (T := TX4) (N := 6) (ci := 4) E 2 5 (.int (σ.2.1 1)) hi_X2_find_X4 (cwG2 _ _) rfl (by decide) hk_X2_find_48 rfl dX2_find_32 ?_
  refine g_imul E dX2_find_35 ?_
  refine g_icmp_ge (tgt := 71) E dX2_find_36 (by decide) (fun c1 => ?_) (fun c1 => ?_)
  · have hf := gp hf c1
    refine g_iconst (v := (1 : Int32)) E dX2_find_71 (by decide) ?_
    cases hf
    exact g_zret E (Or.inr rfl) dX2_find_72
  · have hf := gn hf c1
    refine g_aload_n E 0 dX2_find_39 rfl rfl ?_
    obtain ⟨q2, hq3, hf⟩ := gb hf
    refine g_callV (C := RX2) (T := TX2) (N := 9) (ci := 2) (As := []) (rest := []) (n := 0) E 7 (fX2_spreadChains_c k σ  q2 hq3) gX2_find_X2_spreadChains rfl rfl rfl (by decide +kernel) ⟨Nat.le_of_ble_eq_true rfl, Nat.le_of_ble_eq_true rfl⟩ rfl rfl (Nat.le_of_ble_eq_true rfl) rfl (cwG7 _ _) dX2_find_40 ?_
    refine g_aload_n E 0 dX2_find_43 rfl rfl ?_
    refine g_iload_n E 2 dX2_find_44 rfl rfl ?_
    obtain ⟨q4, hq5, hf⟩ := gb hf
    refine g_callV (C := RX2) (T := TX2) (N := 9) (ci := 2) (As := [.int x2]) (rest := []) (n := 1) E 7 (fX2_bestEnd_c k q2.2 x2 q4 hq5) gX2_find_X2_bestEnd rfl rfl rfl (by decide +kernel) ⟨Nat.le_of_ble_eq_true rfl, Nat.le_of_ble_eq_true rfl⟩ rfl rfl (Nat.le_of_ble_eq_true rfl) rfl (cwG7 _ _) dX2_find_45 ?_
    refine g_istore E [(4, .int q4.1), (0, .ref (k.2.2.2.1 7)), (1, .int x1), (2, .int x2), (3, .int x3)] dX2_find_48 (by decide) rfl ?_
    refine g_iload E 0 dX2_find_50 rfl ?_
    refine g_bipush (v := (-6 : Int32)) E dX2_find_52 (by decide) ?_
    refine g_icmp_ne (tgt := 59) E dX2_find_54 (by decide) (fun c6 => ?_) (fun c6 => ?_)
    · have hf := gn hf c6
      refine g_aload_n E 1 dX2_find_59 rfl rfl ?_
      refine g_iload E 0 dX2_find_60 rfl ?_
      obtain ⟨q7, hq8, hf⟩ := gb hf
      refine g_callV (C := RX2) (T := TX2) (N := 9) (ci := 2) (As := [.int q4.1]) (rest := []) (n := 1) E 7 (fX2_change_c k q4.2 q4.1 q7 hq8) gX2_find_X2_change rfl rfl rfl (by decide +kernel) ⟨Nat.le_of_ble_eq_true rfl, Nat.le_of_ble_eq_true rfl⟩ rfl rfl (Nat.le_of_ble_eq_true rfl) rfl (cwG7 _ _) dX2_find_62 ?_
      refine g_iinc E 4 [(3, .int (x3 + (1 : Int32))), (4, .int q4.1), (0, .ref (k.2.2.2.1 7)), (1, .int x1), (2, .int x2)] (x3 + (1 : Int32)) dX2_find_65 rfl (by rfl) (by decide) rfl ?_
      refine g_goto (tgt := 26) E dX2_find_68 (by decide) ?_
      exact g_sub [2, 3, 4, 0] rfl (hrc26 q7.2 x1 x2 (x3 + (1 : Int32)) r hf)
    · have hf := gp hf c6
      refine g_iconst (v := (0 : Int32)) E dX2_find_57 (by decide) ?_
      cases hf
      exact g_zret E (Or.inl rfl) dX2_find_58
theorem fX2_find_v26 {k : gK} {X : gX} (E : gE k X cX2_find RX2 wsX2_find 5 (some .boolean) rm_fX2_find) : ∀ (n : Nat) (σ : St) (x1 : Int32) (x2 : Int32) (x3 : Int32) (r : Int32 × St), fX2_find_l26 n σ x1 x2 x3 = some r → G k X 5 (some (.int r.1)) (cw k.2.2.2 r.2) (cw k.2.2.2 σ) [(0, .ref (k.2.2.2.1 7)), (1, .int x1), (2, .int x2), (3, .int x3)] [] 26 := by
  intro n
  induction n with
  | zero => intro σ x1 x2 x3 r hf; cases hf
  | succ n ih => intro σ x1 x2 x3 r hf; exact fX2_find_w26 E (fX2_find_l26 n) ih σ x1 x2 x3 r hf
set_option maxHeartbeats 4000000 in
set_option maxRecDepth 100000 in
theorem fX2_find_c (k : gK) (σ : St) (x1 : Int32) (x2 : Int32) (r : Int32 × St) (hf : fX2_find σ x1 x2 = some r) : MC k yX2_find wsX2_find rm_fX2_find [.ref (k.2.2.2.1 7), .int x1, .int x2] (cw k.2.2.2 σ) (some (.int r.1)) (cw k.2.2.2 r.2) := by
  refine MC_of (cc := cX2_find) (maxL := 5) (ret := (some .boolean)) (own := RX2) (lvs := [(0, .ref (k.2.2.2.1 7)), (1, .int x1), (2, .int x2)]) (by decide) rfl rfl (Nat.le_of_ble_eq_true rfl) rfl (fun X E => ?_)
  unfold fX2_find at hf
  refine g_aload_n E 0 dX2_find_0 rfl rfl ?_
  refine g_get (C := RX2) (T := TX2) (N := 9) (ci := 2) E 7 2 (.ref (k.2.2.2.1 27)) hi_X2_find_X2 (cwG7 _ _) rfl (by decide) hk_X2_find_9 rfl dX2_find_1 ?_
  refine g_iconst (v := (0 : Int32)) E dX2_find_4 (by decide) ?_
  obtain ⟨q1, hq2, hf⟩ := gb hf
  refine g_callS (As := [.ref (k.2.2.2.1 27), .int (0 : Int32)]) (rest := []) (n := 2) E (fJ7_fill_53178_27_c k σ (0 : Int32) q1 hq2) gX2_find_J7_fill_53178 rfl rfl rfl (by decide +kernel) ⟨Nat.le_of_ble_eq_true rfl, Nat.le_of_ble_eq_true rfl⟩ rfl rfl (Nat.le_of_ble_eq_true rfl) dX2_find_5 ?_
  refine g_aload_n E 0 dX2_find_8 rfl rfl ?_
  refine g_get (C := RX2) (T := TX2) (N := 9) (ci := 2) E 7 4 (.ref (k.2.2.2.1 29)) hi_X2_find_X2 (cwG7 _ _) rfl (by decide) hk_X2_find_18 rfl dX2_find_9 ?_
  refine g_iconst (v := (0 : Int32)) E dX2_find_12 (by decide) ?_
  obtain ⟨q3, hq4, hf⟩ := gb hf
  refine g_callS (As := [.ref (k.2.2.2.1 29), .int (0 : Int32)]) (rest := []) (n := 2) E (fJ7_fill_53178_29_c k q1.2 (0 : Int32) q3 hq4) gX2_find_J7_fill_53178 rfl rfl rfl (by decide +kernel) ⟨Nat.le_of_ble_eq_true rfl, Nat.le_of_ble_eq_true rfl⟩ rfl rfl (Nat.le_of_ble_eq_true rfl) dX2_find_13 ?_
  refine g_aload_n E 0 dX2_find_16 rfl rfl ?_
  refine g_get (C := RX2) (T := TX2) (N := 9) (ci := 2) E 7 3 (.ref (k.2.2.2.1 28)) hi_X2_find_X2 (cwG7 _ _) rfl (by decide) hk_X2_find_15 rfl dX2_find_17 ?_
  refine g_iload_n E 1 dX2_find_20 rfl rfl ?_
  obtain ⟨q5, hq6, hf⟩ := gb hf
  refine g_callS (As := [.ref (k.2.2.2.1 28), .int x1]) (rest := []) (n := 2) E (fJ7_fill_53178_28_c k q3.2 x1 q5 hq6) gX2_find_J7_fill_53178 rfl rfl rfl (by decide +kernel) ⟨Nat.le_of_ble_eq_true rfl, Nat.le_of_ble_eq_true rfl⟩ rfl rfl (Nat.le_of_ble_eq_true rfl) dX2_find_21 ?_
  refine g_iconst (v := (0 : Int32)) E dX2_find_24 (by decide) ?_
  refine g_istore_n E [(3, .int (0 : Int32)), (0, .ref (k.2.2.2.1 7)), (1, .int x1), (2, .int x2)] dX2_find_25 rfl (by decide) rfl ?_
  exact g_sub [1, 2, 3, 0] rfl (fX2_find_v26 E gF q5.2 x1 x2 (0 : Int32) r hf)
theorem hi_X2_bidsTogether_X2 : ∀ w ∈ wsX20, w ∈ wsX2_bidsTogether := by decide +kernel
theorem hi_X2_bidsTogether_X0 : ∀ w ∈ wsX00, w ∈ wsX2_bidsTogether := by decide +kernel
theorem hi_X2_bidsTogether_X4 : ∀ w ∈ wsX40, w ∈ wsX2_bidsTogether := by decide +kernel
theorem hk_X2_bidsTogether_34 : Cond.fieldLink RX2 34 "PaperMarks$Match" "judges" "LPaperMarks$Judges;" ∈ wsX2_bidsTogether := by decide +kernel
theorem hk_X2_bidsTogether_65 : Cond.fieldLink RX2 65 "PaperMarks$Judges" "count" "I" ∈ wsX2_bidsTogether := by decide +kernel
theorem hk_X2_bidsTogether_9 : Cond.fieldLink RX2 9 "PaperMarks$Match" "sets" "[I" ∈ wsX2_bidsTogether := by decide +kernel
theorem hk_X2_bidsTogether_38 : Cond.fieldLink RX2 38 "PaperMarks$Match" "papers" "LPaperMarks$Papers;" ∈ wsX2_bidsTogether := by decide +kernel
theorem hk_X2_bidsTogether_48 : Cond.fieldLink RX2 48 "PaperMarks$Papers" "count" "I" ∈ wsX2_bidsTogether := by decide +kernel
def rm_fX2_bidsTogether : Room := { frames := 1, cells := 0, slots := 0, locals := 22 }
set_option maxHeartbeats 4000000 in
set_option maxRecDepth 100000 in
theorem fX2_bidsTogether_w55 {k : gK} {X : gX} (E : gE k X cX2_bidsTogether RX2 wsX2_bidsTogether 4 (some .int) rm_fX2_bidsTogether) (rc4 : St → Int32 → Int32 → Option (Int32 × St)) (hrc4 : ∀ (σ : St) (x1 : Int32) (x2 : Int32) (r : Int32 × St), rc4 σ x1 x2 = some r → G k X 4 (some (.int r.1)) (cw k.2.2.2 r.2) (cw k.2.2.2 σ) [(0, .ref (k.2.2.2.1 7)), (1, .int x1), (2, .int x2)] [] 4) (rc17 : St → Int32 → Int32 → Int32 → Option (Int32 × St)) (hrc17 : ∀ (σ : St) (x1 : Int32) (x2 : Int32) (x3 : Int32) (r : Int32 × St), rc17 σ x1 x2 x3 = some r → G k X 4 (some (.int r.1)) (cw k.2.2.2 r.2) (cw k.2.2.2 σ) [(0, .ref (k.2.2.2.1 7)), (1, .int x1), (2, .int x2), (3, .int x3)] [] 17) (σ : St) (x2 : Int32) (x3 : Int32) (t0 : Int32) (t1 : Int32) (r : Int32 × St) (hf : fX2_bidsTogether_b55 rc4 rc17 σ x2 x3 t0 t1 = some r) : G k X 4 (some (.int r.1)) (cw k.2.2.2 r.2) (cw k.2.2.2 σ) [(0, .ref (k.2.2.2.1 7)), (2, .int x2), (3, .int x3)] [.int t1, .int t0] 55 := by
  unfold fX2_bidsTogether_b55 at hf
  refine g_iadd E dX2_bidsTogether_55 ?_
  refine g_istore_n E [(1, .int (t0 + t1)), (0, .ref (k.2.2.2.1 7)), (2, .int x2), (3, .int x3)] dX2_bidsTogether_56 rfl (by decide) rfl ?_
  refine g_iinc E 3 [(3, .int (x3 + (1 : Int32))), (1, .int (t0 + t1)), (0, .ref (k.2.2.2.1 7)), (2, .int x2)] (x3 + (1 : Int32)) dX2_bidsTogether_57 rfl (by rfl) (by decide) rfl ?_
  refine g_goto (tgt := 17) E dX2_bidsTogether_60 (by decide) ?_
  exact g_sub [2, 1, 3, 0] rfl (hrc17 σ (t0 + t1) x2 (x3 + (1 : Int32)) r hf)
set_option maxHeartbeats 4000000 in
set_option maxRecDepth 100000 in
theorem fX2_bidsTogether_w17 {k : gK} {X : gX} (E : gE k X cX2_bidsTogether RX2 wsX2_bidsTogether 4 (some .int) rm_fX2_bidsTogether) (rc4 : St → Int32 → Int32 → Option (Int32 × St)) (hrc4 : ∀ (σ : St) (x1 : Int32) (x2 : Int32) (r : Int32 × St), rc4 σ x1 x2 = some r → G k X 4 (some (.int r.1)) (cw k.2.2.2 r.2) (cw k.2.2.2 σ) [(0, .ref (k.2.2.2.1 7)), (1, .int x1), (2, .int x2)] [] 4) (rc17 : St → Int32 → Int32 → Int32 → Option (Int32 × St)) (hrc17 : ∀ (σ : St) (x1 : Int32) (x2 : Int32) (x3 : Int32) (r : Int32 × St), rc17 σ x1 x2 x3 = some r → G k X 4 (some (.int r.1)) (cw k.2.2.2 r.2) (cw k.2.2.2 σ) [(0, .ref (k.2.2.2.1 7)), (1, .int x1), (2, .int x2), (3, .int x3)] [] 17) (σ : St) (x1 : Int32) (x2 : Int32) (x3 : Int32) (r : Int32 × St) (hf : fX2_bidsTogether_b17 rc4 rc17 σ x1 x2 x3 = some r) : G k X 4 (some (.int r.1)) (cw k.2.2.2 r.2) (cw k.2.2.2 σ) [(0, .ref (k.2.2.2.1 7)), (1, .int x1), (2, .int x2), (3, .int x3)] [] 17 := by
  unfold fX2_bidsTogether_b17 at hf
  refine g_iload_n E 3 dX2_bidsTogether_17 rfl rfl ?_
  refine g_aload_n E 0 dX2_bidsTogether_18 rfl rfl ?_
  refine g_get (C := RX2) (T := TX2) (N := 9) (ci := 2) E 7 0 (.ref (k.2.2.2.1 1)) hi_X2_bidsTogether_X2 (cwG7 _ _) rfl (by decide) hk_X2_bidsTogether_34 rfl dX2_bidsTogether_19 ?_
  refine g_get (C := RX0) (T := TX0) (N := 5) (ci := 0) E 1 4 (.int (σ.2.1 0)) hi_X2_bidsTogether_X0 (cwG1 _ _) rfl (by decide) hk_X2_bidsTogether_65 rfl dX2_bidsTogether_22 ?_
  refine g_icmp_ge (tgt := 63) E dX2_bidsTogether_25 (by decide) (fun c1 => ?_) (fun c1 => ?_)
  · have hf := gp hf c1
    refine g_iinc E 2 [(2, .int (x2 + (1 : Int32))), (0, .ref (k.2.2.2.1 7)), (1, .int x1), (3, .int x3)] (x2 + (1 : Int32)) dX2_bidsTogether_63 rfl (by rfl) (by decide) rfl ?_
    refine g_goto (tgt := 4) E dX2_bidsTogether_66 (by decide) ?_
    exact g_sub [1, 2, 0] rfl (hrc4 σ x1 (x2 + (1 : Int32)) r hf)
  · have hf := gn hf c1
    refine g_iload_n E 1 dX2_bidsTogether_28 rfl rfl ?_
    refine g_aload_n E 0 dX2_bidsTogether_29 rfl rfl ?_
    refine g_get (C := RX2) (T := TX2) (N := 9) (ci := 2) E 7 2 (.ref (k.2.2.2.1 27)) hi_X2_bidsTogether_X2 (cwG7 _ _) rfl (by decide) hk_X2_bidsTogether_9 rfl dX2_bidsTogether_30 ?_
    refine g_iload_n E 2 dX2_bidsTogether_33 rfl rfl ?_
    obtain ⟨hi2, hf⟩ := gd hf
    refine g_iald E 27 (σ.1 27) (cwG27 _ _) hi2 dX2_bidsTogether_34 ?_
    refine g_iload_n E 3 dX2_bidsTogether_35 rfl rfl ?_
    obtain ⟨q3, hq4, hf⟩ := gb hf
    refine g_callSN (As := [.int (σ.1 27 x2.toNatClampNeg), .int x3]) (rest := [.int x1]) (n := 2) E (fX8_hasBit_c k σ (σ.1 27 x2.toNatClampNeg) x3 q3 hq4) gX2_bidsTogether_X8_hasBit_n68 rfl rfl rfl (by decide +kernel) (by decide +kernel) (by decide +kernel) (by decide +kernel) ⟨Nat.le_of_ble_eq_true rfl, Nat.le_of_ble_eq_true rfl⟩ rfl rfl (Nat.le_of_ble_eq_true rfl) dX2_bidsTogether_36 ?_
    refine g_if_eq (tgt := 54) E dX2_bidsTogether_39 (by decide) (fun c5 => ?_) (fun c5 => ?_)
    · have hf := gp hf c5
      refine g_iconst (v := (0 : Int32)) E dX2_bidsTogether_54 (by decide) ?_
      exact g_sub [0, 2, 3] rfl (fX2_bidsTogether_w55 E rc4 hrc4 rc17 hrc17 q3.2 x2 x3 x1 (0 : Int32) r hf)
    · have hf := gn hf c5
      refine g_aload_n E 0 dX2_bidsTogether_42 rfl rfl ?_
      refine g_get (C := RX2) (T := TX2) (N := 9) (ci := 2) E 7 1 (.ref (k.2.2.2.1 2)) hi_X2_bidsTogether_X2 (cwG7 _ _) rfl (by decide) hk_X2_bidsTogether_38 rfl dX2_bidsTogether_43 ?_
      refine g_iload_n E 3 dX2_bidsTogether_46 rfl rfl ?_
      refine g_iload_n E 2 dX2_bidsTogether_47 rfl rfl ?_
      obtain ⟨q6, hq7, hf⟩ := gb hf
      refine g_callV (C := RX4) (T := TX4) (N := 6) (ci := 4) (As := [.int x3, .int x2]) (rest := [.int x1]) (n := 2) E 2 (fX4_bidOf_c k q3.2 x3 x2 q6 hq7) gX2_bidsTogether_X4_bidOf rfl rfl rfl (by decide +kernel) ⟨Nat.le_of_ble_eq_true rfl, Nat.le_of_ble_eq_true rfl⟩ rfl rfl (Nat.le_of_ble_eq_true rfl) rfl (cwG2 _ _) dX2_bidsTogether_48 ?_
      refine g_goto (tgt := 55) E dX2_bidsTogether_51 (by decide) ?_
      exact g_sub [0, 2, 3] rfl (fX2_bidsTogether_w55 E rc4 hrc4 rc17 hrc17 q6.2 x2 x3 x1 q6.1 r hf)
theorem fX2_bidsTogether_v17 {k : gK} {X : gX} (E : gE k X cX2_bidsTogether RX2 wsX2_bidsTogether 4 (some .int) rm_fX2_bidsTogether) (rc4 : St → Int32 → Int32 → Option (Int32 × St)) (hrc4 : ∀ (σ : St) (x1 : Int32) (x2 : Int32) (r : Int32 × St), rc4 σ x1 x2 = some r → G k X 4 (some (.int r.1)) (cw k.2.2.2 r.2) (cw k.2.2.2 σ) [(0, .ref (k.2.2.2.1 7)), (1, .int x1), (2, .int x2)] [] 4) : ∀ (n : Nat) (σ : St) (x1 : Int32) (x2 : Int32) (x3 : Int32) (r : Int32 × St), fX2_bidsTogether_l17 rc4 n σ x1 x2 x3 = some r → G k X 4 (some (.int r.1)) (cw k.2.2.2 r.2) (cw k.2.2.2 σ) [(0, .ref (k.2.2.2.1 7)), (1, .int x1), (2, .int x2), (3, .int x3)] [] 17 := by
  intro n
  induction n with
  | zero => intro σ x1 x2 x3 r hf; cases hf
  | succ n ih => intro σ x1 x2 x3 r hf; exact fX2_bidsTogether_w17 E rc4 hrc4 (fX2_bidsTogether_l17 rc4 n) ih σ x1 x2 x3 r hf
set_option maxHeartbeats 4000000 in
set_option maxRecDepth 100000 in
theorem fX2_bidsTogether_w4 {k : gK} {X : gX} (E : gE k X cX2_bidsTogether RX2 wsX2_bidsTogether 4 (some .int) rm_fX2_bidsTogether) (rc4 : St → Int32 → Int32 → Option (Int32 × St)) (hrc4 : ∀ (σ : St) (x1 : Int32) (x2 : Int32) (r : Int32 × St), rc4 σ x1 x2 = some r → G k X 4 (some (.int r.1)) (cw k.2.2.2 r.2) (cw k.2.2.2 σ) [(0, .ref (k.2.2.2.1 7)), (1, .int x1), (2, .int x2)] [] 4) (σ : St) (x1 : Int32) (x2 : Int32) (r : Int32 × St) (hf : fX2_bidsTogether_b4 rc4 σ x1 x2 = some r) : G k X 4 (some (.int r.1)) (cw k.2.2.2 r.2) (cw k.2.2.2 σ) [(0, .ref (k.2.2.2.1 7)), (1, .int x1), (2, .int x2)] [] 4 := by
  unfold fX2_bidsTogether_b4 at hf
  refine g_iload_n E 2 dX2_bidsTogether_4 rfl rfl ?_
  refine g_aload_n E 0 dX2_bidsTogether_5 rfl rfl ?_
  refine g_get (C := RX2) (T := TX2) (N := 9) (ci := 2) E 7 1 (.ref (k.2.2.2.1 2)) hi_X2_bidsTogether_X2 (cwG7 _ _) rfl (by decide) hk_X2_bidsTogether_38 rfl dX2_bidsTogether_6 ?_
  refine g_get (C := RX4) (T := TX4) (N := 6) (ci := 4) E 2 5 (.int (σ.2.1 1)) hi_X2_bidsTogether_X4 (cwG2 _ _) rfl (by decide) hk_X2_bidsTogether_48 rfl dX2_bidsTogether_9 ?_
  refine g_icmp_ge (tgt := 69) E dX2_bidsTogether_12 (by decide) (fun c1 => ?_) (fun c1 => ?_)
  · have hf := gp hf c1
    refine g_iload_n E 1 dX2_bidsTogether_69 rfl rfl ?_
    cases hf
    exact g_iret E dX2_bidsTogether_70
  · have hf := gn hf c1
    refine g_iconst (v := (0 : Int32)) E dX2_bidsTogether_15 (by decide) ?_
    refine g_istore_n E [(3, .int (0 : Int32)), (0, .ref (k.2.2.2.1 7)), (1, .int x1), (2, .int x2)] dX2_bidsTogether_16 rfl (by decide) rfl ?_
    exact g_sub [1, 2, 3, 0] rfl (fX2_bidsTogether_v17 E rc4 hrc4 gF σ x1 x2 (0 : Int32) r hf)
theorem fX2_bidsTogether_v4 {k : gK} {X : gX} (E : gE k X cX2_bidsTogether RX2 wsX2_bidsTogether 4 (some .int) rm_fX2_bidsTogether) : ∀ (n : Nat) (σ : St) (x1 : Int32) (x2 : Int32) (r : Int32 × St), fX2_bidsTogether_l4 n σ x1 x2 = some r → G k X 4 (some (.int r.1)) (cw k.2.2.2 r.2) (cw k.2.2.2 σ) [(0, .ref (k.2.2.2.1 7)), (1, .int x1), (2, .int x2)] [] 4 := by
  intro n
  induction n with
  | zero => intro σ x1 x2 r hf; cases hf
  | succ n ih => intro σ x1 x2 r hf; exact fX2_bidsTogether_w4 E (fX2_bidsTogether_l4 n) ih σ x1 x2 r hf
set_option maxHeartbeats 4000000 in
set_option maxRecDepth 100000 in
theorem fX2_bidsTogether_c (k : gK) (σ : St) (r : Int32 × St) (hf : fX2_bidsTogether σ = some r) : MC k yX2_bidsTogether wsX2_bidsTogether rm_fX2_bidsTogether [.ref (k.2.2.2.1 7)] (cw k.2.2.2 σ) (some (.int r.1)) (cw k.2.2.2 r.2) := by
  refine MC_of (cc := cX2_bidsTogether) (maxL := 4) (ret := (some .int)) (own := RX2) (lvs := [(0, .ref (k.2.2.2.1 7))]) (by decide) rfl rfl (Nat.le_of_ble_eq_true rfl) rfl (fun X E => ?_)
  unfold fX2_bidsTogether at hf
  refine g_iconst (v := (0 : Int32)) E dX2_bidsTogether_0 (by decide) ?_
  refine g_istore_n E [(1, .int (0 : Int32)), (0, .ref (k.2.2.2.1 7))] dX2_bidsTogether_1 rfl (by decide) rfl ?_
  refine g_iconst (v := (0 : Int32)) E dX2_bidsTogether_2 (by decide) ?_
  refine g_istore_n E [(2, .int (0 : Int32)), (1, .int (0 : Int32)), (0, .ref (k.2.2.2.1 7))] dX2_bidsTogether_3 rfl (by decide) rfl ?_
  exact g_sub [2, 1, 0] rfl (fX2_bidsTogether_v4 E gF σ (0 : Int32) (0 : Int32) r hf)
theorem hi_X8_match_X8 : ∀ w ∈ wsX80, w ∈ wsX8_match := by decide +kernel
theorem hi_X8_match_X2 : ∀ w ∈ wsX20, w ∈ wsX8_match := by decide +kernel
theorem hk_X8_match_58 : Cond.fieldLink RX8 58 "PaperMarks" "match" "LPaperMarks$Match;" ∈ wsX8_match := by decide +kernel
theorem hk_X8_match_216 : Cond.fieldLink RX8 216 "PaperMarks$Match" "sets" "[I" ∈ wsX8_match := by decide +kernel
theorem hk_X8_match_19 : Cond.fieldLink RX8 19 "PaperMarks" "papers" "LPaperMarks$Papers;" ∈ wsX8_match := by decide +kernel
def rm_fX8_match : Room := { frames := 6, cells := 0, slots := 0, locals := 138 }
set_option maxHeartbeats 4000000 in
set_option maxRecDepth 100000 in
theorem fX8_match_w18 {k : gK} {X : gX} (E : gE k X cX8_match RX8 wsX8_match 4 (some .int) rm_fX8_match) (σ : St) (x1 : Int32) (x2 : Int32) (x3 : Int32) (r : Int32 × St) (hf : fX8_match_b18 σ x1 x2 x3 = some r) : G k X 4 (some (.int r.1)) (cw k.2.2.2 r.2) (cw k.2.2.2 σ) [(0, .ref (k.2.2.2.1 0)), (1, .int x1), (2, .int x2), (3, .int x3)] [] 18 := by
  unfold fX8_match_b18 at hf
  refine g_iload_n E 1 dX8_match_18 rfl rfl ?_
  refine g_iconst (v := (1 : Int32)) E dX8_match_19 (by decide) ?_
  refine g_iconst (v := (3 : Int32)) E dX8_match_20 (by decide) ?_
  obtain ⟨q1, hq2, hf⟩ := gb hf
  refine g_callS (As := [.int x1, .int (1 : Int32), .int (3 : Int32)]) (rest := []) (n := 3) E (fX8_within_c k σ x1 (1 : Int32) (3 : Int32) q1 hq2) gX8_match_X8_within rfl rfl rfl (by decide +kernel) ⟨Nat.le_of_ble_eq_true rfl, Nat.le_of_ble_eq_true rfl⟩ rfl rfl (Nat.le_of_ble_eq_true rfl) dX8_match_21 ?_
  refine g_if_eq (tgt := 36) E dX8_match_24 (by decide) (fun c3 => ?_) (fun c3 => ?_)
  · have hf := gp hf c3
    refine g_bipush (v := (-2 : Int32)) E dX8_match_36 (by decide) ?_
    cases hf
    exact g_iret E dX8_match_38
  · have hf := gn hf c3
    refine g_iload_n E 2 dX8_match_27 rfl rfl ?_
    refine g_iconst (v := (1 : Int32)) E dX8_match_28 (by decide) ?_
    refine g_iconst (v := (4 : Int32)) E dX8_match_29 (by decide) ?_
    obtain ⟨q4, hq5, hf⟩ := gb hf
    refine g_callS (As := [.int x2, .int (1 : Int32), .int (4 : Int32)]) (rest := []) (n := 3) E (fX8_within_c k q1.2 x2 (1 : Int32) (4 : Int32) q4 hq5) gX8_match_X8_within rfl rfl rfl (by decide +kernel) ⟨Nat.le_of_ble_eq_true rfl, Nat.le_of_ble_eq_true rfl⟩ rfl rfl (Nat.le_of_ble_eq_true rfl) dX8_match_30 ?_
    refine g_if_ne (tgt := 39) E dX8_match_33 (by decide) (fun c6 => ?_) (fun c6 => ?_)
    · have hf := gn hf c6
      refine g_aload_n E 0 dX8_match_39 rfl rfl ?_
      refine g_get (C := RX8) (T := TX8) (N := 7) (ci := 8) E 0 6 (.ref (k.2.2.2.1 7)) hi_X8_match_X8 (cwG0 _ _) rfl (by decide) hk_X8_match_58 rfl dX8_match_40 ?_
      refine g_iload_n E 1 dX8_match_43 rfl rfl ?_
      refine g_iload_n E 2 dX8_match_44 rfl rfl ?_
      obtain ⟨q7, hq8, hf⟩ := gb hf
      refine g_callV (C := RX2) (T := TX2) (N := 9) (ci := 2) (As := [.int x1, .int x2]) (rest := []) (n := 2) E 7 (fX2_find_c k q4.2 x1 x2 q7 hq8) gX8_match_X2_find rfl rfl rfl (by decide +kernel) ⟨Nat.le_of_ble_eq_true rfl, Nat.le_of_ble_eq_true rfl⟩ rfl rfl (Nat.le_of_ble_eq_true rfl) rfl (cwG7 _ _) dX8_match_45 ?_
      refine g_if_ne (tgt := 54) E dX8_match_48 (by decide) (fun c9 => ?_) (fun c9 => ?_)
      · have hf := gn hf c9
        refine g_iload_n E 3 dX8_match_54 rfl rfl ?_
        refine g_iconst (v := (-1 : Int32)) E dX8_match_55 (by decide) ?_
        refine g_icmp_ne (tgt := 69) E dX8_match_56 (by decide) (fun c10 => ?_) (fun c10 => ?_)
        · have hf := gn hf c10
          refine g_aload_n E 0 dX8_match_69 rfl rfl ?_
          refine g_get (C := RX8) (T := TX8) (N := 7) (ci := 8) E 0 6 (.ref (k.2.2.2.1 7)) hi_X8_match_X8 (cwG0 _ _) rfl (by decide) hk_X8_match_58 rfl dX8_match_70 ?_
          refine g_get (C := RX2) (T := TX2) (N := 9) (ci := 2) E 7 2 (.ref (k.2.2.2.1 27)) hi_X8_match_X2 (cwG7 _ _) rfl (by decide) hk_X8_match_216 rfl dX8_match_73 ?_
          refine g_iload_n E 3 dX8_match_76 rfl rfl ?_
          obtain ⟨hi11, hf⟩ := gd hf
          refine g_iald E 27 (q7.2.1 27) (cwG27 _ _) hi11 dX8_match_77 ?_
          cases hf
          exact g_iret E dX8_match_78
        · have hf := gp hf c10
          refine g_aload_n E 0 dX8_match_59 rfl rfl ?_
          refine g_get (C := RX8) (T := TX8) (N := 7) (ci := 8) E 0 6 (.ref (k.2.2.2.1 7)) hi_X8_match_X8 (cwG0 _ _) rfl (by decide) hk_X8_match_58 rfl dX8_match_60 ?_
          obtain ⟨q12, hq13, hf⟩ := gb hf
          refine g_callV (C := RX2) (T := TX2) (N := 9) (ci := 2) (As := []) (rest := []) (n := 0) E 7 (fX2_bidsTogether_c k q7.2  q12 hq13) gX8_match_X2_bidsTogether rfl rfl rfl (by decide +kernel) ⟨Nat.le_of_ble_eq_true rfl, Nat.le_of_ble_eq_true rfl⟩ rfl rfl (Nat.le_of_ble_eq_true rfl) rfl (cwG7 _ _) dX8_match_63 ?_
          refine g_goto (tgt := 78) E dX8_match_66 (by decide) ?_
          cases hf
          exact g_iret E dX8_match_78
      · have hf := gp hf c9
        refine g_bipush (v := (-5 : Int32)) E dX8_match_51 (by decide) ?_
        cases hf
        exact g_iret E dX8_match_53
    · have hf := gp hf c6
      refine g_bipush (v := (-2 : Int32)) E dX8_match_36 (by decide) ?_
      cases hf
      exact g_iret E dX8_match_38
set_option maxHeartbeats 4000000 in
set_option maxRecDepth 100000 in
theorem fX8_match_c (k : gK) (σ : St) (x1 : Int32) (x2 : Int32) (x3 : Int32) (r : Int32 × St) (hf : fX8_match σ x1 x2 x3 = some r) : MC k yX8_match wsX8_match rm_fX8_match [.ref (k.2.2.2.1 0), .int x1, .int x2, .int x3] (cw k.2.2.2 σ) (some (.int r.1)) (cw k.2.2.2 r.2) := by
  refine MC_of (cc := cX8_match) (maxL := 4) (ret := (some .int)) (own := RX8) (lvs := [(0, .ref (k.2.2.2.1 0)), (1, .int x1), (2, .int x2), (3, .int x3)]) (by decide) rfl rfl (Nat.le_of_ble_eq_true rfl) rfl (fun X E => ?_)
  unfold fX8_match at hf
  refine g_iload_n E 3 dX8_match_0 rfl rfl ?_
  refine g_iconst (v := (-1 : Int32)) E dX8_match_1 (by decide) ?_
  refine g_icmp_eq (tgt := 18) E dX8_match_2 (by decide) (fun c1 => ?_) (fun c1 => ?_)
  · have hf := gp hf c1
    exact fX8_match_w18 E σ x1 x2 x3 r hf
  · have hf := gn hf c1
    refine g_aload_n E 0 dX8_match_5 rfl rfl ?_
    refine g_get (C := RX8) (T := TX8) (N := 7) (ci := 8) E 0 1 (.ref (k.2.2.2.1 2)) hi_X8_match_X8 (cwG0 _ _) rfl (by decide) hk_X8_match_19 rfl dX8_match_6 ?_
    refine g_iload_n E 3 dX8_match_9 rfl rfl ?_
    obtain ⟨q2, hq3, hf⟩ := gb hf
    refine g_callV (C := RX4) (T := TX4) (N := 6) (ci := 4) (As := [.int x3]) (rest := []) (n := 1) E 2 (fX4_has_c k σ x3 q2 hq3) gX8_match_X4_has rfl rfl rfl (by decide +kernel) ⟨Nat.le_of_ble_eq_true rfl, Nat.le_of_ble_eq_true rfl⟩ rfl rfl (Nat.le_of_ble_eq_true rfl) rfl (cwG2 _ _) dX8_match_10 ?_
    refine g_if_ne (tgt := 18) E dX8_match_13 (by decide) (fun c4 => ?_) (fun c4 => ?_)
    · have hf := gn hf c4
      exact fX8_match_w18 E q2.2 x1 x2 x3 r hf
    · have hf := gp hf c4
      refine g_iconst (v := (-1 : Int32)) E dX8_match_16 (by decide) ?_
      cases hf
      exact g_iret E dX8_match_17
def rm_fJ6_compare_7cf53 : Room := { frames := 0, cells := 0, slots := 0, locals := 0 }
set_option maxHeartbeats 4000000 in
set_option maxRecDepth 100000 in
theorem fJ6_compare_7cf53_c (k : gK) (σ : St) (x0 : Int32) (x1 : Int32) (r : Int32 × St) (hf : fJ6_compare_7cf53 σ x0 x1 = some r) : MC k yJ6_compare_7cf53 wsJ6_compare_7cf53 rm_fJ6_compare_7cf53 [.int x0, .int x1] (cw k.2.2.2 σ) (some (.int r.1)) (cw k.2.2.2 r.2) := by
  refine MC_of (cc := cJ6_compare_7cf53) (maxL := 2) (ret := (some .int)) (own := RJ6) (lvs := [(0, .int x0), (1, .int x1)]) (by decide) rfl rfl (Nat.le_of_ble_eq_true rfl) rfl (fun X E => ?_)
  unfold fJ6_compare_7cf53 at hf
  refine g_iload_n E 0 dJ6_compare_7cf53_0 rfl rfl ?_
  refine g_iload_n E 1 dJ6_compare_7cf53_1 rfl rfl ?_
  refine g_icmp_ge (tgt := 9) E dJ6_compare_7cf53_2 (by decide) (fun c1 => ?_) (fun c1 => ?_)
  · have hf := gp hf c1
    refine g_iload_n E 0 dJ6_compare_7cf53_9 rfl rfl ?_
    refine g_iload_n E 1 dJ6_compare_7cf53_10 rfl rfl ?_
    refine g_icmp_ne (tgt := 18) E dJ6_compare_7cf53_11 (by decide) (fun c2 => ?_) (fun c2 => ?_)
    · have hf := gn hf c2
      refine g_iconst (v := (1 : Int32)) E dJ6_compare_7cf53_18 (by decide) ?_
      cases hf
      exact g_iret E dJ6_compare_7cf53_19
    · have hf := gp hf c2
      refine g_iconst (v := (0 : Int32)) E dJ6_compare_7cf53_14 (by decide) ?_
      refine g_goto (tgt := 19) E dJ6_compare_7cf53_15 (by decide) ?_
      cases hf
      exact g_iret E dJ6_compare_7cf53_19
  · have hf := gn hf c1
    refine g_iconst (v := (-1 : Int32)) E dJ6_compare_7cf53_5 (by decide) ?_
    refine g_goto (tgt := 19) E dJ6_compare_7cf53_6 (by decide) ?_
    cases hf
    exact g_iret E dJ6_compare_7cf53_19
theorem hi_X8_agreement_X8 : ∀ w ∈ wsX80, w ∈ wsX8_agreement := by decide +kernel
theorem hi_X8_agreement_X4 : ∀ w ∈ wsX40, w ∈ wsX8_agreement := by decide +kernel
theorem hk_X8_agreement_19 : Cond.fieldLink RX8 19 "PaperMarks" "papers" "LPaperMarks$Papers;" ∈ wsX8_agreement := by decide +kernel
theorem hk_X8_agreement_105 : Cond.fieldLink RX8 105 "PaperMarks$Papers" "laters" "[I" ∈ wsX8_agreement := by decide +kernel
theorem hk_X8_agreement_26 : Cond.fieldLink RX8 26 "PaperMarks" "marks" "LPaperMarks$Marks;" ∈ wsX8_agreement := by decide +kernel
def rm_fX8_agreement : Room := { frames := 4, cells := 0, slots := 0, locals := 88 }
set_option maxHeartbeats 4000000 in
set_option maxRecDepth 100000 in
theorem fX8_agreement_c (k : gK) (σ : St) (x1 : Int32) (x2 : Int32) (r : Int32 × St) (hf : fX8_agreement σ x1 x2 = some r) : MC k yX8_agreement wsX8_agreement rm_fX8_agreement [.ref (k.2.2.2.1 0), .int x1, .int x2] (cw k.2.2.2 σ) (some (.int r.1)) (cw k.2.2.2 r.2) := by
  refine MC_of (cc := cX8_agreement) (maxL := 8) (ret := (some .int)) (own := RX8) (lvs := [(0, .ref (k.2.2.2.1 0)), (1, .int x1), (2, .int x2)]) (by decide) rfl rfl (Nat.le_of_ble_eq_true rfl) rfl (fun X E => ?_)
  unfold fX8_agreement at hf
  refine g_aload_n E 0 dX8_agreement_0 rfl rfl ?_
  refine g_get (C := RX8) (T := TX8) (N := 7) (ci := 8) E 0 1 (.ref (k.2.2.2.1 2)) hi_X8_agreement_X8 (cwG0 _ _) rfl (by decide) hk_X8_agreement_19 rfl dX8_agreement_1 ?_
  refine g_get (C := RX4) (T := TX4) (N := 6) (ci := 4) E 2 3 (.ref (k.2.2.2.1 17)) hi_X8_agreement_X4 (cwG2 _ _) rfl (by decide) hk_X8_agreement_105 rfl dX8_agreement_4 ?_
  refine g_iload_n E 1 dX8_agreement_7 rfl rfl ?_
  obtain ⟨hi1, hf⟩ := gd hf
  refine g_iald E 17 (σ.1 17) (cwG17 _ _) hi1 dX8_agreement_8 ?_
  refine g_istore_n E [(3, .int (σ.1 17 x1.toNatClampNeg)), (0, .ref (k.2.2.2.1 0)), (1, .int x1), (2, .int x2)] dX8_agreement_9 rfl (by decide) rfl ?_
  refine g_aload_n E 1 dX8_agreement_10 rfl rfl ?_
  refine g_get (C := RX8) (T := TX8) (N := 7) (ci := 8) E 0 1 (.ref (k.2.2.2.1 2)) hi_X8_agreement_X8 (cwG0 _ _) rfl (by decide) hk_X8_agreement_19 rfl dX8_agreement_11 ?_
  refine g_get (C := RX4) (T := TX4) (N := 6) (ci := 4) E 2 3 (.ref (k.2.2.2.1 17)) hi_X8_agreement_X4 (cwG2 _ _) rfl (by decide) hk_X8_agreement_105 rfl dX8_agreement_14 ?_
  refine g_iload_n E 3 dX8_agreement_17 rfl rfl ?_
  obtain ⟨hi2, hf⟩ := gd hf
  refine g_iald E 17 (σ.1 17) (cwG17 _ _) hi2 dX8_agreement_18 ?_
  refine g_istore E [(4, .int (σ.1 17 x2.toNatClampNeg)), (3, .int (σ.1 17 x1.toNatClampNeg)), (0, .ref (k.2.2.2.1 0)), (1, .int x1), (2, .int x2)] dX8_agreement_19 (by decide) rfl ?_
  refine g_aload_n E 2 dX8_agreement_21 rfl rfl ?_
  refine g_get (C := RX8) (T := TX8) (N := 7) (ci := 8) E 0 2 (.ref (k.2.2.2.1 3)) hi_X8_agreement_X8 (cwG0 _ _) rfl (by decide) hk_X8_agreement_26 rfl dX8_agreement_22 ?_
  refine g_iload_n E 3 dX8_agreement_25 rfl rfl ?_
  obtain ⟨q3, hq4, hf⟩ := gb hf
  refine g_callV (C := RX1) (T := TX1) (N := 2) (ci := 1) (As := [.int x1]) (rest := []) (n := 1) E 3 (fX1_countOf_c k σ x1 q3 hq4) gX8_agreement_X1_countOf rfl rfl rfl (by decide +kernel) ⟨Nat.le_of_ble_eq_true rfl, Nat.le_of_ble_eq_true rfl⟩ rfl rfl (Nat.le_of_ble_eq_true rfl) rfl (cwG3 _ _) dX8_agreement_26 ?_
  refine g_istore E [(5, .int q3.1), (4, .int (σ.1 17 x2.toNatClampNeg)), (3, .int (σ.1 17 x1.toNatClampNeg)), (0, .ref (k.2.2.2.1 0)), (1, .int x1), (2, .int x2)] dX8_agreement_29 (by decide) rfl ?_
  refine g_aload_n E 3 dX8_agreement_31 rfl rfl ?_
  refine g_get (C := RX8) (T := TX8) (N := 7) (ci := 8) E 0 2 (.ref (k.2.2.2.1 3)) hi_X8_agreement_X8 (cwG0 _ _) rfl (by decide) hk_X8_agreement_26 rfl dX8_agreement_32 ?_
  refine g_iload_n E 5 dX8_agreement_35 rfl rfl ?_
  obtain ⟨q5, hq6, hf⟩ := gb hf
  refine g_callV (C := RX1) (T := TX1) (N := 2) (ci := 1) (As := [.int x2]) (rest := []) (n := 1) E 3 (fX1_countOf_c k q3.2 x2 q5 hq6) gX8_agreement_X1_countOf rfl rfl rfl (by decide +kernel) ⟨Nat.le_of_ble_eq_true rfl, Nat.le_of_ble_eq_true rfl⟩ rfl rfl (Nat.le_of_ble_eq_true rfl) rfl (cwG3 _ _) dX8_agreement_36 ?_
  refine g_istore E [(6, .int q5.1), (5, .int q3.1), (4, .int (σ.1 17 x2.toNatClampNeg)), (3, .int (σ.1 17 x1.toNatClampNeg)), (0, .ref (k.2.2.2.1 0)), (1, .int x1), (2, .int x2)] dX8_agreement_39 (by decide) rfl ?_
  refine g_iload_n E 3 dX8_agreement_41 rfl rfl ?_
  refine g_bipush (v := (-6 : Int32)) E dX8_agreement_42 (by decide) ?_
  refine g_icmp_eq (tgt := 64) E dX8_agreement_44 (by decide) (fun c7 => ?_) (fun c7 => ?_)
  · have hf := gp hf c7
    refine g_iconst (v := (0 : Int32)) E dX8_agreement_64 (by decide) ?_
    cases hf
    exact g_iret E dX8_agreement_65
  · have hf := gn hf c7
    refine g_iload E 2 dX8_agreement_47 rfl ?_
    refine g_bipush (v := (-6 : Int32)) E dX8_agreement_49 (by decide) ?_
    refine g_icmp_eq (tgt := 64) E dX8_agreement_51 (by decide) (fun c8 => ?_) (fun c8 => ?_)
    · have hf := gp hf c8
      refine g_iconst (v := (0 : Int32)) E dX8_agreement_64 (by decide) ?_
      cases hf
      exact g_iret E dX8_agreement_65
    · have hf := gn hf c8
      refine g_iload E 1 dX8_agreement_54 rfl ?_
      refine g_if_eq (tgt := 64) E dX8_agreement_56 (by decide) (fun c9 => ?_) (fun c9 => ?_)
      · have hf := gp hf c9
        refine g_iconst (v := (0 : Int32)) E dX8_agreement_64 (by decide) ?_
        cases hf
        exact g_iret E dX8_agreement_65
      · have hf := gn hf c9
        refine g_iload E 0 dX8_agreement_59 rfl ?_
        refine g_if_ne (tgt := 66) E dX8_agreement_61 (by decide) (fun c10 => ?_) (fun c10 => ?_)
        · have hf := gn hf c10
          refine g_aload_n E 4 dX8_agreement_66 rfl rfl ?_
          refine g_get (C := RX8) (T := TX8) (N := 7) (ci := 8) E 0 2 (.ref (k.2.2.2.1 3)) hi_X8_agreement_X8 (cwG0 _ _) rfl (by decide) hk_X8_agreement_26 rfl dX8_agreement_67 ?_
          refine g_iload_n E 5 dX8_agreement_70 rfl rfl ?_
          obtain ⟨q11, hq12, hf⟩ := gb hf
          refine g_callV (C := RX1) (T := TX1) (N := 2) (ci := 1) (As := [.int x1]) (rest := []) (n := 1) E 3 (fX1_sumOf_c k q5.2 x1 q11 hq12) gX8_agreement_X1_sumOf rfl rfl rfl (by decide +kernel) ⟨Nat.le_of_ble_eq_true rfl, Nat.le_of_ble_eq_true rfl⟩ rfl rfl (Nat.le_of_ble_eq_true rfl) rfl (cwG3 _ _) dX8_agreement_71 ?_
          refine g_iload E 0 dX8_agreement_74 rfl ?_
          refine g_imul E dX8_agreement_76 ?_
          refine g_aload_n E 4 dX8_agreement_77 rfl rfl ?_
          refine g_get (C := RX8) (T := TX8) (N := 7) (ci := 8) E 0 2 (.ref (k.2.2.2.1 3)) hi_X8_agreement_X8 (cwG0 _ _) rfl (by decide) hk_X8_agreement_26 rfl dX8_agreement_78 ?_
          refine g_iload_n E 6 dX8_agreement_81 rfl rfl ?_
          obtain ⟨q13, hq14, hf⟩ := gb hf
          refine g_callV (C := RX1) (T := TX1) (N := 2) (ci := 1) (As := [.int x2]) (rest := [.int (q11.1 * q5.1)]) (n := 1) E 3 (fX1_sumOf_c k q11.2 x2 q13 hq14) gX8_agreement_X1_sumOf rfl rfl rfl (by decide +kernel) ⟨Nat.le_of_ble_eq_true rfl, Nat.le_of_ble_eq_true rfl⟩ rfl rfl (Nat.le_of_ble_eq_true rfl) rfl (cwG3 _ _) dX8_agreement_82 ?_
          refine g_iload E 1 dX8_agreement_85 rfl ?_
          refine g_imul E dX8_agreement_87 ?_
          obtain ⟨q15, hq16, hf⟩ := gb hf
          refine g_callS (As := [.int (q11.1 * q5.1), .int (q13.1 * q3.1)]) (rest := []) (n := 2) E (fJ6_compare_7cf53_c k q13.2 (q11.1 * q5.1) (q13.1 * q3.1) q15 hq16) gX8_agreement_J6_compare_7cf53 rfl rfl rfl (by decide +kernel) ⟨Nat.le_of_ble_eq_true rfl, Nat.le_of_ble_eq_true rfl⟩ rfl rfl (Nat.le_of_ble_eq_true rfl) dX8_agreement_88 ?_
          refine g_istore E [(7, .int q15.1), (6, .int q5.1), (5, .int q3.1), (4, .int (σ.1 17 x2.toNatClampNeg)), (3, .int (σ.1 17 x1.toNatClampNeg)), (0, .ref (k.2.2.2.1 0)), (1, .int x1), (2, .int x2)] dX8_agreement_91 (by decide) rfl ?_
          refine g_iload E 0 dX8_agreement_93 rfl ?_
          refine g_iload_n E 4 dX8_agreement_95 rfl rfl ?_
          refine g_iload E 3 dX8_agreement_96 rfl ?_
          obtain ⟨q17, hq18, hf⟩ := gb hf
          refine g_callS (As := [.int (σ.1 17 x1.toNatClampNeg), .int (σ.1 17 x2.toNatClampNeg)]) (rest := [.int q15.1]) (n := 2) E (fJ6_compare_7cf53_c k q15.2 (σ.1 17 x1.toNatClampNeg) (σ.1 17 x2.toNatClampNeg) q17 hq18) gX8_agreement_J6_compare_7cf53 rfl rfl rfl (by decide +kernel) ⟨Nat.le_of_ble_eq_true rfl, Nat.le_of_ble_eq_true rfl⟩ rfl rfl (Nat.le_of_ble_eq_true rfl) dX8_agreement_98 ?_
          refine g_imul E dX8_agreement_101 ?_
          cases hf
          exact g_iret E dX8_agreement_102
        · have hf := gp hf c10
          refine g_iconst (v := (0 : Int32)) E dX8_agreement_64 (by decide) ?_
          cases hf
          exact g_iret E dX8_agreement_65
