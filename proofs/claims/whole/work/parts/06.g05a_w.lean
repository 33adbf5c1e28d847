theorem hi_X2_spreadChains_X2 : ∀ w ∈ wsX20, w ∈ wsX2_spreadChains := by decide +kernel
theorem hi_X2_spreadChains_X0 : ∀ w ∈ wsX00, w ∈ wsX2_spreadChains := by decide +kernel
theorem hi_X2_spreadChains_X4 : ∀ w ∈ wsX40, w ∈ wsX2_spreadChains := by decide +kernel
theorem hk_X2_spreadChains_34 : Cond.fieldLink RX2 34 "PaperMarks$Match" "judges" "LPaperMarks$Judges;" ∈ wsX2_spreadChains := by decide +kernel
theorem hk_X2_spreadChains_65 : Cond.fieldLink RX2 65 "PaperMarks$Judges" "count" "I" ∈ wsX2_spreadChains := by decide +kernel
theorem hk_X2_spreadChains_9 : Cond.fieldLink RX2 9 "PaperMarks$Match" "sets" "[I" ∈ wsX2_spreadChains := by decide +kernel
theorem hk_X2_spreadChains_38 : Cond.fieldLink RX2 38 "PaperMarks$Match" "papers" "LPaperMarks$Papers;" ∈ wsX2_spreadChains := by decide +kernel
theorem hk_X2_spreadChains_48 : Cond.fieldLink RX2 48 "PaperMarks$Papers" "count" "I" ∈ wsX2_spreadChains := by decide +kernel
theorem hk_X2_spreadChains_25 : Cond.fieldLink RX2 25 "PaperMarks$Match" "judgeGains" "[J" ∈ wsX2_spreadChains := by decide +kernel
theorem hk_X2_spreadChains_28 : Cond.fieldLink RX2 28 "PaperMarks$Match" "givers" "[I" ∈ wsX2_spreadChains := by decide +kernel
theorem hk_X2_spreadChains_31 : Cond.fieldLink RX2 31 "PaperMarks$Match" "gets" "[I" ∈ wsX2_spreadChains := by decide +kernel
theorem hk_X2_spreadChains_21 : Cond.fieldLink RX2 21 "PaperMarks$Match" "paperGains" "[J" ∈ wsX2_spreadChains := by decide +kernel
theorem hk_X2_spreadChains_15 : Cond.fieldLink RX2 15 "PaperMarks$Match" "wants" "[I" ∈ wsX2_spreadChains := by decide +kernel
def rm_fX2_spreadChains : Room := { frames := 4, cells := 0, slots := 0, locals := 90 }
set_option maxHeartbeats 4000000 in
set_option maxRecDepth 100000 in
theorem fX2_spreadChains_w140 {k : gK} {X : gX} (E : gE k X cX2_spreadChains RX2 wsX2_spreadChains 5 none rm_fX2_spreadChains) (rc68 : St → Int32 → Int32 → Option (Unit × St)) (hrc68 : ∀ (σ : St) (x1 : Int32) (x2 : Int32) (r : Unit × St), rc68 σ x1 x2 = some r → G k X 5 (none) (cw k.2.2.2 r.2) (cw k.2.2.2 σ) [(0, .ref (k.2.2.2.1 7)), (1, .int x1), (2, .int x2)] [] 68) (rc82 : St → Int32 → Int32 → Int32 → Option (Unit × St)) (hrc82 : ∀ (σ : St) (x1 : Int32) (x2 : Int32) (x3 : Int32) (r : Unit × St), rc82 σ x1 x2 x3 = some r → G k X 5 (none) (cw k.2.2.2 r.2) (cw k.2.2.2 σ) [(0, .ref (k.2.2.2.1 7)), (1, .int x1), (2, .int x2), (3, .int x3)] [] 82) (rc96 : St → Int32 → Int32 → Int32 → Int32 → Option (Unit × St)) (hrc96 : ∀ (σ : St) (x1 : Int32) (x2 : Int32) (x3 : Int32) (x4 : Int32) (r : Unit × St), rc96 σ x1 x2 x3 x4 = some r → G k X 5 (none) (cw k.2.2.2 r.2) (cw k.2.2.2 σ) [(0, .ref (k.2.2.2.1 7)), (1, .int x1), (2, .int x2), (3, .int x3), (4, .int x4)] [] 96) (σ : St) (x2 : Int32) (x3 : Int32) (x4 : Int32) (t0 : Int32) (t1 : Int32) (r : Unit × St) (hf : fX2_spreadChains_b140 rc68 rc82 rc96 σ x2 x3 x4 t0 t1 = some r) : G k X 5 (none) (cw k.2.2.2 r.2) (cw k.2.2.2 σ) [(0, .ref (k.2.2.2.1 7)), (2, .int x2), (3, .int x3), (4, .int x4)] [.int t1, .int t0] 140 := by
  unfold fX2_spreadChains_b140 at hf
  refine g_ior E dX2_spreadChains_140 ?_
  refine g_istore_n E [(1, .int (t0 ||| t1)), (0, .ref (k.2.2.2.1 7)), (2, .int x2), (3, .int x3), (4, .int x4)] dX2_spreadChains_141 rfl (by decide) rfl ?_
  refine g_iinc E 4 [(4, .int (x4 + (1 : Int32))), (1, .int (t0 ||| t1)), (0, .ref (k.2.2.2.1 7)), (2, .int x2), (3, .int x3)] (x4 + (1 : Int32)) dX2_spreadChains_142 rfl (by rfl) (by decide) rfl ?_
  refine g_goto (tgt := 96) E dX2_spreadChains_145 (by decide) ?_
  exact g_sub [2, 1, 3, 4, 0] rfl (hrc96 σ (t0 ||| t1) x2 x3 (x4 + (1 : Int32)) r hf)
set_option maxHeartbeats 4000000 in
set_option maxRecDepth 100000 in
theorem fX2_spreadChains_w96 {k : gK} {X : gX} (E : gE k X cX2_spreadChains RX2 wsX2_spreadChains 5 none rm_fX2_spreadChains) (rc68 : St → Int32 → Int32 → Option (Unit × St)) (hrc68 : ∀ (σ : St) (x1 : Int32) (x2 : Int32) (r : Unit × St), rc68 σ x1 x2 = some r → G k X 5 (none) (cw k.2.2.2 r.2) (cw k.2.2.2 σ) [(0, .ref (k.2.2.2.1 7)), (1, .int x1), (2, .int x2)] [] 68) (rc82 : St → Int32 → Int32 → Int32 → Option (Unit × St)) (hrc82 : ∀ (σ : St) (x1 : Int32) (x2 : Int32) (x3 : Int32) (r : Unit × St), rc82 σ x1 x2 x3 = some r → G k X 5 (none) (cw k.2.2.2 r.2) (cw k.2.2.2 σ) [(0, .ref (k.2.2.2.1 7)), (1, .int x1), (2, .int x2), (3, .int x3)] [] 82) (rc96 : St → Int32 → Int32 → Int32 → Int32 → Option (Unit × St)) (hrc96 : ∀ (σ : St) (x1 : Int32) (x2 : Int32) (x3 : Int32) (x4 : Int32) (r : Unit × St), rc96 σ x1 x2 x3 x4 = some r → G k X 5 (none) (cw k.2.2.2 r.2) (cw k.2.2.2 σ) [(0, .ref (k.2.2.2.1 7)), (1, .int x1), (2, .int x2), (3, .int x3), (4, .int x4)] [] 96) (σ : St) (x1 : Int32) (x2 : Int32) (x3 : Int32) (x4 : Int32) (r : Unit × St) (hf : fX2_spreadChains_b96 rc68 rc82 rc96 σ x1 x2 x3 x4 = some r) : G k X 5 (none) (cw k.2.2.2 r.2) (cw k.2.2.2 σ) [(0, .ref (k.2.2.2.1 7)), (1, .int x1), (2, .int x2), (3, .int x3), (4, .int x4)] [] 96 := by
  unfold fX2_spreadChains_b96 at hf
  refine g_iload E 4 dX2_spreadChains_96 rfl ?_
  refine g_aload_n E 0 dX2_spreadChains_98 rfl rfl ?_
  refine g_get (C := RX2) (T := TX2) (N := 9) (ci := 2) E 7 0 (.ref (k.2.2.2.1 1)) hi_X2_spreadChains_X2 (cwG7 _ _) rfl (by decide) hk_X2_spreadChains_34 rfl dX2_spreadChains_99 ?_
  refine g_get (C := RX0) (T := TX0) (N := 5) (ci := 0) E 1 4 (.int (σ.2.1 0)) hi_X2_spreadChains_X0 (cwG1 _ _) rfl (by decide) hk_X2_spreadChains_65 rfl dX2_spreadChains_102 ?_
  refine g_icmp_ge (tgt := 148) E dX2_spreadChains_105 (by decide) (fun c1 => ?_) (fun c1 => ?_)
  · have hf := gp hf c1
    refine g_iinc E 3 [(3, .int (x3 + (1 : Int32))), (0, .ref (k.2.2.2.1 7)), (1, .int x1), (2, .int x2), (4, .int x4)] (x3 + (1 : Int32)) dX2_spreadChains_148 rfl (by rfl) (by decide) rfl ?_
    refine g_goto (tgt := 82) E dX2_spreadChains_151 (by decide) ?_
    exact g_sub [1, 2, 3, 0] rfl (hrc82 σ x1 x2 (x3 + (1 : Int32)) r hf)
  · have hf := gn hf c1
    refine g_iload_n E 1 dX2_spreadChains_108 rfl rfl ?_
    refine g_aload_n E 0 dX2_spreadChains_109 rfl rfl ?_
    refine g_get (C := RX2) (T := TX2) (N := 9) (ci := 2) E 7 2 (.ref (k.2.2.2.1 27)) hi_X2_spreadChains_X2 (cwG7 _ _) rfl (by decide) hk_X2_spreadChains_9 rfl dX2_spreadChains_110 ?_
    refine g_iload_n E 3 dX2_spreadChains_113 rfl rfl ?_
    obtain ⟨hi2, hf⟩ := gd hf
    refine g_iald E 27 (σ.1 27) (cwG27 _ _) hi2 dX2_spreadChains_114 ?_
    refine g_iload E 4 dX2_spreadChains_115 rfl ?_
    obtain ⟨q3, hq4, hf⟩ := gb hf
    refine g_callSN (As := [.int (σ.1 27 x3.toNatClampNeg), .int x4]) (rest := [.int x1]) (n := 2) E (fX8_hasBit_c k σ (σ.1 27 x3.toNatClampNeg) x4 q3 hq4) gX2_spreadChains_X8_hasBit_n68 rfl rfl rfl (by decide +kernel) (by decide +kernel) (by decide +kernel) (by decide +kernel) ⟨Nat.le_of_ble_eq_true rfl, Nat.le_of_ble_eq_true rfl⟩ rfl rfl (Nat.le_of_ble_eq_true rfl) dX2_spreadChains_117 ?_
    refine g_if_eq (tgt := 133) E dX2_spreadChains_120 (by decide) (fun c5 => ?_) (fun c5 => ?_)
    · have hf := gp hf c5
      refine g_aload_n E 0 dX2_spreadChains_133 rfl rfl ?_
      refine g_iload E 4 dX2_spreadChains_134 rfl ?_
      refine g_iload_n E 3 dX2_spreadChains_136 rfl rfl ?_
      obtain ⟨q6, hq7, hf⟩ := gb hf
      refine g_callV (C := RX2) (T := TX2) (N := 9) (ci := 2) (As := [.int x4, .int x3]) (rest := [.int x1]) (n := 2) E 7 (fX2_giveTo_c k q3.2 x4 x3 q6 hq7) gX2_spreadChains_X2_giveTo rfl rfl rfl (by decide +kernel) ⟨Nat.le_of_ble_eq_true rfl, Nat.le_of_ble_eq_true rfl⟩ rfl rfl (Nat.le_of_ble_eq_true rfl) rfl (cwG7 _ _) dX2_spreadChains_137 ?_
      exact g_sub [0, 2, 3, 4] rfl (fX2_spreadChains_w140 E rc68 hrc68 rc82 hrc82 rc96 hrc96 q6.2 x2 x3 x4 x1 q6.1 r hf)
    · have hf := gn hf c5
      refine g_aload_n E 0 dX2_spreadChains_123 rfl rfl ?_
      refine g_iload E 4 dX2_spreadChains_124 rfl ?_
      refine g_iload_n E 3 dX2_spreadChains_126 rfl rfl ?_
      obtain ⟨q8, hq9, hf⟩ := gb hf
      refine g_callV (C := RX2) (T := TX2) (N := 9) (ci := 2) (As := [.int x4, .int x3]) (rest := [.int x1]) (n := 2) E 7 (fX2_giveUp_c k q3.2 x4 x3 q8 hq9) gX2_spreadChains_X2_giveUp rfl rfl rfl (by decide +kernel) ⟨Nat.le_of_ble_eq_true rfl, Nat.le_of_ble_eq_true rfl⟩ rfl rfl (Nat.le_of_ble_eq_true rfl) rfl (cwG7 _ _) dX2_spreadChains_127 ?_
      refine g_goto (tgt := 140) E dX2_spreadChains_130 (by decide) ?_
      exact g_sub [0, 2, 3, 4] rfl (fX2_spreadChains_w140 E rc68 hrc68 rc82 hrc82 rc96 hrc96 q8.2 x2 x3 x4 x1 q8.1 r hf)
theorem fX2_spreadChains_v96 {k : gK} {X : gX} (E : gE k X cX2_spreadChains RX2 wsX2_spreadChains 5 none rm_fX2_spreadChains) (rc68 : St → Int32 → Int32 → Option (Unit × St)) (hrc68 : ∀ (σ : St) (x1 : Int32) (x2 : Int32) (r : Unit × St), rc68 σ x1 x2 = some r → G k X 5 (none) (cw k.2.2.2 r.2) (cw k.2.2.2 σ) [(0, .ref (k.2.2.2.1 7)), (1, .int x1), (2, .int x2)] [] 68) (rc82 : St → Int32 → Int32 → Int32 → Option (Unit × St)) (hrc82 : ∀ (σ : St) (x1 : Int32) (x2 : Int32) (x3 : Int32) (r : Unit × St), rc82 σ x1 x2 x3 = some r → G k X 5 (none) (cw k.2.2.2 r.2) (cw k.2.2.2 σ) [(0, .ref (k.2.2.2.1 7)), (1, .int x1), (2, .int x2), (3, .int x3)] [] 82) : ∀ (n : Nat) (σ : St) (x1 : Int32) (x2 : Int32) (x3 : Int32) (x4 : Int32) (r : Unit × St), fX2_spreadChains_l96 rc68 rc82 n σ x1 x2 x3 x4 = some r → G k X 5 (none) (cw k.2.2.2 r.2) (cw k.2.2.2 σ) [(0, .ref (k.2.2.2.1 7)), (1, .int x1), (2, .int x2), (3, .int x3), (4, .int x4)] [] 96 := by
  intro n
  induction n with
  | zero => intro σ x1 x2 x3 x4 r hf; cases hf
  | succ n ih => intro σ x1 x2 x3 x4 r hf; exact fX2_spreadChains_w96 E rc68 hrc68 rc82 hrc82 (fX2_spreadChains_l96 rc68 rc82 n) ih σ x1 x2 x3 x4 r hf
set_option maxHeartbeats 4000000 in
set_option maxRecDepth 100000 in
theorem fX2_spreadChains_w82 {k : gK} {X : gX} (E : gE k X cX2_spreadChains RX2 wsX2_spreadChains 5 none rm_fX2_spreadChains) (rc68 : St → Int32 → Int32 → Option (Unit × St)) (hrc68 : ∀ (σ : St) (x1 : Int32) (x2 : Int32) (r : Unit × St), rc68 σ x1 x2 = some r → G k X 5 (none) (cw k.2.2.2 r.2) (cw k.2.2.2 σ) [(0, .ref (k.2.2.2.1 7)), (1, .int x1), (2, .int x2)] [] 68) (rc82 : St → Int32 → Int32 → Int32 → Option (Unit × St)) (hrc82 : ∀ (σ : St) (x1 : Int32) (x2 : Int32) (x3 : Int32) (r : Unit × St), rc82 σ x1 x2 x3 = some r → G k X 5 (none) (cw k.2.2.2 r.2) (cw k.2.2.2 σ) [(0, .ref (k.2.2.2.1 7)), (1, .int x1), (2, .int x2), (3, .int x3)] [] 82) (σ : St) (x1 : Int32) (x2 : Int32) (x3 : Int32) (r : Unit × St) (hf : fX2_spreadChains_b82 rc68 rc82 σ x1 x2 x3 = some r) : G k X 5 (none) (cw k.2.2.2 r.2) (cw k.2.2.2 σ) [(0, .ref (k.2.2.2.1 7)), (1, .int x1), (2, .int x2), (3, .int x3)] [] 82 := by
  unfold fX2_spreadChains_b82 at hf
  refine g_iload_n E 3 dX2_spreadChains_82 rfl rfl ?_
  refine g_aload_n E 0 dX2_spreadChains_83 rfl rfl ?_
  refine g_get (C := RX2) (T := TX2) (N := 9) (ci := 2) E 7 1 (.ref (k.2.2.2.1 2)) hi_X2_spreadChains_X2 (cwG7 _ _) rfl (by decide) hk_X2_spreadChains_38 rfl dX2_spreadChains_84 ?_
  refine g_get (C := RX4) (T := TX4) (N := 6) (ci := 4) E 2 5 (.int (σ.2.1 1)) hi_X2_spreadChains_X4 (cwG2 _ _) rfl (by decide) hk_X2_spreadChains_48 rfl dX2_spreadChains_87 ?_
  refine g_icmp_ge (tgt := 154) E dX2_spreadChains_90 (by decide) (fun c1 => ?_) (fun c1 => ?_)
  · have hf := gp hf c1
    refine g_iinc E 2 [(2, .int (x2 + (1 : Int32))), (0, .ref (k.2.2.2.1 7)), (1, .int x1), (3, .int x3)] (x2 + (1 : Int32)) dX2_spreadChains_154 rfl (by rfl) (by decide) rfl ?_
    refine g_goto (tgt := 68) E dX2_spreadChains_157 (by decide) ?_
    exact g_sub [1, 2, 0] rfl (hrc68 σ x1 (x2 + (1 : Int32)) r hf)
  · have hf := gn hf c1
    refine g_iconst (v := (0 : Int32)) E dX2_spreadChains_93 (by decide) ?_
    refine g_istore E [(4, .int (0 : Int32)), (0, .ref (k.2.2.2.1 7)), (1, .int x1), (2, .int x2), (3, .int x3)] dX2_spreadChains_94 (by decide) rfl ?_
    exact g_sub [1, 2, 3, 4, 0] rfl (fX2_spreadChains_v96 E rc68 hrc68 rc82 hrc82 gF σ x1 x2 x3 (0 : Int32) r hf)
theorem fX2_spreadChains_v82 {k : gK} {X : gX} (E : gE k X cX2_spreadChains RX2 wsX2_spreadChains 5 none rm_fX2_spreadChains) (rc68 : St → Int32 → Int32 → Option (Unit × St)) (hrc68 : ∀ (σ : St) (x1 : Int32) (x2 : Int32) (r : Unit × St), rc68 σ x1 x2 = some r → G k X 5 (none) (cw k.2.2.2 r.2) (cw k.2.2.2 σ) [(0, .ref (k.2.2.2.1 7)), (1, .int x1), (2, .int x2)] [] 68) : ∀ (n : Nat) (σ : St) (x1 : Int32) (x2 : Int32) (x3 : Int32) (r : Unit × St), fX2_spreadChains_l82 rc68 n σ x1 x2 x3 = some r → G k X 5 (none) (cw k.2.2.2 r.2) (cw k.2.2.2 σ) [(0, .ref (k.2.2.2.1 7)), (1, .int x1), (2, .int x2), (3, .int x3)] [] 82 := by
  intro n
  induction n with
  | zero => intro σ x1 x2 x3 r hf; cases hf
  | succ n ih => intro σ x1 x2 x3 r hf; exact fX2_spreadChains_w82 E rc68 hrc68 (fX2_spreadChains_l82 rc68 n) ih σ x1 x2 x3 r hf
set_option maxHeartbeats 4000000 in
set_option maxRecDepth 100000 in
theorem fX2_spreadChains_w68 {k : gK} {X : gX} (E : gE k X cX2_spreadChains RX2 wsX2_spreadChains 5 none rm_fX2_spreadChains) (rc68 : St → Int32 → Int32 → Option (Unit × St)) (hrc68 : ∀ (σ : St) (x1 : Int32) (x2 : Int32) (r : Unit × St), rc68 σ x1 x2 = some r → G k X 5 (none) (cw k.2.2.2 r.2) (cw k.2.2.2 σ) [(0, .ref (k.2.2.2.1 7)), (1, .int x1), (2, .int x2)] [] 68) (σ : St) (x1 : Int32) (x2 : Int32) (r : Unit × St) (hf : fX2_spreadChains_b68 rc68 σ x1 x2 = some r) : G k X 5 (none) (cw k.2.2.2 r.2) (cw k.2.2.2 σ) [(0, .ref (k.2.2.2.1 7)), (1, .int x1), (2, .int x2)] [] 68 := by
  unfold fX2_spreadChains_b68 at hf
  refine g_iload_n E 2 dX2_spreadChains_68 rfl rfl ?_
  refine g_bipush (v := (12 : Int32)) E dX2_spreadChains_69 (by decide) ?_
  refine g_icmp_ge (tgt := 160) E dX2_spreadChains_71 (by decide) (fun c1 => ?_) (fun c1 => ?_)
  · have hf := gp hf c1
    have hf := Option.some.inj hf
    subst hf
    exact g_vret E dX2_spreadChains_160
  · have hf := gn hf c1
    refine g_iload_n E 1 dX2_spreadChains_74 rfl rfl ?_
    refine g_if_eq (tgt := 160) E dX2_spreadChains_75 (by decide) (fun c2 => ?_) (fun c2 => ?_)
    · have hf := gp hf c2
      have hf := Option.some.inj hf
      subst hf
      exact g_vret E dX2_spreadChains_160
    · have hf := gn hf c2
      refine g_iconst (v := (0 : Int32)) E dX2_spreadChains_78 (by decide) ?_
      refine g_istore_n E [(1, .int (0 : Int32)), (0, .ref (k.2.2.2.1 7)), (2, .int x2)] dX2_spreadChains_79 rfl (by decide) rfl ?_
      refine g_iconst (v := (0 : Int32)) E dX2_spreadChains_80 (by decide) ?_
      refine g_istore_n E [(3, .int (0 : Int32)), (1, .int (0 : Int32)), (0, .ref (k.2.2.2.1 7)), (2, .int x2)] dX2_spreadChains_81 rfl (by decide) rfl ?_
      exact g_sub [2, 1, 3, 0] rfl (fX2_spreadChains_v82 E rc68 hrc68 gF σ (0 : Int32) x2 (0 : Int32) r hf)
theorem fX2_spreadChains_v68 {k : gK} {X : gX} (E : gE k X cX2_spreadChains RX2 wsX2_spreadChains 5 none rm_fX2_spreadChains) : ∀ (n : Nat) (σ : St) (x1 : Int32) (x2 : Int32) (r : Unit × St), fX2_spreadChains_l68 n σ x1 x2 = some r → G k X 5 (none) (cw k.2.2.2 r.2) (cw k.2.2.2 σ) [(0, .ref (k.2.2.2.1 7)), (1, .int x1), (2, .int x2)] [] 68 := by
  intro n
  induction n with
  | zero => intro σ x1 x2 r hf; cases hf
  | succ n ih => intro σ x1 x2 r hf; exact fX2_spreadChains_w68 E (fX2_spreadChains_l68 n) ih σ x1 x2 r hf
set_option maxHeartbeats 4000000 in
set_option maxRecDepth 100000 in
theorem fX2_spreadChains_w29 {k : gK} {X : gX} (E : gE k X cX2_spreadChains RX2 wsX2_spreadChains 5 none rm_fX2_spreadChains) (rc2 : St → Int32 → Option (Unit × St)) (hrc2 : ∀ (σ : St) (x1 : Int32) (r : Unit × St), rc2 σ x1 = some r → G k X 5 (none) (cw k.2.2.2 r.2) (cw k.2.2.2 σ) [(0, .ref (k.2.2.2.1 7)), (1, .int x1)] [] 2) (σ : St) (x1 : Int32) (t1 : Int32) (t2 : Int64) (r : Unit × St) (hf : fX2_spreadChains_b29 rc2 σ x1 t1 t2 = some r) : G k X 5 (none) (cw k.2.2.2 r.2) (cw k.2.2.2 σ) [(0, .ref (k.2.2.2.1 7)), (1, .int x1)] [.long t2, .int t1, .ref (k.2.2.2.1 30)] 29 := by
  unfold fX2_spreadChains_b29 at hf
  obtain ⟨hi1, hf⟩ := gd hf
  refine g_last E 30 (cw k.2.2.2 (uL σ 30 t1.toNatClampNeg t2)) (σ.2.2 30) (cwG30 _ _) hi1 (cwL30 _ _ _ _) dX2_spreadChains_29 ?_
  refine g_iinc E 1 [(1, .int (x1 + (1 : Int32))), (0, .ref (k.2.2.2.1 7))] (x1 + (1 : Int32)) dX2_spreadChains_30 rfl (by rfl) (by decide) rfl ?_
  refine g_goto (tgt := 2) E dX2_spreadChains_33 (by decide) ?_
  exact g_sub [1, 0] rfl (hrc2 (uL σ 30 t1.toNatClampNeg t2) (x1 + (1 : Int32)) r hf)
set_option maxHeartbeats 4000000 in
set_option maxRecDepth 100000 in
theorem fX2_spreadChains_w2 {k : gK} {X : gX} (E : gE k X cX2_spreadChains RX2 wsX2_spreadChains 5 none rm_fX2_spreadChains) (rc2 : St → Int32 → Option (Unit × St)) (hrc2 : ∀ (σ : St) (x1 : Int32) (r : Unit × St), rc2 σ x1 = some r → G k X 5 (none) (cw k.2.2.2 r.2) (cw k.2.2.2 σ) [(0, .ref (k.2.2.2.1 7)), (1, .int x1)] [] 2) (σ : St) (x1 : Int32) (r : Unit × St) (hf : fX2_spreadChains_b2 rc2 σ x1 = some r) : G k X 5 (none) (cw k.2.2.2 r.2) (cw k.2.2.2 σ) [(0, .ref (k.2.2.2.1 7)), (1, .int x1)] [] 2 := by
  unfold fX2_spreadChains_b2 at hf
  refine g_iload_n E 1 dX2_spreadChains_2 rfl rfl ?_
  refine g_bipush (v := (6 : Int32)) E dX2_spreadChains_3 (by decide) ?_
  refine g_icmp_ge (tgt := 36) E dX2_spreadChains_5 (by decide) (fun c1 => ?_) (fun c1 => ?_)
  · have hf := gp hf c1
    refine g_aload_n E 0 dX2_spreadChains_36 rfl rfl ?_
    refine g_get (C := RX2) (T := TX2) (N := 9) (ci := 2) E 7 6 (.ref (k.2.2.2.1 31)) hi_X2_spreadChains_X2 (cwG7 _ _) rfl (by decide) hk_X2_spreadChains_25 rfl dX2_spreadChains_37 ?_
    refine g_ldc2 (v := (-1152921504606846976 : Int64)) E (by decide +kernel) dX2_spreadChains_40 ?_
    obtain ⟨q2, hq3, hf⟩ := gb hf
    refine g_callS (As := [.ref (k.2.2.2.1 31), .long (-1152921504606846976 : Int64)]) (rest := []) (n := 2) E (fJ7_fill_d0a16_31_c k σ (-1152921504606846976 : Int64) q2 hq3) gX2_spreadChains_J7_fill_d0a16 rfl rfl rfl (by decide +kernel) ⟨Nat.le_of_ble_eq_true rfl, Nat.le_of_ble_eq_true rfl⟩ rfl rfl (Nat.le_of_ble_eq_true rfl) dX2_spreadChains_43 ?_
    refine g_aload_n E 0 dX2_spreadChains_46 rfl rfl ?_
    refine g_get (C := RX2) (T := TX2) (N := 9) (ci := 2) E 7 7 (.ref (k.2.2.2.1 32)) hi_X2_spreadChains_X2 (cwG7 _ _) rfl (by decide) hk_X2_spreadChains_28 rfl dX2_spreadChains_47 ?_
    refine g_bipush (v := (-6 : Int32)) E dX2_spreadChains_50 (by decide) ?_
    obtain ⟨q4, hq5, hf⟩ := gb hf
    refine g_callS (As := [.ref (k.2.2.2.1 32), .int (-6 : Int32)]) (rest := []) (n := 2) E (fJ7_fill_53178_32_c k q2.2 (-6 : Int32) q4 hq5) gX2_spreadChains_J7_fill_53178 rfl rfl rfl (by decide +kernel) ⟨Nat.le_of_ble_eq_true rfl, Nat.le_of_ble_eq_true rfl⟩ rfl rfl (Nat.le_of_ble_eq_true rfl) dX2_spreadChains_52 ?_
    refine g_aload_n E 0 dX2_spreadChains_55 rfl rfl ?_
    refine g_get (C := RX2) (T := TX2) (N := 9) (ci := 2) E 7 8 (.ref (k.2.2.2.1 33)) hi_X2_spreadChains_X2 (cwG7 _ _) rfl (by decide) hk_X2_spreadChains_31 rfl dX2_spreadChains_56 ?_
    refine g_bipush (v := (-6 : Int32)) E dX2_spreadChains_59 (by decide) ?_
    obtain ⟨q6, hq7, hf⟩ := gb hf
    refine g_callS (As := [.ref (k.2.2.2.1 33), .int (-6 : Int32)]) (rest := []) (n := 2) E (fJ7_fill_53178_33_c k q4.2 (-6 : Int32) q6 hq7) gX2_spreadChains_J7_fill_53178 rfl rfl rfl (by decide +kernel) ⟨Nat.le_of_ble_eq_true rfl, Nat.le_of_ble_eq_true rfl⟩ rfl rfl (Nat.le_of_ble_eq_true rfl) dX2_spreadChains_61 ?_
    refine g_iconst (v := (1 : Int32)) E dX2_spreadChains_64 (by decide) ?_
    refine g_istore_n E [(1, .int (1 : Int32)), (0, .ref (k.2.2.2.1 7))] dX2_spreadChains_65 rfl (by decide) rfl ?_
    refine g_iconst (v := (0 : Int32)) E dX2_spreadChains_66 (by decide) ?_
    refine g_istore_n E [(2, .int (0 : Int32)), (1, .int (1 : Int32)), (0, .ref (k.2.2.2.1 7))] dX2_spreadChains_67 rfl (by decide) rfl ?_
    exact g_sub [2, 1, 0] rfl (fX2_spreadChains_v68 E gF q6.2 (1 : Int32) (0 : Int32) r hf)
  · have hf := gn hf c1
    refine g_aload_n E 0 dX2_spreadChains_8 rfl rfl ?_
    refine g_get (C := RX2) (T := TX2) (N := 9) (ci := 2) E 7 5 (.ref (k.2.2.2.1 30)) hi_X2_spreadChains_X2 (cwG7 _ _) rfl (by decide) hk_X2_spreadChains_21 rfl dX2_spreadChains_9 ?_
    refine g_iload_n E 1 dX2_spreadChains_12 rfl rfl ?_
    refine g_aload_n E 0 dX2_spreadChains_13 rfl rfl ?_
    refine g_get (C := RX2) (T := TX2) (N := 9) (ci := 2) E 7 3 (.ref (k.2.2.2.1 28)) hi_X2_spreadChains_X2 (cwG7 _ _) rfl (by decide) hk_X2_spreadChains_15 rfl dX2_spreadChains_14 ?_
    refine g_iload_n E 1 dX2_spreadChains_17 rfl rfl ?_
    obtain ⟨hi8, hf⟩ := gd hf
    refine g_iald E 28 (σ.1 28) (cwG28 _ _) hi8 dX2_spreadChains_18 ?_
    refine g_if_le (tgt := 26) E dX2_spreadChains_19 (by decide) (fun c9 => ?_) (fun c9 => ?_)
    · have hf := gp hf c9
      refine g_ldc2 (v := (-1152921504606846976 : Int64)) E (by decide +kernel) dX2_spreadChains_26 ?_
      exact fX2_spreadChains_w29 E rc2 hrc2 σ x1 x1 (-1152921504606846976 : Int64) r hf
    · have hf := gn hf c9
      refine g_lconst (v := (0 : Int64)) E dX2_spreadChains_22 (by decide) ?_
      refine g_goto (tgt := 29) E dX2_spreadChains_23 (by decide) ?_
      exact fX2_spreadChains_w29 E rc2 hrc2 σ x1 x1 (0 : Int64) r hf
theorem fX2_spreadChains_v2 {k : gK} {X : gX} (E : gE k X cX2_spreadChains RX2 wsX2_spreadChains 5 none rm_fX2_spreadChains) : ∀ (n : Nat) (σ : St) (x1 : Int32) (r : Unit × St), fX2_spreadChains_l2 n σ x1 = some r → G k X 5 (none) (cw k.2.2.2 r.2) (cw k.2.2.2 σ) [(0, .ref (k.2.2.2.1 7)), (1, .int x1)] [] 2 := by
  intro n
  induction n with
  | zero => intro σ x1 r hf; cases hf
  | succ n ih => intro σ x1 r hf; exact fX2_spreadChains_w2 E (fX2_spreadChains_l2 n) ih σ x1 r hf
set_option maxHeartbeats 4000000 in
set_option maxRecDepth 100000 in
theorem fX2_spreadChains_c (k : gK) (σ : St) (r : Unit × St) (hf : fX2_spreadChains σ = some r) : MC k yX2_spreadChains wsX2_spreadChains rm_fX2_spreadChains [.ref (k.2.2.2.1 7)] (cw k.2.2.2 σ) (none) (cw k.2.2.2 r.2) := by
  refine MC_of (cc := cX2_spreadChains) (maxL := 5) (ret := none) (own := RX2) (lvs := [(0, .ref (k.2.2.2.1 7))]) (by decide) rfl rfl (Nat.le_of_ble_eq_true rfl) rfl (fun X E => ?_)
  unfold fX2_spreadChains at hf
  refine g_iconst (v := (0 : Int32)) E dX2_spreadChains_0 (by decide) ?_
  refine g_istore_n E [(1, .int (0 : Int32)), (0, .ref (k.2.2.2.1 7))] dX2_spreadChains_1 rfl (by decide) rfl ?_
  exact g_sub [1, 0] rfl (fX2_spreadChains_v2 E gF σ (0 : Int32) r hf)
