theorem hi_X9_findMost_X9 : ∀ w ∈ wsX90, w ∈ wsX9_findMost := by decide +kernel
theorem hk_X9_findMost_56 : Cond.fieldLink RX9 56 "PaperMarksModel" "mostFrom" "[I" ∈ wsX9_findMost := by decide +kernel
theorem hk_X9_findMost_63 : Cond.fieldLink RX9 63 "PaperMarksModel" "judges" "I" ∈ wsX9_findMost := by decide +kernel
theorem hk_X9_findMost_67 : Cond.fieldLink RX9 67 "PaperMarksModel" "papers" "I" ∈ wsX9_findMost := by decide +kernel
def rm_fX9_findMost : Room := { frames := 3, cells := 0, slots := 0, locals := 74 }
set_option maxHeartbeats 4000000 in
set_option maxRecDepth 100000 in
theorem fX9_findMost_w142 {k : gK} {X : gX} (E : gE k X cX9_findMost RX9 wsX9_findMost 8 none rm_fX9_findMost) (rc38 : St → Int32 → Int32 → Int32 → Option (Unit × St)) (hrc38 : ∀ (σ : St) (x1 : Int32) (x2 : Int32) (x3 : Int32) (r : Unit × St), rc38 σ x1 x2 x3 = some r → G k X 8 (none) (mw k.2.2.2 r.2) (mw k.2.2.2 σ) [(0, .ref (k.2.2.2.1 0)), (1, .int x1), (2, .int x2), (3, .int x3)] [] 38) (rc45 : St → Int32 → Int32 → Int32 → Int32 → Option (Unit × St)) (hrc45 : ∀ (σ : St) (x1 : Int32) (x2 : Int32) (x3 : Int32) (x4 : Int32) (r : Unit × St), rc45 σ x1 x2 x3 x4 = some r → G k X 8 (none) (mw k.2.2.2 r.2) (mw k.2.2.2 σ) [(0, .ref (k.2.2.2.1 0)), (1, .int x1), (2, .int x2), (3, .int x3), (4, .int x4)] [] 45) (σ : St) (x1 : Int32) (x2 : Int32) (x3 : Int32) (x4 : Int32) (x5 : Int32) (r : Unit × St) (hf : fX9_findMost_b142 rc38 rc45 σ x1 x2 x3 x4 x5 = some r) : G k X 8 (none) (mw k.2.2.2 r.2) (mw k.2.2.2 σ) [(0, .ref (k.2.2.2.1 0)), (1, .int x1), (2, .int x2), (3, .int x3), (4, .int x4), (5, .int x5)] [] 142 := by
  unfold fX9_findMost_b142 at hf
  refine g_aload_n E 0 dX9_findMost_142 rfl rfl ?_
  refine g_get (C := RX9) (T := TX9) (N := 20) (ci := 9) E 0 19 (.ref (k.2.2.2.1 16)) hi_X9_findMost_X9 (mwG0 _ _) rfl (by decide) hk_X9_findMost_56 rfl dX9_findMost_143 ?_
  refine g_sipush (v := (15625 : Int32)) E dX9_findMost_146 (by decide) ?_
  refine g_iload_n E 3 dX9_findMost_149 rfl rfl ?_
  refine g_imul E dX9_findMost_150 ?_
  refine g_iload E 4 dX9_findMost_151 rfl ?_
  refine g_iadd E dX9_findMost_153 ?_
  refine g_iload E 5 dX9_findMost_154 rfl ?_
  obtain ⟨hi1, hf⟩ := gd hf
  refine g_iast E 16 (mw k.2.2.2 (uA σ 16 (((((15625 : Int32) * x3)) + x4)).toNatClampNeg x5)) (σ.1 16) (mwG16 _ _) hi1 (mwA16 _ _ _ _) dX9_findMost_156 ?_
  refine g_iinc E 4 [(4, .int (x4 + (1 : Int32))), (0, .ref (k.2.2.2.1 0)), (1, .int x1), (2, .int x2), (3, .int x3), (5, .int x5)] (x4 + (1 : Int32)) dX9_findMost_157 rfl (by rfl) (by decide) rfl ?_
  refine g_goto (tgt := 45) E dX9_findMost_160 (by decide) ?_
  exact g_sub [1, 2, 3, 4, 0] rfl (hrc45 (uA σ 16 (((((15625 : Int32) * x3)) + x4)).toNatClampNeg x5) x1 x2 x3 (x4 + (1 : Int32)) r hf)
set_option maxHeartbeats 4000000 in
set_option maxRecDepth 100000 in
theorem fX9_findMost_w134 {k : gK} {X : gX} (E : gE k X cX9_findMost RX9 wsX9_findMost 8 none rm_fX9_findMost) (rc38 : St → Int32 → Int32 → Int32 → Option (Unit × St)) (hrc38 : ∀ (σ : St) (x1 : Int32) (x2 : Int32) (x3 : Int32) (r : Unit × St), rc38 σ x1 x2 x3 = some r → G k X 8 (none) (mw k.2.2.2 r.2) (mw k.2.2.2 σ) [(0, .ref (k.2.2.2.1 0)), (1, .int x1), (2, .int x2), (3, .int x3)] [] 38) (rc45 : St → Int32 → Int32 → Int32 → Int32 → Option (Unit × St)) (hrc45 : ∀ (σ : St) (x1 : Int32) (x2 : Int32) (x3 : Int32) (x4 : Int32) (r : Unit × St), rc45 σ x1 x2 x3 x4 = some r → G k X 8 (none) (mw k.2.2.2 r.2) (mw k.2.2.2 σ) [(0, .ref (k.2.2.2.1 0)), (1, .int x1), (2, .int x2), (3, .int x3), (4, .int x4)] [] 45) (rc82 : St → Int32 → Int32 → Int32 → Int32 → Int32 → Int32 → Option (Unit × St)) (hrc82 : ∀ (σ : St) (x1 : Int32) (x2 : Int32) (x3 : Int32) (x4 : Int32) (x5 : Int32) (x6 : Int32) (r : Unit × St), rc82 σ x1 x2 x3 x4 x5 x6 = some r → G k X 8 (none) (mw k.2.2.2 r.2) (mw k.2.2.2 σ) [(0, .ref (k.2.2.2.1 0)), (1, .int x1), (2, .int x2), (3, .int x3), (4, .int x4), (5, .int x5), (6, .int x6)] [] 82) (σ : St) (x1 : Int32) (x2 : Int32) (x3 : Int32) (x4 : Int32) (x6 : Int32) (t0 : Int32) (r : Unit × St) (hf : fX9_findMost_b134 rc38 rc45 rc82 σ x1 x2 x3 x4 x6 t0 = some r) : G k X 8 (none) (mw k.2.2.2 r.2) (mw k.2.2.2 σ) [(0, .ref (k.2.2.2.1 0)), (1, .int x1), (2, .int x2), (3, .int x3), (4, .int x4), (6, .int x6)] [.int t0] 134 := by
  unfold fX9_findMost_b134 at hf
  refine g_istore E [(5, .int t0), (0, .ref (k.2.2.2.1 0)), (1, .int x1), (2, .int x2), (3, .int x3), (4, .int x4), (6, .int x6)] dX9_findMost_134 (by decide) rfl ?_
  refine g_iinc E 6 [(6, .int (x6 + (1 : Int32))), (5, .int t0), (0, .ref (k.2.2.2.1 0)), (1, .int x1), (2, .int x2), (3, .int x3), (4, .int x4)] (x6 + (1 : Int32)) dX9_findMost_136 rfl (by rfl) (by decide) rfl ?_
  refine g_goto (tgt := 82) E dX9_findMost_139 (by decide) ?_
  exact g_sub [2, 3, 4, 5, 6, 1, 0] rfl (hrc82 σ x1 x2 x3 x4 t0 (x6 + (1 : Int32)) r hf)
set_option maxHeartbeats 4000000 in
set_option maxRecDepth 100000 in
theorem fX9_findMost_w118 {k : gK} {X : gX} (E : gE k X cX9_findMost RX9 wsX9_findMost 8 none rm_fX9_findMost) (rc38 : St → Int32 → Int32 → Int32 → Option (Unit × St)) (hrc38 : ∀ (σ : St) (x1 : Int32) (x2 : Int32) (x3 : Int32) (r : Unit × St), rc38 σ x1 x2 x3 = some r → G k X 8 (none) (mw k.2.2.2 r.2) (mw k.2.2.2 σ) [(0, .ref (k.2.2.2.1 0)), (1, .int x1), (2, .int x2), (3, .int x3)] [] 38) (rc45 : St → Int32 → Int32 → Int32 → Int32 → Option (Unit × St)) (hrc45 : ∀ (σ : St) (x1 : Int32) (x2 : Int32) (x3 : Int32) (x4 : Int32) (r : Unit × St), rc45 σ x1 x2 x3 x4 = some r → G k X 8 (none) (mw k.2.2.2 r.2) (mw k.2.2.2 σ) [(0, .ref (k.2.2.2.1 0)), (1, .int x1), (2, .int x2), (3, .int x3), (4, .int x4)] [] 45) (rc82 : St → Int32 → Int32 → Int32 → Int32 → Int32 → Int32 → Option (Unit × St)) (hrc82 : ∀ (σ : St) (x1 : Int32) (x2 : Int32) (x3 : Int32) (x4 : Int32) (x5 : Int32) (x6 : Int32) (r : Unit × St), rc82 σ x1 x2 x3 x4 x5 x6 = some r → G k X 8 (none) (mw k.2.2.2 r.2) (mw k.2.2.2 σ) [(0, .ref (k.2.2.2.1 0)), (1, .int x1), (2, .int x2), (3, .int x3), (4, .int x4), (5, .int x5), (6, .int x6)] [] 82) (σ : St) (x1 : Int32) (x2 : Int32) (x3 : Int32) (x4 : Int32) (x5 : Int32) (x6 : Int32) (t0 : Int32) (r : Unit × St) (hf : fX9_findMost_b118 rc38 rc45 rc82 σ x1 x2 x3 x4 x5 x6 t0 = some r) : G k X 8 (none) (mw k.2.2.2 r.2) (mw k.2.2.2 σ) [(0, .ref (k.2.2.2.1 0)), (1, .int x1), (2, .int x2), (3, .int x3), (4, .int x4), (5, .int x5), (6, .int x6)] [.int t0] 118 := by
  unfold fX9_findMost_b118 at hf
  refine g_istore E [(7, .int t0), (0, .ref (k.2.2.2.1 0)), (1, .int x1), (2, .int x2), (3, .int x3), (4, .int x4), (5, .int x5), (6, .int x6)] dX9_findMost_118 (by decide) rfl ?_
  refine g_iload E 0 dX9_findMost_120 rfl ?_
  refine g_iload E 6 dX9_findMost_122 rfl ?_
  refine g_icmp_le (tgt := 132) E dX9_findMost_124 (by decide) (fun c1 => ?_) (fun c1 => ?_)
  · have hf := gp hf c1
    refine g_iload E 6 dX9_findMost_132 rfl ?_
    exact g_sub [1, 2, 3, 4, 5, 7] rfl (fX9_findMost_w134 E rc38 hrc38 rc45 hrc45 rc82 hrc82 σ x1 x2 x3 x4 x6 x5 r hf)
  · have hf := gn hf c1
    refine g_iload E 0 dX9_findMost_127 rfl ?_
    refine g_goto (tgt := 134) E dX9_findMost_129 (by decide) ?_
    exact g_sub [1, 2, 3, 4, 5, 7] rfl (fX9_findMost_w134 E rc38 hrc38 rc45 hrc45 rc82 hrc82 σ x1 x2 x3 x4 x6 t0 r hf)
set_option maxHeartbeats 4000000 in
set_option maxRecDepth 100000 in
theorem fX9_findMost_w82 {k : gK} {X : gX} (E : gE k X cX9_findMost RX9 wsX9_findMost 8 none rm_fX9_findMost) (rc38 : St → Int32 → Int32 → Int32 → Option (Unit × St)) (hrc38 : ∀ (σ : St) (x1 : Int32) (x2 : Int32) (x3 : Int32) (r : Unit × St), rc38 σ x1 x2 x3 = some r → G k X 8 (none) (mw k.2.2.2 r.2) (mw k.2.2.2 σ) [(0, .ref (k.2.2.2.1 0)), (1, .int x1), (2, .int x2), (3, .int x3)] [] 38) (rc45 : St → Int32 → Int32 → Int32 → Int32 → Option (Unit × St)) (hrc45 : ∀ (σ : St) (x1 : Int32) (x2 : Int32) (x3 : Int32) (x4 : Int32) (r : Unit × St), rc45 σ x1 x2 x3 x4 = some r → G k X 8 (none) (mw k.2.2.2 r.2) (mw k.2.2.2 σ) [(0, .ref (k.2.2.2.1 0)), (1, .int x1), (2, .int x2), (3, .int x3), (4, .int x4)] [] 45) (rc82 : St → Int32 → Int32 → Int32 → Int32 → Int32 → Int32 → Option (Unit × St)) (hrc82 : ∀ (σ : St) (x1 : Int32) (x2 : Int32) (x3 : Int32) (x4 : Int32) (x5 : Int32) (x6 : Int32) (r : Unit × St), rc82 σ x1 x2 x3 x4 x5 x6 = some r → G k X 8 (none) (mw k.2.2.2 r.2) (mw k.2.2.2 σ) [(0, .ref (k.2.2.2.1 0)), (1, .int x1), (2, .int x2), (3, .int x3), (4, .int x4), (5, .int x5), (6, .int x6)] [] 82) (σ : St) (x1 : Int32) (x2 : Int32) (x3 : Int32) (x4 : Int32) (x5 : Int32) (x6 : Int32) (r : Unit × St) (hf : fX9_findMost_b82 rc38 rc45 rc82 σ x1 x2 x3 x4 x5 x6 = some r) : G k X 8 (none) (mw k.2.2.2 r.2) (mw k.2.2.2 σ) [(0, .ref (k.2.2.2.1 0)), (1, .int x1), (2, .int x2), (3, .int x3), (4, .int x4), (5, .int x5), (6, .int x6)] [] 82 := by
  unfold fX9_findMost_b82 at hf
  refine g_iload E 6 dX9_findMost_82 rfl ?_
  refine g_iconst (v := (1 : Int32)) E dX9_findMost_84 (by decide) ?_
  refine g_aload_n E 0 dX9_findMost_85 rfl rfl ?_
  refine g_get (C := RX9) (T := TX9) (N := 20) (ci := 9) E 0 3 (.int (σ.2.1 0)) hi_X9_findMost_X9 (mwG0 _ _) rfl (by decide) hk_X9_findMost_63 rfl dX9_findMost_86 ?_
  refine g_ishl E dX9_findMost_89 ?_
  refine g_icmp_ge (tgt := 142) E dX9_findMost_90 (by decide) (fun c1 => ?_) (fun c1 => ?_)
  · have hf := gp hf c1
    exact g_sub [0, 1, 2, 3, 4, 5] rfl (fX9_findMost_w142 E rc38 hrc38 rc45 hrc45 σ x1 x2 x3 x4 x5 r hf)
  · have hf := gn hf c1
    refine g_iload E 6 dX9_findMost_93 rfl ?_
    obtain ⟨q2, hq3, hf⟩ := gb hf
    refine g_callS (As := [.int x6]) (rest := []) (n := 1) E (fX9_ones_c k σ x6 q2 hq3) gX9_findMost_X9_ones rfl rfl rfl (by decide +kernel) ⟨Nat.le_of_ble_eq_true rfl, Nat.le_of_ble_eq_true rfl⟩ rfl rfl (Nat.le_of_ble_eq_true rfl) dX9_findMost_95 ?_
    refine g_iload_n E 1 dX9_findMost_98 rfl rfl ?_
    refine g_icmp_ne (tgt := 116) E dX9_findMost_99 (by decide) (fun c4 => ?_) (fun c4 => ?_)
    · have hf := gn hf c4
      refine g_bipush (v := (-6 : Int32)) E dX9_findMost_116 (by decide) ?_
      exact fX9_findMost_w118 E rc38 hrc38 rc45 hrc45 rc82 hrc82 q2.2 x1 x2 x3 x4 x5 x6 (-6 : Int32) r hf
    · have hf := gp hf c4
      refine g_aload_n E 0 dX9_findMost_102 rfl rfl ?_
      refine g_iload_n E 3 dX9_findMost_103 rfl rfl ?_
      refine g_iload E 4 dX9_findMost_104 rfl ?_
      refine g_iload E 6 dX9_findMost_106 rfl ?_
      refine g_iload_n E 1 dX9_findMost_108 rfl rfl ?_
      refine g_iload_n E 2 dX9_findMost_109 rfl rfl ?_
      obtain ⟨q5, hq6, hf⟩ := gb hf
      refine g_callV (C := RX9) (T := TX9) (N := 20) (ci := 9) (As := [.int x3, .int x4, .int x6, .int x1, .int x2]) (rest := []) (n := 5) E 0 (fX9_bringsOf_c k q2.2 x3 x4 x6 x1 x2 q5 hq6) gX9_findMost_X9_bringsOf rfl rfl rfl (by decide +kernel) ⟨Nat.le_of_ble_eq_true rfl, Nat.le_of_ble_eq_true rfl⟩ rfl rfl (Nat.le_of_ble_eq_true rfl) rfl (mwG0 _ _) dX9_findMost_110 ?_
      refine g_goto (tgt := 118) E dX9_findMost_113 (by decide) ?_
      exact fX9_findMost_w118 E rc38 hrc38 rc45 hrc45 rc82 hrc82 q5.2 x1 x2 x3 x4 x5 x6 q5.1 r hf
theorem fX9_findMost_v82 {k : gK} {X : gX} (E : gE k X cX9_findMost RX9 wsX9_findMost 8 none rm_fX9_findMost) (rc38 : St → Int32 → Int32 → Int32 → Option (Unit × St)) (hrc38 : ∀ (σ : St) (x1 : Int32) (x2 : Int32) (x3 : Int32) (r : Unit × St), rc38 σ x1 x2 x3 = some r → G k X 8 (none) (mw k.2.2.2 r.2) (mw k.2.2.2 σ) [(0, .ref (k.2.2.2.1 0)), (1, .int x1), (2, .int x2), (3, .int x3)] [] 38) (rc45 : St → Int32 → Int32 → Int32 → Int32 → Option (Unit × St)) (hrc45 : ∀ (σ : St) (x1 : Int32) (x2 : Int32) (x3 : Int32) (x4 : Int32) (r : Unit × St), rc45 σ x1 x2 x3 x4 = some r → G k X 8 (none) (mw k.2.2.2 r.2) (mw k.2.2.2 σ) [(0, .ref (k.2.2.2.1 0)), (1, .int x1), (2, .int x2), (3, .int x3), (4, .int x4)] [] 45) : ∀ (n : Nat) (σ : St) (x1 : Int32) (x2 : Int32) (x3 : Int32) (x4 : Int32) (x5 : Int32) (x6 : Int32) (r : Unit × St), fX9_findMost_l82 rc38 rc45 n σ x1 x2 x3 x4 x5 x6 = some r → G k X 8 (none) (mw k.2.2.2 r.2) (mw k.2.2.2 σ) [(0, .ref (k.2.2.2.1 0)), (1, .int x1), (2, .int x2), (3, .int x3), (4, .int x4), (5, .int x5), (6, .int x6)] [] 82 := by
  intro n
  induction n with
  | zero => intro σ x1 x2 x3 x4 x5 x6 r hf; cases hf
  | succ n ih => intro σ x1 x2 x3 x4 x5 x6 r hf; exact fX9_findMost_w82 E rc38 hrc38 rc45 hrc45 (fX9_findMost_l82 rc38 rc45 n) ih σ x1 x2 x3 x4 x5 x6 r hf
set_option maxHeartbeats 4000000 in
set_option maxRecDepth 100000 in
theorem fX9_findMost_w45 {k : gK} {X : gX} (E : gE k X cX9_findMost RX9 wsX9_findMost 8 none rm_fX9_findMost) (rc38 : St → Int32 → Int32 → Int32 → Option (Unit × St)) (hrc38 : ∀ (σ : St) (x1 : Int32) (x2 : Int32) (x3 : Int32) (r : Unit × St), rc38 σ x1 x2 x3 = some r → G k X 8 (none) (mw k.2.2.2 r.2) (mw k.2.2.2 σ) [(0, .ref (k.2.2.2.1 0)), (1, .int x1), (2, .int x2), (3, .int x3)] [] 38) (rc45 : St → Int32 → Int32 → Int32 → Int32 → Option (Unit × St)) (hrc45 : ∀ (σ : St) (x1 : Int32) (x2 : Int32) (x3 : Int32) (x4 : Int32) (r : Unit × St), rc45 σ x1 x2 x3 x4 = some r → G k X 8 (none) (mw k.2.2.2 r.2) (mw k.2.2.2 σ) [(0, .ref (k.2.2.2.1 0)), (1, .int x1), (2, .int x2), (3, .int x3), (4, .int x4)] [] 45) (σ : St) (x1 : Int32) (x2 : Int32) (x3 : Int32) (x4 : Int32) (r : Unit × St) (hf : fX9_findMost_b45 rc38 rc45 σ x1 x2 x3 x4 = some r) : G k X 8 (none) (mw k.2.2.2 r.2) (mw k.2.2.2 σ) [(0, .ref (k.2.2.2.1 0)), (1, .int x1), (2, .int x2), (3, .int x3), (4, .int x4)] [] 45 := by
  unfold fX9_findMost_b45 at hf
  refine g_iload E 4 dX9_findMost_45 rfl ?_
  refine g_sipush (v := (15625 : Int32)) E dX9_findMost_47 (by decide) ?_
  refine g_icmp_ge (tgt := 163) E dX9_findMost_50 (by decide) (fun c1 => ?_) (fun c1 => ?_)
  · have hf := gp hf c1
    refine g_iinc E 3 [(3, .int (x3 + (-1 : Int32))), (0, .ref (k.2.2.2.1 0)), (1, .int x1), (2, .int x2), (4, .int x4)] (x3 + (-1 : Int32)) dX9_findMost_163 rfl (by rfl) (by decide) rfl ?_
    refine g_goto (tgt := 38) E dX9_findMost_166 (by decide) ?_
    exact g_sub [1, 2, 3, 0] rfl (hrc38 σ x1 x2 (x3 + (-1 : Int32)) r hf)
  · have hf := gn hf c1
    refine g_bipush (v := (-6 : Int32)) E dX9_findMost_53 (by decide) ?_
    refine g_istore E [(5, .int (-6 : Int32)), (0, .ref (k.2.2.2.1 0)), (1, .int x1), (2, .int x2), (3, .int x3), (4, .int x4)] dX9_findMost_55 (by decide) rfl ?_
    refine g_iload E 5 dX9_findMost_57 rfl ?_
    obtain ⟨q2, hq3, hf⟩ := gb hf
    refine g_callS (As := [.int x4]) (rest := []) (n := 1) E (fX9_totalOf_c k σ x4 q2 hq3) gX9_findMost_X9_totalOf rfl rfl rfl (by decide +kernel) ⟨Nat.le_of_ble_eq_true rfl, Nat.le_of_ble_eq_true rfl⟩ rfl rfl (Nat.le_of_ble_eq_true rfl) dX9_findMost_59 ?_
    refine g_iload_n E 2 dX9_findMost_62 rfl rfl ?_
    refine g_iload_n E 4 dX9_findMost_63 rfl rfl ?_
    refine g_imul E dX9_findMost_64 ?_
    refine g_icmp_ne (tgt := 142) E dX9_findMost_65 (by decide) (fun c4 => ?_) (fun c4 => ?_)
    · have hf := gn hf c4
      exact g_sub [1, 2, 3, 4, 5, 0] rfl (fX9_findMost_w142 E rc38 hrc38 rc45 hrc45 q2.2 x1 x2 x3 x4 (-6 : Int32) r hf)
    · have hf := gp hf c4
      refine g_aload_n E 1 dX9_findMost_68 rfl rfl ?_
      refine g_iload E 5 dX9_findMost_69 rfl ?_
      refine g_iconst (v := (0 : Int32)) E dX9_findMost_71 (by decide) ?_
      refine g_iload_n E 3 dX9_findMost_72 rfl rfl ?_
      obtain ⟨q5, hq6, hf⟩ := gb hf
      refine g_callV (C := RX9) (T := TX9) (N := 20) (ci := 9) (As := [.int x4, .int (0 : Int32), .int x2]) (rest := []) (n := 3) E 0 (fX9_loadsBy_c k q2.2 x4 (0 : Int32) x2 q5 hq6) gX9_findMost_X9_loadsBy rfl rfl rfl (by decide +kernel) ⟨Nat.le_of_ble_eq_true rfl, Nat.le_of_ble_eq_true rfl⟩ rfl rfl (Nat.le_of_ble_eq_true rfl) rfl (mwG0 _ _) dX9_findMost_73 ?_
      refine g_if_lt (tgt := 142) E dX9_findMost_76 (by decide) (fun c7 => ?_) (fun c7 => ?_)
      · have hf := gp hf c7
        exact g_sub [1, 2, 3, 4, 5, 0] rfl (fX9_findMost_w142 E rc38 hrc38 rc45 hrc45 q5.2 x1 x2 x3 x4 (-6 : Int32) r hf)
      · have hf := gn hf c7
        refine g_iconst (v := (0 : Int32)) E dX9_findMost_79 (by decide) ?_
        refine g_istore E [(6, .int (0 : Int32)), (5, .int (-6 : Int32)), (0, .ref (k.2.2.2.1 0)), (1, .int x1), (2, .int x2), (3, .int x3), (4, .int x4)] dX9_findMost_80 (by decide) rfl ?_
        exact g_sub [2, 3, 4, 5, 6, 1, 0] rfl (fX9_findMost_v82 E rc38 hrc38 rc45 hrc45 gF q5.2 x1 x2 x3 x4 (-6 : Int32) (0 : Int32) r hf)
theorem fX9_findMost_v45 {k : gK} {X : gX} (E : gE k X cX9_findMost RX9 wsX9_findMost 8 none rm_fX9_findMost) (rc38 : St → Int32 → Int32 → Int32 → Option (Unit × St)) (hrc38 : ∀ (σ : St) (x1 : Int32) (x2 : Int32) (x3 : Int32) (r : Unit × St), rc38 σ x1 x2 x3 = some r → G k X 8 (none) (mw k.2.2.2 r.2) (mw k.2.2.2 σ) [(0, .ref (k.2.2.2.1 0)), (1, .int x1), (2, .int x2), (3, .int x3)] [] 38) : ∀ (n : Nat) (σ : St) (x1 : Int32) (x2 : Int32) (x3 : Int32) (x4 : Int32) (r : Unit × St), fX9_findMost_l45 rc38 n σ x1 x2 x3 x4 = some r → G k X 8 (none) (mw k.2.2.2 r.2) (mw k.2.2.2 σ) [(0, .ref (k.2.2.2.1 0)), (1, .int x1), (2, .int x2), (3, .int x3), (4, .int x4)] [] 45 := by
  intro n
  induction n with
  | zero => intro σ x1 x2 x3 x4 r hf; cases hf
  | succ n ih => intro σ x1 x2 x3 x4 r hf; exact fX9_findMost_w45 E rc38 hrc38 (fX9_findMost_l45 rc38 n) ih σ x1 x2 x3 x4 r hf
set_option maxHeartbeats 4000000 in
set_option maxRecDepth 100000 in
theorem fX9_findMost_w38 {k : gK} {X : gX} (E : gE k X cX9_findMost RX9 wsX9_findMost 8 none rm_fX9_findMost) (rc38 : St → Int32 → Int32 → Int32 → Option (Unit × St)) (hrc38 : ∀ (σ : St) (x1 : Int32) (x2 : Int32) (x3 : Int32) (r : Unit × St), rc38 σ x1 x2 x3 = some r → G k X 8 (none) (mw k.2.2.2 r.2) (mw k.2.2.2 σ) [(0, .ref (k.2.2.2.1 0)), (1, .int x1), (2, .int x2), (3, .int x3)] [] 38) (σ : St) (x1 : Int32) (x2 : Int32) (x3 : Int32) (r : Unit × St) (hf : fX9_findMost_b38 rc38 σ x1 x2 x3 = some r) : G k X 8 (none) (mw k.2.2.2 r.2) (mw k.2.2.2 σ) [(0, .ref (k.2.2.2.1 0)), (1, .int x1), (2, .int x2), (3, .int x3)] [] 38 := by
  unfold fX9_findMost_b38 at hf
  refine g_iload_n E 3 dX9_findMost_38 rfl rfl ?_
  refine g_if_lt (tgt := 169) E dX9_findMost_39 (by decide) (fun c1 => ?_) (fun c1 => ?_)
  · have hf := gp hf c1
    have hf := Option.some.inj hf
    subst hf
    exact g_vret E dX9_findMost_169
  · have hf := gn hf c1
    refine g_iconst (v := (0 : Int32)) E dX9_findMost_42 (by decide) ?_
    refine g_istore E [(4, .int (0 : Int32)), (0, .ref (k.2.2.2.1 0)), (1, .int x1), (2, .int x2), (3, .int x3)] dX9_findMost_43 (by decide) rfl ?_
    exact g_sub [1, 2, 3, 4, 0] rfl (fX9_findMost_v45 E rc38 hrc38 gF σ x1 x2 x3 (0 : Int32) r hf)
theorem fX9_findMost_v38 {k : gK} {X : gX} (E : gE k X cX9_findMost RX9 wsX9_findMost 8 none rm_fX9_findMost) : ∀ (n : Nat) (σ : St) (x1 : Int32) (x2 : Int32) (x3 : Int32) (r : Unit × St), fX9_findMost_l38 n σ x1 x2 x3 = some r → G k X 8 (none) (mw k.2.2.2 r.2) (mw k.2.2.2 σ) [(0, .ref (k.2.2.2.1 0)), (1, .int x1), (2, .int x2), (3, .int x3)] [] 38 := by
  intro n
  induction n with
  | zero => intro σ x1 x2 x3 r hf; cases hf
  | succ n ih => intro σ x1 x2 x3 r hf; exact fX9_findMost_w38 E (fX9_findMost_l38 n) ih σ x1 x2 x3 r hf
set_option maxHeartbeats 4000000 in
set_option maxRecDepth 100000 in
theorem fX9_findMost_w2 {k : gK} {X : gX} (E : gE k X cX9_findMost RX9 wsX9_findMost 8 none rm_fX9_findMost) (rc2 : St → Int32 → Int32 → Int32 → Option (Unit × St)) (hrc2 : ∀ (σ : St) (x1 : Int32) (x2 : Int32) (x3 : Int32) (r : Unit × St), rc2 σ x1 x2 x3 = some r → G k X 8 (none) (mw k.2.2.2 r.2) (mw k.2.2.2 σ) [(0, .ref (k.2.2.2.1 0)), (1, .int x1), (2, .int x2), (3, .int x3)] [] 2) (σ : St) (x1 : Int32) (x2 : Int32) (x3 : Int32) (r : Unit × St) (hf : fX9_findMost_b2 rc2 σ x1 x2 x3 = some r) : G k X 8 (none) (mw k.2.2.2 r.2) (mw k.2.2.2 σ) [(0, .ref (k.2.2.2.1 0)), (1, .int x1), (2, .int x2), (3, .int x3)] [] 2 := by
  unfold fX9_findMost_b2 at hf
  refine g_iload_n E 3 dX9_findMost_2 rfl rfl ?_
  refine g_sipush (v := (15625 : Int32)) E dX9_findMost_3 (by decide) ?_
  refine g_icmp_ge (tgt := 31) E dX9_findMost_6 (by decide) (fun c1 => ?_) (fun c1 => ?_)
  · have hf := gp hf c1
    refine g_aload_n E 0 dX9_findMost_31 rfl rfl ?_
    refine g_get (C := RX9) (T := TX9) (N := 20) (ci := 9) E 0 9 (.int (σ.2.1 1)) hi_X9_findMost_X9 (mwG0 _ _) rfl (by decide) hk_X9_findMost_67 rfl dX9_findMost_32 ?_
    refine g_iconst (v := (1 : Int32)) E dX9_findMost_35 (by decide) ?_
    refine g_isub E dX9_findMost_36 ?_
    refine g_istore_n E [(3, .int ((σ.2.1 1) - (1 : Int32))), (0, .ref (k.2.2.2.1 0)), (1, .int x1), (2, .int x2)] dX9_findMost_37 rfl (by decide) rfl ?_
    exact g_sub [1, 2, 3, 0] rfl (fX9_findMost_v38 E gF σ x1 x2 ((σ.2.1 1) - (1 : Int32)) r hf)
  · have hf := gn hf c1
    refine g_aload_n E 0 dX9_findMost_9 rfl rfl ?_
    refine g_get (C := RX9) (T := TX9) (N := 20) (ci := 9) E 0 19 (.ref (k.2.2.2.1 16)) hi_X9_findMost_X9 (mwG0 _ _) rfl (by decide) hk_X9_findMost_56 rfl dX9_findMost_10 ?_
    refine g_sipush (v := (15625 : Int32)) E dX9_findMost_13 (by decide) ?_
    refine g_aload_n E 0 dX9_findMost_16 rfl rfl ?_
    refine g_get (C := RX9) (T := TX9) (N := 20) (ci := 9) E 0 9 (.int (σ.2.1 1)) hi_X9_findMost_X9 (mwG0 _ _) rfl (by decide) hk_X9_findMost_67 rfl dX9_findMost_17 ?_
    refine g_imul E dX9_findMost_20 ?_
    refine g_iload_n E 3 dX9_findMost_21 rfl rfl ?_
    refine g_iadd E dX9_findMost_22 ?_
    refine g_iconst (v := (0 : Int32)) E dX9_findMost_23 (by decide) ?_
    obtain ⟨hi2, hf⟩ := gd hf
    refine g_iast E 16 (mw k.2.2.2 (uA σ 16 (((((15625 : Int32) * (σ.2.1 1))) + x3)).toNatClampNeg (0 : Int32))) (σ.1 16) (mwG16 _ _) hi2 (mwA16 _ _ _ _) dX9_findMost_24 ?_
    refine g_iinc E 3 [(3, .int (x3 + (1 : Int32))), (0, .ref (k.2.2.2.1 0)), (1, .int x1), (2, .int x2)] (x3 + (1 : Int32)) dX9_findMost_25 rfl (by rfl) (by decide) rfl ?_
    refine g_goto (tgt := 2) E dX9_findMost_28 (by decide) ?_
    exact g_sub [1, 2, 3, 0] rfl (hrc2 (uA σ 16 (((((15625 : Int32) * (σ.2.1 1))) + x3)).toNatClampNeg (0 : Int32)) x1 x2 (x3 + (1 : Int32)) r hf)
theorem fX9_findMost_v2 {k : gK} {X : gX} (E : gE k X cX9_findMost RX9 wsX9_findMost 8 none rm_fX9_findMost) : ∀ (n : Nat) (σ : St) (x1 : Int32) (x2 : Int32) (x3 : Int32) (r : Unit × St), fX9_findMost_l2 n σ x1 x2 x3 = some r → G k X 8 (none) (mw k.2.2.2 r.2) (mw k.2.2.2 σ) [(0, .ref (k.2.2.2.1 0)), (1, .int x1), (2, .int x2), (3, .int x3)] [] 2 := by
  intro n
  induction n with
  | zero => intro σ x1 x2 x3 r hf; cases hf
  | succ n ih => intro σ x1 x2 x3 r hf; exact fX9_findMost_w2 E (fX9_findMost_l2 n) ih σ x1 x2 x3 r hf
set_option maxHeartbeats 4000000 in
set_option maxRecDepth 100000 in
theorem fX9_findMost_c (k : gK) (σ : St) (x1 : Int32) (x2 : Int32) (r : Unit × St) (hf : fX9_findMost σ x1 x2 = some r) : MC k yX9_findMost wsX9_findMost rm_fX9_findMost [.ref (k.2.2.2.1 0), .int x1, .int x2] (mw k.2.2.2 σ) (none) (mw k.2.2.2 r.2) := by
  refine MC_of (cc := cX9_findMost) (maxL := 8) (ret := none) (own := RX9) (lvs := [(0, .ref (k.2.2.2.1 0)), (1, .int x1), (2, .int x2)]) (by decide) rfl rfl (Nat.le_of_ble_eq_true rfl) rfl (fun X E => ?_)
  unfold fX9_findMost at hf
  refine g_iconst (v := (0 : Int32)) E dX9_findMost_0 (by decide) ?_
  refine g_istore_n E [(3, .int (0 : Int32)), (0, .ref (k.2.2.2.1 0)), (1, .int x1), (2, .int x2)] dX9_findMost_1 rfl (by decide) rfl ?_
  exact g_sub [1, 2, 3, 0] rfl (fX9_findMost_v2 E gF σ x1 x2 (0 : Int32) r hf)
