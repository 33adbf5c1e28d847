theorem hi_X9_fault_X9 : ∀ w ∈ wsX90, w ∈ wsX9_fault := by decide +kernel
theorem hk_X9_fault_97 : Cond.fieldLink RX9 97 "PaperMarksModel" "signMany" "I" ∈ wsX9_fault := by decide +kernel
theorem hk_X9_fault_40 : Cond.fieldLink RX9 40 "PaperMarksModel" "signs" "[I" ∈ wsX9_fault := by decide +kernel
def rm_fX9_fault : Room := { frames := 2, cells := 0, slots := 0, locals := 47 }
set_option maxHeartbeats 4000000 in
set_option maxRecDepth 100000 in
theorem fX9_fault_w51 {k : gK} {X : gX} (E : gE k X cX9_fault RX9 wsX9_fault 3 (some .int) rm_fX9_fault) (σ : St) (r : Int32 × St) (hf : fX9_fault_b51 σ = some r) : G k X 3 (some (.int r.1)) (mw k.2.2.2 r.2) (mw k.2.2.2 σ) [] [] 51 := by
  unfold fX9_fault_b51 at hf
  refine g_bipush (v := (-6 : Int32)) E dX9_fault_51 (by decide) ?_
  refine g_goto (tgt := 60) E dX9_fault_53 (by decide) ?_
  cases hf
  exact g_iret E dX9_fault_60
set_option maxHeartbeats 4000000 in
set_option maxRecDepth 100000 in
theorem fX9_fault_w4 {k : gK} {X : gX} (E : gE k X cX9_fault RX9 wsX9_fault 3 (some .int) rm_fX9_fault) (rc4 : St → Int32 → Int32 → Option (Int32 × St)) (hrc4 : ∀ (σ : St) (x1 : Int32) (x2 : Int32) (r : Int32 × St), rc4 σ x1 x2 = some r → G k X 3 (some (.int r.1)) (mw k.2.2.2 r.2) (mw k.2.2.2 σ) [(0, .ref (k.2.2.2.1 0)), (1, .int x1), (2, .int x2)] [] 4) (σ : St) (x1 : Int32) (x2 : Int32) (r : Int32 × St) (hf : fX9_fault_b4 rc4 σ x1 x2 = some r) : G k X 3 (some (.int r.1)) (mw k.2.2.2 r.2) (mw k.2.2.2 σ) [(0, .ref (k.2.2.2.1 0)), (1, .int x1), (2, .int x2)] [] 4 := by
  unfold fX9_fault_b4 at hf
  refine g_iload_n E 2 dX9_fault_4 rfl rfl ?_
  refine g_aload_n E 0 dX9_fault_5 rfl rfl ?_
  refine g_get (C := RX9) (T := TX9) (N := 20) (ci := 9) E 0 13 (.int (σ.2.1 2)) hi_X9_fault_X9 (mwG0 _ _) rfl (by decide) hk_X9_fault_97 rfl dX9_fault_6 ?_
  refine g_icmp_ge (tgt := 35) E dX9_fault_9 (by decide) (fun c1 => ?_) (fun c1 => ?_)
  · have hf := gp hf c1
    refine g_iload_n E 1 dX9_fault_35 rfl rfl ?_
    refine g_iconst (v := (3 : Int32)) E dX9_fault_36 (by decide) ?_
    refine g_icmp_eq (tgt := 51) E dX9_fault_37 (by decide) (fun c2 => ?_) (fun c2 => ?_)
    · have hf := gp hf c2
      exact g_sub [] rfl (fX9_fault_w51 E σ r hf)
    · have hf := gn hf c2
      refine g_iload_n E 1 dX9_fault_40 rfl rfl ?_
      refine g_iconst (v := (4 : Int32)) E dX9_fault_41 (by decide) ?_
      refine g_icmp_eq (tgt := 51) E dX9_fault_42 (by decide) (fun c3 => ?_) (fun c3 => ?_)
      · have hf := gp hf c3
        exact g_sub [] rfl (fX9_fault_w51 E σ r hf)
      · have hf := gn hf c3
        refine g_iload_n E 1 dX9_fault_45 rfl rfl ?_
        refine g_bipush (v := (6 : Int32)) E dX9_fault_46 (by decide) ?_
        refine g_icmp_ne (tgt := 56) E dX9_fault_48 (by decide) (fun c4 => ?_) (fun c4 => ?_)
        · have hf := gn hf c4
          refine g_aload_n E 0 dX9_fault_56 rfl rfl ?_
          refine g_get (C := RX9) (T := TX9) (N := 20) (ci := 9) E 0 13 (.int (σ.2.1 2)) hi_X9_fault_X9 (mwG0 _ _) rfl (by decide) hk_X9_fault_97 rfl dX9_fault_57 ?_
          cases hf
          exact g_iret E dX9_fault_60
        · have hf := gp hf c4
          exact g_sub [] rfl (fX9_fault_w51 E σ r hf)
  · have hf := gn hf c1
    refine g_iload_n E 1 dX9_fault_12 rfl rfl ?_
    refine g_aload_n E 0 dX9_fault_13 rfl rfl ?_
    refine g_get (C := RX9) (T := TX9) (N := 20) (ci := 9) E 0 12 (.ref (k.2.2.2.1 11)) hi_X9_fault_X9 (mwG0 _ _) rfl (by decide) hk_X9_fault_40 rfl dX9_fault_14 ?_
    refine g_iload_n E 2 dX9_fault_17 rfl rfl ?_
    obtain ⟨hi5, hf⟩ := gd hf
    refine g_iald E 11 (σ.1 11) (mwG11 _ _) hi5 dX9_fault_18 ?_
    obtain ⟨q6, hq7, hf⟩ := gb hf
    refine g_callS (As := [.int x1, .int (σ.1 11 x2.toNatClampNeg)]) (rest := []) (n := 2) E (fX9_stepOf_c k σ x1 (σ.1 11 x2.toNatClampNeg) q6 hq7) gX9_fault_X9_stepOf rfl rfl rfl (by decide +kernel) ⟨Nat.le_of_ble_eq_true rfl, Nat.le_of_ble_eq_true rfl⟩ rfl rfl (Nat.le_of_ble_eq_true rfl) dX9_fault_19 ?_
    refine g_istore_n E [(1, .int q6.1), (0, .ref (k.2.2.2.1 0)), (2, .int x2)] dX9_fault_22 rfl (by decide) rfl ?_
    refine g_iload_n E 0 dX9_fault_23 rfl rfl ?_
    refine g_if_ge (tgt := 29) E dX9_fault_24 (by decide) (fun c8 => ?_) (fun c8 => ?_)
    · have hf := gp hf c8
      refine g_iinc E 2 [(2, .int (x2 + (1 : Int32))), (1, .int q6.1), (0, .ref (k.2.2.2.1 0))] (x2 + (1 : Int32)) dX9_fault_29 rfl (by rfl) (by decide) rfl ?_
      refine g_goto (tgt := 4) E dX9_fault_32 (by decide) ?_
      exact g_sub [2, 1, 0] rfl (hrc4 q6.2 q6.1 (x2 + (1 : Int32)) r hf)
    · have hf := gn hf c8
      refine g_iload_n E 2 dX9_fault_27 rfl rfl ?_
      cases hf
      exact g_iret E dX9_fault_28
theorem fX9_fault_v4 {k : gK} {X : gX} (E : gE k X cX9_fault RX9 wsX9_fault 3 (some .int) rm_fX9_fault) : ∀ (n : Nat) (σ : St) (x1 : Int32) (x2 : Int32) (r : Int32 × St), fX9_fault_l4 n σ x1 x2 = some r → G k X 3 (some (.int r.1)) (mw k.2.2.2 r.2) (mw k.2.2.2 σ) [(0, .ref (k.2.2.2.1 0)), (1, .int x1), (2, .int x2)] [] 4 := by
  intro n
  induction n with
  | zero => intro σ x1 x2 r hf; cases hf
  | succ n ih => intro σ x1 x2 r hf; exact fX9_fault_w4 E (fX9_fault_l4 n) ih σ x1 x2 r hf
set_option maxHeartbeats 4000000 in
set_option maxRecDepth 100000 in
theorem fX9_fault_c (k : gK) (σ : St) (r : Int32 × St) (hf : fX9_fault σ = some r) : MC k yX9_fault wsX9_fault rm_fX9_fault [.ref (k.2.2.2.1 0)] (mw k.2.2.2 σ) (some (.int r.1)) (mw k.2.2.2 r.2) := by
  refine MC_of (cc := cX9_fault) (maxL := 3) (ret := (some .int)) (own := RX9) (lvs := [(0, .ref (k.2.2.2.1 0))]) (by decide) rfl rfl (Nat.le_of_ble_eq_true rfl) rfl (fun X E => ?_)
  unfold fX9_fault at hf
  refine g_iconst (v := (0 : Int32)) E dX9_fault_0 (by decide) ?_
  refine g_istore_n E [(1, .int (0 : Int32)), (0, .ref (k.2.2.2.1 0))] dX9_fault_1 rfl (by decide) rfl ?_
  refine g_iconst (v := (0 : Int32)) E dX9_fault_2 (by decide) ?_
  refine g_istore_n E [(2, .int (0 : Int32)), (1, .int (0 : Int32)), (0, .ref (k.2.2.2.1 0))] dX9_fault_3 rfl (by decide) rfl ?_
  exact g_sub [2, 1, 0] rfl (fX9_fault_v4 E gF σ (0 : Int32) (0 : Int32) r hf)
theorem hi_X9_rule_X9 : ∀ w ∈ wsX90, w ∈ wsX9_rule := by decide +kernel
theorem hk_X9_rule_46 : Cond.fieldLink RX9 46 "PaperMarksModel" "clauseOver" "[I" ∈ wsX9_rule := by decide +kernel
theorem hk_X9_rule_118 : Cond.fieldLink RX9 118 "PaperMarksModel" "clauses" "I" ∈ wsX9_rule := by decide +kernel
theorem hk_X9_rule_97 : Cond.fieldLink RX9 97 "PaperMarksModel" "signMany" "I" ∈ wsX9_rule := by decide +kernel
theorem hk_X9_rule_40 : Cond.fieldLink RX9 40 "PaperMarksModel" "signs" "[I" ∈ wsX9_rule := by decide +kernel
theorem hk_X9_rule_49 : Cond.fieldLink RX9 49 "PaperMarksModel" "clauseCoin" "[I" ∈ wsX9_rule := by decide +kernel
theorem hk_X9_rule_43 : Cond.fieldLink RX9 43 "PaperMarksModel" "clauseJoin" "[I" ∈ wsX9_rule := by decide +kernel
def rm_fX9_rule : Room := { frames := 3, cells := 0, slots := 0, locals := 69 }
set_option maxHeartbeats 4000000 in
set_option maxRecDepth 100000 in
theorem fX9_rule_w153 {k : gK} {X : gX} (E : gE k X cX9_rule RX9 wsX9_rule 4 (some .int) rm_fX9_rule) (rc19 : St → Int32 → Int32 → Option (Int32 × St)) (hrc19 : ∀ (σ : St) (x1 : Int32) (x2 : Int32) (r : Int32 × St), rc19 σ x1 x2 = some r → G k X 4 (some (.int r.1)) (mw k.2.2.2 r.2) (mw k.2.2.2 σ) [(0, .ref (k.2.2.2.1 0)), (1, .int x1), (2, .int x2)] [] 19) (σ : St) (x1 : Int32) (x2 : Int32) (r : Int32 × St) (hf : fX9_rule_b153 rc19 σ x1 x2 = some r) : G k X 4 (some (.int r.1)) (mw k.2.2.2 r.2) (mw k.2.2.2 σ) [(0, .ref (k.2.2.2.1 0)), (1, .int x1), (2, .int x2)] [] 153 := by
  unfold fX9_rule_b153 at hf
  refine g_iinc E 2 [(2, .int (x2 + (1 : Int32))), (0, .ref (k.2.2.2.1 0)), (1, .int x1)] (x2 + (1 : Int32)) dX9_rule_153 rfl (by rfl) (by decide) rfl ?_
  refine g_goto (tgt := 19) E dX9_rule_156 (by decide) ?_
  exact g_sub [1, 2, 0] rfl (hrc19 σ x1 (x2 + (1 : Int32)) r hf)
set_option maxHeartbeats 4000000 in
set_option maxRecDepth 100000 in
theorem fX9_rule_w88 {k : gK} {X : gX} (E : gE k X cX9_rule RX9 wsX9_rule 4 (some .int) rm_fX9_rule) (rc19 : St → Int32 → Int32 → Option (Int32 × St)) (hrc19 : ∀ (σ : St) (x1 : Int32) (x2 : Int32) (r : Int32 × St), rc19 σ x1 x2 = some r → G k X 4 (some (.int r.1)) (mw k.2.2.2 r.2) (mw k.2.2.2 σ) [(0, .ref (k.2.2.2.1 0)), (1, .int x1), (2, .int x2)] [] 19) (σ : St) (x1 : Int32) (x2 : Int32) (x3 : Int32) (r : Int32 × St) (hf : fX9_rule_b88 rc19 σ x1 x2 x3 = some r) : G k X 4 (some (.int r.1)) (mw k.2.2.2 r.2) (mw k.2.2.2 σ) [(0, .ref (k.2.2.2.1 0)), (1, .int x1), (2, .int x2), (3, .int x3)] [] 88 := by
  unfold fX9_rule_b88 at hf
  refine g_aload_n E 0 dX9_rule_88 rfl rfl ?_
  refine g_get (C := RX9) (T := TX9) (N := 20) (ci := 9) E 0 15 (.ref (k.2.2.2.1 13)) hi_X9_rule_X9 (mwG0 _ _) rfl (by decide) hk_X9_rule_46 rfl dX9_rule_89 ?_
  refine g_aload_n E 0 dX9_rule_92 rfl rfl ?_
  refine g_get (C := RX9) (T := TX9) (N := 20) (ci := 9) E 0 17 (.int (σ.2.1 3)) hi_X9_rule_X9 (mwG0 _ _) rfl (by decide) hk_X9_rule_118 rfl dX9_rule_93 ?_
  refine g_bipush (v := (10 : Int32)) E dX9_rule_96 (by decide) ?_
  refine g_aload_n E 0 dX9_rule_98 rfl rfl ?_
  refine g_get (C := RX9) (T := TX9) (N := 20) (ci := 9) E 0 15 (.ref (k.2.2.2.1 13)) hi_X9_rule_X9 (mwG0 _ _) rfl (by decide) hk_X9_rule_46 rfl dX9_rule_99 ?_
  refine g_aload_n E 0 dX9_rule_102 rfl rfl ?_
  refine g_get (C := RX9) (T := TX9) (N := 20) (ci := 9) E 0 17 (.int (σ.2.1 3)) hi_X9_rule_X9 (mwG0 _ _) rfl (by decide) hk_X9_rule_118 rfl dX9_rule_103 ?_
  obtain ⟨hi1, hf⟩ := gd hf
  refine g_iald E 13 (σ.1 13) (mwG13 _ _) hi1 dX9_rule_106 ?_
  refine g_imul E dX9_rule_107 ?_
  refine g_iload_n E 3 dX9_rule_108 rfl rfl ?_
  refine g_iadd E dX9_rule_109 ?_
  refine g_bipush (v := (48 : Int32)) E dX9_rule_110 (by decide) ?_
  refine g_isub E dX9_rule_112 ?_
  obtain ⟨hi2, hf⟩ := gd hf
  refine g_iast E 13 (mw k.2.2.2 (uA σ 13 (σ.2.1 3).toNatClampNeg (((((((10 : Int32) * ((σ.1 13 (σ.2.1 3).toNatClampNeg)))) + x3)) - (48 : Int32))))) (σ.1 13) (mwG13 _ _) hi2 (mwA13 _ _ _ _) dX9_rule_113 ?_
  refine g_goto (tgt := 153) E dX9_rule_114 (by decide) ?_
  exact g_sub [0, 1, 2] rfl (fX9_rule_w153 E rc19 hrc19 (uA σ 13 (σ.2.1 3).toNatClampNeg (((((((10 : Int32) * ((σ.1 13 (σ.2.1 3).toNatClampNeg)))) + x3)) - (48 : Int32)))) x1 x2 r hf)
set_option maxHeartbeats 4000000 in
set_option maxRecDepth 100000 in
theorem fX9_rule_w19 {k : gK} {X : gX} (E : gE k X cX9_rule RX9 wsX9_rule 4 (some .int) rm_fX9_rule) (rc19 : St → Int32 → Int32 → Option (Int32 × St)) (hrc19 : ∀ (σ : St) (x1 : Int32) (x2 : Int32) (r : Int32 × St), rc19 σ x1 x2 = some r → G k X 4 (some (.int r.1)) (mw k.2.2.2 r.2) (mw k.2.2.2 σ) [(0, .ref (k.2.2.2.1 0)), (1, .int x1), (2, .int x2)] [] 19) (σ : St) (x1 : Int32) (x2 : Int32) (r : Int32 × St) (hf : fX9_rule_b19 rc19 σ x1 x2 = some r) : G k X 4 (some (.int r.1)) (mw k.2.2.2 r.2) (mw k.2.2.2 σ) [(0, .ref (k.2.2.2.1 0)), (1, .int x1), (2, .int x2)] [] 19 := by
  unfold fX9_rule_b19 at hf
  refine g_iload_n E 2 dX9_rule_19 rfl rfl ?_
  refine g_aload_n E 0 dX9_rule_20 rfl rfl ?_
  refine g_get (C := RX9) (T := TX9) (N := 20) (ci := 9) E 0 13 (.int (σ.2.1 2)) hi_X9_rule_X9 (mwG0 _ _) rfl (by decide) hk_X9_rule_97 rfl dX9_rule_21 ?_
  refine g_icmp_ge (tgt := 159) E dX9_rule_24 (by decide) (fun c1 => ?_) (fun c1 => ?_)
  · have hf := gp hf c1
    refine g_aload_n E 0 dX9_rule_159 rfl rfl ?_
    refine g_dup E dX9_rule_160 rfl ?_
    refine g_get (C := RX9) (T := TX9) (N := 20) (ci := 9) E 0 17 (.int (σ.2.1 3)) hi_X9_rule_X9 (mwG0 _ _) rfl (by decide) hk_X9_rule_118 rfl dX9_rule_161 ?_
    refine g_iconst (v := (1 : Int32)) E dX9_rule_164 (by decide) ?_
    refine g_iadd E dX9_rule_165 ?_
    refine g_put (C := RX9) (T := TX9) (N := 20) (ci := 9) E 0 17 (mw k.2.2.2 (uI σ 3 (((σ.2.1 3) + (1 : Int32))))) hi_X9_rule_X9 tyX9 tyX9_ok nmX9 (mwG0 _ _) rfl (by decide) hk_X9_rule_118 rfl (by decide +kernel) (Nat.le_of_ble_eq_true rfl) (mwI3 _ _ _) dX9_rule_166 ?_
    refine g_aload_n E 0 dX9_rule_169 rfl rfl ?_
    refine g_iconst (v := (0 : Int32)) E dX9_rule_170 (by decide) ?_
    refine g_put (C := RX9) (T := TX9) (N := 20) (ci := 9) E 0 13 (mw k.2.2.2 (uI ((uI σ 3 (((σ.2.1 3) + (1 : Int32))))) 2 (0 : Int32))) hi_X9_rule_X9 tyX9 tyX9_ok nmX9 (mwG0 _ _) rfl (by decide) hk_X9_rule_97 rfl (by decide +kernel) (Nat.le_of_ble_eq_true rfl) (mwI2 _ _ _) dX9_rule_171 ?_
    refine g_aload_n E 0 dX9_rule_174 rfl rfl ?_
    refine g_get (C := RX9) (T := TX9) (N := 20) (ci := 9) E 0 17 (.int (((uI ((uI σ 3 (((σ.2.1 3) + (1 : Int32))))) 2 (0 : Int32))).2.1 3)) hi_X9_rule_X9 (mwG0 _ _) rfl (by decide) hk_X9_rule_118 rfl dX9_rule_175 ?_
    cases hf
    exact g_iret E dX9_rule_178
  · have hf := gn hf c1
    refine g_aload_n E 0 dX9_rule_27 rfl rfl ?_
    refine g_get (C := RX9) (T := TX9) (N := 20) (ci := 9) E 0 12 (.ref (k.2.2.2.1 11)) hi_X9_rule_X9 (mwG0 _ _) rfl (by decide) hk_X9_rule_40 rfl dX9_rule_28 ?_
    refine g_iload_n E 2 dX9_rule_31 rfl rfl ?_
    obtain ⟨hi2, hf⟩ := gd hf
    refine g_iald E 11 (σ.1 11) (mwG11 _ _) hi2 dX9_rule_32 ?_
    refine g_istore_n E [(3, .int (σ.1 11 x2.toNatClampNeg)), (0, .ref (k.2.2.2.1 0)), (1, .int x1), (2, .int x2)] dX9_rule_33 rfl (by decide) rfl ?_
    refine g_iload_n E 2 dX9_rule_34 rfl rfl ?_
    refine g_iload_n E 0 dX9_rule_35 rfl rfl ?_
    obtain ⟨q3, hq4, hf⟩ := gb hf
    refine g_callS (As := [.int x1, .int (σ.1 11 x2.toNatClampNeg)]) (rest := []) (n := 2) E (fX9_stepOf_c k σ x1 (σ.1 11 x2.toNatClampNeg) q3 hq4) gX9_rule_X9_stepOf rfl rfl rfl (by decide +kernel) ⟨Nat.le_of_ble_eq_true rfl, Nat.le_of_ble_eq_true rfl⟩ rfl rfl (Nat.le_of_ble_eq_true rfl) dX9_rule_36 ?_
    refine g_istore_n E [(1, .int q3.1), (3, .int (σ.1 11 x2.toNatClampNeg)), (0, .ref (k.2.2.2.1 0)), (2, .int x2)] dX9_rule_39 rfl (by decide) rfl ?_
    refine g_iload_n E 0 dX9_rule_40 rfl rfl ?_
    refine g_iconst (v := (1 : Int32)) E dX9_rule_41 (by decide) ?_
    refine g_icmp_ne (tgt := 78) E dX9_rule_42 (by decide) (fun c5 => ?_) (fun c5 => ?_)
    · have hf := gn hf c5
      refine g_iload_n E 0 dX9_rule_78 rfl rfl ?_
      refine g_iconst (v := (3 : Int32)) E dX9_rule_79 (by decide) ?_
      refine g_icmp_eq (tgt := 88) E dX9_rule_80 (by decide) (fun c6 => ?_) (fun c6 => ?_)
      · have hf := gp hf c6
        exact g_sub [2, 0, 3, 1] rfl (fX9_rule_w88 E rc19 hrc19 q3.2 q3.1 x2 (σ.1 11 x2.toNatClampNeg) r hf)
      · have hf := gn hf c6
        refine g_iload_n E 0 dX9_rule_83 rfl rfl ?_
        refine g_iconst (v := (4 : Int32)) E dX9_rule_84 (by decide) ?_
        refine g_icmp_ne (tgt := 117) E dX9_rule_85 (by decide) (fun c7 => ?_) (fun c7 => ?_)
        · have hf := gn hf c7
          refine g_iload_n E 0 dX9_rule_117 rfl rfl ?_
          refine g_bipush (v := (6 : Int32)) E dX9_rule_118 (by decide) ?_
          refine g_icmp_ne (tgt := 139) E dX9_rule_120 (by decide) (fun c8 => ?_) (fun c8 => ?_)
          · have hf := gn hf c8
            refine g_iload_n E 0 dX9_rule_139 rfl rfl ?_
            refine g_if_ne (tgt := 153) E dX9_rule_140 (by decide) (fun c9 => ?_) (fun c9 => ?_)
            · have hf := gn hf c9
              exact g_sub [2, 0, 3] rfl (fX9_rule_w153 E rc19 hrc19 q3.2 q3.1 x2 r hf)
            · have hf := gp hf c9
              refine g_aload_n E 2 dX9_rule_143 rfl rfl ?_
              refine g_dup E dX9_rule_144 rfl ?_
              refine g_get (C := RX9) (T := TX9) (N := 20) (ci := 9) E 0 17 (.int (q3.2.2.1 3)) hi_X9_rule_X9 (mwG0 _ _) rfl (by decide) hk_X9_rule_118 rfl dX9_rule_145 ?_
              refine g_iconst (v := (1 : Int32)) E dX9_rule_148 (by decide) ?_
              refine g_iadd E dX9_rule_149 ?_
              refine g_put (C := RX9) (T := TX9) (N := 20) (ci := 9) E 0 17 (mw k.2.2.2 (uI q3.2 3 (((q3.2.2.1 3) + (1 : Int32))))) hi_X9_rule_X9 tyX9 tyX9_ok nmX9 (mwG0 _ _) rfl (by decide) hk_X9_rule_118 rfl (by decide +kernel) (Nat.le_of_ble_eq_true rfl) (mwI3 _ _ _) dX9_rule_150 ?_
              exact g_sub [2, 0, 3] rfl (fX9_rule_w153 E rc19 hrc19 (uI q3.2 3 (((q3.2.2.1 3) + (1 : Int32)))) q3.1 x2 r hf)
          · have hf := gp hf c8
            refine g_aload_n E 2 dX9_rule_123 rfl rfl ?_
            refine g_get (C := RX9) (T := TX9) (N := 20) (ci := 9) E 0 16 (.ref (k.2.2.2.1 14)) hi_X9_rule_X9 (mwG0 _ _) rfl (by decide) hk_X9_rule_49 rfl dX9_rule_124 ?_
            refine g_aload_n E 2 dX9_rule_127 rfl rfl ?_
            refine g_get (C := RX9) (T := TX9) (N := 20) (ci := 9) E 0 17 (.int (q3.2.2.1 3)) hi_X9_rule_X9 (mwG0 _ _) rfl (by decide) hk_X9_rule_118 rfl dX9_rule_128 ?_
            refine g_iload_n E 1 dX9_rule_131 rfl rfl ?_
            refine g_bipush (v := (48 : Int32)) E dX9_rule_132 (by decide) ?_
            refine g_isub E dX9_rule_134 ?_
            obtain ⟨hi10, hf⟩ := gd hf
            refine g_iast E 14 (mw k.2.2.2 (uA q3.2 14 (q3.2.2.1 3).toNatClampNeg (((σ.1 11 x2.toNatClampNeg) - (48 : Int32))))) (q3.2.1 14) (mwG14 _ _) hi10 (mwA14 _ _ _ _) dX9_rule_135 ?_
            refine g_goto (tgt := 153) E dX9_rule_136 (by decide) ?_
            exact g_sub [2, 0, 3] rfl (fX9_rule_w153 E rc19 hrc19 (uA q3.2 14 (q3.2.2.1 3).toNatClampNeg (((σ.1 11 x2.toNatClampNeg) - (48 : Int32)))) q3.1 x2 r hf)
        · have hf := gp hf c7
          exact g_sub [2, 0, 3, 1] rfl (fX9_rule_w88 E rc19 hrc19 q3.2 q3.1 x2 (σ.1 11 x2.toNatClampNeg) r hf)
    · have hf := gp hf c5
      refine g_aload_n E 2 dX9_rule_45 rfl rfl ?_
      refine g_get (C := RX9) (T := TX9) (N := 20) (ci := 9) E 0 14 (.ref (k.2.2.2.1 12)) hi_X9_rule_X9 (mwG0 _ _) rfl (by decide) hk_X9_rule_43 rfl dX9_rule_46 ?_
      refine g_aload_n E 2 dX9_rule_49 rfl rfl ?_
      refine g_get (C := RX9) (T := TX9) (N := 20) (ci := 9) E 0 17 (.int (q3.2.2.1 3)) hi_X9_rule_X9 (mwG0 _ _) rfl (by decide) hk_X9_rule_118 rfl dX9_rule_50 ?_
      refine g_iload_n E 1 dX9_rule_53 rfl rfl ?_
      obtain ⟨hi11, hf⟩ := gd hf
      refine g_iast E 12 (mw k.2.2.2 (uA q3.2 12 (q3.2.2.1 3).toNatClampNeg (σ.1 11 x2.toNatClampNeg))) (q3.2.1 12) (mwG12 _ _) hi11 (mwA12 _ _ _ _) dX9_rule_54 ?_
      refine g_aload_n E 2 dX9_rule_55 rfl rfl ?_
      refine g_get (C := RX9) (T := TX9) (N := 20) (ci := 9) E 0 15 (.ref (k.2.2.2.1 13)) hi_X9_rule_X9 (mwG0 _ _) rfl (by decide) hk_X9_rule_46 rfl dX9_rule_56 ?_
      refine g_aload_n E 2 dX9_rule_59 rfl rfl ?_
      refine g_get (C := RX9) (T := TX9) (N := 20) (ci := 9) E 0 17 (.int (((uA q3.2 12 (q3.2.2.1 3).toNatClampNeg (σ.1 11 x2.toNatClampNeg))).2.1 3)) hi_X9_rule_X9 (mwG0 _ _) rfl (by decide) hk_X9_rule_118 rfl dX9_rule_60 ?_
      refine g_iconst (v := (0 : Int32)) E dX9_rule_63 (by decide) ?_
      obtain ⟨hi12, hf⟩ := gd hf
      refine g_iast E 13 (mw k.2.2.2 (uA ((uA q3.2 12 (q3.2.2.1 3).toNatClampNeg (σ.1 11 x2.toNatClampNeg))) 13 ((((uA q3.2 12 (q3.2.2.1 3).toNatClampNeg (σ.1 11 x2.toNatClampNeg))).2.1 3)).toNatClampNeg (0 : Int32))) (((uA q3.2 12 (q3.2.2.1 3).toNatClampNeg (σ.1 11 x2.toNatClampNeg))).1 13) (mwG13 _ _) hi12 (mwA13 _ _ _ _) dX9_rule_64 ?_
      refine g_aload_n E 2 dX9_rule_65 rfl rfl ?_
      refine g_get (C := RX9) (T := TX9) (N := 20) (ci := 9) E 0 16 (.ref (k.2.2.2.1 14)) hi_X9_rule_X9 (mwG0 _ _) rfl (by decide) hk_X9_rule_49 rfl dX9_rule_66 ?_
      refine g_aload_n E 2 dX9_rule_69 rfl rfl ?_
      refine g_get (C := RX9) (T := TX9) (N := 20) (ci := 9) E 0 17 (.int (((uA ((uA q3.2 12 (q3.2.2.1 3).toNatClampNeg (σ.1 11 x2.toNatClampNeg))) 13 ((((uA q3.2 12 (q3.2.2.1 3).toNatClampNeg (σ.1 11 x2.toNatClampNeg))).2.1 3)).toNatClampNeg (0 : Int32))).2.1 3)) hi_X9_rule_X9 (mwG0 _ _) rfl (by decide) hk_X9_rule_118 rfl dX9_rule_70 ?_
      refine g_iconst (v := (4 : Int32)) E dX9_rule_73 (by decide) ?_
      obtain ⟨hi13, hf⟩ := gd hf
      refine g_iast E 14 (mw k.2.2.2 (uA ((uA ((uA q3.2 12 (q3.2.2.1 3).toNatClampNeg (σ.1 11 x2.toNatClampNeg))) 13 ((((uA q3.2 12 (q3.2.2.1 3).toNatClampNeg (σ.1 11 x2.toNatClampNeg))).2.1 3)).toNatClampNeg (0 : Int32))) 14 ((((uA ((uA q3.2 12 (q3.2.2.1 3).toNatClampNeg (σ.1 11 x2.toNatClampNeg))) 13 ((((uA q3.2 12 (q3.2.2.1 3).toNatClampNeg (σ.1 11 x2.toNatClampNeg))).2.1 3)).toNatClampNeg (0 : Int32))).2.1 3)).toNatClampNeg (4 : Int32))) (((uA ((uA q3.2 12 (q3.2.2.1 3).toNatClampNeg (σ.1 11 x2.toNatClampNeg))) 13 ((((uA q3.2 12 (q3.2.2.1 3).toNatClampNeg (σ.1 11 x2.toNatClampNeg))).2.1 3)).toNatClampNeg (0 : Int32))).1 14) (mwG14 _ _) hi13 (mwA14 _ _ _ _) dX9_rule_74 ?_
      refine g_goto (tgt := 153) E dX9_rule_75 (by decide) ?_
      exact g_sub [2, 0, 3] rfl (fX9_rule_w153 E rc19 hrc19 (uA ((uA ((uA q3.2 12 (q3.2.2.1 3).toNatClampNeg (σ.1 11 x2.toNatClampNeg))) 13 ((((uA q3.2 12 (q3.2.2.1 3).toNatClampNeg (σ.1 11 x2.toNatClampNeg))).2.1 3)).toNatClampNeg (0 : Int32))) 14 ((((uA ((uA q3.2 12 (q3.2.2.1 3).toNatClampNeg (σ.1 11 x2.toNatClampNeg))) 13 ((((uA q3.2 12 (q3.2.2.1 3).toNatClampNeg (σ.1 11 x2.toNatClampNeg))).2.1 3)).toNatClampNeg (0 : Int32))).2.1 3)).toNatClampNeg (4 : Int32)) q3.1 x2 r hf)
theorem fX9_rule_v19 {k : gK} {X : gX} (E : gE k X cX9_rule RX9 wsX9_rule 4 (some .int) rm_fX9_rule) : ∀ (n : Nat) (σ : St) (x1 : Int32) (x2 : Int32) (r : Int32 × St), fX9_rule_l19 n σ x1 x2 = some r → G k X 4 (some (.int r.1)) (mw k.2.2.2 r.2) (mw k.2.2.2 σ) [(0, .ref (k.2.2.2.1 0)), (1, .int x1), (2, .int x2)] [] 19 := by
  intro n
  induction n with
  | zero => intro σ x1 x2 r hf; cases hf
  | succ n ih => intro σ x1 x2 r hf; exact fX9_rule_w19 E (fX9_rule_l19 n) ih σ x1 x2 r hf
set_option maxHeartbeats 4000000 in
set_option maxRecDepth 100000 in
theorem fX9_rule_c (k : gK) (σ : St) (r : Int32 × St) (hf : fX9_rule σ = some r) : MC k yX9_rule wsX9_rule rm_fX9_rule [.ref (k.2.2.2.1 0)] (mw k.2.2.2 σ) (some (.int r.1)) (mw k.2.2.2 r.2) := by
  refine MC_of (cc := cX9_rule) (maxL := 4) (ret := (some .int)) (own := RX9) (lvs := [(0, .ref (k.2.2.2.1 0))]) (by decide) rfl rfl (Nat.le_of_ble_eq_true rfl) rfl (fun X E => ?_)
  unfold fX9_rule at hf
  refine g_aload_n E 0 dX9_rule_0 rfl rfl ?_
  obtain ⟨q1, hq2, hf⟩ := gb hf
  refine g_callV (C := RX9) (T := TX9) (N := 20) (ci := 9) (As := []) (rest := []) (n := 0) E 0 (fX9_fault_c k σ  q1 hq2) gX9_rule_X9_fault rfl rfl rfl (by decide +kernel) ⟨Nat.le_of_ble_eq_true rfl, Nat.le_of_ble_eq_true rfl⟩ rfl rfl (Nat.le_of_ble_eq_true rfl) rfl (mwG0 _ _) dX9_rule_1 ?_
  refine g_if_lt (tgt := 10) E dX9_rule_4 (by decide) (fun c3 => ?_) (fun c3 => ?_)
  · have hf := gp hf c3
    refine g_aload_n E 0 dX9_rule_10 rfl rfl ?_
    refine g_iconst (v := (0 : Int32)) E dX9_rule_11 (by decide) ?_
    refine g_put (C := RX9) (T := TX9) (N := 20) (ci := 9) E 0 17 (mw k.2.2.2 (uI q1.2 3 (0 : Int32))) hi_X9_rule_X9 tyX9 tyX9_ok nmX9 (mwG0 _ _) rfl (by decide) hk_X9_rule_118 rfl (by decide +kernel) (Nat.le_of_ble_eq_true rfl) (mwI3 _ _ _) dX9_rule_12 ?_
    refine g_iconst (v := (0 : Int32)) E dX9_rule_15 (by decide) ?_
    refine g_istore_n E [(1, .int (0 : Int32)), (0, .ref (k.2.2.2.1 0))] dX9_rule_16 rfl (by decide) rfl ?_
    refine g_iconst (v := (0 : Int32)) E dX9_rule_17 (by decide) ?_
    refine g_istore_n E [(2, .int (0 : Int32)), (1, .int (0 : Int32)), (0, .ref (k.2.2.2.1 0))] dX9_rule_18 rfl (by decide) rfl ?_
    exact g_sub [2, 1, 0] rfl (fX9_rule_v19 E gF (uI q1.2 3 (0 : Int32)) (0 : Int32) (0 : Int32) r hf)
  · have hf := gn hf c3
    refine g_bipush (v := (-5 : Int32)) E dX9_rule_7 (by decide) ?_
    cases hf
    exact g_iret E dX9_rule_9
theorem hi_X9_joinOf_X9 : ∀ w ∈ wsX90, w ∈ wsX9_joinOf := by decide +kernel
theorem hk_X9_joinOf_52 : Cond.fieldLink RX9 52 "PaperMarksModel" "given" "[I" ∈ wsX9_joinOf := by decide +kernel
def rm_fX9_joinOf : Room := { frames := 0, cells := 0, slots := 0, locals := 0 }
set_option maxHeartbeats 4000000 in
set_option maxRecDepth 100000 in
theorem fX9_joinOf_w100 {k : gK} {X : gX} (E : gE k X cX9_joinOf RX9 wsX9_joinOf 9 (some .int) rm_fX9_joinOf) (rc18 : St → Int32 → Int32 → Int32 → Int32 → Int32 → Int32 → Int32 → Int32 → Option (Int32 × St)) (hrc18 : ∀ (σ : St) (x1 : Int32) (x2 : Int32) (x3 : Int32) (x4 : Int32) (x5 : Int32) (x6 : Int32) (x7 : Int32) (x8 : Int32) (r : Int32 × St), rc18 σ x1 x2 x3 x4 x5 x6 x7 x8 = some r → G k X 9 (some (.int r.1)) (mw k.2.2.2 r.2) (mw k.2.2.2 σ) [(0, .ref (k.2.2.2.1 0)), (1, .int x1), (2, .int x2), (3, .int x3), (4, .int x4), (5, .int x5), (6, .int x6), (7, .int x7), (8, .int x8)] [] 18) (σ : St) (x1 : Int32) (x2 : Int32) (x3 : Int32) (x4 : Int32) (x5 : Int32) (x7 : Int32) (x8 : Int32) (t0 : Int32) (r : Int32 × St) (hf : fX9_joinOf_b100 rc18 σ x1 x2 x3 x4 x5 x7 x8 t0 = some r) : G k X 9 (some (.int r.1)) (mw k.2.2.2 r.2) (mw k.2.2.2 σ) [(0, .ref (k.2.2.2.1 0)), (1, .int x1), (2, .int x2), (3, .int x3), (4, .int x4), (5, .int x5), (7, .int x7), (8, .int x8)] [.int t0] 100 := by
  unfold fX9_joinOf_b100 at hf
  refine g_istore E [(6, .int t0), (0, .ref (k.2.2.2.1 0)), (1, .int x1), (2, .int x2), (3, .int x3), (4, .int x4), (5, .int x5), (7, .int x7), (8, .int x8)] dX9_joinOf_100 (by decide) rfl ?_
  refine g_iload E 7 dX9_joinOf_102 rfl ?_
  refine g_aload_n E 1 dX9_joinOf_104 rfl rfl ?_
  refine g_get (C := RX9) (T := TX9) (N := 20) (ci := 9) E 0 18 (.ref (k.2.2.2.1 15)) hi_X9_joinOf_X9 (mwG0 _ _) rfl (by decide) hk_X9_joinOf_52 rfl dX9_joinOf_105 ?_
  refine g_iload E 8 dX9_joinOf_108 rfl ?_
  obtain ⟨hi1, hf⟩ := gd hf
  refine g_iald E 15 (σ.1 15) (mwG15 _ _) hi1 dX9_joinOf_110 ?_
  refine g_iadd E dX9_joinOf_111 ?_
  refine g_istore E [(7, .int (x7 + (σ.1 15 x8.toNatClampNeg))), (6, .int t0), (0, .ref (k.2.2.2.1 0)), (1, .int x1), (2, .int x2), (3, .int x3), (4, .int x4), (5, .int x5), (8, .int x8)] dX9_joinOf_112 (by decide) rfl ?_
  refine g_iinc E 8 [(8, .int (x8 + (1 : Int32))), (7, .int (x7 + (σ.1 15 x8.toNatClampNeg))), (6, .int t0), (0, .ref (k.2.2.2.1 0)), (1, .int x1), (2, .int x2), (3, .int x3), (4, .int x4), (5, .int x5)] (x8 + (1 : Int32)) dX9_joinOf_114 rfl (by rfl) (by decide) rfl ?_
  refine g_goto (tgt := 18) E dX9_joinOf_117 (by decide) ?_
  exact g_sub [3, 4, 5, 6, 7, 8, 2, 1, 0] rfl (hrc18 σ x1 x2 x3 x4 x5 t0 (x7 + (σ.1 15 x8.toNatClampNeg)) (x8 + (1 : Int32)) r hf)
set_option maxHeartbeats 4000000 in
set_option maxRecDepth 100000 in
theorem fX9_joinOf_w81 {k : gK} {X : gX} (E : gE k X cX9_joinOf RX9 wsX9_joinOf 9 (some .int) rm_fX9_joinOf) (rc18 : St → Int32 → Int32 → Int32 → Int32 → Int32 → Int32 → Int32 → Int32 → Option (Int32 × St)) (hrc18 : ∀ (σ : St) (x1 : Int32) (x2 : Int32) (x3 : Int32) (x4 : Int32) (x5 : Int32) (x6 : Int32) (x7 : Int32) (x8 : Int32) (r : Int32 × St), rc18 σ x1 x2 x3 x4 x5 x6 x7 x8 = some r → G k X 9 (some (.int r.1)) (mw k.2.2.2 r.2) (mw k.2.2.2 σ) [(0, .ref (k.2.2.2.1 0)), (1, .int x1), (2, .int x2), (3, .int x3), (4, .int x4), (5, .int x5), (6, .int x6), (7, .int x7), (8, .int x8)] [] 18) (σ : St) (x1 : Int32) (x2 : Int32) (x3 : Int32) (x4 : Int32) (x6 : Int32) (x7 : Int32) (x8 : Int32) (t0 : Int32) (r : Int32 × St) (hf : fX9_joinOf_b81 rc18 σ x1 x2 x3 x4 x6 x7 x8 t0 = some r) : G k X 9 (some (.int r.1)) (mw k.2.2.2 r.2) (mw k.2.2.2 σ) [(0, .ref (k.2.2.2.1 0)), (1, .int x1), (2, .int x2), (3, .int x3), (4, .int x4), (6, .int x6), (7, .int x7), (8, .int x8)] [.int t0] 81 := by
  unfold fX9_joinOf_b81 at hf
  refine g_istore E [(5, .int t0), (0, .ref (k.2.2.2.1 0)), (1, .int x1), (2, .int x2), (3, .int x3), (4, .int x4), (6, .int x6), (7, .int x7), (8, .int x8)] dX9_joinOf_81 (by decide) rfl ?_
  refine g_iload E 7 dX9_joinOf_83 rfl ?_
  refine g_iload_n E 3 dX9_joinOf_85 rfl rfl ?_
  refine g_iconst (v := (1 : Int32)) E dX9_joinOf_86 (by decide) ?_
  refine g_isub E dX9_joinOf_87 ?_
  refine g_iconst (v := (2 : Int32)) E dX9_joinOf_88 (by decide) ?_
  refine g_idiv E (by decide) dX9_joinOf_89 ?_
  refine g_icmp_gt (tgt := 98) E dX9_joinOf_90 (by decide) (fun c1 => ?_) (fun c1 => ?_)
  · have hf := gp hf c1
    refine g_iload E 6 dX9_joinOf_98 rfl ?_
    exact g_sub [1, 2, 3, 4, 5, 0, 7, 8] rfl (fX9_joinOf_w100 E rc18 hrc18 σ x1 x2 x3 x4 t0 x7 x8 x6 r hf)
  · have hf := gn hf c1
    refine g_iload E 8 dX9_joinOf_93 rfl ?_
    refine g_goto (tgt := 100) E dX9_joinOf_95 (by decide) ?_
    exact g_sub [1, 2, 3, 4, 5, 0, 7, 8] rfl (fX9_joinOf_w100 E rc18 hrc18 σ x1 x2 x3 x4 t0 x7 x8 x8 r hf)
set_option maxHeartbeats 4000000 in
set_option maxRecDepth 100000 in
theorem fX9_joinOf_w62 {k : gK} {X : gX} (E : gE k X cX9_joinOf RX9 wsX9_joinOf 9 (some .int) rm_fX9_joinOf) (rc18 : St → Int32 → Int32 → Int32 → Int32 → Int32 → Int32 → Int32 → Int32 → Option (Int32 × St)) (hrc18 : ∀ (σ : St) (x1 : Int32) (x2 : Int32) (x3 : Int32) (x4 : Int32) (x5 : Int32) (x6 : Int32) (x7 : Int32) (x8 : Int32) (r : Int32 × St), rc18 σ x1 x2 x3 x4 x5 x6 x7 x8 = some r → G k X 9 (some (.int r.1)) (mw k.2.2.2 r.2) (mw k.2.2.2 σ) [(0, .ref (k.2.2.2.1 0)), (1, .int x1), (2, .int x2), (3, .int x3), (4, .int x4), (5, .int x5), (6, .int x6), (7, .int x7), (8, .int x8)] [] 18) (σ : St) (x1 : Int32) (x2 : Int32) (x3 : Int32) (x5 : Int32) (x6 : Int32) (x7 : Int32) (x8 : Int32) (t0 : Int32) (r : Int32 × St) (hf : fX9_joinOf_b62 rc18 σ x1 x2 x3 x5 x6 x7 x8 t0 = some r) : G k X 9 (some (.int r.1)) (mw k.2.2.2 r.2) (mw k.2.2.2 σ) [(0, .ref (k.2.2.2.1 0)), (1, .int x1), (2, .int x2), (3, .int x3), (5, .int x5), (6, .int x6), (7, .int x7), (8, .int x8)] [.int t0] 62 := by
  unfold fX9_joinOf_b62 at hf
  refine g_istore E [(4, .int t0), (0, .ref (k.2.2.2.1 0)), (1, .int x1), (2, .int x2), (3, .int x3), (5, .int x5), (6, .int x6), (7, .int x7), (8, .int x8)] dX9_joinOf_62 (by decide) rfl ?_
  refine g_aload_n E 1 dX9_joinOf_64 rfl rfl ?_
  refine g_get (C := RX9) (T := TX9) (N := 20) (ci := 9) E 0 18 (.ref (k.2.2.2.1 15)) hi_X9_joinOf_X9 (mwG0 _ _) rfl (by decide) hk_X9_joinOf_52 rfl dX9_joinOf_65 ?_
  refine g_iload E 8 dX9_joinOf_68 rfl ?_
  obtain ⟨hi1, hf⟩ := gd hf
  refine g_iald E 15 (σ.1 15) (mwG15 _ _) hi1 dX9_joinOf_70 ?_
  refine g_if_le (tgt := 79) E dX9_joinOf_71 (by decide) (fun c2 => ?_) (fun c2 => ?_)
  · have hf := gp hf c2
    refine g_iload E 5 dX9_joinOf_79 rfl ?_
    exact g_sub [1, 2, 3, 4, 0, 6, 7, 8] rfl (fX9_joinOf_w81 E rc18 hrc18 σ x1 x2 x3 t0 x6 x7 x8 x5 r hf)
  · have hf := gn hf c2
    refine g_iload E 8 dX9_joinOf_74 rfl ?_
    refine g_goto (tgt := 81) E dX9_joinOf_76 (by decide) ?_
    exact g_sub [1, 2, 3, 4, 0, 6, 7, 8] rfl (fX9_joinOf_w81 E rc18 hrc18 σ x1 x2 x3 t0 x6 x7 x8 x8 r hf)
set_option maxHeartbeats 4000000 in
set_option maxRecDepth 100000 in
theorem fX9_joinOf_w60 {k : gK} {X : gX} (E : gE k X cX9_joinOf RX9 wsX9_joinOf 9 (some .int) rm_fX9_joinOf) (rc18 : St → Int32 → Int32 → Int32 → Int32 → Int32 → Int32 → Int32 → Int32 → Option (Int32 × St)) (hrc18 : ∀ (σ : St) (x1 : Int32) (x2 : Int32) (x3 : Int32) (x4 : Int32) (x5 : Int32) (x6 : Int32) (x7 : Int32) (x8 : Int32) (r : Int32 × St), rc18 σ x1 x2 x3 x4 x5 x6 x7 x8 = some r → G k X 9 (some (.int r.1)) (mw k.2.2.2 r.2) (mw k.2.2.2 σ) [(0, .ref (k.2.2.2.1 0)), (1, .int x1), (2, .int x2), (3, .int x3), (4, .int x4), (5, .int x5), (6, .int x6), (7, .int x7), (8, .int x8)] [] 18) (σ : St) (x1 : Int32) (x2 : Int32) (x3 : Int32) (x4 : Int32) (x5 : Int32) (x6 : Int32) (x7 : Int32) (x8 : Int32) (r : Int32 × St) (hf : fX9_joinOf_b60 rc18 σ x1 x2 x3 x4 x5 x6 x7 x8 = some r) : G k X 9 (some (.int r.1)) (mw k.2.2.2 r.2) (mw k.2.2.2 σ) [(0, .ref (k.2.2.2.1 0)), (1, .int x1), (2, .int x2), (3, .int x3), (4, .int x4), (5, .int x5), (6, .int x6), (7, .int x7), (8, .int x8)] [] 60 := by
  unfold fX9_joinOf_b60 at hf
  refine g_iload E 4 dX9_joinOf_60 rfl ?_
  exact g_sub [0, 1, 2, 3, 5, 6, 7, 8] rfl (fX9_joinOf_w62 E rc18 hrc18 σ x1 x2 x3 x5 x6 x7 x8 x4 r hf)
set_option maxHeartbeats 4000000 in
set_option maxRecDepth 100000 in
theorem fX9_joinOf_w18 {k : gK} {X : gX} (E : gE k X cX9_joinOf RX9 wsX9_joinOf 9 (some .int) rm_fX9_joinOf) (rc18 : St → Int32 → Int32 → Int32 → Int32 → Int32 → Int32 → Int32 → Int32 → Option (Int32 × St)) (hrc18 : ∀ (σ : St) (x1 : Int32) (x2 : Int32) (x3 : Int32) (x4 : Int32) (x5 : Int32) (x6 : Int32) (x7 : Int32) (x8 : Int32) (r : Int32 × St), rc18 σ x1 x2 x3 x4 x5 x6 x7 x8 = some r → G k X 9 (some (.int r.1)) (mw k.2.2.2 r.2) (mw k.2.2.2 σ) [(0, .ref (k.2.2.2.1 0)), (1, .int x1), (2, .int x2), (3, .int x3), (4, .int x4), (5, .int x5), (6, .int x6), (7, .int x7), (8, .int x8)] [] 18) (σ : St) (x1 : Int32) (x2 : Int32) (x3 : Int32) (x4 : Int32) (x5 : Int32) (x6 : Int32) (x7 : Int32) (x8 : Int32) (r : Int32 × St) (hf : fX9_joinOf_b18 rc18 σ x1 x2 x3 x4 x5 x6 x7 x8 = some r) : G k X 9 (some (.int r.1)) (mw k.2.2.2 r.2) (mw k.2.2.2 σ) [(0, .ref (k.2.2.2.1 0)), (1, .int x1), (2, .int x2), (3, .int x3), (4, .int x4), (5, .int x5), (6, .int x6), (7, .int x7), (8, .int x8)] [] 18 := by
  unfold fX9_joinOf_b18 at hf
  refine g_iload E 8 dX9_joinOf_18 rfl ?_
  refine g_bipush (v := (6 : Int32)) E dX9_joinOf_20 (by decide) ?_
  refine g_icmp_ge (tgt := 120) E dX9_joinOf_22 (by decide) (fun c1 => ?_) (fun c1 => ?_)
  · have hf := gp hf c1
    refine g_iload_n E 1 dX9_joinOf_120 rfl rfl ?_
    refine g_bipush (v := (97 : Int32)) E dX9_joinOf_121 (by decide) ?_
    refine g_icmp_ne (tgt := 135) E dX9_joinOf_123 (by decide) (fun c2 => ?_) (fun c2 => ?_)
    · have hf := gn hf c2
      refine g_bipush (v := (10 : Int32)) E dX9_joinOf_135 (by decide) ?_
      refine g_iload_n E 1 dX9_joinOf_137 rfl rfl ?_
      refine g_bipush (v := (109 : Int32)) E dX9_joinOf_138 (by decide) ?_
      refine g_icmp_ne (tgt := 148) E dX9_joinOf_140 (by decide) (fun c3 => ?_) (fun c3 => ?_)
      · have hf := gn hf c3
        refine g_iload_n E 1 dX9_joinOf_148 rfl rfl ?_
        refine g_bipush (v := (108 : Int32)) E dX9_joinOf_149 (by decide) ?_
        refine g_icmp_ne (tgt := 159) E dX9_joinOf_151 (by decide) (fun c4 => ?_) (fun c4 => ?_)
        · have hf := gn hf c4
          refine g_iload E 5 dX9_joinOf_159 rfl ?_
          refine g_imul E dX9_joinOf_161 ?_
          cases hf
          exact g_iret E dX9_joinOf_162
        · have hf := gp hf c4
          refine g_iload E 4 dX9_joinOf_154 rfl ?_
          refine g_goto (tgt := 161) E dX9_joinOf_156 (by decide) ?_
          refine g_imul E dX9_joinOf_161 ?_
          cases hf
          exact g_iret E dX9_joinOf_162
      · have hf := gp hf c3
        refine g_iload E 6 dX9_joinOf_143 rfl ?_
        refine g_goto (tgt := 161) E dX9_joinOf_145 (by decide) ?_
        refine g_imul E dX9_joinOf_161 ?_
        cases hf
        exact g_iret E dX9_joinOf_162
    · have hf := gp hf c2
      refine g_bipush (v := (10 : Int32)) E dX9_joinOf_126 (by decide) ?_
      refine g_iload_n E 3 dX9_joinOf_128 rfl rfl ?_
      refine g_imul E dX9_joinOf_129 ?_
      refine g_iload_n E 2 dX9_joinOf_130 rfl rfl ?_
      obtain ⟨hn5, hf⟩ := gd hf
      refine g_idiv E hn5 dX9_joinOf_131 ?_
      refine g_goto (tgt := 162) E dX9_joinOf_132 (by decide) ?_
      cases hf
      exact g_iret E dX9_joinOf_162
  · have hf := gn hf c1
    refine g_iload_n E 3 dX9_joinOf_25 rfl rfl ?_
    refine g_iload E 8 dX9_joinOf_26 rfl ?_
    refine g_aload_n E 0 dX9_joinOf_28 rfl rfl ?_
    refine g_get (C := RX9) (T := TX9) (N := 20) (ci := 9) E 0 18 (.ref (k.2.2.2.1 15)) hi_X9_joinOf_X9 (mwG0 _ _) rfl (by decide) hk_X9_joinOf_52 rfl dX9_joinOf_29 ?_
    refine g_iload E 8 dX9_joinOf_32 rfl ?_
    obtain ⟨hi6, hf⟩ := gd hf
    refine g_iald E 15 (σ.1 15) (mwG15 _ _) hi6 dX9_joinOf_34 ?_
    refine g_imul E dX9_joinOf_35 ?_
    refine g_iadd E dX9_joinOf_36 ?_
    refine g_istore_n E [(3, .int (x3 + ((x8 * (σ.1 15 x8.toNatClampNeg))))), (0, .ref (k.2.2.2.1 0)), (1, .int x1), (2, .int x2), (4, .int x4), (5, .int x5), (6, .int x6), (7, .int x7), (8, .int x8)] dX9_joinOf_37 rfl (by decide) rfl ?_
    refine g_aload_n E 1 dX9_joinOf_38 rfl rfl ?_
    refine g_get (C := RX9) (T := TX9) (N := 20) (ci := 9) E 0 18 (.ref (k.2.2.2.1 15)) hi_X9_joinOf_X9 (mwG0 _ _) rfl (by decide) hk_X9_joinOf_52 rfl dX9_joinOf_39 ?_
    refine g_iload E 8 dX9_joinOf_42 rfl ?_
    obtain ⟨hi7, hf⟩ := gd hf
    refine g_iald E 15 (σ.1 15) (mwG15 _ _) hi7 dX9_joinOf_44 ?_
    refine g_if_le (tgt := 60) E dX9_joinOf_45 (by decide) (fun c8 => ?_) (fun c8 => ?_)
    · have hf := gp hf c8
      exact g_sub [1, 2, 3, 0, 4, 5, 6, 7, 8] rfl (fX9_joinOf_w60 E rc18 hrc18 σ x1 x2 (x3 + ((x8 * (σ.1 15 x8.toNatClampNeg)))) x4 x5 x6 x7 x8 r hf)
    · have hf := gn hf c8
      refine g_iload E 8 dX9_joinOf_48 rfl ?_
      refine g_iload E 4 dX9_joinOf_50 rfl ?_
      refine g_icmp_ge (tgt := 60) E dX9_joinOf_52 (by decide) (fun c9 => ?_) (fun c9 => ?_)
      · have hf := gp hf c9
        exact g_sub [1, 2, 3, 0, 4, 5, 6, 7, 8] rfl (fX9_joinOf_w60 E rc18 hrc18 σ x1 x2 (x3 + ((x8 * (σ.1 15 x8.toNatClampNeg)))) x4 x5 x6 x7 x8 r hf)
      · have hf := gn hf c9
        refine g_iload E 8 dX9_joinOf_55 rfl ?_
        refine g_goto (tgt := 62) E dX9_joinOf_57 (by decide) ?_
        exact g_sub [1, 2, 3, 0, 5, 6, 7, 8] rfl (fX9_joinOf_w62 E rc18 hrc18 σ x1 x2 (x3 + ((x8 * (σ.1 15 x8.toNatClampNeg)))) x5 x6 x7 x8 x8 r hf)
theorem fX9_joinOf_v18 {k : gK} {X : gX} (E : gE k X cX9_joinOf RX9 wsX9_joinOf 9 (some .int) rm_fX9_joinOf) : ∀ (n : Nat) (σ : St) (x1 : Int32) (x2 : Int32) (x3 : Int32) (x4 : Int32) (x5 : Int32) (x6 : Int32) (x7 : Int32) (x8 : Int32) (r : Int32 × St), fX9_joinOf_l18 n σ x1 x2 x3 x4 x5 x6 x7 x8 = some r → G k X 9 (some (.int r.1)) (mw k.2.2.2 r.2) (mw k.2.2.2 σ) [(0, .ref (k.2.2.2.1 0)), (1, .int x1), (2, .int x2), (3, .int x3), (4, .int x4), (5, .int x5), (6, .int x6), (7, .int x7), (8, .int x8)] [] 18 := by
  intro n
  induction n with
  | zero => intro σ x1 x2 x3 x4 x5 x6 x7 x8 r hf; cases hf
  | succ n ih => intro σ x1 x2 x3 x4 x5 x6 x7 x8 r hf; exact fX9_joinOf_w18 E (fX9_joinOf_l18 n) ih σ x1 x2 x3 x4 x5 x6 x7 x8 r hf
set_option maxHeartbeats 4000000 in
set_option maxRecDepth 100000 in
theorem fX9_joinOf_c (k : gK) (σ : St) (x1 : Int32) (x2 : Int32) (r : Int32 × St) (hf : fX9_joinOf σ x1 x2 = some r) : MC k yX9_joinOf wsX9_joinOf rm_fX9_joinOf [.ref (k.2.2.2.1 0), .int x1, .int x2] (mw k.2.2.2 σ) (some (.int r.1)) (mw k.2.2.2 r.2) := by
  refine MC_of (cc := cX9_joinOf) (maxL := 9) (ret := (some .int)) (own := RX9) (lvs := [(0, .ref (k.2.2.2.1 0)), (1, .int x1), (2, .int x2)]) (by decide) rfl rfl (Nat.le_of_ble_eq_true rfl) rfl (fun X E => ?_)
  unfold fX9_joinOf at hf
  refine g_iconst (v := (0 : Int32)) E dX9_joinOf_0 (by decide) ?_
  refine g_istore_n E [(3, .int (0 : Int32)), (0, .ref (k.2.2.2.1 0)), (1, .int x1), (2, .int x2)] dX9_joinOf_1 rfl (by decide) rfl ?_
  refine g_bipush (v := (9 : Int32)) E dX9_joinOf_2 (by decide) ?_
  refine g_istore E [(4, .int (9 : Int32)), (3, .int (0 : Int32)), (0, .ref (k.2.2.2.1 0)), (1, .int x1), (2, .int x2)] dX9_joinOf_4 (by decide) rfl ?_
  refine g_iconst (v := (0 : Int32)) E dX9_joinOf_6 (by decide) ?_
  refine g_istore E [(5, .int (0 : Int32)), (4, .int (9 : Int32)), (3, .int (0 : Int32)), (0, .ref (k.2.2.2.1 0)), (1, .int x1), (2, .int x2)] dX9_joinOf_7 (by decide) rfl ?_
  refine g_iconst (v := (0 : Int32)) E dX9_joinOf_9 (by decide) ?_
  refine g_istore E [(6, .int (0 : Int32)), (5, .int (0 : Int32)), (4, .int (9 : Int32)), (3, .int (0 : Int32)), (0, .ref (k.2.2.2.1 0)), (1, .int x1), (2, .int x2)] dX9_joinOf_10 (by decide) rfl ?_
  refine g_iconst (v := (0 : Int32)) E dX9_joinOf_12 (by decide) ?_
  refine g_istore E [(7, .int (0 : Int32)), (6, .int (0 : Int32)), (5, .int (0 : Int32)), (4, .int (9 : Int32)), (3, .int (0 : Int32)), (0, .ref (k.2.2.2.1 0)), (1, .int x1), (2, .int x2)] dX9_joinOf_13 (by decide) rfl ?_
  refine g_iconst (v := (0 : Int32)) E dX9_joinOf_15 (by decide) ?_
  refine g_istore E [(8, .int (0 : Int32)), (7, .int (0 : Int32)), (6, .int (0 : Int32)), (5, .int (0 : Int32)), (4, .int (9 : Int32)), (3, .int (0 : Int32)), (0, .ref (k.2.2.2.1 0)), (1, .int x1), (2, .int x2)] dX9_joinOf_16 (by decide) rfl ?_
  exact g_sub [6, 7, 8, 5, 4, 3, 2, 1, 0] rfl (fX9_joinOf_v18 E gF σ x1 x2 (0 : Int32) (9 : Int32) (0 : Int32) (0 : Int32) (0 : Int32) (0 : Int32) r hf)
theorem hi_X9_yesOf_X9 : ∀ w ∈ wsX90, w ∈ wsX9_yesOf := by decide +kernel
theorem hk_X9_yesOf_118 : Cond.fieldLink RX9 118 "PaperMarksModel" "clauses" "I" ∈ wsX9_yesOf := by decide +kernel
theorem hk_X9_yesOf_43 : Cond.fieldLink RX9 43 "PaperMarksModel" "clauseJoin" "[I" ∈ wsX9_yesOf := by decide +kernel
theorem hk_X9_yesOf_46 : Cond.fieldLink RX9 46 "PaperMarksModel" "clauseOver" "[I" ∈ wsX9_yesOf := by decide +kernel
theorem hk_X9_yesOf_49 : Cond.fieldLink RX9 49 "PaperMarksModel" "clauseCoin" "[I" ∈ wsX9_yesOf := by decide +kernel
theorem hk_X9_yesOf_52 : Cond.fieldLink RX9 52 "PaperMarksModel" "given" "[I" ∈ wsX9_yesOf := by decide +kernel
def rm_fX9_yesOf : Room := { frames := 1, cells := 0, slots := 0, locals := 28 }
set_option maxHeartbeats 4000000 in
set_option maxRecDepth 100000 in
theorem fX9_yesOf_w27 {k : gK} {X : gX} (E : gE k X cX9_yesOf RX9 wsX9_yesOf 3 (some .int) rm_fX9_yesOf) (rc27 : St → Int32 → Int32 → Option (Int32 × St)) (hrc27 : ∀ (σ : St) (x1 : Int32) (x2 : Int32) (r : Int32 × St), rc27 σ x1 x2 = some r → G k X 3 (some (.int r.1)) (mw k.2.2.2 r.2) (mw k.2.2.2 σ) [(0, .ref (k.2.2.2.1 0)), (1, .int x1), (2, .int x2)] [] 27) (σ : St) (x1 : Int32) (x2 : Int32) (r : Int32 × St) (hf : fX9_yesOf_b27 rc27 σ x1 x2 = some r) : G k X 3 (some (.int r.1)) (mw k.2.2.2 r.2) (mw k.2.2.2 σ) [(0, .ref (k.2.2.2.1 0)), (1, .int x1), (2, .int x2)] [] 27 := by
  unfold fX9_yesOf_b27 at hf
  refine g_iload_n E 2 dX9_yesOf_27 rfl rfl ?_
  refine g_aload_n E 0 dX9_yesOf_28 rfl rfl ?_
  refine g_get (C := RX9) (T := TX9) (N := 20) (ci := 9) E 0 17 (.int (σ.2.1 3)) hi_X9_yesOf_X9 (mwG0 _ _) rfl (by decide) hk_X9_yesOf_118 rfl dX9_yesOf_29 ?_
  refine g_icmp_ge (tgt := 72) E dX9_yesOf_32 (by decide) (fun c1 => ?_) (fun c1 => ?_)
  · have hf := gp hf c1
    refine g_iconst (v := (0 : Int32)) E dX9_yesOf_72 (by decide) ?_
    cases hf
    exact g_iret E dX9_yesOf_73
  · have hf := gn hf c1
    refine g_iload_n E 1 dX9_yesOf_35 rfl rfl ?_
    refine g_if_le (tgt := 72) E dX9_yesOf_36 (by decide) (fun c2 => ?_) (fun c2 => ?_)
    · have hf := gp hf c2
      refine g_iconst (v := (0 : Int32)) E dX9_yesOf_72 (by decide) ?_
      cases hf
      exact g_iret E dX9_yesOf_73
    · have hf := gn hf c2
      refine g_aload_n E 0 dX9_yesOf_39 rfl rfl ?_
      refine g_aload_n E 0 dX9_yesOf_40 rfl rfl ?_
      refine g_get (C := RX9) (T := TX9) (N := 20) (ci := 9) E 0 14 (.ref (k.2.2.2.1 12)) hi_X9_yesOf_X9 (mwG0 _ _) rfl (by decide) hk_X9_yesOf_43 rfl dX9_yesOf_41 ?_
      refine g_iload_n E 2 dX9_yesOf_44 rfl rfl ?_
      obtain ⟨hi3, hf⟩ := gd hf
      refine g_iald E 12 (σ.1 12) (mwG12 _ _) hi3 dX9_yesOf_45 ?_
      refine g_iload_n E 1 dX9_yesOf_46 rfl rfl ?_
      obtain ⟨q4, hq5, hf⟩ := gb hf
      refine g_callV (C := RX9) (T := TX9) (N := 20) (ci := 9) (As := [.int (σ.1 12 x2.toNatClampNeg), .int x1]) (rest := []) (n := 2) E 0 (fX9_joinOf_c k σ (σ.1 12 x2.toNatClampNeg) x1 q4 hq5) gX9_yesOf_X9_joinOf rfl rfl rfl (by decide +kernel) ⟨Nat.le_of_ble_eq_true rfl, Nat.le_of_ble_eq_true rfl⟩ rfl rfl (Nat.le_of_ble_eq_true rfl) rfl (mwG0 _ _) dX9_yesOf_47 ?_
      refine g_aload_n E 0 dX9_yesOf_50 rfl rfl ?_
      refine g_get (C := RX9) (T := TX9) (N := 20) (ci := 9) E 0 15 (.ref (k.2.2.2.1 13)) hi_X9_yesOf_X9 (mwG0 _ _) rfl (by decide) hk_X9_yesOf_46 rfl dX9_yesOf_51 ?_
      refine g_iload_n E 2 dX9_yesOf_54 rfl rfl ?_
      obtain ⟨hi6, hf⟩ := gd hf
      refine g_iald E 13 (q4.2.1 13) (mwG13 _ _) hi6 dX9_yesOf_55 ?_
      refine g_icmp_le (tgt := 66) E dX9_yesOf_56 (by decide) (fun c7 => ?_) (fun c7 => ?_)
      · have hf := gp hf c7
        refine g_iinc E 2 [(2, .int (x2 + (1 : Int32))), (0, .ref (k.2.2.2.1 0)), (1, .int x1)] (x2 + (1 : Int32)) dX9_yesOf_66 rfl (by rfl) (by decide) rfl ?_
        refine g_goto (tgt := 27) E dX9_yesOf_69 (by decide) ?_
        exact g_sub [1, 2, 0] rfl (hrc27 q4.2 x1 (x2 + (1 : Int32)) r hf)
      · have hf := gn hf c7
        refine g_aload_n E 0 dX9_yesOf_59 rfl rfl ?_
        refine g_get (C := RX9) (T := TX9) (N := 20) (ci := 9) E 0 16 (.ref (k.2.2.2.1 14)) hi_X9_yesOf_X9 (mwG0 _ _) rfl (by decide) hk_X9_yesOf_49 rfl dX9_yesOf_60 ?_
        refine g_iload_n E 2 dX9_yesOf_63 rfl rfl ?_
        obtain ⟨hi8, hf⟩ := gd hf
        refine g_iald E 14 (q4.2.1 14) (mwG14 _ _) hi8 dX9_yesOf_64 ?_
        cases hf
        exact g_iret E dX9_yesOf_65
theorem fX9_yesOf_v27 {k : gK} {X : gX} (E : gE k X cX9_yesOf RX9 wsX9_yesOf 3 (some .int) rm_fX9_yesOf) : ∀ (n : Nat) (σ : St) (x1 : Int32) (x2 : Int32) (r : Int32 × St), fX9_yesOf_l27 n σ x1 x2 = some r → G k X 3 (some (.int r.1)) (mw k.2.2.2 r.2) (mw k.2.2.2 σ) [(0, .ref (k.2.2.2.1 0)), (1, .int x1), (2, .int x2)] [] 27 := by
  intro n
  induction n with
  | zero => intro σ x1 x2 r hf; cases hf
  | succ n ih => intro σ x1 x2 r hf; exact fX9_yesOf_w27 E (fX9_yesOf_l27 n) ih σ x1 x2 r hf
set_option maxHeartbeats 4000000 in
set_option maxRecDepth 100000 in
theorem fX9_yesOf_w4 {k : gK} {X : gX} (E : gE k X cX9_yesOf RX9 wsX9_yesOf 3 (some .int) rm_fX9_yesOf) (rc4 : St → Int32 → Int32 → Option (Int32 × St)) (hrc4 : ∀ (σ : St) (x1 : Int32) (x2 : Int32) (r : Int32 × St), rc4 σ x1 x2 = some r → G k X 3 (some (.int r.1)) (mw k.2.2.2 r.2) (mw k.2.2.2 σ) [(0, .ref (k.2.2.2.1 0)), (1, .int x1), (2, .int x2)] [] 4) (σ : St) (x1 : Int32) (x2 : Int32) (r : Int32 × St) (hf : fX9_yesOf_b4 rc4 σ x1 x2 = some r) : G k X 3 (some (.int r.1)) (mw k.2.2.2 r.2) (mw k.2.2.2 σ) [(0, .ref (k.2.2.2.1 0)), (1, .int x1), (2, .int x2)] [] 4 := by
  unfold fX9_yesOf_b4 at hf
  refine g_iload_n E 2 dX9_yesOf_4 rfl rfl ?_
  refine g_bipush (v := (6 : Int32)) E dX9_yesOf_5 (by decide) ?_
  refine g_icmp_ge (tgt := 25) E dX9_yesOf_7 (by decide) (fun c1 => ?_) (fun c1 => ?_)
  · have hf := gp hf c1
    refine g_iconst (v := (0 : Int32)) E dX9_yesOf_25 (by decide) ?_
    refine g_istore_n E [(2, .int (0 : Int32)), (0, .ref (k.2.2.2.1 0)), (1, .int x1)] dX9_yesOf_26 rfl (by decide) rfl ?_
    exact g_sub [1, 2, 0] rfl (fX9_yesOf_v27 E gF σ x1 (0 : Int32) r hf)
  · have hf := gn hf c1
    refine g_iload_n E 1 dX9_yesOf_10 rfl rfl ?_
    refine g_aload_n E 0 dX9_yesOf_11 rfl rfl ?_
    refine g_get (C := RX9) (T := TX9) (N := 20) (ci := 9) E 0 18 (.ref (k.2.2.2.1 15)) hi_X9_yesOf_X9 (mwG0 _ _) rfl (by decide) hk_X9_yesOf_52 rfl dX9_yesOf_12 ?_
    refine g_iload_n E 2 dX9_yesOf_15 rfl rfl ?_
    obtain ⟨hi2, hf⟩ := gd hf
    refine g_iald E 15 (σ.1 15) (mwG15 _ _) hi2 dX9_yesOf_16 ?_
    refine g_iadd E dX9_yesOf_17 ?_
    refine g_istore_n E [(1, .int (x1 + (σ.1 15 x2.toNatClampNeg))), (0, .ref (k.2.2.2.1 0)), (2, .int x2)] dX9_yesOf_18 rfl (by decide) rfl ?_
    refine g_iinc E 2 [(2, .int (x2 + (1 : Int32))), (1, .int (x1 + (σ.1 15 x2.toNatClampNeg))), (0, .ref (k.2.2.2.1 0))] (x2 + (1 : Int32)) dX9_yesOf_19 rfl (by rfl) (by decide) rfl ?_
    refine g_goto (tgt := 4) E dX9_yesOf_22 (by decide) ?_
    exact g_sub [2, 1, 0] rfl (hrc4 σ (x1 + (σ.1 15 x2.toNatClampNeg)) (x2 + (1 : Int32)) r hf)
theorem fX9_yesOf_v4 {k : gK} {X : gX} (E : gE k X cX9_yesOf RX9 wsX9_yesOf 3 (some .int) rm_fX9_yesOf) : ∀ (n : Nat) (σ : St) (x1 : Int32) (x2 : Int32) (r : Int32 × St), fX9_yesOf_l4 n σ x1 x2 = some r → G k X 3 (some (.int r.1)) (mw k.2.2.2 r.2) (mw k.2.2.2 σ) [(0, .ref (k.2.2.2.1 0)), (1, .int x1), (2, .int x2)] [] 4 := by
  intro n
  induction n with
  | zero => intro σ x1 x2 r hf; cases hf
  | succ n ih => intro σ x1 x2 r hf; exact fX9_yesOf_w4 E (fX9_yesOf_l4 n) ih σ x1 x2 r hf
set_option maxHeartbeats 4000000 in
set_option maxRecDepth 100000 in
theorem fX9_yesOf_c (k : gK) (σ : St) (r : Int32 × St) (hf : fX9_yesOf σ = some r) : MC k yX9_yesOf wsX9_yesOf rm_fX9_yesOf [.ref (k.2.2.2.1 0)] (mw k.2.2.2 σ) (some (.int r.1)) (mw k.2.2.2 r.2) := by
  refine MC_of (cc := cX9_yesOf) (maxL := 3) (ret := (some .int)) (own := RX9) (lvs := [(0, .ref (k.2.2.2.1 0))]) (by decide) rfl rfl (Nat.le_of_ble_eq_true rfl) rfl (fun X E => ?_)
  unfold fX9_yesOf at hf
  refine g_iconst (v := (0 : Int32)) E dX9_yesOf_0 (by decide) ?_
  refine g_istore_n E [(1, .int (0 : Int32)), (0, .ref (k.2.2.2.1 0))] dX9_yesOf_1 rfl (by decide) rfl ?_
  refine g_iconst (v := (0 : Int32)) E dX9_yesOf_2 (by decide) ?_
  refine g_istore_n E [(2, .int (0 : Int32)), (1, .int (0 : Int32)), (0, .ref (k.2.2.2.1 0))] dX9_yesOf_3 rfl (by decide) rfl ?_
  exact g_sub [2, 1, 0] rfl (fX9_yesOf_v4 E gF σ (0 : Int32) (0 : Int32) r hf)
theorem hi_X9_clearGiven_X9 : ∀ w ∈ wsX90, w ∈ wsX9_clearGiven := by decide +kernel
theorem hk_X9_clearGiven_52 : Cond.fieldLink RX9 52 "PaperMarksModel" "given" "[I" ∈ wsX9_clearGiven := by decide +kernel
def rm_fX9_clearGiven : Room := { frames := 0, cells := 0, slots := 0, locals := 0 }
set_option maxHeartbeats 4000000 in
set_option maxRecDepth 100000 in
theorem fX9_clearGiven_w2 {k : gK} {X : gX} (E : gE k X cX9_clearGiven RX9 wsX9_clearGiven 2 none rm_fX9_clearGiven) (rc2 : St → Int32 → Option (Unit × St)) (hrc2 : ∀ (σ : St) (x1 : Int32) (r : Unit × St), rc2 σ x1 = some r → G k X 2 (none) (mw k.2.2.2 r.2) (mw k.2.2.2 σ) [(0, .ref (k.2.2.2.1 0)), (1, .int x1)] [] 2) (σ : St) (x1 : Int32) (r : Unit × St) (hf : fX9_clearGiven_b2 rc2 σ x1 = some r) : G k X 2 (none) (mw k.2.2.2 r.2) (mw k.2.2.2 σ) [(0, .ref (k.2.2.2.1 0)), (1, .int x1)] [] 2 := by
  unfold fX9_clearGiven_b2 at hf
  refine g_iload_n E 1 dX9_clearGiven_2 rfl rfl ?_
  refine g_bipush (v := (6 : Int32)) E dX9_clearGiven_3 (by decide) ?_
  refine g_icmp_ge (tgt := 21) E dX9_clearGiven_5 (by decide) (fun c1 => ?_) (fun c1 => ?_)
  · have hf := gp hf c1
    cases hf
    exact g_vret E dX9_clearGiven_21
  · have hf := gn hf c1
    refine g_aload_n E 0 dX9_clearGiven_8 rfl rfl ?_
    refine g_get (C := RX9) (T := TX9) (N := 20) (ci := 9) E 0 18 (.ref (k.2.2.2.1 15)) hi_X9_clearGiven_X9 (mwG0 _ _) rfl (by decide) hk_X9_clearGiven_52 rfl dX9_clearGiven_9 ?_
    refine g_iload_n E 1 dX9_clearGiven_12 rfl rfl ?_
    refine g_iconst (v := (0 : Int32)) E dX9_clearGiven_13 (by decide) ?_
    obtain ⟨hi2, hf⟩ := gd hf
    refine g_iast E 15 (mw k.2.2.2 (uA σ 15 x1.toNatClampNeg (0 : Int32))) (σ.1 15) (mwG15 _ _) hi2 (mwA15 _ _ _ _) dX9_clearGiven_14 ?_
    refine g_iinc E 1 [(1, .int (x1 + (1 : Int32))), (0, .ref (k.2.2.2.1 0))] (x1 + (1 : Int32)) dX9_clearGiven_15 rfl (by rfl) (by decide) rfl ?_
    refine g_goto (tgt := 2) E dX9_clearGiven_18 (by decide) ?_
    exact g_sub [1, 0] rfl (hrc2 (uA σ 15 x1.toNatClampNeg (0 : Int32)) (x1 + (1 : Int32)) r hf)
theorem fX9_clearGiven_v2 {k : gK} {X : gX} (E : gE k X cX9_clearGiven RX9 wsX9_clearGiven 2 none rm_fX9_clearGiven) : ∀ (n : Nat) (σ : St) (x1 : Int32) (r : Unit × St), fX9_clearGiven_l2 n σ x1 = some r → G k X 2 (none) (mw k.2.2.2 r.2) (mw k.2.2.2 σ) [(0, .ref (k.2.2.2.1 0)), (1, .int x1)] [] 2 := by
  intro n
  induction n with
  | zero => intro σ x1 r hf; cases hf
  | succ n ih => intro σ x1 r hf; exact fX9_clearGiven_w2 E (fX9_clearGiven_l2 n) ih σ x1 r hf
set_option maxHeartbeats 4000000 in
set_option maxRecDepth 100000 in
theorem fX9_clearGiven_c (k : gK) (σ : St) (r : Unit × St) (hf : fX9_clearGiven σ = some r) : MC k yX9_clearGiven wsX9_clearGiven rm_fX9_clearGiven [.ref (k.2.2.2.1 0)] (mw k.2.2.2 σ) (none) (mw k.2.2.2 r.2) := by
  refine MC_of (cc := cX9_clearGiven) (maxL := 2) (ret := none) (own := RX9) (lvs := [(0, .ref (k.2.2.2.1 0))]) (by decide) rfl rfl (Nat.le_of_ble_eq_true rfl) rfl (fun X E => ?_)
  unfold fX9_clearGiven at hf
  refine g_iconst (v := (0 : Int32)) E dX9_clearGiven_0 (by decide) ?_
  refine g_istore_n E [(1, .int (0 : Int32)), (0, .ref (k.2.2.2.1 0))] dX9_clearGiven_1 rfl (by decide) rfl ?_
  exact g_sub [1, 0] rfl (fX9_clearGiven_v2 E gF σ (0 : Int32) r hf)
theorem hi_X9_yes_X9 : ∀ w ∈ wsX90, w ∈ wsX9_yes := by decide +kernel
theorem hk_X9_yes_63 : Cond.fieldLink RX9 63 "PaperMarksModel" "judges" "I" ∈ wsX9_yes := by decide +kernel
theorem hk_X9_yes_34 : Cond.fieldLink RX9 34 "PaperMarksModel" "marks" "[I" ∈ wsX9_yes := by decide +kernel
theorem hk_X9_yes_52 : Cond.fieldLink RX9 52 "PaperMarksModel" "given" "[I" ∈ wsX9_yes := by decide +kernel
theorem hk_X9_yes_118 : Cond.fieldLink RX9 118 "PaperMarksModel" "clauses" "I" ∈ wsX9_yes := by decide +kernel
def rm_fX9_yes : Room := { frames := 2, cells := 0, slots := 0, locals := 50 }
set_option maxHeartbeats 4000000 in
set_option maxRecDepth 100000 in
theorem fX9_yes_w59 {k : gK} {X : gX} (E : gE k X cX9_yes RX9 wsX9_yes 4 (some .int) rm_fX9_yes) (rc26 : St → Int32 → Int32 → Option (Int32 × St)) (hrc26 : ∀ (σ : St) (x1 : Int32) (x2 : Int32) (r : Int32 × St), rc26 σ x1 x2 = some r → G k X 4 (some (.int r.1)) (mw k.2.2.2 r.2) (mw k.2.2.2 σ) [(0, .ref (k.2.2.2.1 0)), (1, .int x1), (2, .int x2)] [] 26) (σ : St) (x1 : Int32) (x2 : Int32) (r : Int32 × St) (hf : fX9_yes_b59 rc26 σ x1 x2 = some r) : G k X 4 (some (.int r.1)) (mw k.2.2.2 r.2) (mw k.2.2.2 σ) [(0, .ref (k.2.2.2.1 0)), (1, .int x1), (2, .int x2)] [] 59 := by
  unfold fX9_yes_b59 at hf
  refine g_iinc E 2 [(2, .int (x2 + (1 : Int32))), (0, .ref (k.2.2.2.1 0)), (1, .int x1)] (x2 + (1 : Int32)) dX9_yes_59 rfl (by rfl) (by decide) rfl ?_
  refine g_goto (tgt := 26) E dX9_yes_62 (by decide) ?_
  exact g_sub [1, 2, 0] rfl (hrc26 σ x1 (x2 + (1 : Int32)) r hf)
set_option maxHeartbeats 4000000 in
set_option maxRecDepth 100000 in
theorem fX9_yes_w26 {k : gK} {X : gX} (E : gE k X cX9_yes RX9 wsX9_yes 4 (some .int) rm_fX9_yes) (rc26 : St → Int32 → Int32 → Option (Int32 × St)) (hrc26 : ∀ (σ : St) (x1 : Int32) (x2 : Int32) (r : Int32 × St), rc26 σ x1 x2 = some r → G k X 4 (some (.int r.1)) (mw k.2.2.2 r.2) (mw k.2.2.2 σ) [(0, .ref (k.2.2.2.1 0)), (1, .int x1), (2, .int x2)] [] 26) (σ : St) (x1 : Int32) (x2 : Int32) (r : Int32 × St) (hf : fX9_yes_b26 rc26 σ x1 x2 = some r) : G k X 4 (some (.int r.1)) (mw k.2.2.2 r.2) (mw k.2.2.2 σ) [(0, .ref (k.2.2.2.1 0)), (1, .int x1), (2, .int x2)] [] 26 := by
  unfold fX9_yes_b26 at hf
  refine g_iload_n E 2 dX9_yes_26 rfl rfl ?_
  refine g_aload_n E 0 dX9_yes_27 rfl rfl ?_
  refine g_get (C := RX9) (T := TX9) (N := 20) (ci := 9) E 0 3 (.int (σ.2.1 0)) hi_X9_yes_X9 (mwG0 _ _) rfl (by decide) hk_X9_yes_63 rfl dX9_yes_28 ?_
  refine g_icmp_ge (tgt := 65) E dX9_yes_31 (by decide) (fun c1 => ?_) (fun c1 => ?_)
  · have hf := gp hf c1
    refine g_aload_n E 0 dX9_yes_65 rfl rfl ?_
    obtain ⟨q2, hq3, hf⟩ := gb hf
    refine g_callV (C := RX9) (T := TX9) (N := 20) (ci := 9) (As := []) (rest := []) (n := 0) E 0 (fX9_yesOf_c k σ  q2 hq3) gX9_yes_X9_yesOf rfl rfl rfl (by decide +kernel) ⟨Nat.le_of_ble_eq_true rfl, Nat.le_of_ble_eq_true rfl⟩ rfl rfl (Nat.le_of_ble_eq_true rfl) rfl (mwG0 _ _) dX9_yes_66 ?_
    cases hf
    exact g_iret E dX9_yes_69
  · have hf := gn hf c1
    refine g_aload_n E 0 dX9_yes_34 rfl rfl ?_
    refine g_get (C := RX9) (T := TX9) (N := 20) (ci := 9) E 0 10 (.ref (k.2.2.2.1 9)) hi_X9_yes_X9 (mwG0 _ _) rfl (by decide) hk_X9_yes_34 rfl dX9_yes_35 ?_
    refine g_iload_n E 2 dX9_yes_38 rfl rfl ?_
    refine g_iload_n E 1 dX9_yes_39 rfl rfl ?_
    obtain ⟨q4, hq5, hf⟩ := gb hf
    refine g_callS (As := [.int x2, .int x1]) (rest := [.ref (k.2.2.2.1 9)]) (n := 2) E (fX9_at_c k σ x2 x1 q4 hq5) gX9_yes_X9_at rfl rfl rfl (by decide +kernel) ⟨Nat.le_of_ble_eq_true rfl, Nat.le_of_ble_eq_true rfl⟩ rfl rfl (Nat.le_of_ble_eq_true rfl) dX9_yes_40 ?_
    obtain ⟨hi6, hf⟩ := gd hf
    refine g_iald E 9 (q4.2.1 9) (mwG9 _ _) hi6 dX9_yes_43 ?_
    refine g_istore_n E [(3, .int (q4.2.1 9 q4.1.toNatClampNeg)), (0, .ref (k.2.2.2.1 0)), (1, .int x1), (2, .int x2)] dX9_yes_44 rfl (by decide) rfl ?_
    refine g_iload_n E 0 dX9_yes_45 rfl rfl ?_
    refine g_if_lt (tgt := 59) E dX9_yes_46 (by decide) (fun c7 => ?_) (fun c7 => ?_)
    · have hf := gp hf c7
      exact g_sub [1, 2, 3] rfl (fX9_yes_w59 E rc26 hrc26 q4.2 x1 x2 r hf)
    · have hf := gn hf c7
      refine g_aload_n E 1 dX9_yes_49 rfl rfl ?_
      refine g_get (C := RX9) (T := TX9) (N := 20) (ci := 9) E 0 18 (.ref (k.2.2.2.1 15)) hi_X9_yes_X9 (mwG0 _ _) rfl (by decide) hk_X9_yes_52 rfl dX9_yes_50 ?_
      refine g_iload_n E 0 dX9_yes_53 rfl rfl ?_
      refine g_dup2 E dX9_yes_54 rfl rfl ?_
      obtain ⟨hi8, hf⟩ := gd hf
      refine g_iald E 15 (q4.2.1 15) (mwG15 _ _) hi8 dX9_yes_55 ?_
      refine g_iconst (v := (1 : Int32)) E dX9_yes_56 (by decide) ?_
      refine g_iadd E dX9_yes_57 ?_
      obtain ⟨hi9, hf⟩ := gd hf
      refine g_iast E 15 (mw k.2.2.2 (uA q4.2 15 (q4.2.1 9 q4.1.toNatClampNeg).toNatClampNeg ((((q4.2.1 15 (q4.2.1 9 q4.1.toNatClampNeg).toNatClampNeg)) + (1 : Int32))))) (q4.2.1 15) (mwG15 _ _) hi9 (mwA15 _ _ _ _) dX9_yes_58 ?_
      exact g_sub [1, 2, 3] rfl (fX9_yes_w59 E rc26 hrc26 (uA q4.2 15 (q4.2.1 9 q4.1.toNatClampNeg).toNatClampNeg ((((q4.2.1 15 (q4.2.1 9 q4.1.toNatClampNeg).toNatClampNeg)) + (1 : Int32)))) x1 x2 r hf)
theorem fX9_yes_v26 {k : gK} {X : gX} (E : gE k X cX9_yes RX9 wsX9_yes 4 (some .int) rm_fX9_yes) : ∀ (n : Nat) (σ : St) (x1 : Int32) (x2 : Int32) (r : Int32 × St), fX9_yes_l26 n σ x1 x2 = some r → G k X 4 (some (.int r.1)) (mw k.2.2.2 r.2) (mw k.2.2.2 σ) [(0, .ref (k.2.2.2.1 0)), (1, .int x1), (2, .int x2)] [] 26 := by
  intro n
  induction n with
  | zero => intro σ x1 x2 r hf; cases hf
  | succ n ih => intro σ x1 x2 r hf; exact fX9_yes_w26 E (fX9_yes_l26 n) ih σ x1 x2 r hf
set_option maxHeartbeats 4000000 in
set_option maxRecDepth 100000 in
theorem fX9_yes_c (k : gK) (σ : St) (x1 : Int32) (r : Int32 × St) (hf : fX9_yes σ x1 = some r) : MC k yX9_yes wsX9_yes rm_fX9_yes [.ref (k.2.2.2.1 0), .int x1] (mw k.2.2.2 σ) (some (.int r.1)) (mw k.2.2.2 r.2) := by
  refine MC_of (cc := cX9_yes) (maxL := 4) (ret := (some .int)) (own := RX9) (lvs := [(0, .ref (k.2.2.2.1 0)), (1, .int x1)]) (by decide) rfl rfl (Nat.le_of_ble_eq_true rfl) rfl (fun X E => ?_)
  unfold fX9_yes at hf
  refine g_aload_n E 0 dX9_yes_0 rfl rfl ?_
  refine g_iload_n E 1 dX9_yes_1 rfl rfl ?_
  obtain ⟨q1, hq2, hf⟩ := gb hf
  refine g_callV (C := RX9) (T := TX9) (N := 20) (ci := 9) (As := [.int x1]) (rest := []) (n := 1) E 0 (fX9_isPaper_c k σ x1 q1 hq2) gX9_yes_X9_isPaper rfl rfl rfl (by decide +kernel) ⟨Nat.le_of_ble_eq_true rfl, Nat.le_of_ble_eq_true rfl⟩ rfl rfl (Nat.le_of_ble_eq_true rfl) rfl (mwG0 _ _) dX9_yes_2 ?_
  refine g_if_ne (tgt := 10) E dX9_yes_5 (by decide) (fun c3 => ?_) (fun c3 => ?_)
  · have hf := gn hf c3
    refine g_aload_n E 0 dX9_yes_10 rfl rfl ?_
    refine g_get (C := RX9) (T := TX9) (N := 20) (ci := 9) E 0 17 (.int (q1.2.2.1 3)) hi_X9_yes_X9 (mwG0 _ _) rfl (by decide) hk_X9_yes_118 rfl dX9_yes_11 ?_
    refine g_if_ne (tgt := 20) E dX9_yes_14 (by decide) (fun c4 => ?_) (fun c4 => ?_)
    · have hf := gn hf c4
      refine g_aload_n E 0 dX9_yes_20 rfl rfl ?_
      obtain ⟨q5, hq6, hf⟩ := gb hf
      refine g_callV (C := RX9) (T := TX9) (N := 20) (ci := 9) (As := []) (rest := []) (n := 0) E 0 (fX9_clearGiven_c k q1.2  q5 hq6) gX9_yes_X9_clearGiven rfl rfl rfl (by decide +kernel) ⟨Nat.le_of_ble_eq_true rfl, Nat.le_of_ble_eq_true rfl⟩ rfl rfl (Nat.le_of_ble_eq_true rfl) rfl (mwG0 _ _) dX9_yes_21 ?_
      refine g_iconst (v := (0 : Int32)) E dX9_yes_24 (by decide) ?_
      refine g_istore_n E [(2, .int (0 : Int32)), (0, .ref (k.2.2.2.1 0)), (1, .int x1)] dX9_yes_25 rfl (by decide) rfl ?_
      exact g_sub [1, 2, 0] rfl (fX9_yes_v26 E gF q5.2 x1 (0 : Int32) r hf)
    · have hf := gp hf c4
      refine g_bipush (v := (-3 : Int32)) E dX9_yes_17 (by decide) ?_
      cases hf
      exact g_iret E dX9_yes_19
  · have hf := gp hf c3
    refine g_iconst (v := (-1 : Int32)) E dX9_yes_8 (by decide) ?_
    cases hf
    exact g_iret E dX9_yes_9
theorem hi_X9_isSet_X9 : ∀ w ∈ wsX90, w ∈ wsX9_isSet := by decide +kernel
theorem hk_X9_isSet_63 : Cond.fieldLink RX9 63 "PaperMarksModel" "judges" "I" ∈ wsX9_isSet := by decide +kernel
def rm_fX9_isSet : Room := { frames := 1, cells := 0, slots := 0, locals := 25 }
set_option maxHeartbeats 4000000 in
set_option maxRecDepth 100000 in
theorem fX9_isSet_c (k : gK) (σ : St) (x1 : Int32) (r : Int32 × St) (hf : fX9_isSet σ x1 = some r) : MC k yX9_isSet wsX9_isSet rm_fX9_isSet [.ref (k.2.2.2.1 0), .int x1] (mw k.2.2.2 σ) (some (.int r.1)) (mw k.2.2.2 r.2) := by
  refine MC_of (cc := cX9_isSet) (maxL := 2) (ret := (some .boolean)) (own := RX9) (lvs := [(0, .ref (k.2.2.2.1 0)), (1, .int x1)]) (by decide) rfl rfl (Nat.le_of_ble_eq_true rfl) rfl (fun X E => ?_)
  unfold fX9_isSet at hf
  refine g_iload_n E 1 dX9_isSet_0 rfl rfl ?_
  refine g_i2l E dX9_isSet_1 ?_
  refine g_lconst (v := (0 : Int64)) E dX9_isSet_2 (by decide) ?_
  refine g_iconst (v := (1 : Int32)) E dX9_isSet_3 (by decide) ?_
  refine g_aload_n E 0 dX9_isSet_4 rfl rfl ?_
  refine g_get (C := RX9) (T := TX9) (N := 20) (ci := 9) E 0 3 (.int (σ.2.1 0)) hi_X9_isSet_X9 (mwG0 _ _) rfl (by decide) hk_X9_isSet_63 rfl dX9_isSet_5 ?_
  refine g_ishl E dX9_isSet_8 ?_
  refine g_iconst (v := (1 : Int32)) E dX9_isSet_9 (by decide) ?_
  refine g_isub E dX9_isSet_10 ?_
  refine g_i2l E dX9_isSet_11 ?_
  obtain ⟨q1, hq2, hf⟩ := gb hf
  refine g_callS (As := [.long x1.toInt64, .long (0 : Int64), .long (((((1 : Int32) <<< ((σ.2.1 0) &&& 31))) - (1 : Int32))).toInt64]) (rest := []) (n := 3) E (fX9_in_c k σ x1.toInt64 (0 : Int64) ((((((1 : Int32) <<< ((σ.2.1 0) &&& 31))) - (1 : Int32))).toInt64) q1 hq2) gX9_isSet_X9_in rfl rfl rfl (by decide +kernel) ⟨Nat.le_of_ble_eq_true rfl, Nat.le_of_ble_eq_true rfl⟩ rfl rfl (Nat.le_of_ble_eq_true rfl) dX9_isSet_12 ?_
  obtain ⟨hv3, hf⟩ := gd hf
  cases hf
  exact g_zret E hv3 dX9_isSet_15
def rm_fX9_isPart : Room := { frames := 1, cells := 0, slots := 0, locals := 25 }
set_option maxHeartbeats 4000000 in
set_option maxRecDepth 100000 in
theorem fX9_isPart_c (k : gK) (σ : St) (x0 : Int32) (r : Int32 × St) (hf : fX9_isPart σ x0 = some r) : MC k yX9_isPart wsX9_isPart rm_fX9_isPart [.int x0] (mw k.2.2.2 σ) (some (.int r.1)) (mw k.2.2.2 r.2) := by
  refine MC_of (cc := cX9_isPart) (maxL := 1) (ret := (some .boolean)) (own := RX9) (lvs := [(0, .int x0)]) (by decide) rfl rfl (Nat.le_of_ble_eq_true rfl) rfl (fun X E => ?_)
  unfold fX9_isPart at hf
  refine g_iload_n E 0 dX9_isPart_0 rfl rfl ?_
  refine g_i2l E dX9_isPart_1 ?_
  refine g_lconst (v := (0 : Int64)) E dX9_isPart_2 (by decide) ?_
  refine g_lconst (v := (1 : Int64)) E dX9_isPart_3 (by decide) ?_
  obtain ⟨q1, hq2, hf⟩ := gb hf
  refine g_callS (As := [.long x0.toInt64, .long (0 : Int64), .long (1 : Int64)]) (rest := []) (n := 3) E (fX9_in_c k σ x0.toInt64 (0 : Int64) (1 : Int64) q1 hq2) gX9_isPart_X9_in rfl rfl rfl (by decide +kernel) ⟨Nat.le_of_ble_eq_true rfl, Nat.le_of_ble_eq_true rfl⟩ rfl rfl (Nat.le_of_ble_eq_true rfl) dX9_isPart_4 ?_
  obtain ⟨hv3, hf⟩ := gd hf
  cases hf
  exact g_zret E hv3 dX9_isPart_7
theorem hi_X9_quarters_X9 : ∀ w ∈ wsX90, w ∈ wsX9_quarters := by decide +kernel
theorem hk_X9_quarters_13 : Cond.fieldLink RX9 13 "PaperMarksModel" "slips" "[I" ∈ wsX9_quarters := by decide +kernel
def rm_fX9_quarters : Room := { frames := 0, cells := 0, slots := 0, locals := 0 }
set_option maxHeartbeats 4000000 in
set_option maxRecDepth 100000 in
theorem fX9_quarters_c (k : gK) (σ : St) (x1 : Int32) (x2 : Int32) (r : Int32 × St) (hf : fX9_quarters σ x1 x2 = some r) : MC k yX9_quarters wsX9_quarters rm_fX9_quarters [.ref (k.2.2.2.1 0), .int x1, .int x2] (mw k.2.2.2 σ) (some (.int r.1)) (mw k.2.2.2 r.2) := by
  refine MC_of (cc := cX9_quarters) (maxL := 3) (ret := (some .int)) (own := RX9) (lvs := [(0, .ref (k.2.2.2.1 0)), (1, .int x1), (2, .int x2)]) (by decide) rfl rfl (Nat.le_of_ble_eq_true rfl) rfl (fun X E => ?_)
  unfold fX9_quarters at hf
  refine g_iload_n E 2 dX9_quarters_0 rfl rfl ?_
  refine g_iconst (v := (1 : Int32)) E dX9_quarters_1 (by decide) ?_
  refine g_icmp_ne (tgt := 18) E dX9_quarters_2 (by decide) (fun c1 => ?_) (fun c1 => ?_)
  · have hf := gn hf c1
    refine g_aload_n E 0 dX9_quarters_18 rfl rfl ?_
    refine g_get (C := RX9) (T := TX9) (N := 20) (ci := 9) E 0 1 (.ref (k.2.2.2.1 2)) hi_X9_quarters_X9 (mwG0 _ _) rfl (by decide) hk_X9_quarters_13 rfl dX9_quarters_19 ?_
    refine g_iload_n E 1 dX9_quarters_22 rfl rfl ?_
    obtain ⟨hi2, hf⟩ := gd hf
    refine g_iald E 2 (σ.1 2) (mwG2 _ _) hi2 dX9_quarters_23 ?_
    cases hf
    exact g_iret E dX9_quarters_24
  · have hf := gp hf c1
    refine g_iconst (v := (4 : Int32)) E dX9_quarters_5 (by decide) ?_
    refine g_iconst (v := (2 : Int32)) E dX9_quarters_6 (by decide) ?_
    refine g_aload_n E 0 dX9_quarters_7 rfl rfl ?_
    refine g_get (C := RX9) (T := TX9) (N := 20) (ci := 9) E 0 1 (.ref (k.2.2.2.1 2)) hi_X9_quarters_X9 (mwG0 _ _) rfl (by decide) hk_X9_quarters_13 rfl dX9_quarters_8 ?_
    refine g_iload_n E 1 dX9_quarters_11 rfl rfl ?_
    obtain ⟨hi3, hf⟩ := gd hf
    refine g_iald E 2 (σ.1 2) (mwG2 _ _) hi3 dX9_quarters_12 ?_
    refine g_imul E dX9_quarters_13 ?_
    refine g_isub E dX9_quarters_14 ?_
    refine g_goto (tgt := 24) E dX9_quarters_15 (by decide) ?_
    cases hf
    exact g_iret E dX9_quarters_24
theorem hi_X9_tieWith_X9 : ∀ w ∈ wsX90, w ∈ wsX9_tieWith := by decide +kernel
theorem hk_X9_tieWith_25 : Cond.fieldLink RX9 25 "PaperMarksModel" "writers" "[I" ∈ wsX9_tieWith := by decide +kernel
theorem hk_X9_tieWith_19 : Cond.fieldLink RX9 19 "PaperMarksModel" "ties" "[I" ∈ wsX9_tieWith := by decide +kernel
def rm_fX9_tieWith : Room := { frames := 0, cells := 0, slots := 0, locals := 0 }
set_option maxHeartbeats 4000000 in
set_option maxRecDepth 100000 in
theorem fX9_tieWith_c (k : gK) (σ : St) (x1 : Int32) (x2 : Int32) (r : Int32 × St) (hf : fX9_tieWith σ x1 x2 = some r) : MC k yX9_tieWith wsX9_tieWith rm_fX9_tieWith [.ref (k.2.2.2.1 0), .int x1, .int x2] (mw k.2.2.2 σ) (some (.int r.1)) (mw k.2.2.2 r.2) := by
  refine MC_of (cc := cX9_tieWith) (maxL := 3) (ret := (some .int)) (own := RX9) (lvs := [(0, .ref (k.2.2.2.1 0)), (1, .int x1), (2, .int x2)]) (by decide) rfl rfl (Nat.le_of_ble_eq_true rfl) rfl (fun X E => ?_)
  unfold fX9_tieWith at hf
  refine g_aload_n E 0 dX9_tieWith_0 rfl rfl ?_
  refine g_get (C := RX9) (T := TX9) (N := 20) (ci := 9) E 0 6 (.ref (k.2.2.2.1 6)) hi_X9_tieWith_X9 (mwG0 _ _) rfl (by decide) hk_X9_tieWith_25 rfl dX9_tieWith_1 ?_
  refine g_iload_n E 2 dX9_tieWith_4 rfl rfl ?_
  obtain ⟨hi1, hf⟩ := gd hf
  refine g_iald E 6 (σ.1 6) (mwG6 _ _) hi1 dX9_tieWith_5 ?_
  refine g_bipush (v := (-6 : Int32)) E dX9_tieWith_6 (by decide) ?_
  refine g_icmp_ne (tgt := 15) E dX9_tieWith_8 (by decide) (fun c2 => ?_) (fun c2 => ?_)
  · have hf := gn hf c2
    refine g_aload_n E 0 dX9_tieWith_15 rfl rfl ?_
    refine g_get (C := RX9) (T := TX9) (N := 20) (ci := 9) E 0 4 (.ref (k.2.2.2.1 4)) hi_X9_tieWith_X9 (mwG0 _ _) rfl (by decide) hk_X9_tieWith_19 rfl dX9_tieWith_16 ?_
    refine g_bipush (v := (6 : Int32)) E dX9_tieWith_19 (by decide) ?_
    refine g_iload_n E 1 dX9_tieWith_21 rfl rfl ?_
    refine g_imul E dX9_tieWith_22 ?_
    refine g_aload_n E 0 dX9_tieWith_23 rfl rfl ?_
    refine g_get (C := RX9) (T := TX9) (N := 20) (ci := 9) E 0 6 (.ref (k.2.2.2.1 6)) hi_X9_tieWith_X9 (mwG0 _ _) rfl (by decide) hk_X9_tieWith_25 rfl dX9_tieWith_24 ?_
    refine g_iload_n E 2 dX9_tieWith_27 rfl rfl ?_
    obtain ⟨hi3, hf⟩ := gd hf
    refine g_iald E 6 (σ.1 6) (mwG6 _ _) hi3 dX9_tieWith_28 ?_
    refine g_iadd E dX9_tieWith_29 ?_
    obtain ⟨hi4, hf⟩ := gd hf
    refine g_iald E 4 (σ.1 4) (mwG4 _ _) hi4 dX9_tieWith_30 ?_
    cases hf
    exact g_iret E dX9_tieWith_31
  · have hf := gp hf c2
    refine g_iconst (v := (0 : Int32)) E dX9_tieWith_11 (by decide) ?_
    refine g_goto (tgt := 31) E dX9_tieWith_12 (by decide) ?_
    cases hf
    exact g_iret E dX9_tieWith_31
def rm_fX9_within : Room := { frames := 0, cells := 0, slots := 0, locals := 0 }
set_option maxHeartbeats 4000000 in
set_option maxRecDepth 100000 in
theorem fX9_within_c (k : gK) (σ : St) (x0 : Int32) (r : Int32 × St) (hf : fX9_within σ x0 = some r) : MC k yX9_within wsX9_within rm_fX9_within [.int x0] (mw k.2.2.2 σ) (some (.int r.1)) (mw k.2.2.2 r.2) := by
  refine MC_of (cc := cX9_within) (maxL := 1) (ret := (some .int)) (own := RX9) (lvs := [(0, .int x0)]) (by decide) rfl rfl (Nat.le_of_ble_eq_true rfl) rfl (fun X E => ?_)
  unfold fX9_within at hf
  refine g_iload_n E 0 dX9_within_0 rfl rfl ?_
  refine g_if_ge (tgt := 8) E dX9_within_1 (by decide) (fun c1 => ?_) (fun c1 => ?_)
  · have hf := gp hf c1
    refine g_iload_n E 0 dX9_within_8 rfl rfl ?_
    refine g_iconst (v := (5 : Int32)) E dX9_within_9 (by decide) ?_
    refine g_icmp_le (tgt := 17) E dX9_within_10 (by decide) (fun c2 => ?_) (fun c2 => ?_)
    · have hf := gp hf c2
      refine g_iload_n E 0 dX9_within_17 rfl rfl ?_
      cases hf
      exact g_iret E dX9_within_18
    · have hf := gn hf c2
      refine g_iconst (v := (5 : Int32)) E dX9_within_13 (by decide) ?_
      refine g_goto (tgt := 18) E dX9_within_14 (by decide) ?_
      cases hf
      exact g_iret E dX9_within_18
  · have hf := gn hf c1
    refine g_iconst (v := (0 : Int32)) E dX9_within_4 (by decide) ?_
    refine g_goto (tgt := 18) E dX9_within_5 (by decide) ?_
    cases hf
    exact g_iret E dX9_within_18
theorem hi_X9_markOf_X9 : ∀ w ∈ wsX90, w ∈ wsX9_markOf := by decide +kernel
theorem hk_X9_markOf_7 : Cond.fieldLink RX9 7 "PaperMarksModel" "leans" "[I" ∈ wsX9_markOf := by decide +kernel
def rm_fX9_markOf : Room := { frames := 1, cells := 0, slots := 0, locals := 22 }
set_option maxHeartbeats 4000000 in
set_option maxRecDepth 100000 in
theorem fX9_markOf_c (k : gK) (σ : St) (x1 : Int32) (x2 : Int32) (x3 : Int32) (x4 : Int32) (r : Int32 × St) (hf : fX9_markOf σ x1 x2 x3 x4 = some r) : MC k yX9_markOf wsX9_markOf rm_fX9_markOf [.ref (k.2.2.2.1 0), .int x1, .int x2, .int x3, .int x4] (mw k.2.2.2 σ) (some (.int r.1)) (mw k.2.2.2 r.2) := by
  refine MC_of (cc := cX9_markOf) (maxL := 5) (ret := (some .int)) (own := RX9) (lvs := [(0, .ref (k.2.2.2.1 0)), (1, .int x1), (2, .int x2), (3, .int x3), (4, .int x4)]) (by decide) rfl rfl (Nat.le_of_ble_eq_true rfl) rfl (fun X E => ?_)
  unfold fX9_markOf at hf
  refine g_iload_n E 3 dX9_markOf_0 rfl rfl ?_
  refine g_aload_n E 0 dX9_markOf_1 rfl rfl ?_
  refine g_get (C := RX9) (T := TX9) (N := 20) (ci := 9) E 0 0 (.ref (k.2.2.2.1 1)) hi_X9_markOf_X9 (mwG0 _ _) rfl (by decide) hk_X9_markOf_7 rfl dX9_markOf_2 ?_
  refine g_iload_n E 1 dX9_markOf_5 rfl rfl ?_
  obtain ⟨hi1, hf⟩ := gd hf
  refine g_iald E 1 (σ.1 1) (mwG1 _ _) hi1 dX9_markOf_6 ?_
  refine g_iadd E dX9_markOf_7 ?_
  refine g_aload_n E 0 dX9_markOf_8 rfl rfl ?_
  refine g_iload_n E 1 dX9_markOf_9 rfl rfl ?_
  refine g_iload_n E 2 dX9_markOf_10 rfl rfl ?_
  obtain ⟨q2, hq3, hf⟩ := gb hf
  refine g_callV (C := RX9) (T := TX9) (N := 20) (ci := 9) (As := [.int x1, .int x2]) (rest := [.int (x3 + (σ.1 1 x1.toNatClampNeg))]) (n := 2) E 0 (fX9_tieWith_c k σ x1 x2 q2 hq3) gX9_markOf_X9_tieWith rfl rfl rfl (by decide +kernel) ⟨Nat.le_of_ble_eq_true rfl, Nat.le_of_ble_eq_true rfl⟩ rfl rfl (Nat.le_of_ble_eq_true rfl) rfl (mwG0 _ _) dX9_markOf_11 ?_
  refine g_iadd E dX9_markOf_14 ?_
  refine g_iload E 4 dX9_markOf_15 rfl ?_
  refine g_iadd E dX9_markOf_17 ?_
  refine g_iconst (v := (1 : Int32)) E dX9_markOf_18 (by decide) ?_
  refine g_isub E dX9_markOf_19 ?_
  obtain ⟨q4, hq5, hf⟩ := gb hf
  refine g_callS (As := [.int (((((((x3 + (σ.1 1 x1.toNatClampNeg))) + q2.1)) + x4)) - (1 : Int32))]) (rest := []) (n := 1) E (fX9_within_c k q2.2 ((((((((x3 + (σ.1 1 x1.toNatClampNeg))) + q2.1)) + x4)) - (1 : Int32))) q4 hq5) gX9_markOf_X9_within rfl rfl rfl (by decide +kernel) ⟨Nat.le_of_ble_eq_true rfl, Nat.le_of_ble_eq_true rfl⟩ rfl rfl (Nat.le_of_ble_eq_true rfl) dX9_markOf_20 ?_
  cases hf
  exact g_iret E dX9_markOf_23
theorem hi_X9_without_X9 : ∀ w ∈ wsX90, w ∈ wsX9_without := by decide +kernel
theorem hk_X9_without_25 : Cond.fieldLink RX9 25 "PaperMarksModel" "writers" "[I" ∈ wsX9_without := by decide +kernel
def rm_fX9_without : Room := { frames := 0, cells := 0, slots := 0, locals := 0 }
set_option maxHeartbeats 4000000 in
set_option maxRecDepth 100000 in
theorem fX9_without_c (k : gK) (σ : St) (x1 : Int32) (x2 : Int32) (r : Int32 × St) (hf : fX9_without σ x1 x2 = some r) : MC k yX9_without wsX9_without rm_fX9_without [.ref (k.2.2.2.1 0), .int x1, .int x2] (mw k.2.2.2 σ) (some (.int r.1)) (mw k.2.2.2 r.2) := by
  refine MC_of (cc := cX9_without) (maxL := 3) (ret := (some .int)) (own := RX9) (lvs := [(0, .ref (k.2.2.2.1 0)), (1, .int x1), (2, .int x2)]) (by decide) rfl rfl (Nat.le_of_ble_eq_true rfl) rfl (fun X E => ?_)
  unfold fX9_without at hf
  refine g_aload_n E 0 dX9_without_0 rfl rfl ?_
  refine g_get (C := RX9) (T := TX9) (N := 20) (ci := 9) E 0 6 (.ref (k.2.2.2.1 6)) hi_X9_without_X9 (mwG0 _ _) rfl (by decide) hk_X9_without_25 rfl dX9_without_1 ?_
  refine g_iload_n E 1 dX9_without_4 rfl rfl ?_
  obtain ⟨hi1, hf⟩ := gd hf
  refine g_iald E 6 (σ.1 6) (mwG6 _ _) hi1 dX9_without_5 ?_
  refine g_bipush (v := (-6 : Int32)) E dX9_without_6 (by decide) ?_
  refine g_icmp_ne (tgt := 15) E dX9_without_8 (by decide) (fun c2 => ?_) (fun c2 => ?_)
  · have hf := gn hf c2
    refine g_iload_n E 2 dX9_without_15 rfl rfl ?_
    refine g_iconst (v := (1 : Int32)) E dX9_without_16 (by decide) ?_
    refine g_aload_n E 0 dX9_without_17 rfl rfl ?_
    refine g_get (C := RX9) (T := TX9) (N := 20) (ci := 9) E 0 6 (.ref (k.2.2.2.1 6)) hi_X9_without_X9 (mwG0 _ _) rfl (by decide) hk_X9_without_25 rfl dX9_without_18 ?_
    refine g_iload_n E 1 dX9_without_21 rfl rfl ?_
    obtain ⟨hi3, hf⟩ := gd hf
    refine g_iald E 6 (σ.1 6) (mwG6 _ _) hi3 dX9_without_22 ?_
    refine g_ishl E dX9_without_23 ?_
    refine g_iconst (v := (-1 : Int32)) E dX9_without_24 (by decide) ?_
    refine g_ixor E dX9_without_25 ?_
    refine g_iand E dX9_without_26 ?_
    cases hf
    exact g_iret E dX9_without_27
  · have hf := gp hf c2
    refine g_iload_n E 2 dX9_without_11 rfl rfl ?_
    refine g_goto (tgt := 27) E dX9_without_12 (by decide) ?_
    cases hf
    exact g_iret E dX9_without_27
theorem hi_X9_takenOf_X9 : ∀ w ∈ wsX90, w ∈ wsX9_takenOf := by decide +kernel
theorem hk_X9_takenOf_63 : Cond.fieldLink RX9 63 "PaperMarksModel" "judges" "I" ∈ wsX9_takenOf := by decide +kernel
theorem hk_X9_takenOf_52 : Cond.fieldLink RX9 52 "PaperMarksModel" "given" "[I" ∈ wsX9_takenOf := by decide +kernel
theorem hk_X9_takenOf_22 : Cond.fieldLink RX9 22 "PaperMarksModel" "worths" "[I" ∈ wsX9_takenOf := by decide +kernel
def rm_fX9_takenOf : Room := { frames := 2, cells := 0, slots := 0, locals := 50 }
set_option maxHeartbeats 4000000 in
set_option maxRecDepth 100000 in
theorem fX9_takenOf_w144 {k : gK} {X : gX} (E : gE k X cX9_takenOf RX9 wsX9_takenOf 13 (some .long) rm_fX9_takenOf) (rc54 : St → Int32 → Int32 → Int32 → Int64 → Int32 → Option (Int64 × St)) (hrc54 : ∀ (σ : St) (x1 : Int32) (x3 : Int32) (x4 : Int32) (x5 : Int64) (x7 : Int32) (r : Int64 × St), rc54 σ x1 x3 x4 x5 x7 = some r → G k X 13 (some (.long r.1)) (mw k.2.2.2 r.2) (mw k.2.2.2 σ) [(0, .ref (k.2.2.2.1 0)), (1, .int x1), (3, .int x3), (4, .int x4), (5, .long x5), (7, .int x7)] [] 54) (rc75 : St → Int32 → Int32 → Int32 → Int64 → Int32 → Int64 → Int32 → Int32 → Option (Int64 × St)) (hrc75 : ∀ (σ : St) (x1 : Int32) (x3 : Int32) (x4 : Int32) (x5 : Int64) (x7 : Int32) (x8 : Int64) (x10 : Int32) (x11 : Int32) (r : Int64 × St), rc75 σ x1 x3 x4 x5 x7 x8 x10 x11 = some r → G k X 13 (some (.long r.1)) (mw k.2.2.2 r.2) (mw k.2.2.2 σ) [(0, .ref (k.2.2.2.1 0)), (1, .int x1), (3, .int x3), (4, .int x4), (5, .long x5), (7, .int x7), (8, .long x8), (10, .int x10), (11, .int x11)] [] 75) (σ : St) (x1 : Int32) (x3 : Int32) (x4 : Int32) (x5 : Int64) (x7 : Int32) (x8 : Int64) (x10 : Int32) (x11 : Int32) (r : Int64 × St) (hf : fX9_takenOf_b144 rc54 rc75 σ x1 x3 x4 x5 x7 x8 x10 x11 = some r) : G k X 13 (some (.long r.1)) (mw k.2.2.2 r.2) (mw k.2.2.2 σ) [(0, .ref (k.2.2.2.1 0)), (1, .int x1), (3, .int x3), (4, .int x4), (5, .long x5), (7, .int x7), (8, .long x8), (10, .int x10), (11, .int x11)] [] 144 := by
  unfold fX9_takenOf_b144 at hf
  refine g_iinc E 8 [(11, .int (x11 + (1 : Int32))), (0, .ref (k.2.2.2.1 0)), (1, .int x1), (3, .int x3), (4, .int x4), (5, .long x5), (7, .int x7), (8, .long x8), (10, .int x10)] (x11 + (1 : Int32)) dX9_takenOf_144 rfl (by rfl) (by decide) rfl ?_
  refine g_goto (tgt := 75) E dX9_takenOf_147 (by decide) ?_
  exact g_sub [1, 2, 3, 4, 5, 6, 7, 8, 0] rfl (hrc75 σ x1 x3 x4 x5 x7 x8 x10 (x11 + (1 : Int32)) r hf)
set_option maxHeartbeats 4000000 in
set_option maxRecDepth 100000 in
theorem fX9_takenOf_w75 {k : gK} {X : gX} (E : gE k X cX9_takenOf RX9 wsX9_takenOf 13 (some .long) rm_fX9_takenOf) (rc54 : St → Int32 → Int32 → Int32 → Int64 → Int32 → Option (Int64 × St)) (hrc54 : ∀ (σ : St) (x1 : Int32) (x3 : Int32) (x4 : Int32) (x5 : Int64) (x7 : Int32) (r : Int64 × St), rc54 σ x1 x3 x4 x5 x7 = some r → G k X 13 (some (.long r.1)) (mw k.2.2.2 r.2) (mw k.2.2.2 σ) [(0, .ref (k.2.2.2.1 0)), (1, .int x1), (3, .int x3), (4, .int x4), (5, .long x5), (7, .int x7)] [] 54) (rc75 : St → Int32 → Int32 → Int32 → Int64 → Int32 → Int64 → Int32 → Int32 → Option (Int64 × St)) (hrc75 : ∀ (σ : St) (x1 : Int32) (x3 : Int32) (x4 : Int32) (x5 : Int64) (x7 : Int32) (x8 : Int64) (x10 : Int32) (x11 : Int32) (r : Int64 × St), rc75 σ x1 x3 x4 x5 x7 x8 x10 x11 = some r → G k X 13 (some (.long r.1)) (mw k.2.2.2 r.2) (mw k.2.2.2 σ) [(0, .ref (k.2.2.2.1 0)), (1, .int x1), (3, .int x3), (4, .int x4), (5, .long x5), (7, .int x7), (8, .long x8), (10, .int x10), (11, .int x11)] [] 75) (σ : St) (x1 : Int32) (x3 : Int32) (x4 : Int32) (x5 : Int64) (x7 : Int32) (x8 : Int64) (x10 : Int32) (x11 : Int32) (r : Int64 × St) (hf : fX9_takenOf_b75 rc54 rc75 σ x1 x3 x4 x5 x7 x8 x10 x11 = some r) : G k X 13 (some (.long r.1)) (mw k.2.2.2 r.2) (mw k.2.2.2 σ) [(0, .ref (k.2.2.2.1 0)), (1, .int x1), (3, .int x3), (4, .int x4), (5, .long x5), (7, .int x7), (8, .long x8), (10, .int x10), (11, .int x11)] [] 75 := by
  unfold fX9_takenOf_b75 at hf
  refine g_iload E 8 dX9_takenOf_75 rfl ?_
  refine g_aload_n E 0 dX9_takenOf_77 rfl rfl ?_
  refine g_get (C := RX9) (T := TX9) (N := 20) (ci := 9) E 0 3 (.int (σ.2.1 0)) hi_X9_takenOf_X9 (mwG0 _ _) rfl (by decide) hk_X9_takenOf_63 rfl dX9_takenOf_78 ?_
  refine g_icmp_ge (tgt := 150) E dX9_takenOf_81 (by decide) (fun c1 => ?_) (fun c1 => ?_)
  · have hf := gp hf c1
    refine g_lload E 4 dX9_takenOf_150 rfl ?_
    refine g_lload E 6 dX9_takenOf_152 rfl ?_
    refine g_aload_n E 0 dX9_takenOf_154 rfl rfl ?_
    obtain ⟨q2, hq3, hf⟩ := gb hf
    refine g_callV (C := RX9) (T := TX9) (N := 20) (ci := 9) (As := []) (rest := [.long x8, .long x5]) (n := 0) E 0 (fX9_yesOf_c k σ  q2 hq3) gX9_takenOf_X9_yesOf rfl rfl rfl (by decide +kernel) ⟨Nat.le_of_ble_eq_true rfl, Nat.le_of_ble_eq_true rfl⟩ rfl rfl (Nat.le_of_ble_eq_true rfl) rfl (mwG0 _ _) dX9_takenOf_155 ?_
    refine g_i2l E dX9_takenOf_158 ?_
    refine g_lmul E dX9_takenOf_159 ?_
    refine g_ladd E dX9_takenOf_160 ?_
    refine g_lstore E [(5, .long (x5 + (x8 * q2.1.toInt64))), (0, .ref (k.2.2.2.1 0)), (1, .int x1), (3, .int x3), (4, .int x4), (7, .int x7), (8, .long x8), (10, .int x10), (11, .int x11)] dX9_takenOf_161 (by decide) rfl ?_
    refine g_iinc E 5 [(7, .int (x7 + (1 : Int32))), (5, .long (x5 + (x8 * q2.1.toInt64))), (0, .ref (k.2.2.2.1 0)), (1, .int x1), (3, .int x3), (4, .int x4), (8, .long x8), (10, .int x10), (11, .int x11)] (x7 + (1 : Int32)) dX9_takenOf_163 rfl (by rfl) (by decide) rfl ?_
    refine g_goto (tgt := 54) E dX9_takenOf_166 (by decide) ?_
    exact g_sub [2, 3, 4, 5, 1, 0] rfl (hrc54 q2.2 x1 x3 x4 (x5 + (x8 * q2.1.toInt64)) (x7 + (1 : Int32)) r hf)
  · have hf := gn hf c1
    refine g_iload_n E 2 dX9_takenOf_84 rfl rfl ?_
    refine g_iload E 8 dX9_takenOf_85 rfl ?_
    refine g_ishr E dX9_takenOf_87 ?_
    refine g_iconst (v := (1 : Int32)) E dX9_takenOf_88 (by decide) ?_
    refine g_iand E dX9_takenOf_89 ?_
    refine g_iconst (v := (1 : Int32)) E dX9_takenOf_90 (by decide) ?_
    refine g_icmp_ne (tgt := 144) E dX9_takenOf_91 (by decide) (fun c4 => ?_) (fun c4 => ?_)
    · have hf := gn hf c4
      exact fX9_takenOf_w144 E rc54 hrc54 rc75 hrc75 σ x1 x3 x4 x5 x7 x8 x10 x11 r hf
    · have hf := gp hf c4
      refine g_iload E 7 dX9_takenOf_94 rfl ?_
      refine g_iconst (v := (3 : Int32)) E dX9_takenOf_96 (by decide) ?_
      refine g_irem E (by decide) dX9_takenOf_97 ?_
      refine g_istore E [(12, .int (x10 - x10 / (3 : Int32) * (3 : Int32))), (0, .ref (k.2.2.2.1 0)), (1, .int x1), (3, .int x3), (4, .int x4), (5, .long x5), (7, .int x7), (8, .long x8), (10, .int x10), (11, .int x11)] dX9_takenOf_98 (by decide) rfl ?_
      refine g_iload E 8 dX9_takenOf_100 rfl ?_
      refine g_iconst (v := (3 : Int32)) E dX9_takenOf_102 (by decide) ?_
      refine g_idiv E (by decide) dX9_takenOf_103 ?_
      refine g_istore E [(10, .int (x10 / (3 : Int32))), (12, .int (x10 - x10 / (3 : Int32) * (3 : Int32))), (0, .ref (k.2.2.2.1 0)), (1, .int x1), (3, .int x3), (4, .int x4), (5, .long x5), (7, .int x7), (8, .long x8), (11, .int x11)] dX9_takenOf_104 (by decide) rfl ?_
      refine g_lload E 8 dX9_takenOf_106 rfl ?_
      refine g_aload_n E 2 dX9_takenOf_108 rfl rfl ?_
      refine g_iload E 9 dX9_takenOf_109 rfl ?_
      refine g_iload E 1 dX9_takenOf_111 rfl ?_
      obtain ⟨q5, hq6, hf⟩ := gb hf
      refine g_callV (C := RX9) (T := TX9) (N := 20) (ci := 9) (As := [.int x11, .int (x10 - x10 / (3 : Int32) * (3 : Int32))]) (rest := [.long x8]) (n := 2) E 0 (fX9_quarters_c k σ x11 ((x10 - x10 / (3 : Int32) * (3 : Int32))) q5 hq6) gX9_takenOf_X9_quarters rfl rfl rfl (by decide +kernel) ⟨Nat.le_of_ble_eq_true rfl, Nat.le_of_ble_eq_true rfl⟩ rfl rfl (Nat.le_of_ble_eq_true rfl) rfl (mwG0 _ _) dX9_takenOf_113 ?_
      refine g_i2l E dX9_takenOf_116 ?_
      refine g_lmul E dX9_takenOf_117 ?_
      refine g_lstore E [(8, .long (x8 * q5.1.toInt64)), (10, .int (x10 / (3 : Int32))), (12, .int (x10 - x10 / (3 : Int32) * (3 : Int32))), (0, .ref (k.2.2.2.1 0)), (1, .int x1), (3, .int x3), (4, .int x4), (5, .long x5), (7, .int x7), (11, .int x11)] dX9_takenOf_118 (by decide) rfl ?_
      refine g_aload_n E 3 dX9_takenOf_120 rfl rfl ?_
      refine g_get (C := RX9) (T := TX9) (N := 20) (ci := 9) E 0 18 (.ref (k.2.2.2.1 15)) hi_X9_takenOf_X9 (mwG0 _ _) rfl (by decide) hk_X9_takenOf_52 rfl dX9_takenOf_121 ?_
      refine g_aload_n E 3 dX9_takenOf_124 rfl rfl ?_
      refine g_iload E 9 dX9_takenOf_125 rfl ?_
      refine g_iload_n E 4 dX9_takenOf_127 rfl rfl ?_
      refine g_aload_n E 3 dX9_takenOf_128 rfl rfl ?_
      refine g_get (C := RX9) (T := TX9) (N := 20) (ci := 9) E 0 5 (.ref (k.2.2.2.1 5)) hi_X9_takenOf_X9 (mwG0 _ _) rfl (by decide) hk_X9_takenOf_22 rfl dX9_takenOf_129 ?_
      refine g_iload_n E 4 dX9_takenOf_132 rfl rfl ?_
      obtain ⟨hi7, hf⟩ := gd hf
      refine g_iald E 5 (q5.2.1 5) (mwG5 _ _) hi7 dX9_takenOf_133 ?_
      refine g_iload E 2 dX9_takenOf_134 rfl ?_
      obtain ⟨q8, hq9, hf⟩ := gb hf
      refine g_callV (C := RX9) (T := TX9) (N := 20) (ci := 9) (As := [.int x11, .int x1, .int (q5.2.1 5 x1.toNatClampNeg), .int (x10 - x10 / (3 : Int32) * (3 : Int32))]) (rest := [.ref (k.2.2.2.1 15)]) (n := 4) E 0 (fX9_markOf_c k q5.2 x11 x1 (q5.2.1 5 x1.toNatClampNeg) ((x10 - x10 / (3 : Int32) * (3 : Int32))) q8 hq9) gX9_takenOf_X9_markOf rfl rfl rfl (by decide +kernel) ⟨Nat.le_of_ble_eq_true rfl, Nat.le_of_ble_eq_true rfl⟩ rfl rfl (Nat.le_of_ble_eq_true rfl) rfl (mwG0 _ _) dX9_takenOf_136 ?_
      refine g_dup2 E dX9_takenOf_139 rfl rfl ?_
      obtain ⟨hi10, hf⟩ := gd hf
      refine g_iald E 15 (q8.2.1 15) (mwG15 _ _) hi10 dX9_takenOf_140 ?_
      refine g_iconst (v := (1 : Int32)) E dX9_takenOf_141 (by decide) ?_
      refine g_iadd E dX9_takenOf_142 ?_
      obtain ⟨hi11, hf⟩ := gd hf
      refine g_iast E 15 (mw k.2.2.2 (uA q8.2 15 q8.1.toNatClampNeg (((q8.2.1 15 q8.1.toNatClampNeg) + (1 : Int32))))) (q8.2.1 15) (mwG15 _ _) hi11 (mwA15 _ _ _ _) dX9_takenOf_143 ?_
      exact g_sub [3, 4, 5, 6, 7, 8, 0, 1, 9] rfl (fX9_takenOf_w144 E rc54 hrc54 rc75 hrc75 (uA q8.2 15 q8.1.toNatClampNeg (((q8.2.1 15 q8.1.toNatClampNeg) + (1 : Int32)))) x1 x3 x4 x5 x7 (x8 * q5.1.toInt64) (x10 / (3 : Int32)) x11 r hf)
theorem fX9_takenOf_v75 {k : gK} {X : gX} (E : gE k X cX9_takenOf RX9 wsX9_takenOf 13 (some .long) rm_fX9_takenOf) (rc54 : St → Int32 → Int32 → Int32 → Int64 → Int32 → Option (Int64 × St)) (hrc54 : ∀ (σ : St) (x1 : Int32) (x3 : Int32) (x4 : Int32) (x5 : Int64) (x7 : Int32) (r : Int64 × St), rc54 σ x1 x3 x4 x5 x7 = some r → G k X 13 (some (.long r.1)) (mw k.2.2.2 r.2) (mw k.2.2.2 σ) [(0, .ref (k.2.2.2.1 0)), (1, .int x1), (3, .int x3), (4, .int x4), (5, .long x5), (7, .int x7)] [] 54) : ∀ (n : Nat) (σ : St) (x1 : Int32) (x3 : Int32) (x4 : Int32) (x5 : Int64) (x7 : Int32) (x8 : Int64) (x10 : Int32) (x11 : Int32) (r : Int64 × St), fX9_takenOf_l75 rc54 n σ x1 x3 x4 x5 x7 x8 x10 x11 = some r → G k X 13 (some (.long r.1)) (mw k.2.2.2 r.2) (mw k.2.2.2 σ) [(0, .ref (k.2.2.2.1 0)), (1, .int x1), (3, .int x3), (4, .int x4), (5, .long x5), (7, .int x7), (8, .long x8), (10, .int x10), (11, .int x11)] [] 75 := by
  intro n
  induction n with
  | zero => intro σ x1 x3 x4 x5 x7 x8 x10 x11 r hf; cases hf
  | succ n ih => intro σ x1 x3 x4 x5 x7 x8 x10 x11 r hf; exact fX9_takenOf_w75 E rc54 hrc54 (fX9_takenOf_l75 rc54 n) ih σ x1 x3 x4 x5 x7 x8 x10 x11 r hf
set_option maxHeartbeats 4000000 in
set_option maxRecDepth 100000 in
theorem fX9_takenOf_w54 {k : gK} {X : gX} (E : gE k X cX9_takenOf RX9 wsX9_takenOf 13 (some .long) rm_fX9_takenOf) (rc54 : St → Int32 → Int32 → Int32 → Int64 → Int32 → Option (Int64 × St)) (hrc54 : ∀ (σ : St) (x1 : Int32) (x3 : Int32) (x4 : Int32) (x5 : Int64) (x7 : Int32) (r : Int64 × St), rc54 σ x1 x3 x4 x5 x7 = some r → G k X 13 (some (.long r.1)) (mw k.2.2.2 r.2) (mw k.2.2.2 σ) [(0, .ref (k.2.2.2.1 0)), (1, .int x1), (3, .int x3), (4, .int x4), (5, .long x5), (7, .int x7)] [] 54) (σ : St) (x1 : Int32) (x3 : Int32) (x4 : Int32) (x5 : Int64) (x7 : Int32) (r : Int64 × St) (hf : fX9_takenOf_b54 rc54 σ x1 x3 x4 x5 x7 = some r) : G k X 13 (some (.long r.1)) (mw k.2.2.2 r.2) (mw k.2.2.2 σ) [(0, .ref (k.2.2.2.1 0)), (1, .int x1), (3, .int x3), (4, .int x4), (5, .long x5), (7, .int x7)] [] 54 := by
  unfold fX9_takenOf_b54 at hf
  refine g_iload E 5 dX9_takenOf_54 rfl ?_
  refine g_iload E 3 dX9_takenOf_56 rfl ?_
  refine g_icmp_ge (tgt := 169) E dX9_takenOf_58 (by decide) (fun c1 => ?_) (fun c1 => ?_)
  · have hf := gp hf c1
    refine g_lload E 4 dX9_takenOf_169 rfl ?_
    cases hf
    exact g_lret E dX9_takenOf_171
  · have hf := gn hf c1
    refine g_lconst (v := (1 : Int64)) E dX9_takenOf_61 (by decide) ?_
    refine g_lstore E [(8, .long (1 : Int64)), (0, .ref (k.2.2.2.1 0)), (1, .int x1), (3, .int x3), (4, .int x4), (5, .long x5), (7, .int x7)] dX9_takenOf_62 (by decide) rfl ?_
    refine g_iload E 6 dX9_takenOf_64 rfl ?_
    refine g_istore E [(10, .int x7), (8, .long (1 : Int64)), (0, .ref (k.2.2.2.1 0)), (1, .int x1), (3, .int x3), (4, .int x4), (5, .long x5), (7, .int x7)] dX9_takenOf_66 (by decide) rfl ?_
    refine g_aload_n E 2 dX9_takenOf_68 rfl rfl ?_
    obtain ⟨q2, hq3, hf⟩ := gb hf
    refine g_callV (C := RX9) (T := TX9) (N := 20) (ci := 9) (As := []) (rest := []) (n := 0) E 0 (fX9_clearGiven_c k σ  q2 hq3) gX9_takenOf_X9_clearGiven rfl rfl rfl (by decide +kernel) ⟨Nat.le_of_ble_eq_true rfl, Nat.le_of_ble_eq_true rfl⟩ rfl rfl (Nat.le_of_ble_eq_true rfl) rfl (mwG0 _ _) dX9_takenOf_69 ?_
    refine g_iconst (v := (0 : Int32)) E dX9_takenOf_72 (by decide) ?_
    refine g_istore E [(11, .int (0 : Int32)), (10, .int x7), (8, .long (1 : Int64)), (0, .ref (k.2.2.2.1 0)), (1, .int x1), (3, .int x3), (4, .int x4), (5, .long x5), (7, .int x7)] dX9_takenOf_73 (by decide) rfl ?_
    exact g_sub [3, 4, 5, 6, 7, 8, 2, 1, 0] rfl (fX9_takenOf_v75 E rc54 hrc54 gF q2.2 x1 x3 x4 x5 x7 (1 : Int64) x7 (0 : Int32) r hf)
theorem fX9_takenOf_v54 {k : gK} {X : gX} (E : gE k X cX9_takenOf RX9 wsX9_takenOf 13 (some .long) rm_fX9_takenOf) : ∀ (n : Nat) (σ : St) (x1 : Int32) (x3 : Int32) (x4 : Int32) (x5 : Int64) (x7 : Int32) (r : Int64 × St), fX9_takenOf_l54 n σ x1 x3 x4 x5 x7 = some r → G k X 13 (some (.long r.1)) (mw k.2.2.2 r.2) (mw k.2.2.2 σ) [(0, .ref (k.2.2.2.1 0)), (1, .int x1), (3, .int x3), (4, .int x4), (5, .long x5), (7, .int x7)] [] 54 := by
  intro n
  induction n with
  | zero => intro σ x1 x3 x4 x5 x7 r hf; cases hf
  | succ n ih => intro σ x1 x3 x4 x5 x7 r hf; exact fX9_takenOf_w54 E (fX9_takenOf_l54 n) ih σ x1 x3 x4 x5 x7 r hf
set_option maxHeartbeats 4000000 in
set_option maxRecDepth 100000 in
theorem fX9_takenOf_w39 {k : gK} {X : gX} (E : gE k X cX9_takenOf RX9 wsX9_takenOf 13 (some .long) rm_fX9_takenOf) (rc13 : St → Int32 → Int32 → Int32 → Int32 → Option (Int64 × St)) (hrc13 : ∀ (σ : St) (x1 : Int32) (x3 : Int32) (x4 : Int32) (x5 : Int32) (r : Int64 × St), rc13 σ x1 x3 x4 x5 = some r → G k X 13 (some (.long r.1)) (mw k.2.2.2 r.2) (mw k.2.2.2 σ) [(0, .ref (k.2.2.2.1 0)), (1, .int x1), (3, .int x3), (4, .int x4), (5, .int x5)] [] 13) (σ : St) (x1 : Int32) (x3 : Int32) (x5 : Int32) (t0 : Int32) (t1 : Int32) (r : Int64 × St) (hf : fX9_takenOf_b39 rc13 σ x1 x3 x5 t0 t1 = some r) : G k X 13 (some (.long r.1)) (mw k.2.2.2 r.2) (mw k.2.2.2 σ) [(0, .ref (k.2.2.2.1 0)), (1, .int x1), (3, .int x3), (5, .int x5)] [.int t1, .int t0] 39 := by
  unfold fX9_takenOf_b39 at hf
  refine g_imul E dX9_takenOf_39 ?_
  refine g_istore E [(4, .int (t0 * t1)), (0, .ref (k.2.2.2.1 0)), (1, .int x1), (3, .int x3), (5, .int x5)] dX9_takenOf_40 (by decide) rfl ?_
  refine g_iinc E 4 [(5, .int (x5 + (1 : Int32))), (4, .int (t0 * t1)), (0, .ref (k.2.2.2.1 0)), (1, .int x1), (3, .int x3)] (x5 + (1 : Int32)) dX9_takenOf_42 rfl (by rfl) (by decide) rfl ?_
  refine g_goto (tgt := 13) E dX9_takenOf_45 (by decide) ?_
  exact g_sub [2, 3, 4, 1, 0] rfl (hrc13 σ x1 x3 (t0 * t1) (x5 + (1 : Int32)) r hf)
set_option maxHeartbeats 4000000 in
set_option maxRecDepth 100000 in
theorem fX9_takenOf_w13 {k : gK} {X : gX} (E : gE k X cX9_takenOf RX9 wsX9_takenOf 13 (some .long) rm_fX9_takenOf) (rc13 : St → Int32 → Int32 → Int32 → Int32 → Option (Int64 × St)) (hrc13 : ∀ (σ : St) (x1 : Int32) (x3 : Int32) (x4 : Int32) (x5 : Int32) (r : Int64 × St), rc13 σ x1 x3 x4 x5 = some r → G k X 13 (some (.long r.1)) (mw k.2.2.2 r.2) (mw k.2.2.2 σ) [(0, .ref (k.2.2.2.1 0)), (1, .int x1), (3, .int x3), (4, .int x4), (5, .int x5)] [] 13) (σ : St) (x1 : Int32) (x3 : Int32) (x4 : Int32) (x5 : Int32) (r : Int64 × St) (hf : fX9_takenOf_b13 rc13 σ x1 x3 x4 x5 = some r) : G k X 13 (some (.long r.1)) (mw k.2.2.2 r.2) (mw k.2.2.2 σ) [(0, .ref (k.2.2.2.1 0)), (1, .int x1), (3, .int x3), (4, .int x4), (5, .int x5)] [] 13 := by
  unfold fX9_takenOf_b13 at hf
  refine g_iload E 4 dX9_takenOf_13 rfl ?_
  refine g_aload_n E 0 dX9_takenOf_15 rfl rfl ?_
  refine g_get (C := RX9) (T := TX9) (N := 20) (ci := 9) E 0 3 (.int (σ.2.1 0)) hi_X9_takenOf_X9 (mwG0 _ _) rfl (by decide) hk_X9_takenOf_63 rfl dX9_takenOf_16 ?_
  refine g_icmp_ge (tgt := 48) E dX9_takenOf_19 (by decide) (fun c1 => ?_) (fun c1 => ?_)
  · have hf := gp hf c1
    refine g_lconst (v := (0 : Int64)) E dX9_takenOf_48 (by decide) ?_
    refine g_lstore E [(5, .long (0 : Int64)), (0, .ref (k.2.2.2.1 0)), (1, .int x1), (3, .int x3), (4, .int x4)] dX9_takenOf_49 (by decide) rfl ?_
    refine g_iconst (v := (0 : Int32)) E dX9_takenOf_51 (by decide) ?_
    refine g_istore E [(7, .int (0 : Int32)), (5, .long (0 : Int64)), (0, .ref (k.2.2.2.1 0)), (1, .int x1), (3, .int x3), (4, .int x4)] dX9_takenOf_52 (by decide) rfl ?_
    exact g_sub [2, 3, 4, 5, 1, 0] rfl (fX9_takenOf_v54 E gF σ x1 x3 x4 (0 : Int64) (0 : Int32) r hf)
  · have hf := gn hf c1
    refine g_iload E 3 dX9_takenOf_22 rfl ?_
    refine g_iload_n E 2 dX9_takenOf_24 rfl rfl ?_
    refine g_iload E 4 dX9_takenOf_25 rfl ?_
    refine g_ishr E dX9_takenOf_27 ?_
    refine g_iconst (v := (1 : Int32)) E dX9_takenOf_28 (by decide) ?_
    refine g_iand E dX9_takenOf_29 ?_
    refine g_iconst (v := (1 : Int32)) E dX9_takenOf_30 (by decide) ?_
    refine g_icmp_ne (tgt := 38) E dX9_takenOf_31 (by decide) (fun c2 => ?_) (fun c2 => ?_)
    · have hf := gn hf c2
      refine g_iconst (v := (1 : Int32)) E dX9_takenOf_38 (by decide) ?_
      exact g_sub [0, 1, 2, 4] rfl (fX9_takenOf_w39 E rc13 hrc13 σ x1 x3 x5 x4 (1 : Int32) r hf)
    · have hf := gp hf c2
      refine g_iconst (v := (3 : Int32)) E dX9_takenOf_34 (by decide) ?_
      refine g_goto (tgt := 39) E dX9_takenOf_35 (by decide) ?_
      exact g_sub [0, 1, 2, 4] rfl (fX9_takenOf_w39 E rc13 hrc13 σ x1 x3 x5 x4 (3 : Int32) r hf)
theorem fX9_takenOf_v13 {k : gK} {X : gX} (E : gE k X cX9_takenOf RX9 wsX9_takenOf 13 (some .long) rm_fX9_takenOf) : ∀ (n : Nat) (σ : St) (x1 : Int32) (x3 : Int32) (x4 : Int32) (x5 : Int32) (r : Int64 × St), fX9_takenOf_l13 n σ x1 x3 x4 x5 = some r → G k X 13 (some (.long r.1)) (mw k.2.2.2 r.2) (mw k.2.2.2 σ) [(0, .ref (k.2.2.2.1 0)), (1, .int x1), (3, .int x3), (4, .int x4), (5, .int x5)] [] 13 := by
  intro n
  induction n with
  | zero => intro σ x1 x3 x4 x5 r hf; cases hf
  | succ n ih => intro σ x1 x3 x4 x5 r hf; exact fX9_takenOf_w13 E (fX9_takenOf_l13 n) ih σ x1 x3 x4 x5 r hf
set_option maxHeartbeats 4000000 in
set_option maxRecDepth 100000 in
theorem fX9_takenOf_c (k : gK) (σ : St) (x1 : Int32) (x2 : Int32) (r : Int64 × St) (hf : fX9_takenOf σ x1 x2 = some r) : MC k yX9_takenOf wsX9_takenOf rm_fX9_takenOf [.ref (k.2.2.2.1 0), .int x1, .int x2] (mw k.2.2.2 σ) (some (.long r.1)) (mw k.2.2.2 r.2) := by
  refine MC_of (cc := cX9_takenOf) (maxL := 13) (ret := (some .long)) (own := RX9) (lvs := [(0, .ref (k.2.2.2.1 0)), (1, .int x1), (2, .int x2)]) (by decide) rfl rfl (Nat.le_of_ble_eq_true rfl) rfl (fun X E => ?_)
  unfold fX9_takenOf at hf
  refine g_aload_n E 0 dX9_takenOf_0 rfl rfl ?_
  refine g_iload_n E 1 dX9_takenOf_1 rfl rfl ?_
  refine g_iload_n E 2 dX9_takenOf_2 rfl rfl ?_
  obtain ⟨q1, hq2, hf⟩ := gb hf
  refine g_callV (C := RX9) (T := TX9) (N := 20) (ci := 9) (As := [.int x1, .int x2]) (rest := []) (n := 2) E 0 (fX9_without_c k σ x1 x2 q1 hq2) gX9_takenOf_X9_without rfl rfl rfl (by decide +kernel) ⟨Nat.le_of_ble_eq_true rfl, Nat.le_of_ble_eq_true rfl⟩ rfl rfl (Nat.le_of_ble_eq_true rfl) rfl (mwG0 _ _) dX9_takenOf_3 ?_
  refine g_istore_n E [(3, .int q1.1), (0, .ref (k.2.2.2.1 0)), (1, .int x1), (2, .int x2)] dX9_takenOf_6 rfl (by decide) rfl ?_
  refine g_iconst (v := (1 : Int32)) E dX9_takenOf_7 (by decide) ?_
  refine g_istore E [(4, .int (1 : Int32)), (3, .int q1.1), (0, .ref (k.2.2.2.1 0)), (1, .int x1), (2, .int x2)] dX9_takenOf_8 (by decide) rfl ?_
  refine g_iconst (v := (0 : Int32)) E dX9_takenOf_10 (by decide) ?_
  refine g_istore E [(5, .int (0 : Int32)), (4, .int (1 : Int32)), (3, .int q1.1), (0, .ref (k.2.2.2.1 0)), (1, .int x1), (2, .int x2)] dX9_takenOf_11 (by decide) rfl ?_
  exact g_sub [3, 4, 2, 1, 0] rfl (fX9_takenOf_v13 E gF q1.2 x1 q1.1 (1 : Int32) (0 : Int32) r hf)
