theorem hi_X9_rule_X9 : ∀ w ∈ wsX90, w ∈ wsX9_rule := by decide +kernel
theorem hk_X9_rule_46 : Cond.fieldLink RX9 46 "PaperMarksModel" "clauseOver" "[I" ∈ wsX9_rule := by decide +kernel
theorem hk_X9_rule_118 : Cond.fieldLink RX9 118 "PaperMarksModel" "clauses" "I" ∈ wsX9_rule := by decide +kernel
theorem hk_X9_rule_97 : Cond.fieldLink RX9 97 "PaperMarksModel" "signMany" "I" ∈ wsX9_rule := by decide +kernel
theorem hk_X9_rule_40 : Cond.fieldLink RX9 40 "PaperMarksModel" "signs" "[I" ∈ wsX9_rule := by decide +kernel
theorem hk_X9_rule_49 : Cond.fieldLink RX9 49 "PaperMarksModel" "clauseCoin" "[I" ∈ wsX9_rule := by decide +kernel
theorem hk_X9_rule_43 : Cond.fieldLink RX9 43 "PaperMarksModel" "clauseJoin" "[I" ∈ wsX9_rule := by decide +kernel
def rm_fX9_rule : Room := { frames := 3, cells := 0, slots := 0, locals := 69 }
set_option maxHeartbeats 4000000 in
set_option maxRecDepth 100000 in
theorem fX9_rule_w153 {k : gK} {X : gX} (E : gE k X cX9_rule RX9 wsX9_rule 4 (some .int) rm_fX9_rule) (rc19 : St → Int32 → Int32 → Option (Int32 × St)) (hrc19 : ∀ (σ : St) (x1 : Int32) (x2 : Int32) (r : Int32 × St), rc19 σ x1 x2 = some r → G k X 4 (some (.int r.1)) (mw k.2.2.2 r.2) (mw k.2.2.2 σ) [(0, .ref (k.2.2.2.1 0)), (1, .int x1), (2, .int x2)] [] 19) (σ : St) (x1 : Int32) (x2 : Int32) (r : Int32 × St) (hf : fX9_rule_b153 rc19 σ x1 x2 = some r) : G k X 4 (some (.int r.1)) (mw k.2.2.2 r.2) (mw k.2.2.2 σ) [(0, .ref (k.2.2.2.1 0)), (1, .int x1), (2, .int x2)] [] 153 := by
  unfold fX9_rule_b153 at hf
  refine g_iinc E 2 [(2, .int (x2 + (1 : Int32))), (0, .ref (k.2.2.2.1 0)), (1, .int x1)] (x2 + (1 : Int32)) dX9_rule_153 rfl (by rfl) (by decide) rfl ?_
  refine g_goto (tgt := 19) E dX9_rule_156 (by decide) ?_
  exact g_sub [1, 2, 0] rfl (hrc19 σ x1 (x2 + (1 : Int32)) r hf)
set_option maxHeartbeats 4000000 in
set_option maxRecDepth 100000 in
theorem fX9_rule_w88 {k : gK} {X : gX} (E : gE k X cX9_rule RX9 wsX9_rule 4 (some .int) rm_fX9_rule) (rc19 : St → Int32 → Int32 → Option (Int32 × St)) (hrc19 : ∀ (σ : St) (x1 : Int32) (x2 : Int32) (r : Int32 × St), rc19 σ x1 x2 = some r → G k X 4 (some (.int r.1)) (mw k.2.2.2 r.2) (mw k.2.2.2 σ) [(0, .ref (k.2.2.2.1 0)), (1, .int x1), (2, .int x2)] [] 19) (σ : St) (x1 : Int32) (x2 : Int32) (x3 : Int32) (r : Int32 × St) (hf : fX9_rule_b88 rc19 σ x1 x2 x3 = some r) : G k X 4 (some (.int r.1)) (mw k.2.2.2 r.2) (mw k.2.2.2 σ) [(0, .ref (k.2.2.2.1 0)), (1, .int x1), (2, .int x2), (3, .int x3)] [] 88 := by
  unfold fX9_rule_b88 at hf
  refine g_aload_n E 0 dX9_rule_88 rfl rfl ?_
  refine g_get (C := RX9) (T := TX9) (N := 20) (ci := 9) E 0 15 (.ref (k.2.2.2.1 13)) hi_X9_rule_X9 (mwG0 _ _) rfl (by decide) hk_X9_rule_46 rfl dX9_rule_89 ?_
  refine g_aload_n E 0 dX9_rule_92 rfl rfl ?_
  refine g_get (C := RX9) (T := TX9) (N := 20) (ci := 9) E 0 17 (.int (σ.2.1 3)) hi_X9_rule_X9 (mwG0 _ _) rfl (by decide) hk_X9_rule_118 rfl dX9_rule_93 ?_
  refine g_bipush (v := (10 : Int32)) E dX9_rule_96 (by decide) ?_
  refine g_aload_n E 0 dX9_rule_98 rfl rfl ?_
  refine g_get (C := RX9) (T := TX9) (N := 20) (ci := 9) E 0 15 (.ref (k.2.2.2.1 13)) hi_X9_rule_X9 (mwG0 _ _) rfl (by decide) hk_X9_rule_46 rfl dX9_rule_99 ?_
  refine g_aload_n E 0 dX9_rule_102 rfl rfl ?_
  refine g_get (C := RX9) (T := TX9) (N := 20) (ci := 9) E 0 17 (.int (σ.2.1 3)) hi_X9_rule_X9 (mwG0 _ _) rfl (by decide) hk_X9_rule_118 rfl dX9_rule_103 ?_
  obtain ⟨hi1, hf⟩ := gd hf
  refine g_iald E 13 (σ.1 13) (mwG13 _ _) hi1 dX9_rule_106 ?_
  refine g_imul E dX9_rule_107 ?_
  refine g_iload_n E 3 dX9_rule_108 rfl rfl ?_
  refine g_iadd E dX9_rule_109 ?_
  refine g_bipush (v := (48 : Int32)) E dX9_rule_110 (by decide) ?_
  refine g_isub E dX9_rule_112 ?_
  obtain ⟨hi2, hf⟩ := gd hf
  refine g_iast E 13 (mw k.2.2.2 (uA σ 13 (σ.2.1 3).toNatClampNeg (((((((10 : Int32) * ((σ.1 13 (σ.2.1 3).toNatClampNeg)))) + x3)) - (48 : Int32))))) (σ.1 13) (mwG13 _ _) hi2 (mwA13 _ _ _ _) dX9_rule_113 ?_
  refine g_goto (tgt := 153) E dX9_rule_114 (by decide) ?_
  exact g_sub [0, 1, 2] rfl (fX9_rule_w153 E rc19 hrc19 (uA σ 13 (σ.2.1 3).toNatClampNeg (((((((10 : Int32) * ((σ.1 13 (σ.2.1 3).toNatClampNeg)))) + x3)) - (48 : Int32)))) x1 x2 r hf)
set_option maxHeartbeats 4000000 in
set_option maxRecDepth 100000 in
theorem fX9_rule_w19 {k : gK} {X : gX} (E : gE k X cX9_rule RX9 wsX9_rule 4 (some .int) rm_fX9_rule) (rc19 : St → Int32 → Int32 → Option (Int32 × St)) (hrc19 : ∀ (σ : St) (x1 : Int32) (x2 : Int32) (r : Int32 × St), rc19 σ x1 x2 = some r → G k X 4 (some (.int r.1)) (mw k.2.2.2 r.2) (mw k.2.2.2 σ) [(0, .ref (k.2.2.2.1 0)), (1, .int x1), (2, .int x2)] [] 19) (σ : St) (x1 : Int32) (x2 : Int32) (r : Int32 × St) (hf : fX9_rule_b19 rc19 σ x1 x2 = some r) : G k X 4 (some (.int r.1)) (mw k.2.2.2 r.2) (mw k.2.2.2 σ) [(0, .ref (k.2.2.2.1 0)), (1, .int x1), (2, .int x2)] [] 19 := by
  unfold fX9_rule_b19 at hf
  refine g_iload_n E 2 dX9_rule_19 rfl rfl ?_
  refine g_aload_n E 0 dX9_rule_20 rfl rfl ?_
  refine g_get (C := RX9) (T := TX9) (N := 20) (ci := 9) E 0 13 (.int (σ.2.1 2)) hi_X9_rule_X9 (mwG0 _ _) rfl (by decide) hk_X9_rule_97 rfl dX9_rule_21 ?_
  refine g_icmp_ge (tgt := 159) E dX9_rule_24 (by decide) (fun c1 => ?_) (fun c1 => ?_)
  · have hf := gp hf c1
    refine g_aload_n E 0 dX9_rule_159 rfl rfl ?_
    refine g_dup E dX9_rule_160 rfl ?_
    refine g_get (C := RX9) (T := TX9) (N := 20) (ci := 9) E 0 17 (.int (σ.2.1 3)) hi_X9_rule_X9 (mwG0 _ _) rfl (by decide) hk_X9_rule_118 rfl dX9_rule_161 ?_
    refine g_iconst (v := (1 : Int32)) E dX9_rule_164 (by decide) ?_
    refine g_iadd E dX9_rule_165 ?_
    refine g_put (C := RX9) (T := TX9) (N := 20) (ci := 9) E 0 17 (mw k.2.2.2 (uI σ 3 (((σ.2.1 3) + (1 : Int32))))) hi_X9_rule_X9 tyX9 tyX9_ok nmX9 (mwG0 _ _) rfl (by decide) hk_X9_rule_118 rfl (by decide +kernel) (Nat.le_of_ble_eq_true rfl) (mwI3 _ _ _) dX9_rule_166 ?_
    refine g_aload_n E 0 dX9_rule_169 rfl rfl ?_
    refine g_iconst (v := (0 : Int32)) E dX9_rule_170 (by decide) ?_
    refine g_put (C := RX9) (T := TX9) (N := 20) (ci := 9) E 0 13 (mw k.2.2.2 (uI ((uI σ 3 (((σ.2.1 3) + (1 : Int32))))) 2 (0 : Int32))) hi_X9_rule_X9 tyX9 tyX9_ok nmX9 (mwG0 _ _) rfl (by decide) hk_X9_rule_97 rfl (by decide +kernel) (Nat.le_of_ble_eq_true rfl) (mwI2 _ _ _) dX9_rule_171 ?_
    refine g_aload_n E 0 dX9_rule_174 rfl rfl ?_
    refine g_get (C := RX9) (T := TX9) (N := 20) (ci := 9) E 0 17 (.int (((uI ((uI σ 3 (((σ.2.1 3) + (1 : Int32))))) 2 (0 : Int32))).2.1 3)) hi_X9_rule_X9 (mwG0 _ _) rfl (by decide) hk_X9_rule_118 rfl dX9_rule_175 ?_
    have hf := Option.some.inj hf
    subst hf
    exact g_iret E dX9_rule_178
  · have hf := gn hf c1
    refine g_aload_n E 0 dX9_rule_27 rfl rfl ?_
    refine g_get (C := RX9) (T := TX9) (N := 20) (ci := 9) E 0 12 (.ref (k.2.2.2.1 11)) hi_X9_rule_X9 (mwG0 _ _) rfl (by decide) hk_X9_rule_40 rfl dX9_rule_28 ?_
    refine g_iload_n E 2 dX9_rule_31 rfl rfl ?_
    obtain ⟨hi2, hf⟩ := gd hf
    refine g_iald E 11 (σ.1 11) (mwG11 _ _) hi2 dX9_rule_32 ?_
    refine g_istore_n E [(3, .int (σ.1 11 x2.toNatClampNeg)), (0, .ref (k.2.2.2.1 0)), (1, .int x1), (2, .int x2)] dX9_rule_33 rfl (by decide) rfl ?_
    refine g_iload_n E 2 dX9_rule_34 rfl rfl ?_
    refine g_iload_n E 0 dX9_rule_35 rfl rfl ?_
    obtain ⟨q3, hq4, hf⟩ := gb hf
    refine g_callS (As := [.int x1, .int (σ.1 11 x2.toNatClampNeg)]) (rest := []) (n := 2) E (fX9_stepOf_c k σ x1 (σ.1 11 x2.toNatClampNeg) q3 hq4) gX9_rule_X9_stepOf rfl rfl rfl (by decide +kernel) ⟨Nat.le_of_ble_eq_true rfl, Nat.le_of_ble_eq_true rfl⟩ rfl rfl (Nat.le_of_ble_eq_true rfl) dX9_rule_36 ?_
    refine g_istore_n E [(1, .int q3.1), (3, .int (σ.1 11 x2.toNatClampNeg)), (0, .ref (k.2.2.2.1 0)), (2, .int x2)] dX9_rule_39 rfl (by decide) rfl ?_
    refine g_iload_n E 0 dX9_rule_40 rfl rfl ?_
    refine g_iconst (v := (1 : Int32)) E dX9_rule_41 (by decide) ?_
    refine g_icmp_ne (tgt := 78) E dX9_rule_42 (by decide) (fun c5 => ?_) (fun c5 => ?_)
    · have hf := gn hf c5
      refine g_iload_n E 0 dX9_rule_78 rfl rfl ?_
      refine g_iconst (v := (3 : Int32)) E dX9_rule_79 (by decide) ?_
      refine g_icmp_eq (tgt := 88) E dX9_rule_80 (by decide) (fun c6 => ?_) (fun c6 => ?_)
      · have hf := gp hf c6
        exact g_sub [2, 0, 3, 1] rfl (fX9_rule_w88 E rc19 hrc19 q3.2 q3.1 x2 (σ.1 11 x2.toNatClampNeg) r hf)
      · have hf := gn hf c6
        refine g_iload_n E 0 dX9_rule_83 rfl rfl ?_
        refine g_iconst (v := (4 : Int32)) E dX9_rule_84 (by decide) ?_
        refine g_icmp_ne (tgt := 117) E dX9_rule_85 (by decide) (fun c7 => ?_) (fun c7 => ?_)
        · have hf := gn hf c7
          refine g_iload_n E 0 dX9_rule_117 rfl rfl ?_
          refine g_bipush (v := (6 : Int32)) E dX9_rule_118 (by decide) ?_
          refine g_icmp_ne (tgt := 139) E dX9_rule_120 (by decide) (fun c8 => ?_) (fun c8 => ?_)
          · have hf := gn hf c8
            refine g_iload_n E 0 dX9_rule_139 rfl rfl ?_
            refine g_if_ne (tgt := 153) E dX9_rule_140 (by decide) (fun c9 => ?_) (fun c9 => ?_)
            · have hf := gn hf c9
              exact g_sub [2, 0, 3] rfl (fX9_rule_w153 E rc19 hrc19 q3.2 q3.1 x2 r hf)
            · have hf := gp hf c9
              refine g_aload_n E 2 dX9_rule_143 rfl rfl ?_
              refine g_dup E dX9_rule_144 rfl ?_
              refine g_get (C := RX9) (T := TX9) (N := 20) (ci := 9) E 0 17 (.int (q3.2.2.1 3)) hi_X9_rule_X9 (mwG0 _ _) rfl (by decide) hk_X9_rule_118 rfl dX9_rule_145 ?_
              refine g_iconst (v := (1 : Int32)) E dX9_rule_148 (by decide) ?_
              refine g_iadd E dX9_rule_149 ?_
              refine g_put (C := RX9) (T := TX9) (N := 20) (ci := 9) E 0 17 (mw k.2.2.2 (uI q3.2 3 (((q3.2.2.1 3) + (1 : Int32))))) hi_X9_rule_X9 tyX9 tyX9_ok nmX9 (mwG0 _ _) rfl (by decide) hk_X9_rule_118 rfl (by decide +kernel) (Nat.le_of_ble_eq_true rfl) (mwI3 _ _ _) dX9_rule_150 ?_
              exact g_sub [2, 0, 3] rfl (fX9_rule_w153 E rc19 hrc19 (uI q3.2 3 (((q3.2.2.1 3) + (1 : Int32)))) q3.1 x2 r hf)
          · have hf := gp hf c8
            refine g_aload_n E 2 dX9_rule_123 rfl rfl ?_
            refine g_get (C := RX9) (T := TX9) (N := 20) (ci := 9) E 0 16 (.ref (k.2.2.2.1 14)) hi_X9_rule_X9 (mwG0 _ _) rfl (by decide) hk_X9_rule_49 rfl dX9_rule_124 ?_
            refine g_aload_n E 2 dX9_rule_127 rfl rfl ?_
            refine g_get (C := RX9) (T := TX9) (N := 20) (ci := 9) E 0 17 (.int (q3.2.2.1 3)) hi_X9_rule_X9 (mwG0 _ _) rfl (by decide) hk_X9_rule_118 rfl dX9_rule_128 ?_
            refine g_iload_n E 1 dX9_rule_131 rfl rfl ?_
            refine g_bipush (v := (48 : Int32)) E dX9_rule_132 (by decide) ?_
            refine g_isub E dX9_rule_134 ?_
            obtain ⟨hi10, hf⟩ := gd hf
            refine g_iast E 14 (mw k.2.2.2 (uA q3.2 14 (q3.2.2.1 3).toNatClampNeg (((σ.1 11 x2.toNatClampNeg) - (48 : Int32))))) (q3.2.1 14) (mwG14 _ _) hi10 (mwA14 _ _ _ _) dX9_rule_135 ?_
            refine g_goto (tgt := 153) E dX9_rule_136 (by decide) ?_
            exact g_sub [2, 0, 3] rfl (fX9_rule_w153 E rc19 hrc19 (uA q3.2 14 (q3.2.2.1 3).toNatClampNeg (((σ.1 11 x2.toNatClampNeg) - (48 : Int32)))) q3.1 x2 r hf)
        · have hf := gp hf c7
          exact g_sub [2, 0, 3, 1] rfl (fX9_rule_w88 E rc19 hrc19 q3.2 q3.1 x2 (σ.1 11 x2.toNatClampNeg) r hf)
    · have hf := gp hf c5
      refine g_aload_n E 2 dX9_rule_45 rfl rfl ?_
      refine g_get (C := RX9) (T := TX9) (N := 20) (ci := 9) E 0 14 (.ref (k.2.2.2.1 12)) hi_X9_rule_X9 (mwG0 _ _) rfl (by decide) hk_X9_rule_43 rfl dX9_rule_46 ?_
      refine g_aload_n E 2 dX9_rule_49 rfl rfl ?_
      refine g_get (C := RX9) (T := TX9) (N := 20) (ci := 9) E 0 17 (.int (q3.2.2.1 3)) hi_X9_rule_X9 (mwG0 _ _) rfl (by decide) hk_X9_rule_118 rfl dX9_rule_50 ?_
      refine g_iload_n E 1 dX9_rule_53 rfl rfl ?_
      obtain ⟨hi11, hf⟩ := gd hf
      refine g_iast E 12 (mw k.2.2.2 (uA q3.2 12 (q3.2.2.1 3).toNatClampNeg (σ.1 11 x2.toNatClampNeg))) (q3.2.1 12) (mwG12 _ _) hi11 (mwA12 _ _ _ _) dX9_rule_54 ?_
      refine g_aload_n E 2 dX9_rule_55 rfl rfl ?_
      refine g_get (C := RX9) (T := TX9) (N := 20) (ci := 9) E 0 15 (.ref (k.2.2.2.1 13)) hi_X9_rule_X9 (mwG0 _ _) rfl (by decide) hk_X9_rule_46 rfl dX9_rule_56 ?_
      refine g_aload_n E 2 dX9_rule_59 rfl rfl ?_
      refine g_get (C := RX9) (T := TX9) (N := 20) (ci := 9) E 0 17 (.int (((uA q3.2 12 (q3.2.2.1 3).toNatClampNeg (σ.1 11 x2.toNatClampNeg))).2.1 3)) hi_X9_rule_X9 (mwG0 _ _) rfl (by decide) hk_X9_rule_118 rfl dX9_rule_60 ?_
      refine g_iconst (v := (0 : Int32)) E dX9_rule_63 (by decide) ?_
      obtain ⟨hi12, hf⟩ := gd hf
      refine g_iast E 13 (mw k.2.2.2 (uA ((uA q3.2 12 (q3.2.2.1 3).toNatClampNeg (σ.1 11 x2.toNatClampNeg))) 13 ((((uA q3.2 12 (q3.2.2.1 3).toNatClampNeg (σ.1 11 x2.toNatClampNeg))).2.1 3)).toNatClampNeg (0 : Int32))) (((uA q3.2 12 (q3.2.2.1 3).toNatClampNeg (σ.1 11 x2.toNatClampNeg))).1 13) (mwG13 _ _) hi12 (mwA13 _ _ _ _) dX9_rule_64 ?_
      refine g_aload_n E 2 dX9_rule_65 rfl rfl ?_
      refine g_get (C := RX9) (T := TX9) (N := 20) (ci := 9) E 0 16 (.ref (k.2.2.2.1 14)) hi_X9_rule_X9 (mwG0 _ _) rfl (by decide) hk_X9_rule_49 rfl dX9_rule_66 ?_
      refine g_aload_n E 2 dX9_rule_69 rfl rfl ?_
      refine g_get (C := RX9) (T := TX9) (N := 20) (ci := 9) E 0 17 (.int (((uA ((uA q3.2 12 (q3.2.2.1 3).toNatClampNeg (σ.1 11 x2.toNatClampNeg))) 13 ((((uA q3.2 12 (q3.2.2.1 3).toNatClampNeg (σ.1 11 x2.toNatClampNeg))).2.1 3)).toNatClampNeg (0 : Int32))).2.1 3)) hi_X9_rule_X9 (mwG0 _ _) rfl (by decide) hk_X9_rule_118 rfl dX9_rule_70 ?_
      refine g_iconst (v := (4 : Int32)) E dX9_rule_73 (by decide) ?_
      obtain ⟨hi13, hf⟩ := gd hf
      refine g_iast E 14 (mw k.2.2.2 (uA ((uA ((uA q3.2 12 (q3.2.2.1 3).toNatClampNeg (σ.1 11 x2.toNatClampNeg))) 13 ((((uA q3.2 12 (q3.2.2.1 3).toNatClampNeg (σ.1 11 x2.toNatClampNeg))).2.1 3)).toNatClampNeg (0 : Int32))) 14 ((((uA ((uA q3.2 12 (q3.2.2.1 3).toNatClampNeg (σ.1 11 x2.toNatClampNeg))) 13 ((((uA q3.2 12 (q3.2.2.1 3).toNatClampNeg (σ.1 11 x2.toNatClampNeg))).2.1 3)).toNatClampNeg (0 : Int32))).2.1 3)).toNatClampNeg (4 : Int32))) (((uA ((uA q3.2 12 (q3.2.2.1 3).toNatClampNeg (σ.1 11 x2.toNatClampNeg))) 13 ((((uA q3.2 12 (q3.2.2.1 3).toNatClampNeg (σ.1 11 x2.toNatClampNeg))).2.1 3)).toNatClampNeg (0 : Int32))).1 14) (mwG14 _ _) hi13 (mwA14 _ _ _ _) dX9_rule_74 ?_
      refine g_goto (tgt := 153) E dX9_rule_75 (by decide) ?_
      exact g_sub [2, 0, 3] rfl (fX9_rule_w153 E rc19 hrc19 (uA ((uA ((uA q3.2 12 (q3.2.2.1 3).toNatClampNeg (σ.1 11 x2.toNatClampNeg))) 13 ((((uA q3.2 12 (q3.2.2.1 3).toNatClampNeg (σ.1 11 x2.toNatClampNeg))).2.1 3)).toNatClampNeg (0 : Int32))) 14 ((((uA ((uA q3.2 12 (q3.2.2.1 3).toNatClampNeg (σ.1 11 x2.toNatClampNeg))) 13 ((((uA q3.2 12 (q3.2.2.1 3).toNatClampNeg (σ.1 11 x2.toNatClampNeg))).2.1 3)).toNatClampNeg (0 : Int32))).2.1 3)).toNatClampNeg (4 : Int32)) q3.1 x2 r hf)
theorem fX9_rule_v19 {k : gK} {X : gX} (E : gE k X cX9_rule RX9 wsX9_rule 4 (some .int) rm_fX9_rule) : ∀ (n : Nat) (σ : St) (x1 : Int32) (x2 : Int32) (r : Int32 × St), fX9_rule_l19 n σ x1 x2 = some r → G k X 4 (some (.int r.1)) (mw k.2.2.2 r.2) (mw k.2.2.2 σ) [(0, .ref (k.2.2.2.1 0)), (1, .int x1), (2, .int x2)] [] 19 := by
  intro n
  induction n with
  | zero => intro σ x1 x2 r hf; cases hf
  | succ n ih => intro σ x1 x2 r hf; exact fX9_rule_w19 E (fX9_rule_l19 n) ih σ x1 x2 r hf
set_option maxHeartbeats 4000000 in
set_option maxRecDepth 100000 in
theorem fX9_rule_c (k : gK) (σ : St) (r : Int32 × St) (hf : fX9_rule σ = some r) : MC k yX9_rule wsX9_rule rm_fX9_rule [.ref (k.2.2.2.1 0)] (mw k.2.2.2 σ) (some (.int r.1)) (mw k.2.2.2 r.2) := by
  refine MC_of (cc := cX9_rule) (maxL := 4) (ret := (some .int)) (own := RX9) (lvs := [(0, .ref (k.2.2.2.1 0))]) (by decide) rfl rfl (Nat.le_of_ble_eq_true rfl) rfl (fun X E => ?_)
  unfold fX9_rule at hf
  refine g_aload_n E 0 dX9_rule_0 rfl rfl ?_
  obtain ⟨q1, hq2, hf⟩ := gb hf
  refine g_callV (C := RX9) (T := TX9) (N := 20) (ci := 9) (As := []) (rest := []) (n := 0) E 0 (fX9_fault_c k σ  q1 hq2) gX9_rule_X9_fault rfl rfl rfl (by decide +kernel) ⟨Nat.le_of_ble_eq_true rfl, Nat.le_of_ble_eq_true rfl⟩ rfl rfl (Nat.le_of_ble_eq_true rfl) rfl (mwG0 _ _) dX9_rule_1 ?_
  refine g_if_lt (tgt := 10) E dX9_rule_4 (by decide) (fun c3 => ?_) (fun c3 => ?_)
  · have hf := gp hf c3
    refine g_aload_n E 0 dX9_rule_10 rfl rfl ?_
    refine g_iconst (v := (0 : Int32)) E dX9_rule_11 (by decide) ?_
    refine g_put (C := RX9) (T := TX9) (N := 20) (ci := 9) E 0 17 (mw k.2.2.2 (uI q1.2 3 (0 : Int32))) hi_X9_rule_X9 tyX9 tyX9_ok nmX9 (mwG0 _ _) rfl (by decide) hk_X9_rule_118 rfl (by decide +kernel) (Nat.le_of_ble_eq_true rfl) (mwI3 _ _ _) dX9_rule_12 ?_
    refine g_iconst (v := (0 : Int32)) E dX9_rule_15 (by decide) ?_
    refine g_istore_n E [(1, .int (0 : Int32)), (0, .ref (k.2.2.2.1 0))] dX9_rule_16 rfl (by decide) rfl ?_
    refine g_iconst (v := (0 : Int32)) E dX9_rule_17 (by decide) ?_
    refine g_istore_n E [(2, .int (0 : Int32)), (1, .int (0 : Int32)), (0, .ref (k.2.2.2.1 0))] dX9_rule_18 rfl (by decide) rfl ?_
    exact g_sub [2, 1, 0] rfl (fX9_rule_v19 E gF (uI q1.2 3 (0 : Int32)) (0 : Int32) (0 : Int32) r hf)
  · have hf := gn hf c3
    refine g_bipush (v := (-5 : Int32)) E dX9_rule_7 (by decide) ?_
    have hf := Option.some.inj hf
    subst hf
    exact g_iret E dX9_rule_9
