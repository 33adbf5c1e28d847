theorem hi_X9_moreMarks_X9 : ∀ w ∈ wsX90, w ∈ wsX9_moreMarks := by decide +kernel
theorem hk_X9_moreMarks_63 : Cond.fieldLink RX9 63 "PaperMarksModel" "judges" "I" ∈ wsX9_moreMarks := by decide +kernel
theorem hk_X9_moreMarks_34 : Cond.fieldLink RX9 34 "PaperMarksModel" "marks" "[I" ∈ wsX9_moreMarks := by decide +kernel
def rm_fX9_moreMarks : Room := { frames := 1, cells := 0, slots := 0, locals := 21 }
set_option maxHeartbeats 4000000 in
set_option maxRecDepth 100000 in
theorem fX9_moreMarks_w125 {k : gK} {X : gX} (E : gE k X cX9_moreMarks RX9 wsX9_moreMarks 10 (some .int) rm_fX9_moreMarks) (σ : St) (r : Int32 × St) (hf : fX9_moreMarks_b125 σ = some r) : G k X 10 (some (.int r.1)) (mw k.2.2.2 r.2) (mw k.2.2.2 σ) [] [] 125 := by
  unfold fX9_moreMarks_b125 at hf
  refine g_iconst (v := (0 : Int32)) E dX9_moreMarks_125 (by decide) ?_
  refine g_goto (tgt := 139) E dX9_moreMarks_126 (by decide) ?_
  have hf := Option.some.inj hf
  subst hf
  exact g_iret E dX9_moreMarks_139
set_option maxHeartbeats 4000000 in
set_option maxRecDepth 100000 in
theorem fX9_moreMarks_w106 {k : gK} {X : gX} (E : gE k X cX9_moreMarks RX9 wsX9_moreMarks 10 (some .int) rm_fX9_moreMarks) (rc14 : St → Int32 → Int32 → Int32 → Int32 → Int32 → Int32 → Int32 → Option (Int32 × St)) (hrc14 : ∀ (σ : St) (x1 : Int32) (x2 : Int32) (x3 : Int32) (x4 : Int32) (x5 : Int32) (x6 : Int32) (x7 : Int32) (r : Int32 × St), rc14 σ x1 x2 x3 x4 x5 x6 x7 = some r → G k X 10 (some (.int r.1)) (mw k.2.2.2 r.2) (mw k.2.2.2 σ) [(0, .ref (k.2.2.2.1 0)), (1, .int x1), (2, .int x2), (3, .int x3), (4, .int x4), (5, .int x5), (6, .int x6), (7, .int x7)] [] 14) (σ : St) (x1 : Int32) (x2 : Int32) (x3 : Int32) (x4 : Int32) (x5 : Int32) (x7 : Int32) (t0 : Int32) (t1 : Int32) (r : Int32 × St) (hf : fX9_moreMarks_b106 rc14 σ x1 x2 x3 x4 x5 x7 t0 t1 = some r) : G k X 10 (some (.int r.1)) (mw k.2.2.2 r.2) (mw k.2.2.2 σ) [(0, .ref (k.2.2.2.1 0)), (1, .int x1), (2, .int x2), (3, .int x3), (4, .int x4), (5, .int x5), (7, .int x7)] [.int t1, .int t0] 106 := by
  unfold fX9_moreMarks_b106 at hf
  refine g_iadd E dX9_moreMarks_106 ?_
  refine g_istore E [(6, .int (t0 + t1)), (0, .ref (k.2.2.2.1 0)), (1, .int x1), (2, .int x2), (3, .int x3), (4, .int x4), (5, .int x5), (7, .int x7)] dX9_moreMarks_107 (by decide) rfl ?_
  refine g_iinc E 7 [(7, .int (x7 + (1 : Int32))), (6, .int (t0 + t1)), (0, .ref (k.2.2.2.1 0)), (1, .int x1), (2, .int x2), (3, .int x3), (4, .int x4), (5, .int x5)] (x7 + (1 : Int32)) dX9_moreMarks_109 rfl (by rfl) (by decide) rfl ?_
  refine g_goto (tgt := 14) E dX9_moreMarks_112 (by decide) ?_
  exact g_sub [2, 3, 4, 5, 6, 7, 1, 0] rfl (hrc14 σ x1 x2 x3 x4 x5 (t0 + t1) (x7 + (1 : Int32)) r hf)
set_option maxHeartbeats 4000000 in
set_option maxRecDepth 100000 in
theorem fX9_moreMarks_w91 {k : gK} {X : gX} (E : gE k X cX9_moreMarks RX9 wsX9_moreMarks 10 (some .int) rm_fX9_moreMarks) (rc14 : St → Int32 → Int32 → Int32 → Int32 → Int32 → Int32 → Int32 → Option (Int32 × St)) (hrc14 : ∀ (σ : St) (x1 : Int32) (x2 : Int32) (x3 : Int32) (x4 : Int32) (x5 : Int32) (x6 : Int32) (x7 : Int32) (r : Int32 × St), rc14 σ x1 x2 x3 x4 x5 x6 x7 = some r → G k X 10 (some (.int r.1)) (mw k.2.2.2 r.2) (mw k.2.2.2 σ) [(0, .ref (k.2.2.2.1 0)), (1, .int x1), (2, .int x2), (3, .int x3), (4, .int x4), (5, .int x5), (6, .int x6), (7, .int x7)] [] 14) (σ : St) (x1 : Int32) (x2 : Int32) (x3 : Int32) (x4 : Int32) (x6 : Int32) (x7 : Int32) (x9 : Int32) (t0 : Int32) (t1 : Int32) (r : Int32 × St) (hf : fX9_moreMarks_b91 rc14 σ x1 x2 x3 x4 x6 x7 x9 t0 t1 = some r) : G k X 10 (some (.int r.1)) (mw k.2.2.2 r.2) (mw k.2.2.2 σ) [(0, .ref (k.2.2.2.1 0)), (1, .int x1), (2, .int x2), (3, .int x3), (4, .int x4), (6, .int x6), (7, .int x7), (9, .int x9)] [.int t1, .int t0] 91 := by
  unfold fX9_moreMarks_b91 at hf
  refine g_iadd E dX9_moreMarks_91 ?_
  refine g_istore E [(5, .int (t0 + t1)), (0, .ref (k.2.2.2.1 0)), (1, .int x1), (2, .int x2), (3, .int x3), (4, .int x4), (6, .int x6), (7, .int x7), (9, .int x9)] dX9_moreMarks_92 (by decide) rfl ?_
  refine g_iload E 6 dX9_moreMarks_94 rfl ?_
  refine g_iload E 8 dX9_moreMarks_96 rfl ?_
  refine g_if_ge (tgt := 105) E dX9_moreMarks_98 (by decide) (fun c1 => ?_) (fun c1 => ?_)
  · have hf := gp hf c1
    refine g_iconst (v := (1 : Int32)) E dX9_moreMarks_105 (by decide) ?_
    exact g_sub [1, 2, 3, 4, 5, 0, 7] rfl (fX9_moreMarks_w106 E rc14 hrc14 σ x1 x2 x3 x4 (t0 + t1) x7 x6 (1 : Int32) r hf)
  · have hf := gn hf c1
    refine g_iconst (v := (0 : Int32)) E dX9_moreMarks_101 (by decide) ?_
    refine g_goto (tgt := 106) E dX9_moreMarks_102 (by decide) ?_
    exact g_sub [1, 2, 3, 4, 5, 0, 7] rfl (fX9_moreMarks_w106 E rc14 hrc14 σ x1 x2 x3 x4 (t0 + t1) x7 x6 (0 : Int32) r hf)
set_option maxHeartbeats 4000000 in
set_option maxRecDepth 100000 in
theorem fX9_moreMarks_w75 {k : gK} {X : gX} (E : gE k X cX9_moreMarks RX9 wsX9_moreMarks 10 (some .int) rm_fX9_moreMarks) (rc14 : St → Int32 → Int32 → Int32 → Int32 → Int32 → Int32 → Int32 → Option (Int32 × St)) (hrc14 : ∀ (σ : St) (x1 : Int32) (x2 : Int32) (x3 : Int32) (x4 : Int32) (x5 : Int32) (x6 : Int32) (x7 : Int32) (r : Int32 × St), rc14 σ x1 x2 x3 x4 x5 x6 x7 = some r → G k X 10 (some (.int r.1)) (mw k.2.2.2 r.2) (mw k.2.2.2 σ) [(0, .ref (k.2.2.2.1 0)), (1, .int x1), (2, .int x2), (3, .int x3), (4, .int x4), (5, .int x5), (6, .int x6), (7, .int x7)] [] 14) (σ : St) (x1 : Int32) (x2 : Int32) (x3 : Int32) (x5 : Int32) (x6 : Int32) (x7 : Int32) (x9 : Int32) (t0 : Int32) (t1 : Int32) (r : Int32 × St) (hf : fX9_moreMarks_b75 rc14 σ x1 x2 x3 x5 x6 x7 x9 t0 t1 = some r) : G k X 10 (some (.int r.1)) (mw k.2.2.2 r.2) (mw k.2.2.2 σ) [(0, .ref (k.2.2.2.1 0)), (1, .int x1), (2, .int x2), (3, .int x3), (5, .int x5), (6, .int x6), (7, .int x7), (9, .int x9)] [.int t1, .int t0] 75 := by
  unfold fX9_moreMarks_b75 at hf
  refine g_iadd E dX9_moreMarks_75 ?_
  refine g_istore E [(4, .int (t0 + t1)), (0, .ref (k.2.2.2.1 0)), (1, .int x1), (2, .int x2), (3, .int x3), (5, .int x5), (6, .int x6), (7, .int x7), (9, .int x9)] dX9_moreMarks_76 (by decide) rfl ?_
  refine g_iload E 5 dX9_moreMarks_78 rfl ?_
  refine g_iload E 8 dX9_moreMarks_80 rfl ?_
  refine g_if_ge (tgt := 89) E dX9_moreMarks_82 (by decide) (fun c1 => ?_) (fun c1 => ?_)
  · have hf := gp hf c1
    refine g_iload E 8 dX9_moreMarks_89 rfl ?_
    exact g_sub [1, 2, 3, 4, 0, 6, 7, 8] rfl (fX9_moreMarks_w91 E rc14 hrc14 σ x1 x2 x3 (t0 + t1) x6 x7 x9 x5 x9 r hf)
  · have hf := gn hf c1
    refine g_iconst (v := (0 : Int32)) E dX9_moreMarks_85 (by decide) ?_
    refine g_goto (tgt := 91) E dX9_moreMarks_86 (by decide) ?_
    exact g_sub [1, 2, 3, 4, 0, 6, 7, 8] rfl (fX9_moreMarks_w91 E rc14 hrc14 σ x1 x2 x3 (t0 + t1) x6 x7 x9 x5 (0 : Int32) r hf)
set_option maxHeartbeats 4000000 in
set_option maxRecDepth 100000 in
theorem fX9_moreMarks_w61 {k : gK} {X : gX} (E : gE k X cX9_moreMarks RX9 wsX9_moreMarks 10 (some .int) rm_fX9_moreMarks) (rc14 : St → Int32 → Int32 → Int32 → Int32 → Int32 → Int32 → Int32 → Option (Int32 × St)) (hrc14 : ∀ (σ : St) (x1 : Int32) (x2 : Int32) (x3 : Int32) (x4 : Int32) (x5 : Int32) (x6 : Int32) (x7 : Int32) (r : Int32 × St), rc14 σ x1 x2 x3 x4 x5 x6 x7 = some r → G k X 10 (some (.int r.1)) (mw k.2.2.2 r.2) (mw k.2.2.2 σ) [(0, .ref (k.2.2.2.1 0)), (1, .int x1), (2, .int x2), (3, .int x3), (4, .int x4), (5, .int x5), (6, .int x6), (7, .int x7)] [] 14) (σ : St) (x1 : Int32) (x2 : Int32) (x4 : Int32) (x5 : Int32) (x6 : Int32) (x7 : Int32) (x8 : Int32) (x9 : Int32) (t0 : Int32) (t1 : Int32) (r : Int32 × St) (hf : fX9_moreMarks_b61 rc14 σ x1 x2 x4 x5 x6 x7 x8 x9 t0 t1 = some r) : G k X 10 (some (.int r.1)) (mw k.2.2.2 r.2) (mw k.2.2.2 σ) [(0, .ref (k.2.2.2.1 0)), (1, .int x1), (2, .int x2), (4, .int x4), (5, .int x5), (6, .int x6), (7, .int x7), (8, .int x8), (9, .int x9)] [.int t1, .int t0] 61 := by
  unfold fX9_moreMarks_b61 at hf
  refine g_iadd E dX9_moreMarks_61 ?_
  refine g_istore_n E [(3, .int (t0 + t1)), (0, .ref (k.2.2.2.1 0)), (1, .int x1), (2, .int x2), (4, .int x4), (5, .int x5), (6, .int x6), (7, .int x7), (8, .int x8), (9, .int x9)] dX9_moreMarks_62 rfl (by decide) rfl ?_
  refine g_iload E 4 dX9_moreMarks_63 rfl ?_
  refine g_iload E 8 dX9_moreMarks_65 rfl ?_
  refine g_if_ge (tgt := 74) E dX9_moreMarks_67 (by decide) (fun c1 => ?_) (fun c1 => ?_)
  · have hf := gp hf c1
    refine g_iconst (v := (1 : Int32)) E dX9_moreMarks_74 (by decide) ?_
    exact g_sub [1, 2, 3, 0, 5, 6, 7, 9] rfl (fX9_moreMarks_w75 E rc14 hrc14 σ x1 x2 (t0 + t1) x5 x6 x7 x9 x4 (1 : Int32) r hf)
  · have hf := gn hf c1
    refine g_iconst (v := (0 : Int32)) E dX9_moreMarks_70 (by decide) ?_
    refine g_goto (tgt := 75) E dX9_moreMarks_71 (by decide) ?_
    exact g_sub [1, 2, 3, 0, 5, 6, 7, 9] rfl (fX9_moreMarks_w75 E rc14 hrc14 σ x1 x2 (t0 + t1) x5 x6 x7 x9 x4 (0 : Int32) r hf)
set_option maxHeartbeats 4000000 in
set_option maxRecDepth 100000 in
theorem fX9_moreMarks_w14 {k : gK} {X : gX} (E : gE k X cX9_moreMarks RX9 wsX9_moreMarks 10 (some .int) rm_fX9_moreMarks) (rc14 : St → Int32 → Int32 → Int32 → Int32 → Int32 → Int32 → Int32 → Option (Int32 × St)) (hrc14 : ∀ (σ : St) (x1 : Int32) (x2 : Int32) (x3 : Int32) (x4 : Int32) (x5 : Int32) (x6 : Int32) (x7 : Int32) (r : Int32 × St), rc14 σ x1 x2 x3 x4 x5 x6 x7 = some r → G k X 10 (some (.int r.1)) (mw k.2.2.2 r.2) (mw k.2.2.2 σ) [(0, .ref (k.2.2.2.1 0)), (1, .int x1), (2, .int x2), (3, .int x3), (4, .int x4), (5, .int x5), (6, .int x6), (7, .int x7)] [] 14) (σ : St) (x1 : Int32) (x2 : Int32) (x3 : Int32) (x4 : Int32) (x5 : Int32) (x6 : Int32) (x7 : Int32) (r : Int32 × St) (hf : fX9_moreMarks_b14 rc14 σ x1 x2 x3 x4 x5 x6 x7 = some r) : G k X 10 (some (.int r.1)) (mw k.2.2.2 r.2) (mw k.2.2.2 σ) [(0, .ref (k.2.2.2.1 0)), (1, .int x1), (2, .int x2), (3, .int x3), (4, .int x4), (5, .int x5), (6, .int x6), (7, .int x7)] [] 14 := by
  unfold fX9_moreMarks_b14 at hf
  refine g_iload E 7 dX9_moreMarks_14 rfl ?_
  refine g_aload_n E 0 dX9_moreMarks_16 rfl rfl ?_
  refine g_get (C := RX9) (T := TX9) (N := 20) (ci := 9) E 0 3 (.int (σ.2.1 0)) hi_X9_moreMarks_X9 (mwG0 _ _) rfl (by decide) hk_X9_moreMarks_63 rfl dX9_moreMarks_17 ?_
  refine g_icmp_ge (tgt := 115) E dX9_moreMarks_20 (by decide) (fun c1 => ?_) (fun c1 => ?_)
  · have hf := gp hf c1
    refine g_iload E 4 dX9_moreMarks_115 rfl ?_
    refine g_if_eq (tgt := 125) E dX9_moreMarks_117 (by decide) (fun c2 => ?_) (fun c2 => ?_)
    · have hf := gp hf c2
      exact g_sub [] rfl (fX9_moreMarks_w125 E σ r hf)
    · have hf := gn hf c2
      refine g_iload E 6 dX9_moreMarks_120 rfl ?_
      refine g_if_ne (tgt := 129) E dX9_moreMarks_122 (by decide) (fun c3 => ?_) (fun c3 => ?_)
      · have hf := gn hf c3
        refine g_iload_n E 3 dX9_moreMarks_129 rfl rfl ?_
        refine g_iload E 6 dX9_moreMarks_130 rfl ?_
        refine g_imul E dX9_moreMarks_132 ?_
        refine g_iload E 5 dX9_moreMarks_133 rfl ?_
        refine g_iload E 4 dX9_moreMarks_135 rfl ?_
        refine g_imul E dX9_moreMarks_137 ?_
        refine g_isub E dX9_moreMarks_138 ?_
        have hf := Option.some.inj hf
        subst hf
        exact g_iret E dX9_moreMarks_139
      · have hf := gp hf c3
        exact g_sub [] rfl (fX9_moreMarks_w125 E σ r hf)
  · have hf := gn hf c1
    refine g_aload_n E 0 dX9_moreMarks_23 rfl rfl ?_
    refine g_get (C := RX9) (T := TX9) (N := 20) (ci := 9) E 0 10 (.ref (k.2.2.2.1 9)) hi_X9_moreMarks_X9 (mwG0 _ _) rfl (by decide) hk_X9_moreMarks_34 rfl dX9_moreMarks_24 ?_
    refine g_iload E 7 dX9_moreMarks_27 rfl ?_
    refine g_iload_n E 1 dX9_moreMarks_29 rfl rfl ?_
    obtain ⟨q4, hq5, hf⟩ := gb hf
    refine g_callS (As := [.int x7, .int x1]) (rest := [.ref (k.2.2.2.1 9)]) (n := 2) E (fX9_at_c k σ x7 x1 q4 hq5) gX9_moreMarks_X9_at rfl rfl rfl (by decide +kernel) ⟨Nat.le_of_ble_eq_true rfl, Nat.le_of_ble_eq_true rfl⟩ rfl rfl (Nat.le_of_ble_eq_true rfl) dX9_moreMarks_30 ?_
    obtain ⟨hi6, hf⟩ := gd hf
    refine g_iald E 9 (q4.2.1 9) (mwG9 _ _) hi6 dX9_moreMarks_33 ?_
    refine g_istore E [(8, .int (q4.2.1 9 q4.1.toNatClampNeg)), (0, .ref (k.2.2.2.1 0)), (1, .int x1), (2, .int x2), (3, .int x3), (4, .int x4), (5, .int x5), (6, .int x6), (7, .int x7)] dX9_moreMarks_34 (by decide) rfl ?_
    refine g_aload_n E 1 dX9_moreMarks_36 rfl rfl ?_
    refine g_get (C := RX9) (T := TX9) (N := 20) (ci := 9) E 0 10 (.ref (k.2.2.2.1 9)) hi_X9_moreMarks_X9 (mwG0 _ _) rfl (by decide) hk_X9_moreMarks_34 rfl dX9_moreMarks_37 ?_
    refine g_iload E 8 dX9_moreMarks_40 rfl ?_
    refine g_iload_n E 3 dX9_moreMarks_42 rfl rfl ?_
    obtain ⟨q7, hq8, hf⟩ := gb hf
    refine g_callS (As := [.int x7, .int x2]) (rest := [.ref (k.2.2.2.1 9)]) (n := 2) E (fX9_at_c k q4.2 x7 x2 q7 hq8) gX9_moreMarks_X9_at rfl rfl rfl (by decide +kernel) ⟨Nat.le_of_ble_eq_true rfl, Nat.le_of_ble_eq_true rfl⟩ rfl rfl (Nat.le_of_ble_eq_true rfl) dX9_moreMarks_43 ?_
    obtain ⟨hi9, hf⟩ := gd hf
    refine g_iald E 9 (q7.2.1 9) (mwG9 _ _) hi9 dX9_moreMarks_46 ?_
    refine g_istore E [(9, .int (q7.2.1 9 q7.1.toNatClampNeg)), (8, .int (q4.2.1 9 q4.1.toNatClampNeg)), (0, .ref (k.2.2.2.1 0)), (1, .int x1), (2, .int x2), (3, .int x3), (4, .int x4), (5, .int x5), (6, .int x6), (7, .int x7)] dX9_moreMarks_47 (by decide) rfl ?_
    refine g_iload_n E 5 dX9_moreMarks_49 rfl rfl ?_
    refine g_iload E 1 dX9_moreMarks_50 rfl ?_
    refine g_if_ge (tgt := 59) E dX9_moreMarks_52 (by decide) (fun c10 => ?_) (fun c10 => ?_)
    · have hf := gp hf c10
      refine g_iload E 1 dX9_moreMarks_59 rfl ?_
      exact g_sub [2, 3, 4, 6, 7, 8, 9, 1, 0] rfl (fX9_moreMarks_w61 E rc14 hrc14 q7.2 x1 x2 x4 x5 x6 x7 (q4.2.1 9 q4.1.toNatClampNeg) (q7.2.1 9 q7.1.toNatClampNeg) x3 (q4.2.1 9 q4.1.toNatClampNeg) r hf)
    · have hf := gn hf c10
      refine g_iconst (v := (0 : Int32)) E dX9_moreMarks_55 (by decide) ?_
      refine g_goto (tgt := 61) E dX9_moreMarks_56 (by decide) ?_
      exact g_sub [2, 3, 4, 6, 7, 8, 9, 1, 0] rfl (fX9_moreMarks_w61 E rc14 hrc14 q7.2 x1 x2 x4 x5 x6 x7 (q4.2.1 9 q4.1.toNatClampNeg) (q7.2.1 9 q7.1.toNatClampNeg) x3 (0 : Int32) r hf)
theorem fX9_moreMarks_v14 {k : gK} {X : gX} (E : gE k X cX9_moreMarks RX9 wsX9_moreMarks 10 (some .int) rm_fX9_moreMarks) : ∀ (n : Nat) (σ : St) (x1 : Int32) (x2 : Int32) (x3 : Int32) (x4 : Int32) (x5 : Int32) (x6 : Int32) (x7 : Int32) (r : Int32 × St), fX9_moreMarks_l14 n σ x1 x2 x3 x4 x5 x6 x7 = some r → G k X 10 (some (.int r.1)) (mw k.2.2.2 r.2) (mw k.2.2.2 σ) [(0, .ref (k.2.2.2.1 0)), (1, .int x1), (2, .int x2), (3, .int x3), (4, .int x4), (5, .int x5), (6, .int x6), (7, .int x7)] [] 14 := by
  intro n
  induction n with
  | zero => intro σ x1 x2 x3 x4 x5 x6 x7 r hf; cases hf
  | succ n ih => intro σ x1 x2 x3 x4 x5 x6 x7 r hf; exact fX9_moreMarks_w14 E (fX9_moreMarks_l14 n) ih σ x1 x2 x3 x4 x5 x6 x7 r hf
set_option maxHeartbeats 4000000 in
set_option maxRecDepth 100000 in
theorem fX9_moreMarks_c (k : gK) (σ : St) (x1 : Int32) (x2 : Int32) (r : Int32 × St) (hf : fX9_moreMarks σ x1 x2 = some r) : MC k yX9_moreMarks wsX9_moreMarks rm_fX9_moreMarks [.ref (k.2.2.2.1 0), .int x1, .int x2] (mw k.2.2.2 σ) (some (.int r.1)) (mw k.2.2.2 r.2) := by
  refine MC_of (cc := cX9_moreMarks) (maxL := 10) (ret := (some .int)) (own := RX9) (lvs := [(0, .ref (k.2.2.2.1 0)), (1, .int x1), (2, .int x2)]) (by decide) rfl rfl (Nat.le_of_ble_eq_true rfl) rfl (fun X E => ?_)
  unfold fX9_moreMarks at hf
  refine g_iconst (v := (0 : Int32)) E dX9_moreMarks_0 (by decide) ?_
  refine g_istore_n E [(3, .int (0 : Int32)), (0, .ref (k.2.2.2.1 0)), (1, .int x1), (2, .int x2)] dX9_moreMarks_1 rfl (by decide) rfl ?_
  refine g_iconst (v := (0 : Int32)) E dX9_moreMarks_2 (by decide) ?_
  refine g_istore E [(4, .int (0 : Int32)), (3, .int (0 : Int32)), (0, .ref (k.2.2.2.1 0)), (1, .int x1), (2, .int x2)] dX9_moreMarks_3 (by decide) rfl ?_
  refine g_iconst (v := (0 : Int32)) E dX9_moreMarks_5 (by decide) ?_
  refine g_istore E [(5, .int (0 : Int32)), (4, .int (0 : Int32)), (3, .int (0 : Int32)), (0, .ref (k.2.2.2.1 0)), (1, .int x1), (2, .int x2)] dX9_moreMarks_6 (by decide) rfl ?_
  refine g_iconst (v := (0 : Int32)) E dX9_moreMarks_8 (by decide) ?_
  refine g_istore E [(6, .int (0 : Int32)), (5, .int (0 : Int32)), (4, .int (0 : Int32)), (3, .int (0 : Int32)), (0, .ref (k.2.2.2.1 0)), (1, .int x1), (2, .int x2)] dX9_moreMarks_9 (by decide) rfl ?_
  refine g_iconst (v := (0 : Int32)) E dX9_moreMarks_11 (by decide) ?_
  refine g_istore E [(7, .int (0 : Int32)), (6, .int (0 : Int32)), (5, .int (0 : Int32)), (4, .int (0 : Int32)), (3, .int (0 : Int32)), (0, .ref (k.2.2.2.1 0)), (1, .int x1), (2, .int x2)] dX9_moreMarks_12 (by decide) rfl ?_
  exact g_sub [5, 6, 7, 4, 3, 2, 1, 0] rfl (fX9_moreMarks_v14 E gF σ x1 x2 (0 : Int32) (0 : Int32) (0 : Int32) (0 : Int32) (0 : Int32) r hf)
