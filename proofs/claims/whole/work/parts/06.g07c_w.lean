theorem hi_X9_joinOf_X9 : ∀ w ∈ wsX90, w ∈ wsX9_joinOf := by decide +kernel
theorem hk_X9_joinOf_52 : Cond.fieldLink RX9 52 "PaperMarksModel" "given" "[I" ∈ wsX9_joinOf := by decide +kernel
def rm_fX9_joinOf : Room := { frames := 0, cells := 0, slots := 0, locals := 0 }
set_option maxHeartbeats 4000000 in
set_option maxRecDepth 100000 in
theorem fX9_joinOf_w100 {k : gK} {X : gX} (E : gE k X cX9_joinOf RX9 wsX9_joinOf 9 (some .int) rm_fX9_joinOf) (rc18 : St → Int32 → Int32 → Int32 → Int32 → Int32 → Int32 → Int32 → Int32 → Option (Int32 × St)) (hrc18 : ∀ (σ : St) (x1 : Int32) (x2 : Int32) (x3 : Int32) (x4 : Int32) (x5 : Int32) (x6 : Int32) (x7 : Int32) (x8 : Int32) (r : Int32 × St), rc18 σ x1 x2 x3 x4 x5 x6 x7 x8 = some r → G k X 9 (some (.int r.1)) (mw k.2.2.2 r.2) (mw k.2.2.2 σ) [(0, .ref (k.2.2.2.1 0)), (1, .int x1), (2, .int x2), (3, .int x3), (4, .int x4), (5, .int x5), (6, .int x6), (7, .int x7), (8, .int x8)] [] 18) (σ : St) (x1 : Int32) (x2 : Int32) (x3 : Int32) (x4 : Int32) (x5 : Int32) (x7 : Int32) (x8 : Int32) (t0 : Int32) (r : Int32 × St) (hf : fX9_joinOf_b100 rc18 σ x1 x2 x3 x4 x5 x7 x8 t0 = some r) : G k X 9 (some (.int r.1)) (mw k.2.2.2 r.2) (mw k.2.2.2 σ) [(0, .ref (k.2.2.2.1 0)), (1, .int x1), (2, .int x2), (3, .int x3), (4, .int x4), (5, .int x5), (7, .int x7), (8, .int x8)] [.int t0] 100 := by
  unfold fX9_joinOf_b100 at hf
  refine g_istore E [(6, .int t0), (0, .ref (k.2.2.2.1 0)), (1, .int x1), (2, .int x2), (3, .int x3), (4, .int x4), (5, .int x5), (7, .int x7), (8, .int x8)] dX9_joinOf_100 (by decide) rfl ?_
  refine g_iload E 7 dX9_joinOf_102 rfl ?_
  refine g_aload_n E 1 dX9_joinOf_104 rfl rfl ?_
  refine g_get (C := RX9) (T := TX9) (N := 20) (ci := 9) E 0 18 (.ref (k.2.2.2.1 15)) hi_X9_joinOf_X9 (mwG0 _ _) rfl (by decide) hk_X9_joinOf_52 rfl dX9_joinOf_105 ?_
  refine g_iload E 8 dX9_joinOf_108 rfl ?_
  obtain ⟨hi1, hf⟩ := gd hf
  refine g_iald E 15 (σ.1 15) (mwG15 _ _) hi1 dX9_joinOf_110 ?_
  refine g_iadd E dX9_joinOf_111 ?_
  refine g_istore E [(7, .int (x7 + (σ.1 15 x8.toNatClampNeg))), (6, .int t0), (0, .ref (k.2.2.2.1 0)), (1, .int x1), (2, .int x2), (3, .int x3), (4, .int x4), (5, .int x5), (8, .int x8)] dX9_joinOf_112 (by decide) rfl ?_
  refine g_iinc E 8 [(8, .int (x8 + (1 : Int32))), (7, .int (x7 + (σ.1 15 x8.toNatClampNeg))), (6, .int t0), (0, .ref (k.2.2.2.1 0)), (1, .int x1), (2, .int x2), (3, .int x3), (4, .int x4), (5, .int x5)] (x8 + (1 : Int32)) dX9_joinOf_114 rfl (by rfl) (by decide) rfl ?_
  refine g_goto (tgt := 18) E dX9_joinOf_117 (by decide) ?_
  exact g_sub [3, 4, 5, 6, 7, 8, 2, 1, 0] rfl (hrc18 σ x1 x2 x3 x4 x5 t0 (x7 + (σ.1 15 x8.toNatClampNeg)) (x8 + (1 : Int32)) r hf)
set_option maxHeartbeats 4000000 in
set_option maxRecDepth 100000 in
theorem fX9_joinOf_w81 {k : gK} {X : gX} (E : gE k X cX9_joinOf RX9 wsX9_joinOf 9 (some .int) rm_fX9_joinOf) (rc18 : St → Int32 → Int32 → Int32 → Int32 → Int32 → Int32 → Int32 → Int32 → Option (Int32 × St)) (hrc18 : ∀ (σ : St) (x1 : Int32) (x2 : Int32) (x3 : Int32) (x4 : Int32) (x5 : Int32) (x6 : Int32) (x7 : Int32) (x8 : Int32) (r : Int32 × St), rc18 σ x1 x2 x3 x4 x5 x6 x7 x8 = some r → G k X 9 (some (.int r.1)) (mw k.2.2.2 r.2) (mw k.2.2.2 σ) [(0, .ref (k.2.2.2.1 0)), (1, .int x1), (2, .int x2), (3, .int x3), (4, .int x4), (5, .int x5), (6, .int x6), (7, .int x7), (8, .int x8)] [] 18) (σ : St) (x1 : Int32) (x2 : Int32) (x3 : Int32) (x4 : Int32) (x6 : Int32) (x7 : Int32) (x8 : Int32) (t0 : Int32) (r : Int32 × St) (hf : fX9_joinOf_b81 rc18 σ x1 x2 x3 x4 x6 x7 x8 t0 = some r) : G k X 9 (some (.int r.1)) (mw k.2.2.2 r.2) (mw k.2.2.2 σ) [(0, .ref (k.2.2.2.1 0)), (1, .int x1), (2, .int x2), (3, .int x3), (4, .int x4), (6, .int x6), (7, .int x7), (8, .int x8)] [.int t0] 81 := by
  unfold fX9_joinOf_b81 at hf
  refine g_istore E [(5, .int t0), (0, .ref (k.2.2.2.1 0)), (1, .int x1), (2, .int x2), (3, .int x3), (4, .int x4), (6, .int x6), (7, .int x7), (8, .int x8)] dX9_joinOf_81 (by decide) rfl ?_
  refine g_iload E 7 dX9_joinOf_83 rfl ?_
  refine g_iload_n E 3 dX9_joinOf_85 rfl rfl ?_
  refine g_iconst (v := (1 : Int32)) E dX9_joinOf_86 (by decide) ?_
  refine g_isub E dX9_joinOf_87 ?_
  refine g_iconst (v := (2 : Int32)) E dX9_joinOf_88 (by decide) ?_
  refine g_idiv E (by decide) dX9_joinOf_89 ?_
  refine g_icmp_gt (tgt := 98) E dX9_joinOf_90 (by decide) (fun c1 => ?_) (fun c1 => ?_)
  · have hf := gp hf c1
    refine g_iload E 6 dX9_joinOf_98 rfl ?_
    exact g_sub [1, 2, 3, 4, 5, 0, 7, 8] rfl (fX9_joinOf_w100 E rc18 hrc18 σ x1 x2 x3 x4 t0 x7 x8 x6 r hf)
  · have hf := gn hf c1
    refine g_iload E 8 dX9_joinOf_93 rfl ?_
    refine g_goto (tgt := 100) E dX9_joinOf_95 (by decide) ?_
    exact g_sub [1, 2, 3, 4, 5, 0, 7, 8] rfl (fX9_joinOf_w100 E rc18 hrc18 σ x1 x2 x3 x4 t0 x7 x8 x8 r hf)
set_option maxHeartbeats 4000000 in
set_option maxRecDepth 100000 in
theorem fX9_joinOf_w62 {k : gK} {X : gX} (E : gE k X cX9_joinOf RX9 wsX9_joinOf 9 (some .int) rm_fX9_joinOf) (rc18 : St → Int32 → Int32 → Int32 → Int32 → Int32 → Int32 → Int32 → Int32 → Option (Int32 × St)) (hrc18 : ∀ (σ : St) (x1 : Int32) (x2 : Int32) (x3 : Int32) (x4 : Int32) (x5 : Int32) (x6 : Int32) (x7 : Int32) (x8 : Int32) (r : Int32 × St), rc18 σ x1 x2 x3 x4 x5 x6 x7 x8 = some r → G k X 9 (some (.int r.1)) (mw k.2.2.2 r.2) (mw k.2.2.2 σ) [(0, .ref (k.2.2.2.1 0)), (1, .int x1), (2, .int x2), (3, .int x3), (4, .int x4), (5, .int x5), (6, .int x6), (7, .int x7), (8, .int x8)] [] 18) (σ : St) (x1 : Int32) (x2 : Int32) (x3 : Int32) (x5 : Int32) (x6 : Int32) (x7 : Int32) (x8 : Int32) (t0 : Int32) (r : Int32 × St) (hf : fX9_joinOf_b62 rc18 σ x1 x2 x3 x5 x6 x7 x8 t0 = some r) : G k X 9 (some (.int r.1)) (mw k.2.2.2 r.2) (mw k.2.2.2 σ) [(0, .ref (k.2.2.2.1 0)), (1, .int x1), (2, .int x2), (3, .int x3), (5, .int x5), (6, .int x6), (7, .int x7), (8, .int x8)] [.int t0] 62 := by
  unfold fX9_joinOf_b62 at hf
  refine g_istore E [(4, .int t0), (0, .ref (k.2.2.2.1 0)), (1, .int x1), (2, .int x2), (3, .int x3), (5, .int x5), (6, .int x6), (7, .int x7), (8, .int x8)] dX9_joinOf_62 (by decide) rfl ?_
  refine g_aload_n E 1 dX9_joinOf_64 rfl rfl ?_
  refine g_get (C := RX9) (T := TX9) (N := 20) (ci := 9) E 0 18 (.ref (k.2.2.2.1 15)) hi_X9_joinOf_X9 (mwG0 _ _) rfl (by decide) hk_X9_joinOf_52 rfl dX9_joinOf_65 ?_
  refine g_iload E 8 dX9_joinOf_68 rfl ?_
  obtain ⟨hi1, hf⟩ := gd hf
  refine g_iald E 15 (σ.1 15) (mwG15 _ _) hi1 dX9_joinOf_70 ?_
  refine g_if_le (tgt := 79) E dX9_joinOf_71 (by decide) (fun c2 => ?_) (fun c2 => ?_)
  · have hf := gp hf c2
    refine g_iload E 5 dX9_joinOf_79 rfl ?_
    exact g_sub [1, 2, 3, 4, 0, 6, 7, 8] rfl (fX9_joinOf_w81 E rc18 hrc18 σ x1 x2 x3 t0 x6 x7 x8 x5 r hf)
  · have hf := gn hf c2
    refine g_iload E 8 dX9_joinOf_74 rfl ?_
    refine g_goto (tgt := 81) E dX9_joinOf_76 (by decide) ?_
    exact g_sub [1, 2, 3, 4, 0, 6, 7, 8] rfl (fX9_joinOf_w81 E rc18 hrc18 σ x1 x2 x3 t0 x6 x7 x8 x8 r hf)
set_option maxHeartbeats 4000000 in
set_option maxRecDepth 100000 in
theorem fX9_joinOf_w60 {k : gK} {X : gX} (E : gE k X cX9_joinOf RX9 wsX9_joinOf 9 (some .int) rm_fX9_joinOf) (rc18 : St → Int32 → Int32 → Int32 → Int32 → Int32 → Int32 → Int32 → Int32 → Option (Int32 × St)) (hrc18 : ∀ (σ : St) (x1 : Int32) (x2 : Int32) (x3 : Int32) (x4 : Int32) (x5 : Int32) (x6 : Int32) (x7 : Int32) (x8 : Int32) (r : Int32 × St), rc18 σ x1 x2 x3 x4 x5 x6 x7 x8 = some r → G k X 9 (some (.int r.1)) (mw k.2.2.2 r.2) (mw k.2.2.2 σ) [(0, .ref (k.2.2.2.1 0)), (1, .int x1), (2, .int x2), (3, .int x3), (4, .int x4), (5, .int x5), (6, .int x6), (7, .int x7), (8, .int x8)] [] 18) (σ : St) (x1 : Int32) (x2 : Int32) (x3 : Int32) (x4 : Int32) (x5 : Int32) (x6 : Int32) (x7 : Int32) (x8 : Int32) (r : Int32 × St) (hf : fX9_joinOf_b60 rc18 σ x1 x2 x3 x4 x5 x6 x7 x8 = some r) : G k X 9 (some (.int r.1)) (mw k.2.2.2 r.2) (mw k.2.2.2 σ) [(0, .ref (k.2.2.2.1 0)), (1, .int x1), (2, .int x2), (3, .int x3), (4, .int x4), (5, .int x5), (6, .int x6), (7, .int x7), (8, .int x8)] [] 60 := by
  unfold fX9_joinOf_b60 at hf
  refine g_iload E 4 dX9_joinOf_60 rfl ?_
  exact g_sub [0, 1, 2, 3, 5, 6, 7, 8] rfl (fX9_joinOf_w62 E rc18 hrc18 σ x1 x2 x3 x5 x6 x7 x8 x4 r hf)
set_option maxHeartbeats 4000000 in
set_option maxRecDepth 100000 in
theorem fX9_joinOf_w18 {k : gK} {X : gX} (E : gE k X cX9_joinOf RX9 wsX9_joinOf 9 (some .int) rm_fX9_joinOf) (rc18 : St → Int32 → Int32 → Int32 → Int32 → Int32 → Int32 → Int32 → Int32 → Option (Int32 × St)) (hrc18 : ∀ (σ : St) (x1 : Int32) (x2 : Int32) (x3 : Int32) (x4 : Int32) (x5 : Int32) (x6 : Int32) (x7 : Int32) (x8 : Int32) (r : Int32 × St), rc18 σ x1 x2 x3 x4 x5 x6 x7 x8 = some r → G k X 9 (some (.int r.1)) (mw k.2.2.2 r.2) (mw k.2.2.2 σ) [(0, .ref (k.2.2.2.1 0)), (1, .int x1), (2, .int x2), (3, .int x3), (4, .int x4), (5, .int x5), (6, .int x6), (7, .int x7), (8, .int x8)] [] 18) (σ : St) (x1 : Int32) (x2 : Int32) (x3 : Int32) (x4 : Int32) (x5 : Int32) (x6 : Int32) (x7 : Int32) (x8 : Int32) (r : Int32 × St) (hf : fX9_joinOf_b18 rc18 σ x1 x2 x3 x4 x5 x6 x7 x8 = some r) : G k X 9 (some (.int r.1)) (mw k.2.2.2 r.2) (mw k.2.2.2 σ) [(0, .ref (k.2.2.2.1 0)), (1, .int x1), (2, .int x2), (3, .int x3), (4, .int x4), (5, .int x5), (6, .int x6), (7, .int x7), (8, .int x8)] [] 18 := by
  unfold fX9_joinOf_b18 at hf
  refine g_iload E 8 dX9_joinOf_18 rfl ?_
  refine g_bipush (v := (6 : Int32)) E dX9_joinOf_20 (by decide) ?_
  refine g_icmp_ge (tgt := 120) E dX9_joinOf_22 (by decide) (fun c1 => ?_) (fun c1 => ?_)
  · have hf := gp hf c1
    refine g_iload_n E 1 dX9_joinOf_120 rfl rfl ?_
    refine g_bipush (v := (97 : Int32)) E dX9_joinOf_121 (by decide) ?_
    refine g_icmp_ne (tgt := 135) E dX9_joinOf_123 (by decide) (fun c2 => ?_) (fun c2 => ?_)
    · have hf := gn hf c2
      refine g_bipush (v := (10 : Int32)) E dX9_joinOf_135 (by decide) ?_
      refine g_iload_n E 1 dX9_joinOf_137 rfl rfl ?_
      refine g_bipush (v := (109 : Int32)) E dX9_joinOf_138 (by decide) ?_
      refine g_icmp_ne (tgt := 148) E dX9_joinOf_140 (by decide) (fun c3 => ?_) (fun c3 => ?_)
      · have hf := gn hf c3
        refine g_iload_n E 1 dX9_joinOf_148 rfl rfl ?_
        refine g_bipush (v := (108 : Int32)) E dX9_joinOf_149 (by decide) ?_
        refine g_icmp_ne (tgt := 159) E dX9_joinOf_151 (by decide) (fun c4 => ?_) (fun c4 => ?_)
        · have hf := gn hf c4
          refine g_iload E 5 dX9_joinOf_159 rfl ?_
          refine g_imul E dX9_joinOf_161 ?_
          have hf := Option.some.inj hf
          subst hf
          exact g_iret E dX9_joinOf_162
        · have hf := gp hf c4
          refine g_iload E 4 dX9_joinOf_154 rfl ?_
          refine g_goto (tgt := 161) E dX9_joinOf_156 (by decide) ?_
          refine g_imul E dX9_joinOf_161 ?_
          have hf := Option.some.inj hf
          subst hf
          exact g_iret E dX9_joinOf_162
      · have hf := gp hf c3
        refine g_iload E 6 dX9_joinOf_143 rfl ?_
        refine g_goto (tgt := 161) E dX9_joinOf_145 (by decide) ?_
        refine g_imul E dX9_joinOf_161 ?_
        have hf := Option.some.inj hf
        subst hf
        exact g_iret E dX9_joinOf_162
    · have hf := gp hf c2
      refine g_bipush (v := (10 : Int32)) E dX9_joinOf_126 (by decide) ?_
      refine g_iload_n E 3 dX9_joinOf_128 rfl rfl ?_
      refine g_imul E dX9_joinOf_129 ?_
      refine g_iload_n E 2 dX9_joinOf_130 rfl rfl ?_
      obtain ⟨hn5, hf⟩ := gd hf
      refine g_idiv E hn5 dX9_joinOf_131 ?_
      refine g_goto (tgt := 162) E dX9_joinOf_132 (by decide) ?_
      have hf := Option.some.inj hf
      subst hf
      exact g_iret E dX9_joinOf_162
  · have hf := gn hf c1
    refine g_iload_n E 3 dX9_joinOf_25 rfl rfl ?_
    refine g_iload E 8 dX9_joinOf_26 rfl ?_
    refine g_aload_n E 0 dX9_joinOf_28 rfl rfl ?_
    refine g_get (C := RX9) (T := TX9) (N := 20) (ci := 9) E 0 18 (.ref (k.2.2.2.1 15)) hi_X9_joinOf_X9 (mwG0 _ _) rfl (by decide) hk_X9_joinOf_52 rfl dX9_joinOf_29 ?_
    refine g_iload E 8 dX9_joinOf_32 rfl ?_
    obtain ⟨hi6, hf⟩ := gd hf
    refine g_iald E 15 (σ.1 15) (mwG15 _ _) hi6 dX9_joinOf_34 ?_
    refine g_imul E dX9_joinOf_35 ?_
    refine g_iadd E dX9_joinOf_36 ?_
    refine g_istore_n E [(3, .int (x3 + ((x8 * (σ.1 15 x8.toNatClampNeg))))), (0, .ref (k.2.2.2.1 0)), (1, .int x1), (2, .int x2), (4, .int x4), (5, .int x5), (6, .int x6), (7, .int x7), (8, .int x8)] dX9_joinOf_37 rfl (by decide) rfl ?_
    refine g_aload_n E 1 dX9_joinOf_38 rfl rfl ?_
    refine g_get (C := RX9) (T := TX9) (N := 20) (ci := 9) E 0 18 (.ref (k.2.2.2.1 15)) hi_X9_joinOf_X9 (mwG0 _ _) rfl (by decide) hk_X9_joinOf_52 rfl dX9_joinOf_39 ?_
    refine g_iload E 8 dX9_joinOf_42 rfl ?_
    obtain ⟨hi7, hf⟩ := gd hf
    refine g_iald E 15 (σ.1 15) (mwG15 _ _) hi7 dX9_joinOf_44 ?_
    refine g_if_le (tgt := 60) E dX9_joinOf_45 (by decide) (fun c8 => ?_) (fun c8 => ?_)
    · have hf := gp hf c8
      exact g_sub [1, 2, 3, 0, 4, 5, 6, 7, 8] rfl (fX9_joinOf_w60 E rc18 hrc18 σ x1 x2 (x3 + ((x8 * (σ.1 15 x8.toNatClampNeg)))) x4 x5 x6 x7 x8 r hf)
    · have hf := gn hf c8
      refine g_iload E 8 dX9_joinOf_48 rfl ?_
      refine g_iload E 4 dX9_joinOf_50 rfl ?_
      refine g_icmp_ge (tgt := 60) E dX9_joinOf_52 (by decide) (fun c9 => ?_) (fun c9 => ?_)
      · have hf := gp hf c9
        exact g_sub [1, 2, 3, 0, 4, 5, 6, 7, 8] rfl (fX9_joinOf_w60 E rc18 hrc18 σ x1 x2 (x3 + ((x8 * (σ.1 15 x8.toNatClampNeg)))) x4 x5 x6 x7 x8 r hf)
      · have hf := gn hf c9
        refine g_iload E 8 dX9_joinOf_55 rfl ?_
        refine g_goto (tgt := 62) E dX9_joinOf_57 (by decide) ?_
        exact g_sub [1, 2, 3, 0, 5, 6, 7, 8] rfl (fX9_joinOf_w62 E rc18 hrc18 σ x1 x2 (x3 + ((x8 * (σ.1 15 x8.toNatClampNeg)))) x5 x6 x7 x8 x8 r hf)
theorem fX9_joinOf_v18 {k : gK} {X : gX} (E : gE k X cX9_joinOf RX9 wsX9_joinOf 9 (some .int) rm_fX9_joinOf) : ∀ (n : Nat) (σ : St) (x1 : Int32) (x2 : Int32) (x3 : Int32) (x4 : Int32) (x5 : Int32) (x6 : Int32) (x7 : Int32) (x8 : Int32) (r : Int32 × St), fX9_joinOf_l18 n σ x1 x2 x3 x4 x5 x6 x7 x8 = some r → G k X 9 (some (.int r.1)) (mw k.2.2.2 r.2) (mw k.2.2.2 σ) [(0, .ref (k.2.2.2.1 0)), (1, .int x1), (2, .int x2), (3, .int x3), (4, .int x4), (5, .int x5), (6, .int x6), (7, .int x7), (8, .int x8)] [] 18 := by
  intro n
  induction n with
  | zero => intro σ x1 x2 x3 x4 x5 x6 x7 x8 r hf; cases hf
  | succ n ih => intro σ x1 x2 x3 x4 x5 x6 x7 x8 r hf; exact fX9_joinOf_w18 E (fX9_joinOf_l18 n) ih σ x1 x2 x3 x4 x5 x6 x7 x8 r hf
set_option maxHeartbeats 4000000 in
set_option maxRecDepth 100000 in
theorem fX9_joinOf_c (k : gK) (σ : St) (x1 : Int32) (x2 : Int32) (r : Int32 × St) (hf : fX9_joinOf σ x1 x2 = some r) : MC k yX9_joinOf wsX9_joinOf rm_fX9_joinOf [.ref (k.2.2.2.1 0), .int x1, .int x2] (mw k.2.2.2 σ) (some (.int r.1)) (mw k.2.2.2 r.2) := by
  refine MC_of (cc := cX9_joinOf) (maxL := 9) (ret := (some .int)) (own := RX9) (lvs := [(0, .ref (k.2.2.2.1 0)), (1, .int x1), (2, .int x2)]) (by decide) rfl rfl (Nat.le_of_ble_eq_true rfl) rfl (fun X E => ?_)
  unfold fX9_joinOf at hf
  refine g_iconst (v := (0 : Int32)) E dX9_joinOf_0 (by decide) ?_
  refine g_istore_n E [(3, .int (0 : Int32)), (0, .ref (k.2.2.2.1 0)), (1, .int x1), (2, .int x2)] dX9_joinOf_1 rfl (by decide) rfl ?_
  refine g_bipush (v := (9 : Int32)) E dX9_joinOf_2 (by decide) ?_
  refine g_istore E [(4, .int (9 : Int32)), (3, .int (0 : Int32)), (0, .ref (k.2.2.2.1 0)), (1, .int x1), (2, .int x2)] dX9_joinOf_4 (by decide) rfl ?_
  refine g_iconst (v := (0 : Int32)) E dX9_joinOf_6 (by decide) ?_
  refine g_istore E [(5, .int (0 : Int32)), (4, .int (9 : Int32)), (3, .int (0 : Int32)), (0, .ref (k.2.2.2.1 0)), (1, .int x1), (2, .int x2)] dX9_joinOf_7 (by decide) rfl ?_
  refine g_iconst (v := (0 : Int32)) E dX9_joinOf_9 (by decide) ?_
  refine g_istore E [(6, .int (0 : Int32)), (5, .int (0 : Int32)), (4, .int (9 : Int32)), (3, .int (0 : Int32)), (0, .ref (k.2.2.2.1 0)), (1, .int x1), (2, .int x2)] dX9_joinOf_10 (by decide) rfl ?_
  refine g_iconst (v := (0 : Int32)) E dX9_joinOf_12 (by decide) ?_
  refine g_istore E [(7, .int (0 : Int32)), (6, .int (0 : Int32)), (5, .int (0 : Int32)), (4, .int (9 : Int32)), (3, .int (0 : Int32)), (0, .ref (k.2.2.2.1 0)), (1, .int x1), (2, .int x2)] dX9_joinOf_13 (by decide) rfl ?_
  refine g_iconst (v := (0 : Int32)) E dX9_joinOf_15 (by decide) ?_
  refine g_istore E [(8, .int (0 : Int32)), (7, .int (0 : Int32)), (6, .int (0 : Int32)), (5, .int (0 : Int32)), (4, .int (9 : Int32)), (3, .int (0 : Int32)), (0, .ref (k.2.2.2.1 0)), (1, .int x1), (2, .int x2)] dX9_joinOf_16 (by decide) rfl ?_
  exact g_sub [6, 7, 8, 5, 4, 3, 2, 1, 0] rfl (fX9_joinOf_v18 E gF σ x1 x2 (0 : Int32) (9 : Int32) (0 : Int32) (0 : Int32) (0 : Int32) (0 : Int32) r hf)
