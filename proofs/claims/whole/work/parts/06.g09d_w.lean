theorem hi_X9_harsh_X9 : ∀ w ∈ wsX90, w ∈ wsX9_harsh := by decide +kernel
theorem hk_X9_harsh_63 : Cond.fieldLink RX9 63 "PaperMarksModel" "judges" "I" ∈ wsX9_harsh := by decide +kernel
theorem hk_X9_harsh_34 : Cond.fieldLink RX9 34 "PaperMarksModel" "marks" "[I" ∈ wsX9_harsh := by decide +kernel
theorem hk_X9_harsh_67 : Cond.fieldLink RX9 67 "PaperMarksModel" "papers" "I" ∈ wsX9_harsh := by decide +kernel
def rm_fX9_harsh : Room := { frames := 2, cells := 0, slots := 0, locals := 46 }
set_option maxHeartbeats 4000000 in
set_option maxRecDepth 100000 in
theorem fX9_harsh_w172 {k : gK} {X : gX} (E : gE k X cX9_harsh RX9 wsX9_harsh 12 (some .long) rm_fX9_harsh) (rc31 : St → Int32 → Int32 → Int64 → Int64 → Int32 → Option (Int64 × St)) (hrc31 : ∀ (σ : St) (x1 : Int32) (x2 : Int32) (x3 : Int64) (x5 : Int64) (x7 : Int32) (r : Int64 × St), rc31 σ x1 x2 x3 x5 x7 = some r → G k X 12 (some (.long r.1)) (mw k.2.2.2 r.2) (mw k.2.2.2 σ) [(0, .ref (k.2.2.2.1 0)), (1, .int x1), (2, .int x2), (3, .long x3), (5, .long x5), (7, .int x7)] [] 31) (σ : St) (x1 : Int32) (x2 : Int32) (x3 : Int64) (x5 : Int64) (x7 : Int32) (r : Int64 × St) (hf : fX9_harsh_b172 rc31 σ x1 x2 x3 x5 x7 = some r) : G k X 12 (some (.long r.1)) (mw k.2.2.2 r.2) (mw k.2.2.2 σ) [(0, .ref (k.2.2.2.1 0)), (1, .int x1), (2, .int x2), (3, .long x3), (5, .long x5), (7, .int x7)] [] 172 := by
  unfold fX9_harsh_b172 at hf
  refine g_iinc E 5 [(7, .int (x7 + (1 : Int32))), (0, .ref (k.2.2.2.1 0)), (1, .int x1), (2, .int x2), (3, .long x3), (5, .long x5)] (x7 + (1 : Int32)) dX9_harsh_172 rfl (by rfl) (by decide) rfl ?_
  refine g_goto (tgt := 31) E dX9_harsh_175 (by decide) ?_
  exact g_sub [1, 2, 3, 4, 5, 0] rfl (hrc31 σ x1 x2 x3 x5 (x7 + (1 : Int32)) r hf)
set_option maxHeartbeats 4000000 in
set_option maxRecDepth 100000 in
theorem fX9_harsh_w112 {k : gK} {X : gX} (E : gE k X cX9_harsh RX9 wsX9_harsh 12 (some .long) rm_fX9_harsh) (rc31 : St → Int32 → Int32 → Int64 → Int64 → Int32 → Option (Int64 × St)) (hrc31 : ∀ (σ : St) (x1 : Int32) (x2 : Int32) (x3 : Int64) (x5 : Int64) (x7 : Int32) (r : Int64 × St), rc31 σ x1 x2 x3 x5 x7 = some r → G k X 12 (some (.long r.1)) (mw k.2.2.2 r.2) (mw k.2.2.2 σ) [(0, .ref (k.2.2.2.1 0)), (1, .int x1), (2, .int x2), (3, .long x3), (5, .long x5), (7, .int x7)] [] 31) (rc49 : St → Int32 → Int32 → Int64 → Int64 → Int32 → Int32 → Int32 → Int32 → Option (Int64 × St)) (hrc49 : ∀ (σ : St) (x1 : Int32) (x2 : Int32) (x3 : Int64) (x5 : Int64) (x7 : Int32) (x8 : Int32) (x9 : Int32) (x10 : Int32) (r : Int64 × St), rc49 σ x1 x2 x3 x5 x7 x8 x9 x10 = some r → G k X 12 (some (.long r.1)) (mw k.2.2.2 r.2) (mw k.2.2.2 σ) [(0, .ref (k.2.2.2.1 0)), (1, .int x1), (2, .int x2), (3, .long x3), (5, .long x5), (7, .int x7), (8, .int x8), (9, .int x9), (10, .int x10)] [] 49) (σ : St) (x1 : Int32) (x2 : Int32) (x3 : Int64) (x5 : Int64) (x7 : Int32) (x8 : Int32) (x10 : Int32) (t0 : Int32) (t1 : Int32) (r : Int64 × St) (hf : fX9_harsh_b112 rc31 rc49 σ x1 x2 x3 x5 x7 x8 x10 t0 t1 = some r) : G k X 12 (some (.long r.1)) (mw k.2.2.2 r.2) (mw k.2.2.2 σ) [(0, .ref (k.2.2.2.1 0)), (1, .int x1), (2, .int x2), (3, .long x3), (5, .long x5), (7, .int x7), (8, .int x8), (10, .int x10)] [.int t1, .int t0] 112 := by
  unfold fX9_harsh_b112 at hf
  refine g_iadd E dX9_harsh_112 ?_
  refine g_istore E [(9, .int (t0 + t1)), (0, .ref (k.2.2.2.1 0)), (1, .int x1), (2, .int x2), (3, .long x3), (5, .long x5), (7, .int x7), (8, .int x8), (10, .int x10)] dX9_harsh_113 (by decide) rfl ?_
  refine g_iinc E 8 [(10, .int (x10 + (1 : Int32))), (9, .int (t0 + t1)), (0, .ref (k.2.2.2.1 0)), (1, .int x1), (2, .int x2), (3, .long x3), (5, .long x5), (7, .int x7), (8, .int x8)] (x10 + (1 : Int32)) dX9_harsh_115 rfl (by rfl) (by decide) rfl ?_
  refine g_goto (tgt := 49) E dX9_harsh_118 (by decide) ?_
  exact g_sub [2, 3, 4, 5, 6, 7, 8, 1, 0] rfl (hrc49 σ x1 x2 x3 x5 x7 x8 (t0 + t1) (x10 + (1 : Int32)) r hf)
set_option maxHeartbeats 4000000 in
set_option maxRecDepth 100000 in
theorem fX9_harsh_w111 {k : gK} {X : gX} (E : gE k X cX9_harsh RX9 wsX9_harsh 12 (some .long) rm_fX9_harsh) (rc31 : St → Int32 → Int32 → Int64 → Int64 → Int32 → Option (Int64 × St)) (hrc31 : ∀ (σ : St) (x1 : Int32) (x2 : Int32) (x3 : Int64) (x5 : Int64) (x7 : Int32) (r : Int64 × St), rc31 σ x1 x2 x3 x5 x7 = some r → G k X 12 (some (.long r.1)) (mw k.2.2.2 r.2) (mw k.2.2.2 σ) [(0, .ref (k.2.2.2.1 0)), (1, .int x1), (2, .int x2), (3, .long x3), (5, .long x5), (7, .int x7)] [] 31) (rc49 : St → Int32 → Int32 → Int64 → Int64 → Int32 → Int32 → Int32 → Int32 → Option (Int64 × St)) (hrc49 : ∀ (σ : St) (x1 : Int32) (x2 : Int32) (x3 : Int64) (x5 : Int64) (x7 : Int32) (x8 : Int32) (x9 : Int32) (x10 : Int32) (r : Int64 × St), rc49 σ x1 x2 x3 x5 x7 x8 x9 x10 = some r → G k X 12 (some (.long r.1)) (mw k.2.2.2 r.2) (mw k.2.2.2 σ) [(0, .ref (k.2.2.2.1 0)), (1, .int x1), (2, .int x2), (3, .long x3), (5, .long x5), (7, .int x7), (8, .int x8), (9, .int x9), (10, .int x10)] [] 49) (σ : St) (x1 : Int32) (x2 : Int32) (x3 : Int64) (x5 : Int64) (x7 : Int32) (x8 : Int32) (x10 : Int32) (t0 : Int32) (r : Int64 × St) (hf : fX9_harsh_b111 rc31 rc49 σ x1 x2 x3 x5 x7 x8 x10 t0 = some r) : G k X 12 (some (.long r.1)) (mw k.2.2.2 r.2) (mw k.2.2.2 σ) [(0, .ref (k.2.2.2.1 0)), (1, .int x1), (2, .int x2), (3, .long x3), (5, .long x5), (7, .int x7), (8, .int x8), (10, .int x10)] [.int t0] 111 := by
  unfold fX9_harsh_b111 at hf
  refine g_iconst (v := (0 : Int32)) E dX9_harsh_111 (by decide) ?_
  exact fX9_harsh_w112 E rc31 hrc31 rc49 hrc49 σ x1 x2 x3 x5 x7 x8 x10 t0 (0 : Int32) r hf
set_option maxHeartbeats 4000000 in
set_option maxRecDepth 100000 in
theorem fX9_harsh_w91 {k : gK} {X : gX} (E : gE k X cX9_harsh RX9 wsX9_harsh 12 (some .long) rm_fX9_harsh) (rc31 : St → Int32 → Int32 → Int64 → Int64 → Int32 → Option (Int64 × St)) (hrc31 : ∀ (σ : St) (x1 : Int32) (x2 : Int32) (x3 : Int64) (x5 : Int64) (x7 : Int32) (r : Int64 × St), rc31 σ x1 x2 x3 x5 x7 = some r → G k X 12 (some (.long r.1)) (mw k.2.2.2 r.2) (mw k.2.2.2 σ) [(0, .ref (k.2.2.2.1 0)), (1, .int x1), (2, .int x2), (3, .long x3), (5, .long x5), (7, .int x7)] [] 31) (rc49 : St → Int32 → Int32 → Int64 → Int64 → Int32 → Int32 → Int32 → Int32 → Option (Int64 × St)) (hrc49 : ∀ (σ : St) (x1 : Int32) (x2 : Int32) (x3 : Int64) (x5 : Int64) (x7 : Int32) (x8 : Int32) (x9 : Int32) (x10 : Int32) (r : Int64 × St), rc49 σ x1 x2 x3 x5 x7 x8 x9 x10 = some r → G k X 12 (some (.long r.1)) (mw k.2.2.2 r.2) (mw k.2.2.2 σ) [(0, .ref (k.2.2.2.1 0)), (1, .int x1), (2, .int x2), (3, .long x3), (5, .long x5), (7, .int x7), (8, .int x8), (9, .int x9), (10, .int x10)] [] 49) (σ : St) (x1 : Int32) (x2 : Int32) (x3 : Int64) (x5 : Int64) (x7 : Int32) (x9 : Int32) (x10 : Int32) (x11 : Int32) (t0 : Int32) (t1 : Int32) (r : Int64 × St) (hf : fX9_harsh_b91 rc31 rc49 σ x1 x2 x3 x5 x7 x9 x10 x11 t0 t1 = some r) : G k X 12 (some (.long r.1)) (mw k.2.2.2 r.2) (mw k.2.2.2 σ) [(0, .ref (k.2.2.2.1 0)), (1, .int x1), (2, .int x2), (3, .long x3), (5, .long x5), (7, .int x7), (9, .int x9), (10, .int x10), (11, .int x11)] [.int t1, .int t0] 91 := by
  unfold fX9_harsh_b91 at hf
  refine g_iadd E dX9_harsh_91 ?_
  refine g_istore E [(8, .int (t0 + t1)), (0, .ref (k.2.2.2.1 0)), (1, .int x1), (2, .int x2), (3, .long x3), (5, .long x5), (7, .int x7), (9, .int x9), (10, .int x10), (11, .int x11)] dX9_harsh_92 (by decide) rfl ?_
  refine g_iload E 7 dX9_harsh_94 rfl ?_
  refine g_iload E 8 dX9_harsh_96 rfl ?_
  refine g_iload_n E 2 dX9_harsh_98 rfl rfl ?_
  refine g_icmp_eq (tgt := 111) E dX9_harsh_99 (by decide) (fun c1 => ?_) (fun c1 => ?_)
  · have hf := gp hf c1
    exact g_sub [1, 2, 3, 4, 5, 6, 0, 8] rfl (fX9_harsh_w111 E rc31 hrc31 rc49 hrc49 σ x1 x2 x3 x5 x7 (t0 + t1) x10 x9 r hf)
  · have hf := gn hf c1
    refine g_iload E 9 dX9_harsh_102 rfl ?_
    refine g_if_lt (tgt := 111) E dX9_harsh_104 (by decide) (fun c2 => ?_) (fun c2 => ?_)
    · have hf := gp hf c2
      exact g_sub [1, 2, 3, 4, 5, 6, 0, 8] rfl (fX9_harsh_w111 E rc31 hrc31 rc49 hrc49 σ x1 x2 x3 x5 x7 (t0 + t1) x10 x9 r hf)
    · have hf := gn hf c2
      refine g_iconst (v := (1 : Int32)) E dX9_harsh_107 (by decide) ?_
      refine g_goto (tgt := 112) E dX9_harsh_108 (by decide) ?_
      exact g_sub [1, 2, 3, 4, 5, 6, 0, 8] rfl (fX9_harsh_w112 E rc31 hrc31 rc49 hrc49 σ x1 x2 x3 x5 x7 (t0 + t1) x10 x9 (1 : Int32) r hf)
set_option maxHeartbeats 4000000 in
set_option maxRecDepth 100000 in
theorem fX9_harsh_w90 {k : gK} {X : gX} (E : gE k X cX9_harsh RX9 wsX9_harsh 12 (some .long) rm_fX9_harsh) (rc31 : St → Int32 → Int32 → Int64 → Int64 → Int32 → Option (Int64 × St)) (hrc31 : ∀ (σ : St) (x1 : Int32) (x2 : Int32) (x3 : Int64) (x5 : Int64) (x7 : Int32) (r : Int64 × St), rc31 σ x1 x2 x3 x5 x7 = some r → G k X 12 (some (.long r.1)) (mw k.2.2.2 r.2) (mw k.2.2.2 σ) [(0, .ref (k.2.2.2.1 0)), (1, .int x1), (2, .int x2), (3, .long x3), (5, .long x5), (7, .int x7)] [] 31) (rc49 : St → Int32 → Int32 → Int64 → Int64 → Int32 → Int32 → Int32 → Int32 → Option (Int64 × St)) (hrc49 : ∀ (σ : St) (x1 : Int32) (x2 : Int32) (x3 : Int64) (x5 : Int64) (x7 : Int32) (x8 : Int32) (x9 : Int32) (x10 : Int32) (r : Int64 × St), rc49 σ x1 x2 x3 x5 x7 x8 x9 x10 = some r → G k X 12 (some (.long r.1)) (mw k.2.2.2 r.2) (mw k.2.2.2 σ) [(0, .ref (k.2.2.2.1 0)), (1, .int x1), (2, .int x2), (3, .long x3), (5, .long x5), (7, .int x7), (8, .int x8), (9, .int x9), (10, .int x10)] [] 49) (σ : St) (x1 : Int32) (x2 : Int32) (x3 : Int64) (x5 : Int64) (x7 : Int32) (x9 : Int32) (x10 : Int32) (x11 : Int32) (t0 : Int32) (r : Int64 × St) (hf : fX9_harsh_b90 rc31 rc49 σ x1 x2 x3 x5 x7 x9 x10 x11 t0 = some r) : G k X 12 (some (.long r.1)) (mw k.2.2.2 r.2) (mw k.2.2.2 σ) [(0, .ref (k.2.2.2.1 0)), (1, .int x1), (2, .int x2), (3, .long x3), (5, .long x5), (7, .int x7), (9, .int x9), (10, .int x10), (11, .int x11)] [.int t0] 90 := by
  unfold fX9_harsh_b90 at hf
  refine g_iconst (v := (0 : Int32)) E dX9_harsh_90 (by decide) ?_
  exact fX9_harsh_w91 E rc31 hrc31 rc49 hrc49 σ x1 x2 x3 x5 x7 x9 x10 x11 t0 (0 : Int32) r hf
set_option maxHeartbeats 4000000 in
set_option maxRecDepth 100000 in
theorem fX9_harsh_w49 {k : gK} {X : gX} (E : gE k X cX9_harsh RX9 wsX9_harsh 12 (some .long) rm_fX9_harsh) (rc31 : St → Int32 → Int32 → Int64 → Int64 → Int32 → Option (Int64 × St)) (hrc31 : ∀ (σ : St) (x1 : Int32) (x2 : Int32) (x3 : Int64) (x5 : Int64) (x7 : Int32) (r : Int64 × St), rc31 σ x1 x2 x3 x5 x7 = some r → G k X 12 (some (.long r.1)) (mw k.2.2.2 r.2) (mw k.2.2.2 σ) [(0, .ref (k.2.2.2.1 0)), (1, .int x1), (2, .int x2), (3, .long x3), (5, .long x5), (7, .int x7)] [] 31) (rc49 : St → Int32 → Int32 → Int64 → Int64 → Int32 → Int32 → Int32 → Int32 → Option (Int64 × St)) (hrc49 : ∀ (σ : St) (x1 : Int32) (x2 : Int32) (x3 : Int64) (x5 : Int64) (x7 : Int32) (x8 : Int32) (x9 : Int32) (x10 : Int32) (r : Int64 × St), rc49 σ x1 x2 x3 x5 x7 x8 x9 x10 = some r → G k X 12 (some (.long r.1)) (mw k.2.2.2 r.2) (mw k.2.2.2 σ) [(0, .ref (k.2.2.2.1 0)), (1, .int x1), (2, .int x2), (3, .long x3), (5, .long x5), (7, .int x7), (8, .int x8), (9, .int x9), (10, .int x10)] [] 49) (σ : St) (x1 : Int32) (x2 : Int32) (x3 : Int64) (x5 : Int64) (x7 : Int32) (x8 : Int32) (x9 : Int32) (x10 : Int32) (r : Int64 × St) (hf : fX9_harsh_b49 rc31 rc49 σ x1 x2 x3 x5 x7 x8 x9 x10 = some r) : G k X 12 (some (.long r.1)) (mw k.2.2.2 r.2) (mw k.2.2.2 σ) [(0, .ref (k.2.2.2.1 0)), (1, .int x1), (2, .int x2), (3, .long x3), (5, .long x5), (7, .int x7), (8, .int x8), (9, .int x9), (10, .int x10)] [] 49 := by
  unfold fX9_harsh_b49 at hf
  refine g_iload E 8 dX9_harsh_49 rfl ?_
  refine g_aload_n E 0 dX9_harsh_51 rfl rfl ?_
  refine g_get (C := RX9) (T := TX9) (N := 20) (ci := 9) E 0 3 (.int (σ.2.1 0)) hi_X9_harsh_X9 (mwG0 _ _) rfl (by decide) hk_X9_harsh_63 rfl dX9_harsh_52 ?_
  refine g_icmp_ge (tgt := 121) E dX9_harsh_55 (by decide) (fun c1 => ?_) (fun c1 => ?_)
  · have hf := gp hf c1
    refine g_aload_n E 0 dX9_harsh_121 rfl rfl ?_
    refine g_get (C := RX9) (T := TX9) (N := 20) (ci := 9) E 0 10 (.ref (k.2.2.2.1 9)) hi_X9_harsh_X9 (mwG0 _ _) rfl (by decide) hk_X9_harsh_34 rfl dX9_harsh_122 ?_
    refine g_iload_n E 1 dX9_harsh_125 rfl rfl ?_
    refine g_iload E 5 dX9_harsh_126 rfl ?_
    obtain ⟨q2, hq3, hf⟩ := gb hf
    refine g_callS (As := [.int x1, .int x7]) (rest := [.ref (k.2.2.2.1 9)]) (n := 2) E (fX9_at_c k σ x1 x7 q2 hq3) gX9_harsh_X9_at rfl rfl rfl (by decide +kernel) ⟨Nat.le_of_ble_eq_true rfl, Nat.le_of_ble_eq_true rfl⟩ rfl rfl (Nat.le_of_ble_eq_true rfl) dX9_harsh_128 ?_
    obtain ⟨hi4, hf⟩ := gd hf
    refine g_iald E 9 (q2.2.1 9) (mwG9 _ _) hi4 dX9_harsh_131 ?_
    refine g_istore E [(10, .int (q2.2.1 9 q2.1.toNatClampNeg)), (0, .ref (k.2.2.2.1 0)), (1, .int x1), (2, .int x2), (3, .long x3), (5, .long x5), (7, .int x7), (8, .int x8), (9, .int x9)] dX9_harsh_132 (by decide) rfl ?_
    refine g_iload E 0 dX9_harsh_134 rfl ?_
    refine g_if_lt (tgt := 172) E dX9_harsh_136 (by decide) (fun c5 => ?_) (fun c5 => ?_)
    · have hf := gp hf c5
      exact g_sub [1, 2, 3, 4, 5, 6] rfl (fX9_harsh_w172 E rc31 hrc31 q2.2 x1 x2 x3 x5 x7 r hf)
    · have hf := gn hf c5
      refine g_iload E 8 dX9_harsh_139 rfl ?_
      refine g_if_le (tgt := 172) E dX9_harsh_141 (by decide) (fun c6 => ?_) (fun c6 => ?_)
      · have hf := gp hf c6
        exact g_sub [1, 2, 3, 4, 5, 6] rfl (fX9_harsh_w172 E rc31 hrc31 q2.2 x1 x2 x3 x5 x7 r hf)
      · have hf := gn hf c6
        refine g_lload_n E 4 dX9_harsh_144 rfl rfl ?_
        refine g_ldc2 (v := (60 : Int64)) E (by decide +kernel) dX9_harsh_145 ?_
        refine g_iload E 0 dX9_harsh_148 rfl ?_
        refine g_i2l E dX9_harsh_150 ?_
        refine g_lmul E dX9_harsh_151 ?_
        refine g_ldc2 (v := (60 : Int64)) E (by decide +kernel) dX9_harsh_152 ?_
        refine g_iload E 7 dX9_harsh_155 rfl ?_
        refine g_i2l E dX9_harsh_157 ?_
        refine g_lmul E dX9_harsh_158 ?_
        refine g_iload E 8 dX9_harsh_159 rfl ?_
        refine g_i2l E dX9_harsh_161 ?_
        obtain ⟨hn7, hf⟩ := gd hf
        refine g_ldiv E hn7 dX9_harsh_162 ?_
        refine g_lsub E dX9_harsh_163 ?_
        refine g_ladd E dX9_harsh_164 ?_
        refine g_lstore_n E [(3, .long (x3 + (((((60 : Int64) * ((q2.2.1 9 q2.1.toNatClampNeg).toInt64))) - (((((60 : Int64) * x8.toInt64)) / x9.toInt64)))))), (10, .int (q2.2.1 9 q2.1.toNatClampNeg)), (0, .ref (k.2.2.2.1 0)), (1, .int x1), (2, .int x2), (5, .long x5), (7, .int x7), (8, .int x8), (9, .int x9)] dX9_harsh_165 rfl (by decide) rfl ?_
        refine g_lload E 5 dX9_harsh_166 rfl ?_
        refine g_lconst (v := (1 : Int64)) E dX9_harsh_168 (by decide) ?_
        refine g_ladd E dX9_harsh_169 ?_
        refine g_lstore E [(5, .long (x5 + (1 : Int64))), (3, .long (x3 + (((((60 : Int64) * ((q2.2.1 9 q2.1.toNatClampNeg).toInt64))) - (((((60 : Int64) * x8.toInt64)) / x9.toInt64)))))), (10, .int (q2.2.1 9 q2.1.toNatClampNeg)), (0, .ref (k.2.2.2.1 0)), (1, .int x1), (2, .int x2), (7, .int x7), (8, .int x8), (9, .int x9)] dX9_harsh_170 (by decide) rfl ?_
        exact g_sub [3, 4, 5, 1, 0, 6] rfl (fX9_harsh_w172 E rc31 hrc31 q2.2 x1 x2 (x3 + (((((60 : Int64) * ((q2.2.1 9 q2.1.toNatClampNeg).toInt64))) - (((((60 : Int64) * x8.toInt64)) / x9.toInt64))))) (x5 + (1 : Int64)) x7 r hf)
  · have hf := gn hf c1
    refine g_aload_n E 0 dX9_harsh_58 rfl rfl ?_
    refine g_get (C := RX9) (T := TX9) (N := 20) (ci := 9) E 0 10 (.ref (k.2.2.2.1 9)) hi_X9_harsh_X9 (mwG0 _ _) rfl (by decide) hk_X9_harsh_34 rfl dX9_harsh_59 ?_
    refine g_iload E 8 dX9_harsh_62 rfl ?_
    refine g_iload E 5 dX9_harsh_64 rfl ?_
    obtain ⟨q8, hq9, hf⟩ := gb hf
    refine g_callS (As := [.int x10, .int x7]) (rest := [.ref (k.2.2.2.1 9)]) (n := 2) E (fX9_at_c k σ x10 x7 q8 hq9) gX9_harsh_X9_at rfl rfl rfl (by decide +kernel) ⟨Nat.le_of_ble_eq_true rfl, Nat.le_of_ble_eq_true rfl⟩ rfl rfl (Nat.le_of_ble_eq_true rfl) dX9_harsh_66 ?_
    obtain ⟨hi10, hf⟩ := gd hf
    refine g_iald E 9 (q8.2.1 9) (mwG9 _ _) hi10 dX9_harsh_69 ?_
    refine g_istore E [(11, .int (q8.2.1 9 q8.1.toNatClampNeg)), (0, .ref (k.2.2.2.1 0)), (1, .int x1), (2, .int x2), (3, .long x3), (5, .long x5), (7, .int x7), (8, .int x8), (9, .int x9), (10, .int x10)] dX9_harsh_70 (by decide) rfl ?_
    refine g_iload E 7 dX9_harsh_72 rfl ?_
    refine g_iload E 9 dX9_harsh_74 rfl ?_
    refine g_iload_n E 2 dX9_harsh_76 rfl rfl ?_
    refine g_icmp_eq (tgt := 90) E dX9_harsh_77 (by decide) (fun c11 => ?_) (fun c11 => ?_)
    · have hf := gp hf c11
      exact g_sub [1, 2, 3, 4, 5, 6, 8, 9, 0] rfl (fX9_harsh_w90 E rc31 hrc31 rc49 hrc49 q8.2 x1 x2 x3 x5 x7 x9 x10 (q8.2.1 9 q8.1.toNatClampNeg) x8 r hf)
    · have hf := gn hf c11
      refine g_iload E 0 dX9_harsh_80 rfl ?_
      refine g_if_lt (tgt := 90) E dX9_harsh_82 (by decide) (fun c12 => ?_) (fun c12 => ?_)
      · have hf := gp hf c12
        exact g_sub [1, 2, 3, 4, 5, 6, 8, 9, 0] rfl (fX9_harsh_w90 E rc31 hrc31 rc49 hrc49 q8.2 x1 x2 x3 x5 x7 x9 x10 (q8.2.1 9 q8.1.toNatClampNeg) x8 r hf)
      · have hf := gn hf c12
        refine g_iload E 0 dX9_harsh_85 rfl ?_
        refine g_goto (tgt := 91) E dX9_harsh_87 (by decide) ?_
        exact g_sub [1, 2, 3, 4, 5, 6, 8, 9, 0] rfl (fX9_harsh_w91 E rc31 hrc31 rc49 hrc49 q8.2 x1 x2 x3 x5 x7 x9 x10 (q8.2.1 9 q8.1.toNatClampNeg) x8 (q8.2.1 9 q8.1.toNatClampNeg) r hf)
theorem fX9_harsh_v49 {k : gK} {X : gX} (E : gE k X cX9_harsh RX9 wsX9_harsh 12 (some .long) rm_fX9_harsh) (rc31 : St → Int32 → Int32 → Int64 → Int64 → Int32 → Option (Int64 × St)) (hrc31 : ∀ (σ : St) (x1 : Int32) (x2 : Int32) (x3 : Int64) (x5 : Int64) (x7 : Int32) (r : Int64 × St), rc31 σ x1 x2 x3 x5 x7 = some r → G k X 12 (some (.long r.1)) (mw k.2.2.2 r.2) (mw k.2.2.2 σ) [(0, .ref (k.2.2.2.1 0)), (1, .int x1), (2, .int x2), (3, .long x3), (5, .long x5), (7, .int x7)] [] 31) : ∀ (n : Nat) (σ : St) (x1 : Int32) (x2 : Int32) (x3 : Int64) (x5 : Int64) (x7 : Int32) (x8 : Int32) (x9 : Int32) (x10 : Int32) (r : Int64 × St), fX9_harsh_l49 rc31 n σ x1 x2 x3 x5 x7 x8 x9 x10 = some r → G k X 12 (some (.long r.1)) (mw k.2.2.2 r.2) (mw k.2.2.2 σ) [(0, .ref (k.2.2.2.1 0)), (1, .int x1), (2, .int x2), (3, .long x3), (5, .long x5), (7, .int x7), (8, .int x8), (9, .int x9), (10, .int x10)] [] 49 := by
  intro n
  induction n with
  | zero => intro σ x1 x2 x3 x5 x7 x8 x9 x10 r hf; cases hf
  | succ n ih => intro σ x1 x2 x3 x5 x7 x8 x9 x10 r hf; exact fX9_harsh_w49 E rc31 hrc31 (fX9_harsh_l49 rc31 n) ih σ x1 x2 x3 x5 x7 x8 x9 x10 r hf
set_option maxHeartbeats 4000000 in
set_option maxRecDepth 100000 in
theorem fX9_harsh_w31 {k : gK} {X : gX} (E : gE k X cX9_harsh RX9 wsX9_harsh 12 (some .long) rm_fX9_harsh) (rc31 : St → Int32 → Int32 → Int64 → Int64 → Int32 → Option (Int64 × St)) (hrc31 : ∀ (σ : St) (x1 : Int32) (x2 : Int32) (x3 : Int64) (x5 : Int64) (x7 : Int32) (r : Int64 × St), rc31 σ x1 x2 x3 x5 x7 = some r → G k X 12 (some (.long r.1)) (mw k.2.2.2 r.2) (mw k.2.2.2 σ) [(0, .ref (k.2.2.2.1 0)), (1, .int x1), (2, .int x2), (3, .long x3), (5, .long x5), (7, .int x7)] [] 31) (σ : St) (x1 : Int32) (x2 : Int32) (x3 : Int64) (x5 : Int64) (x7 : Int32) (r : Int64 × St) (hf : fX9_harsh_b31 rc31 σ x1 x2 x3 x5 x7 = some r) : G k X 12 (some (.long r.1)) (mw k.2.2.2 r.2) (mw k.2.2.2 σ) [(0, .ref (k.2.2.2.1 0)), (1, .int x1), (2, .int x2), (3, .long x3), (5, .long x5), (7, .int x7)] [] 31 := by
  unfold fX9_harsh_b31 at hf
  refine g_iload E 5 dX9_harsh_31 rfl ?_
  refine g_aload_n E 0 dX9_harsh_33 rfl rfl ?_
  refine g_get (C := RX9) (T := TX9) (N := 20) (ci := 9) E 0 9 (.int (σ.2.1 1)) hi_X9_harsh_X9 (mwG0 _ _) rfl (by decide) hk_X9_harsh_67 rfl dX9_harsh_34 ?_
  refine g_icmp_ge (tgt := 178) E dX9_harsh_37 (by decide) (fun c1 => ?_) (fun c1 => ?_)
  · have hf := gp hf c1
    refine g_lload E 4 dX9_harsh_178 rfl ?_
    refine g_lconst (v := (0 : Int64)) E dX9_harsh_180 (by decide) ?_
    refine g_lcmp E dX9_harsh_181 ?_
    refine g_if_ne (tgt := 190) E dX9_harsh_182 (by decide) (fun c2 => ?_) (fun c2 => ?_)
    · have hf := gn hf c2
      refine g_lload_n E 3 dX9_harsh_190 rfl rfl ?_
      refine g_ldc2 (v := (60 : Int64)) E (by decide +kernel) dX9_harsh_191 ?_
      refine g_lload E 4 dX9_harsh_194 rfl ?_
      refine g_lmul E dX9_harsh_196 ?_
      refine g_iload_n E 2 dX9_harsh_197 rfl rfl ?_
      obtain ⟨q3, hq4, hf⟩ := gb hf
      refine g_callS (As := [.long x3, .long ((60 : Int64) * x5), .int x2]) (rest := []) (n := 3) E (fX9_lowest_c k σ x3 (((60 : Int64) * x5)) x2 q3 hq4) gX9_harsh_X9_lowest rfl rfl rfl (by decide +kernel) ⟨Nat.le_of_ble_eq_true rfl, Nat.le_of_ble_eq_true rfl⟩ rfl rfl (Nat.le_of_ble_eq_true rfl) dX9_harsh_198 ?_
      have hf := Option.some.inj hf
      subst hf
      exact g_lret E dX9_harsh_201
    · have hf := gp hf c2
      refine g_iload_n E 2 dX9_harsh_185 rfl rfl ?_
      refine g_i2l E dX9_harsh_186 ?_
      refine g_goto (tgt := 201) E dX9_harsh_187 (by decide) ?_
      have hf := Option.some.inj hf
      subst hf
      exact g_lret E dX9_harsh_201
  · have hf := gn hf c1
    refine g_iconst (v := (0 : Int32)) E dX9_harsh_40 (by decide) ?_
    refine g_istore E [(8, .int (0 : Int32)), (0, .ref (k.2.2.2.1 0)), (1, .int x1), (2, .int x2), (3, .long x3), (5, .long x5), (7, .int x7)] dX9_harsh_41 (by decide) rfl ?_
    refine g_iconst (v := (0 : Int32)) E dX9_harsh_43 (by decide) ?_
    refine g_istore E [(9, .int (0 : Int32)), (8, .int (0 : Int32)), (0, .ref (k.2.2.2.1 0)), (1, .int x1), (2, .int x2), (3, .long x3), (5, .long x5), (7, .int x7)] dX9_harsh_44 (by decide) rfl ?_
    refine g_iconst (v := (0 : Int32)) E dX9_harsh_46 (by decide) ?_
    refine g_istore E [(10, .int (0 : Int32)), (9, .int (0 : Int32)), (8, .int (0 : Int32)), (0, .ref (k.2.2.2.1 0)), (1, .int x1), (2, .int x2), (3, .long x3), (5, .long x5), (7, .int x7)] dX9_harsh_47 (by decide) rfl ?_
    exact g_sub [3, 4, 5, 6, 7, 8, 2, 1, 0] rfl (fX9_harsh_v49 E rc31 hrc31 gF σ x1 x2 x3 x5 x7 (0 : Int32) (0 : Int32) (0 : Int32) r hf)
theorem fX9_harsh_v31 {k : gK} {X : gX} (E : gE k X cX9_harsh RX9 wsX9_harsh 12 (some .long) rm_fX9_harsh) : ∀ (n : Nat) (σ : St) (x1 : Int32) (x2 : Int32) (x3 : Int64) (x5 : Int64) (x7 : Int32) (r : Int64 × St), fX9_harsh_l31 n σ x1 x2 x3 x5 x7 = some r → G k X 12 (some (.long r.1)) (mw k.2.2.2 r.2) (mw k.2.2.2 σ) [(0, .ref (k.2.2.2.1 0)), (1, .int x1), (2, .int x2), (3, .long x3), (5, .long x5), (7, .int x7)] [] 31 := by
  intro n
  induction n with
  | zero => intro σ x1 x2 x3 x5 x7 r hf; cases hf
  | succ n ih => intro σ x1 x2 x3 x5 x7 r hf; exact fX9_harsh_w31 E (fX9_harsh_l31 n) ih σ x1 x2 x3 x5 x7 r hf
set_option maxHeartbeats 4000000 in
set_option maxRecDepth 100000 in
theorem fX9_harsh_c (k : gK) (σ : St) (x1 : Int32) (x2 : Int32) (r : Int64 × St) (hf : fX9_harsh σ x1 x2 = some r) : MC k yX9_harsh wsX9_harsh rm_fX9_harsh [.ref (k.2.2.2.1 0), .int x1, .int x2] (mw k.2.2.2 σ) (some (.long r.1)) (mw k.2.2.2 r.2) := by
  refine MC_of (cc := cX9_harsh) (maxL := 12) (ret := (some .long)) (own := RX9) (lvs := [(0, .ref (k.2.2.2.1 0)), (1, .int x1), (2, .int x2)]) (by decide) rfl rfl (Nat.le_of_ble_eq_true rfl) rfl (fun X E => ?_)
  unfold fX9_harsh at hf
  refine g_aload_n E 0 dX9_harsh_0 rfl rfl ?_
  refine g_iload_n E 1 dX9_harsh_1 rfl rfl ?_
  obtain ⟨q1, hq2, hf⟩ := gb hf
  refine g_callV (C := RX9) (T := TX9) (N := 20) (ci := 9) (As := [.int x1]) (rest := []) (n := 1) E 0 (fX9_isJudge_c k σ x1 q1 hq2) gX9_harsh_X9_isJudge rfl rfl rfl (by decide +kernel) ⟨Nat.le_of_ble_eq_true rfl, Nat.le_of_ble_eq_true rfl⟩ rfl rfl (Nat.le_of_ble_eq_true rfl) rfl (mwG0 _ _) dX9_harsh_2 ?_
  refine g_if_ne (tgt := 12) E dX9_harsh_5 (by decide) (fun c3 => ?_) (fun c3 => ?_)
  · have hf := gn hf c3
    refine g_iload_n E 2 dX9_harsh_12 rfl rfl ?_
    obtain ⟨q4, hq5, hf⟩ := gb hf
    refine g_callS (As := [.int x2]) (rest := []) (n := 1) E (fX9_isPart_c k q1.2 x2 q4 hq5) gX9_harsh_X9_isPart rfl rfl rfl (by decide +kernel) ⟨Nat.le_of_ble_eq_true rfl, Nat.le_of_ble_eq_true rfl⟩ rfl rfl (Nat.le_of_ble_eq_true rfl) dX9_harsh_13 ?_
    refine g_if_ne (tgt := 23) E dX9_harsh_16 (by decide) (fun c6 => ?_) (fun c6 => ?_)
    · have hf := gn hf c6
      refine g_lconst (v := (0 : Int64)) E dX9_harsh_23 (by decide) ?_
      refine g_lstore_n E [(3, .long (0 : Int64)), (0, .ref (k.2.2.2.1 0)), (1, .int x1), (2, .int x2)] dX9_harsh_24 rfl (by decide) rfl ?_
      refine g_lconst (v := (0 : Int64)) E dX9_harsh_25 (by decide) ?_
      refine g_lstore E [(5, .long (0 : Int64)), (3, .long (0 : Int64)), (0, .ref (k.2.2.2.1 0)), (1, .int x1), (2, .int x2)] dX9_harsh_26 (by decide) rfl ?_
      refine g_iconst (v := (0 : Int32)) E dX9_harsh_28 (by decide) ?_
      refine g_istore E [(7, .int (0 : Int32)), (5, .long (0 : Int64)), (3, .long (0 : Int64)), (0, .ref (k.2.2.2.1 0)), (1, .int x1), (2, .int x2)] dX9_harsh_29 (by decide) rfl ?_
      exact g_sub [3, 4, 5, 2, 1, 0] rfl (fX9_harsh_v31 E gF q4.2 x1 x2 (0 : Int64) (0 : Int64) (0 : Int32) r hf)
    · have hf := gp hf c6
      refine g_ldc2 (v := (-1000000000000000002 : Int64)) E (by decide +kernel) dX9_harsh_19 ?_
      have hf := Option.some.inj hf
      subst hf
      exact g_lret E dX9_harsh_22
  · have hf := gp hf c3
    refine g_ldc2 (v := (-1000000000000000001 : Int64)) E (by decide +kernel) dX9_harsh_8 ?_
    have hf := Option.some.inj hf
    subst hf
    exact g_lret E dX9_harsh_11
