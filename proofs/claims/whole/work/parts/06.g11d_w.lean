theorem hi_X9_held_X9 : ∀ w ∈ wsX90, w ∈ wsX9_held := by decide +kernel
theorem hk_X9_held_31 : Cond.fieldLink RX9 31 "PaperMarksModel" "laters" "[I" ∈ wsX9_held := by decide +kernel
theorem hk_X9_held_67 : Cond.fieldLink RX9 67 "PaperMarksModel" "papers" "I" ∈ wsX9_held := by decide +kernel
def rm_fX9_held : Room := { frames := 2, cells := 0, slots := 0, locals := 50 }
set_option maxHeartbeats 4000000 in
set_option maxRecDepth 100000 in
theorem fX9_held_w159 {k : gK} {X : gX} (E : gE k X cX9_held RX9 wsX9_held 9 (some .int) rm_fX9_held) (rc17 : St → Int32 → Int32 → Int32 → Option (Int32 × St)) (hrc17 : ∀ (σ : St) (x1 : Int32) (x2 : Int32) (x3 : Int32) (r : Int32 × St), rc17 σ x1 x2 x3 = some r → G k X 9 (some (.int r.1)) (mw k.2.2.2 r.2) (mw k.2.2.2 σ) [(0, .ref (k.2.2.2.1 0)), (1, .int x1), (2, .int x2), (3, .int x3)] [] 17) (rc28 : St → Int32 → Int32 → Int32 → Int32 → Option (Int32 × St)) (hrc28 : ∀ (σ : St) (x1 : Int32) (x2 : Int32) (x3 : Int32) (x4 : Int32) (r : Int32 × St), rc28 σ x1 x2 x3 x4 = some r → G k X 9 (some (.int r.1)) (mw k.2.2.2 r.2) (mw k.2.2.2 σ) [(0, .ref (k.2.2.2.1 0)), (1, .int x1), (2, .int x2), (3, .int x3), (4, .int x4)] [] 28) (σ : St) (x1 : Int32) (x3 : Int32) (x4 : Int32) (t0 : Int32) (t1 : Int32) (r : Int32 × St) (hf : fX9_held_b159 rc17 rc28 σ x1 x3 x4 t0 t1 = some r) : G k X 9 (some (.int r.1)) (mw k.2.2.2 r.2) (mw k.2.2.2 σ) [(0, .ref (k.2.2.2.1 0)), (1, .int x1), (3, .int x3), (4, .int x4)] [.int t1, .int t0] 159 := by
  unfold fX9_held_b159 at hf
  refine g_iadd E dX9_held_159 ?_
  refine g_istore_n E [(2, .int (t0 + t1)), (0, .ref (k.2.2.2.1 0)), (1, .int x1), (3, .int x3), (4, .int x4)] dX9_held_160 rfl (by decide) rfl ?_
  refine g_iinc E 4 [(4, .int (x4 + (1 : Int32))), (2, .int (t0 + t1)), (0, .ref (k.2.2.2.1 0)), (1, .int x1), (3, .int x3)] (x4 + (1 : Int32)) dX9_held_161 rfl (by rfl) (by decide) rfl ?_
  refine g_goto (tgt := 28) E dX9_held_164 (by decide) ?_
  exact g_sub [2, 3, 1, 4, 0] rfl (hrc28 σ x1 (t0 + t1) x3 (x4 + (1 : Int32)) r hf)
set_option maxHeartbeats 4000000 in
set_option maxRecDepth 100000 in
theorem fX9_held_w158 {k : gK} {X : gX} (E : gE k X cX9_held RX9 wsX9_held 9 (some .int) rm_fX9_held) (rc17 : St → Int32 → Int32 → Int32 → Option (Int32 × St)) (hrc17 : ∀ (σ : St) (x1 : Int32) (x2 : Int32) (x3 : Int32) (r : Int32 × St), rc17 σ x1 x2 x3 = some r → G k X 9 (some (.int r.1)) (mw k.2.2.2 r.2) (mw k.2.2.2 σ) [(0, .ref (k.2.2.2.1 0)), (1, .int x1), (2, .int x2), (3, .int x3)] [] 17) (rc28 : St → Int32 → Int32 → Int32 → Int32 → Option (Int32 × St)) (hrc28 : ∀ (σ : St) (x1 : Int32) (x2 : Int32) (x3 : Int32) (x4 : Int32) (r : Int32 × St), rc28 σ x1 x2 x3 x4 = some r → G k X 9 (some (.int r.1)) (mw k.2.2.2 r.2) (mw k.2.2.2 σ) [(0, .ref (k.2.2.2.1 0)), (1, .int x1), (2, .int x2), (3, .int x3), (4, .int x4)] [] 28) (σ : St) (x1 : Int32) (x3 : Int32) (x4 : Int32) (t0 : Int32) (r : Int32 × St) (hf : fX9_held_b158 rc17 rc28 σ x1 x3 x4 t0 = some r) : G k X 9 (some (.int r.1)) (mw k.2.2.2 r.2) (mw k.2.2.2 σ) [(0, .ref (k.2.2.2.1 0)), (1, .int x1), (3, .int x3), (4, .int x4)] [.int t0] 158 := by
  unfold fX9_held_b158 at hf
  refine g_iconst (v := (0 : Int32)) E dX9_held_158 (by decide) ?_
  exact fX9_held_w159 E rc17 hrc17 rc28 hrc28 σ x1 x3 x4 t0 (0 : Int32) r hf
set_option maxHeartbeats 4000000 in
set_option maxRecDepth 100000 in
theorem fX9_held_w154 {k : gK} {X : gX} (E : gE k X cX9_held RX9 wsX9_held 9 (some .int) rm_fX9_held) (rc17 : St → Int32 → Int32 → Int32 → Option (Int32 × St)) (hrc17 : ∀ (σ : St) (x1 : Int32) (x2 : Int32) (x3 : Int32) (r : Int32 × St), rc17 σ x1 x2 x3 = some r → G k X 9 (some (.int r.1)) (mw k.2.2.2 r.2) (mw k.2.2.2 σ) [(0, .ref (k.2.2.2.1 0)), (1, .int x1), (2, .int x2), (3, .int x3)] [] 17) (rc28 : St → Int32 → Int32 → Int32 → Int32 → Option (Int32 × St)) (hrc28 : ∀ (σ : St) (x1 : Int32) (x2 : Int32) (x3 : Int32) (x4 : Int32) (r : Int32 × St), rc28 σ x1 x2 x3 x4 = some r → G k X 9 (some (.int r.1)) (mw k.2.2.2 r.2) (mw k.2.2.2 σ) [(0, .ref (k.2.2.2.1 0)), (1, .int x1), (2, .int x2), (3, .int x3), (4, .int x4)] [] 28) (σ : St) (x1 : Int32) (x3 : Int32) (x4 : Int32) (t0 : Int32) (r : Int32 × St) (hf : fX9_held_b154 rc17 rc28 σ x1 x3 x4 t0 = some r) : G k X 9 (some (.int r.1)) (mw k.2.2.2 r.2) (mw k.2.2.2 σ) [(0, .ref (k.2.2.2.1 0)), (1, .int x1), (3, .int x3), (4, .int x4)] [.int t0] 154 := by
  unfold fX9_held_b154 at hf
  refine g_iconst (v := (1 : Int32)) E dX9_held_154 (by decide) ?_
  refine g_goto (tgt := 159) E dX9_held_155 (by decide) ?_
  exact fX9_held_w159 E rc17 hrc17 rc28 hrc28 σ x1 x3 x4 t0 (1 : Int32) r hf
set_option maxHeartbeats 4000000 in
set_option maxRecDepth 100000 in
theorem fX9_held_w134 {k : gK} {X : gX} (E : gE k X cX9_held RX9 wsX9_held 9 (some .int) rm_fX9_held) (rc17 : St → Int32 → Int32 → Int32 → Option (Int32 × St)) (hrc17 : ∀ (σ : St) (x1 : Int32) (x2 : Int32) (x3 : Int32) (r : Int32 × St), rc17 σ x1 x2 x3 = some r → G k X 9 (some (.int r.1)) (mw k.2.2.2 r.2) (mw k.2.2.2 σ) [(0, .ref (k.2.2.2.1 0)), (1, .int x1), (2, .int x2), (3, .int x3)] [] 17) (rc28 : St → Int32 → Int32 → Int32 → Int32 → Option (Int32 × St)) (hrc28 : ∀ (σ : St) (x1 : Int32) (x2 : Int32) (x3 : Int32) (x4 : Int32) (r : Int32 × St), rc28 σ x1 x2 x3 x4 = some r → G k X 9 (some (.int r.1)) (mw k.2.2.2 r.2) (mw k.2.2.2 σ) [(0, .ref (k.2.2.2.1 0)), (1, .int x1), (2, .int x2), (3, .int x3), (4, .int x4)] [] 28) (σ : St) (x1 : Int32) (x2 : Int32) (x3 : Int32) (x4 : Int32) (x7 : Int32) (t0 : Int32) (r : Int32 × St) (hf : fX9_held_b134 rc17 rc28 σ x1 x2 x3 x4 x7 t0 = some r) : G k X 9 (some (.int r.1)) (mw k.2.2.2 r.2) (mw k.2.2.2 σ) [(0, .ref (k.2.2.2.1 0)), (1, .int x1), (2, .int x2), (3, .int x3), (4, .int x4), (7, .int x7)] [.int t0] 134 := by
  unfold fX9_held_b134 at hf
  refine g_istore E [(8, .int t0), (0, .ref (k.2.2.2.1 0)), (1, .int x1), (2, .int x2), (3, .int x3), (4, .int x4), (7, .int x7)] dX9_held_134 (by decide) rfl ?_
  refine g_iload_n E 3 dX9_held_136 rfl rfl ?_
  refine g_iload_n E 2 dX9_held_137 rfl rfl ?_
  refine g_if_ne (tgt := 149) E dX9_held_138 (by decide) (fun c1 => ?_) (fun c1 => ?_)
  · have hf := gn hf c1
    refine g_iload E 0 dX9_held_149 rfl ?_
    refine g_if_eq (tgt := 158) E dX9_held_151 (by decide) (fun c2 => ?_) (fun c2 => ?_)
    · have hf := gp hf c2
      exact g_sub [1, 2, 4, 5] rfl (fX9_held_w158 E rc17 hrc17 rc28 hrc28 σ x1 x3 x4 x2 r hf)
    · have hf := gn hf c2
      exact g_sub [1, 2, 4, 5] rfl (fX9_held_w154 E rc17 hrc17 rc28 hrc28 σ x1 x3 x4 x2 r hf)
  · have hf := gp hf c1
    refine g_iload E 6 dX9_held_141 rfl ?_
    refine g_if_eq (tgt := 158) E dX9_held_143 (by decide) (fun c3 => ?_) (fun c3 => ?_)
    · have hf := gp hf c3
      exact g_sub [1, 2, 4, 5] rfl (fX9_held_w158 E rc17 hrc17 rc28 hrc28 σ x1 x3 x4 x2 r hf)
    · have hf := gn hf c3
      refine g_goto (tgt := 154) E dX9_held_146 (by decide) ?_
      exact g_sub [1, 2, 4, 5] rfl (fX9_held_w154 E rc17 hrc17 rc28 hrc28 σ x1 x3 x4 x2 r hf)
set_option maxHeartbeats 4000000 in
set_option maxRecDepth 100000 in
theorem fX9_held_w133 {k : gK} {X : gX} (E : gE k X cX9_held RX9 wsX9_held 9 (some .int) rm_fX9_held) (rc17 : St → Int32 → Int32 → Int32 → Option (Int32 × St)) (hrc17 : ∀ (σ : St) (x1 : Int32) (x2 : Int32) (x3 : Int32) (r : Int32 × St), rc17 σ x1 x2 x3 = some r → G k X 9 (some (.int r.1)) (mw k.2.2.2 r.2) (mw k.2.2.2 σ) [(0, .ref (k.2.2.2.1 0)), (1, .int x1), (2, .int x2), (3, .int x3)] [] 17) (rc28 : St → Int32 → Int32 → Int32 → Int32 → Option (Int32 × St)) (hrc28 : ∀ (σ : St) (x1 : Int32) (x2 : Int32) (x3 : Int32) (x4 : Int32) (r : Int32 × St), rc28 σ x1 x2 x3 x4 = some r → G k X 9 (some (.int r.1)) (mw k.2.2.2 r.2) (mw k.2.2.2 σ) [(0, .ref (k.2.2.2.1 0)), (1, .int x1), (2, .int x2), (3, .int x3), (4, .int x4)] [] 28) (σ : St) (x1 : Int32) (x2 : Int32) (x3 : Int32) (x4 : Int32) (x7 : Int32) (r : Int32 × St) (hf : fX9_held_b133 rc17 rc28 σ x1 x2 x3 x4 x7 = some r) : G k X 9 (some (.int r.1)) (mw k.2.2.2 r.2) (mw k.2.2.2 σ) [(0, .ref (k.2.2.2.1 0)), (1, .int x1), (2, .int x2), (3, .int x3), (4, .int x4), (7, .int x7)] [] 133 := by
  unfold fX9_held_b133 at hf
  refine g_iconst (v := (0 : Int32)) E dX9_held_133 (by decide) ?_
  exact fX9_held_w134 E rc17 hrc17 rc28 hrc28 σ x1 x2 x3 x4 x7 (0 : Int32) r hf
set_option maxHeartbeats 4000000 in
set_option maxRecDepth 100000 in
theorem fX9_held_w129 {k : gK} {X : gX} (E : gE k X cX9_held RX9 wsX9_held 9 (some .int) rm_fX9_held) (rc17 : St → Int32 → Int32 → Int32 → Option (Int32 × St)) (hrc17 : ∀ (σ : St) (x1 : Int32) (x2 : Int32) (x3 : Int32) (r : Int32 × St), rc17 σ x1 x2 x3 = some r → G k X 9 (some (.int r.1)) (mw k.2.2.2 r.2) (mw k.2.2.2 σ) [(0, .ref (k.2.2.2.1 0)), (1, .int x1), (2, .int x2), (3, .int x3)] [] 17) (rc28 : St → Int32 → Int32 → Int32 → Int32 → Option (Int32 × St)) (hrc28 : ∀ (σ : St) (x1 : Int32) (x2 : Int32) (x3 : Int32) (x4 : Int32) (r : Int32 × St), rc28 σ x1 x2 x3 x4 = some r → G k X 9 (some (.int r.1)) (mw k.2.2.2 r.2) (mw k.2.2.2 σ) [(0, .ref (k.2.2.2.1 0)), (1, .int x1), (2, .int x2), (3, .int x3), (4, .int x4)] [] 28) (σ : St) (x1 : Int32) (x2 : Int32) (x3 : Int32) (x4 : Int32) (x7 : Int32) (r : Int32 × St) (hf : fX9_held_b129 rc17 rc28 σ x1 x2 x3 x4 x7 = some r) : G k X 9 (some (.int r.1)) (mw k.2.2.2 r.2) (mw k.2.2.2 σ) [(0, .ref (k.2.2.2.1 0)), (1, .int x1), (2, .int x2), (3, .int x3), (4, .int x4), (7, .int x7)] [] 129 := by
  unfold fX9_held_b129 at hf
  refine g_iconst (v := (1 : Int32)) E dX9_held_129 (by decide) ?_
  refine g_goto (tgt := 134) E dX9_held_130 (by decide) ?_
  exact fX9_held_w134 E rc17 hrc17 rc28 hrc28 σ x1 x2 x3 x4 x7 (1 : Int32) r hf
set_option maxHeartbeats 4000000 in
set_option maxRecDepth 100000 in
theorem fX9_held_w119 {k : gK} {X : gX} (E : gE k X cX9_held RX9 wsX9_held 9 (some .int) rm_fX9_held) (rc17 : St → Int32 → Int32 → Int32 → Option (Int32 × St)) (hrc17 : ∀ (σ : St) (x1 : Int32) (x2 : Int32) (x3 : Int32) (r : Int32 × St), rc17 σ x1 x2 x3 = some r → G k X 9 (some (.int r.1)) (mw k.2.2.2 r.2) (mw k.2.2.2 σ) [(0, .ref (k.2.2.2.1 0)), (1, .int x1), (2, .int x2), (3, .int x3)] [] 17) (rc28 : St → Int32 → Int32 → Int32 → Int32 → Option (Int32 × St)) (hrc28 : ∀ (σ : St) (x1 : Int32) (x2 : Int32) (x3 : Int32) (x4 : Int32) (r : Int32 × St), rc28 σ x1 x2 x3 x4 = some r → G k X 9 (some (.int r.1)) (mw k.2.2.2 r.2) (mw k.2.2.2 σ) [(0, .ref (k.2.2.2.1 0)), (1, .int x1), (2, .int x2), (3, .int x3), (4, .int x4)] [] 28) (σ : St) (x1 : Int32) (x2 : Int32) (x3 : Int32) (x4 : Int32) (x5 : Int32) (x6 : Int32) (x7 : Int32) (r : Int32 × St) (hf : fX9_held_b119 rc17 rc28 σ x1 x2 x3 x4 x5 x6 x7 = some r) : G k X 9 (some (.int r.1)) (mw k.2.2.2 r.2) (mw k.2.2.2 σ) [(0, .ref (k.2.2.2.1 0)), (1, .int x1), (2, .int x2), (3, .int x3), (4, .int x4), (5, .int x5), (6, .int x6), (7, .int x7)] [] 119 := by
  unfold fX9_held_b119 at hf
  refine g_iload E 5 dX9_held_119 rfl ?_
  refine g_if_ge (tgt := 133) E dX9_held_121 (by decide) (fun c1 => ?_) (fun c1 => ?_)
  · have hf := gp hf c1
    exact g_sub [0, 1, 2, 3, 4, 7] rfl (fX9_held_w133 E rc17 hrc17 rc28 hrc28 σ x1 x2 x3 x4 x7 r hf)
  · have hf := gn hf c1
    refine g_iload E 6 dX9_held_124 rfl ?_
    refine g_if_le (tgt := 133) E dX9_held_126 (by decide) (fun c2 => ?_) (fun c2 => ?_)
    · have hf := gp hf c2
      exact g_sub [0, 1, 2, 3, 4, 7] rfl (fX9_held_w133 E rc17 hrc17 rc28 hrc28 σ x1 x2 x3 x4 x7 r hf)
    · have hf := gn hf c2
      exact g_sub [0, 1, 2, 3, 4, 7] rfl (fX9_held_w129 E rc17 hrc17 rc28 hrc28 σ x1 x2 x3 x4 x7 r hf)
set_option maxHeartbeats 4000000 in
set_option maxRecDepth 100000 in
theorem fX9_held_w107 {k : gK} {X : gX} (E : gE k X cX9_held RX9 wsX9_held 9 (some .int) rm_fX9_held) (rc17 : St → Int32 → Int32 → Int32 → Option (Int32 × St)) (hrc17 : ∀ (σ : St) (x1 : Int32) (x2 : Int32) (x3 : Int32) (r : Int32 × St), rc17 σ x1 x2 x3 = some r → G k X 9 (some (.int r.1)) (mw k.2.2.2 r.2) (mw k.2.2.2 σ) [(0, .ref (k.2.2.2.1 0)), (1, .int x1), (2, .int x2), (3, .int x3)] [] 17) (rc28 : St → Int32 → Int32 → Int32 → Int32 → Option (Int32 × St)) (hrc28 : ∀ (σ : St) (x1 : Int32) (x2 : Int32) (x3 : Int32) (x4 : Int32) (r : Int32 × St), rc28 σ x1 x2 x3 x4 = some r → G k X 9 (some (.int r.1)) (mw k.2.2.2 r.2) (mw k.2.2.2 σ) [(0, .ref (k.2.2.2.1 0)), (1, .int x1), (2, .int x2), (3, .int x3), (4, .int x4)] [] 28) (σ : St) (x1 : Int32) (x2 : Int32) (x3 : Int32) (x4 : Int32) (x5 : Int32) (x6 : Int32) (t0 : Int32) (r : Int32 × St) (hf : fX9_held_b107 rc17 rc28 σ x1 x2 x3 x4 x5 x6 t0 = some r) : G k X 9 (some (.int r.1)) (mw k.2.2.2 r.2) (mw k.2.2.2 σ) [(0, .ref (k.2.2.2.1 0)), (1, .int x1), (2, .int x2), (3, .int x3), (4, .int x4), (5, .int x5), (6, .int x6)] [.int t0] 107 := by
  unfold fX9_held_b107 at hf
  refine g_istore E [(7, .int t0), (0, .ref (k.2.2.2.1 0)), (1, .int x1), (2, .int x2), (3, .int x3), (4, .int x4), (5, .int x5), (6, .int x6)] dX9_held_107 (by decide) rfl ?_
  refine g_iload E 6 dX9_held_109 rfl ?_
  refine g_if_le (tgt := 119) E dX9_held_111 (by decide) (fun c1 => ?_) (fun c1 => ?_)
  · have hf := gp hf c1
    exact g_sub [1, 2, 3, 4, 5, 6, 7, 0] rfl (fX9_held_w119 E rc17 hrc17 rc28 hrc28 σ x1 x2 x3 x4 x5 x6 t0 r hf)
  · have hf := gn hf c1
    refine g_iload E 7 dX9_held_114 rfl ?_
    refine g_if_lt (tgt := 129) E dX9_held_116 (by decide) (fun c2 => ?_) (fun c2 => ?_)
    · have hf := gp hf c2
      exact g_sub [1, 2, 3, 4, 5, 0] rfl (fX9_held_w129 E rc17 hrc17 rc28 hrc28 σ x1 x2 x3 x4 t0 r hf)
    · have hf := gn hf c2
      exact g_sub [1, 2, 3, 4, 5, 6, 7, 0] rfl (fX9_held_w119 E rc17 hrc17 rc28 hrc28 σ x1 x2 x3 x4 x5 x6 t0 r hf)
set_option maxHeartbeats 4000000 in
set_option maxRecDepth 100000 in
theorem fX9_held_w106 {k : gK} {X : gX} (E : gE k X cX9_held RX9 wsX9_held 9 (some .int) rm_fX9_held) (rc17 : St → Int32 → Int32 → Int32 → Option (Int32 × St)) (hrc17 : ∀ (σ : St) (x1 : Int32) (x2 : Int32) (x3 : Int32) (r : Int32 × St), rc17 σ x1 x2 x3 = some r → G k X 9 (some (.int r.1)) (mw k.2.2.2 r.2) (mw k.2.2.2 σ) [(0, .ref (k.2.2.2.1 0)), (1, .int x1), (2, .int x2), (3, .int x3)] [] 17) (rc28 : St → Int32 → Int32 → Int32 → Int32 → Option (Int32 × St)) (hrc28 : ∀ (σ : St) (x1 : Int32) (x2 : Int32) (x3 : Int32) (x4 : Int32) (r : Int32 × St), rc28 σ x1 x2 x3 x4 = some r → G k X 9 (some (.int r.1)) (mw k.2.2.2 r.2) (mw k.2.2.2 σ) [(0, .ref (k.2.2.2.1 0)), (1, .int x1), (2, .int x2), (3, .int x3), (4, .int x4)] [] 28) (σ : St) (x1 : Int32) (x2 : Int32) (x3 : Int32) (x4 : Int32) (x5 : Int32) (x6 : Int32) (r : Int32 × St) (hf : fX9_held_b106 rc17 rc28 σ x1 x2 x3 x4 x5 x6 = some r) : G k X 9 (some (.int r.1)) (mw k.2.2.2 r.2) (mw k.2.2.2 σ) [(0, .ref (k.2.2.2.1 0)), (1, .int x1), (2, .int x2), (3, .int x3), (4, .int x4), (5, .int x5), (6, .int x6)] [] 106 := by
  unfold fX9_held_b106 at hf
  refine g_iconst (v := (0 : Int32)) E dX9_held_106 (by decide) ?_
  exact fX9_held_w107 E rc17 hrc17 rc28 hrc28 σ x1 x2 x3 x4 x5 x6 (0 : Int32) r hf
set_option maxHeartbeats 4000000 in
set_option maxRecDepth 100000 in
theorem fX9_held_w102 {k : gK} {X : gX} (E : gE k X cX9_held RX9 wsX9_held 9 (some .int) rm_fX9_held) (rc17 : St → Int32 → Int32 → Int32 → Option (Int32 × St)) (hrc17 : ∀ (σ : St) (x1 : Int32) (x2 : Int32) (x3 : Int32) (r : Int32 × St), rc17 σ x1 x2 x3 = some r → G k X 9 (some (.int r.1)) (mw k.2.2.2 r.2) (mw k.2.2.2 σ) [(0, .ref (k.2.2.2.1 0)), (1, .int x1), (2, .int x2), (3, .int x3)] [] 17) (rc28 : St → Int32 → Int32 → Int32 → Int32 → Option (Int32 × St)) (hrc28 : ∀ (σ : St) (x1 : Int32) (x2 : Int32) (x3 : Int32) (x4 : Int32) (r : Int32 × St), rc28 σ x1 x2 x3 x4 = some r → G k X 9 (some (.int r.1)) (mw k.2.2.2 r.2) (mw k.2.2.2 σ) [(0, .ref (k.2.2.2.1 0)), (1, .int x1), (2, .int x2), (3, .int x3), (4, .int x4)] [] 28) (σ : St) (x1 : Int32) (x2 : Int32) (x3 : Int32) (x4 : Int32) (x5 : Int32) (x6 : Int32) (r : Int32 × St) (hf : fX9_held_b102 rc17 rc28 σ x1 x2 x3 x4 x5 x6 = some r) : G k X 9 (some (.int r.1)) (mw k.2.2.2 r.2) (mw k.2.2.2 σ) [(0, .ref (k.2.2.2.1 0)), (1, .int x1), (2, .int x2), (3, .int x3), (4, .int x4), (5, .int x5), (6, .int x6)] [] 102 := by
  unfold fX9_held_b102 at hf
  refine g_iconst (v := (1 : Int32)) E dX9_held_102 (by decide) ?_
  refine g_goto (tgt := 107) E dX9_held_103 (by decide) ?_
  exact fX9_held_w107 E rc17 hrc17 rc28 hrc28 σ x1 x2 x3 x4 x5 x6 (1 : Int32) r hf
set_option maxHeartbeats 4000000 in
set_option maxRecDepth 100000 in
theorem fX9_held_w92 {k : gK} {X : gX} (E : gE k X cX9_held RX9 wsX9_held 9 (some .int) rm_fX9_held) (rc17 : St → Int32 → Int32 → Int32 → Option (Int32 × St)) (hrc17 : ∀ (σ : St) (x1 : Int32) (x2 : Int32) (x3 : Int32) (r : Int32 × St), rc17 σ x1 x2 x3 = some r → G k X 9 (some (.int r.1)) (mw k.2.2.2 r.2) (mw k.2.2.2 σ) [(0, .ref (k.2.2.2.1 0)), (1, .int x1), (2, .int x2), (3, .int x3)] [] 17) (rc28 : St → Int32 → Int32 → Int32 → Int32 → Option (Int32 × St)) (hrc28 : ∀ (σ : St) (x1 : Int32) (x2 : Int32) (x3 : Int32) (x4 : Int32) (r : Int32 × St), rc28 σ x1 x2 x3 x4 = some r → G k X 9 (some (.int r.1)) (mw k.2.2.2 r.2) (mw k.2.2.2 σ) [(0, .ref (k.2.2.2.1 0)), (1, .int x1), (2, .int x2), (3, .int x3), (4, .int x4)] [] 28) (σ : St) (x1 : Int32) (x2 : Int32) (x3 : Int32) (x4 : Int32) (x5 : Int32) (x6 : Int32) (r : Int32 × St) (hf : fX9_held_b92 rc17 rc28 σ x1 x2 x3 x4 x5 x6 = some r) : G k X 9 (some (.int r.1)) (mw k.2.2.2 r.2) (mw k.2.2.2 σ) [(0, .ref (k.2.2.2.1 0)), (1, .int x1), (2, .int x2), (3, .int x3), (4, .int x4), (5, .int x5), (6, .int x6)] [] 92 := by
  unfold fX9_held_b92 at hf
  refine g_iload E 5 dX9_held_92 rfl ?_
  refine g_if_ge (tgt := 106) E dX9_held_94 (by decide) (fun c1 => ?_) (fun c1 => ?_)
  · have hf := gp hf c1
    exact fX9_held_w106 E rc17 hrc17 rc28 hrc28 σ x1 x2 x3 x4 x5 x6 r hf
  · have hf := gn hf c1
    refine g_iload E 6 dX9_held_97 rfl ?_
    refine g_if_ge (tgt := 106) E dX9_held_99 (by decide) (fun c2 => ?_) (fun c2 => ?_)
    · have hf := gp hf c2
      exact fX9_held_w106 E rc17 hrc17 rc28 hrc28 σ x1 x2 x3 x4 x5 x6 r hf
    · have hf := gn hf c2
      exact fX9_held_w102 E rc17 hrc17 rc28 hrc28 σ x1 x2 x3 x4 x5 x6 r hf
set_option maxHeartbeats 4000000 in
set_option maxRecDepth 100000 in
theorem fX9_held_w71 {k : gK} {X : gX} (E : gE k X cX9_held RX9 wsX9_held 9 (some .int) rm_fX9_held) (rc17 : St → Int32 → Int32 → Int32 → Option (Int32 × St)) (hrc17 : ∀ (σ : St) (x1 : Int32) (x2 : Int32) (x3 : Int32) (r : Int32 × St), rc17 σ x1 x2 x3 = some r → G k X 9 (some (.int r.1)) (mw k.2.2.2 r.2) (mw k.2.2.2 σ) [(0, .ref (k.2.2.2.1 0)), (1, .int x1), (2, .int x2), (3, .int x3)] [] 17) (rc28 : St → Int32 → Int32 → Int32 → Int32 → Option (Int32 × St)) (hrc28 : ∀ (σ : St) (x1 : Int32) (x2 : Int32) (x3 : Int32) (x4 : Int32) (r : Int32 × St), rc28 σ x1 x2 x3 x4 = some r → G k X 9 (some (.int r.1)) (mw k.2.2.2 r.2) (mw k.2.2.2 σ) [(0, .ref (k.2.2.2.1 0)), (1, .int x1), (2, .int x2), (3, .int x3), (4, .int x4)] [] 28) (σ : St) (x1 : Int32) (x2 : Int32) (x3 : Int32) (x4 : Int32) (t0 : Int32) (r : Int32 × St) (hf : fX9_held_b71 rc17 rc28 σ x1 x2 x3 x4 t0 = some r) : G k X 9 (some (.int r.1)) (mw k.2.2.2 r.2) (mw k.2.2.2 σ) [(0, .ref (k.2.2.2.1 0)), (1, .int x1), (2, .int x2), (3, .int x3), (4, .int x4)] [.int t0] 71 := by
  unfold fX9_held_b71 at hf
  refine g_istore E [(5, .int t0), (0, .ref (k.2.2.2.1 0)), (1, .int x1), (2, .int x2), (3, .int x3), (4, .int x4)] dX9_held_71 (by decide) rfl ?_
  refine g_aload_n E 1 dX9_held_73 rfl rfl ?_
  refine g_iload_n E 4 dX9_held_74 rfl rfl ?_
  refine g_iload E 5 dX9_held_75 rfl ?_
  obtain ⟨q1, hq2, hf⟩ := gb hf
  refine g_callV (C := RX9) (T := TX9) (N := 20) (ci := 9) (As := [.int x3, .int x4]) (rest := []) (n := 2) E 0 (fX9_moreMarks_c k σ x3 x4 q1 hq2) gX9_held_X9_moreMarks rfl rfl rfl (by decide +kernel) ⟨Nat.le_of_ble_eq_true rfl, Nat.le_of_ble_eq_true rfl⟩ rfl rfl (Nat.le_of_ble_eq_true rfl) rfl (mwG0 _ _) dX9_held_77 ?_
  refine g_istore E [(6, .int q1.1), (5, .int t0), (0, .ref (k.2.2.2.1 0)), (1, .int x1), (2, .int x2), (3, .int x3), (4, .int x4)] dX9_held_80 (by decide) rfl ?_
  refine g_iload E 1 dX9_held_82 rfl ?_
  refine g_if_le (tgt := 92) E dX9_held_84 (by decide) (fun c3 => ?_) (fun c3 => ?_)
  · have hf := gp hf c3
    exact g_sub [2, 3, 4, 5, 6, 1, 0] rfl (fX9_held_w92 E rc17 hrc17 rc28 hrc28 q1.2 x1 x2 x3 x4 t0 q1.1 r hf)
  · have hf := gn hf c3
    refine g_iload E 0 dX9_held_87 rfl ?_
    refine g_if_gt (tgt := 102) E dX9_held_89 (by decide) (fun c4 => ?_) (fun c4 => ?_)
    · have hf := gp hf c4
      exact g_sub [2, 3, 4, 5, 6, 1, 0] rfl (fX9_held_w102 E rc17 hrc17 rc28 hrc28 q1.2 x1 x2 x3 x4 t0 q1.1 r hf)
    · have hf := gn hf c4
      exact g_sub [2, 3, 4, 5, 6, 1, 0] rfl (fX9_held_w92 E rc17 hrc17 rc28 hrc28 q1.2 x1 x2 x3 x4 t0 q1.1 r hf)
set_option maxHeartbeats 4000000 in
set_option maxRecDepth 100000 in
theorem fX9_held_w53 {k : gK} {X : gX} (E : gE k X cX9_held RX9 wsX9_held 9 (some .int) rm_fX9_held) (rc17 : St → Int32 → Int32 → Int32 → Option (Int32 × St)) (hrc17 : ∀ (σ : St) (x1 : Int32) (x2 : Int32) (x3 : Int32) (r : Int32 × St), rc17 σ x1 x2 x3 = some r → G k X 9 (some (.int r.1)) (mw k.2.2.2 r.2) (mw k.2.2.2 σ) [(0, .ref (k.2.2.2.1 0)), (1, .int x1), (2, .int x2), (3, .int x3)] [] 17) (rc28 : St → Int32 → Int32 → Int32 → Int32 → Option (Int32 × St)) (hrc28 : ∀ (σ : St) (x1 : Int32) (x2 : Int32) (x3 : Int32) (x4 : Int32) (r : Int32 × St), rc28 σ x1 x2 x3 x4 = some r → G k X 9 (some (.int r.1)) (mw k.2.2.2 r.2) (mw k.2.2.2 σ) [(0, .ref (k.2.2.2.1 0)), (1, .int x1), (2, .int x2), (3, .int x3), (4, .int x4)] [] 28) (σ : St) (x1 : Int32) (x2 : Int32) (x3 : Int32) (x4 : Int32) (r : Int32 × St) (hf : fX9_held_b53 rc17 rc28 σ x1 x2 x3 x4 = some r) : G k X 9 (some (.int r.1)) (mw k.2.2.2 r.2) (mw k.2.2.2 σ) [(0, .ref (k.2.2.2.1 0)), (1, .int x1), (2, .int x2), (3, .int x3), (4, .int x4)] [] 53 := by
  unfold fX9_held_b53 at hf
  refine g_iconst (v := (0 : Int32)) E dX9_held_53 (by decide) ?_
  refine g_goto (tgt := 71) E dX9_held_54 (by decide) ?_
  exact fX9_held_w71 E rc17 hrc17 rc28 hrc28 σ x1 x2 x3 x4 (0 : Int32) r hf
set_option maxHeartbeats 4000000 in
set_option maxRecDepth 100000 in
theorem fX9_held_w28 {k : gK} {X : gX} (E : gE k X cX9_held RX9 wsX9_held 9 (some .int) rm_fX9_held) (rc17 : St → Int32 → Int32 → Int32 → Option (Int32 × St)) (hrc17 : ∀ (σ : St) (x1 : Int32) (x2 : Int32) (x3 : Int32) (r : Int32 × St), rc17 σ x1 x2 x3 = some r → G k X 9 (some (.int r.1)) (mw k.2.2.2 r.2) (mw k.2.2.2 σ) [(0, .ref (k.2.2.2.1 0)), (1, .int x1), (2, .int x2), (3, .int x3)] [] 17) (rc28 : St → Int32 → Int32 → Int32 → Int32 → Option (Int32 × St)) (hrc28 : ∀ (σ : St) (x1 : Int32) (x2 : Int32) (x3 : Int32) (x4 : Int32) (r : Int32 × St), rc28 σ x1 x2 x3 x4 = some r → G k X 9 (some (.int r.1)) (mw k.2.2.2 r.2) (mw k.2.2.2 σ) [(0, .ref (k.2.2.2.1 0)), (1, .int x1), (2, .int x2), (3, .int x3), (4, .int x4)] [] 28) (σ : St) (x1 : Int32) (x2 : Int32) (x3 : Int32) (x4 : Int32) (r : Int32 × St) (hf : fX9_held_b28 rc17 rc28 σ x1 x2 x3 x4 = some r) : G k X 9 (some (.int r.1)) (mw k.2.2.2 r.2) (mw k.2.2.2 σ) [(0, .ref (k.2.2.2.1 0)), (1, .int x1), (2, .int x2), (3, .int x3), (4, .int x4)] [] 28 := by
  unfold fX9_held_b28 at hf
  refine g_iload E 4 dX9_held_28 rfl ?_
  refine g_iload_n E 3 dX9_held_30 rfl rfl ?_
  refine g_icmp_ge (tgt := 167) E dX9_held_31 (by decide) (fun c1 => ?_) (fun c1 => ?_)
  · have hf := gp hf c1
    refine g_iinc E 3 [(3, .int (x3 + (1 : Int32))), (0, .ref (k.2.2.2.1 0)), (1, .int x1), (2, .int x2), (4, .int x4)] (x3 + (1 : Int32)) dX9_held_167 rfl (by rfl) (by decide) rfl ?_
    refine g_goto (tgt := 17) E dX9_held_170 (by decide) ?_
    exact g_sub [1, 2, 3, 0] rfl (hrc17 σ x1 x2 (x3 + (1 : Int32)) r hf)
  · have hf := gn hf c1
    refine g_aload_n E 0 dX9_held_34 rfl rfl ?_
    refine g_get (C := RX9) (T := TX9) (N := 20) (ci := 9) E 0 8 (.ref (k.2.2.2.1 8)) hi_X9_held_X9 (mwG0 _ _) rfl (by decide) hk_X9_held_31 rfl dX9_held_35 ?_
    refine g_iload_n E 3 dX9_held_38 rfl rfl ?_
    obtain ⟨hi2, hf⟩ := gd hf
    refine g_iald E 8 (σ.1 8) (mwG8 _ _) hi2 dX9_held_39 ?_
    refine g_if_lt (tgt := 53) E dX9_held_40 (by decide) (fun c3 => ?_) (fun c3 => ?_)
    · have hf := gp hf c3
      exact fX9_held_w53 E rc17 hrc17 rc28 hrc28 σ x1 x2 x3 x4 r hf
    · have hf := gn hf c3
      refine g_aload_n E 0 dX9_held_43 rfl rfl ?_
      refine g_get (C := RX9) (T := TX9) (N := 20) (ci := 9) E 0 8 (.ref (k.2.2.2.1 8)) hi_X9_held_X9 (mwG0 _ _) rfl (by decide) hk_X9_held_31 rfl dX9_held_44 ?_
      refine g_iload E 4 dX9_held_47 rfl ?_
      obtain ⟨hi4, hf⟩ := gd hf
      refine g_iald E 8 (σ.1 8) (mwG8 _ _) hi4 dX9_held_49 ?_
      refine g_if_ge (tgt := 57) E dX9_held_50 (by decide) (fun c5 => ?_) (fun c5 => ?_)
      · have hf := gp hf c5
        refine g_aload_n E 0 dX9_held_57 rfl rfl ?_
        refine g_get (C := RX9) (T := TX9) (N := 20) (ci := 9) E 0 8 (.ref (k.2.2.2.1 8)) hi_X9_held_X9 (mwG0 _ _) rfl (by decide) hk_X9_held_31 rfl dX9_held_58 ?_
        refine g_iload_n E 3 dX9_held_61 rfl rfl ?_
        obtain ⟨hi6, hf⟩ := gd hf
        refine g_iald E 8 (σ.1 8) (mwG8 _ _) hi6 dX9_held_62 ?_
        refine g_aload_n E 0 dX9_held_63 rfl rfl ?_
        refine g_get (C := RX9) (T := TX9) (N := 20) (ci := 9) E 0 8 (.ref (k.2.2.2.1 8)) hi_X9_held_X9 (mwG0 _ _) rfl (by decide) hk_X9_held_31 rfl dX9_held_64 ?_
        refine g_iload E 4 dX9_held_67 rfl ?_
        obtain ⟨hi7, hf⟩ := gd hf
        refine g_iald E 8 (σ.1 8) (mwG8 _ _) hi7 dX9_held_69 ?_
        refine g_isub E dX9_held_70 ?_
        exact fX9_held_w71 E rc17 hrc17 rc28 hrc28 σ x1 x2 x3 x4 ((σ.1 8 x3.toNatClampNeg) - (σ.1 8 x4.toNatClampNeg)) r hf
      · have hf := gn hf c5
        exact fX9_held_w53 E rc17 hrc17 rc28 hrc28 σ x1 x2 x3 x4 r hf
theorem fX9_held_v28 {k : gK} {X : gX} (E : gE k X cX9_held RX9 wsX9_held 9 (some .int) rm_fX9_held) (rc17 : St → Int32 → Int32 → Int32 → Option (Int32 × St)) (hrc17 : ∀ (σ : St) (x1 : Int32) (x2 : Int32) (x3 : Int32) (r : Int32 × St), rc17 σ x1 x2 x3 = some r → G k X 9 (some (.int r.1)) (mw k.2.2.2 r.2) (mw k.2.2.2 σ) [(0, .ref (k.2.2.2.1 0)), (1, .int x1), (2, .int x2), (3, .int x3)] [] 17) : ∀ (n : Nat) (σ : St) (x1 : Int32) (x2 : Int32) (x3 : Int32) (x4 : Int32) (r : Int32 × St), fX9_held_l28 rc17 n σ x1 x2 x3 x4 = some r → G k X 9 (some (.int r.1)) (mw k.2.2.2 r.2) (mw k.2.2.2 σ) [(0, .ref (k.2.2.2.1 0)), (1, .int x1), (2, .int x2), (3, .int x3), (4, .int x4)] [] 28 := by
  intro n
  induction n with
  | zero => intro σ x1 x2 x3 x4 r hf; cases hf
  | succ n ih => intro σ x1 x2 x3 x4 r hf; exact fX9_held_w28 E rc17 hrc17 (fX9_held_l28 rc17 n) ih σ x1 x2 x3 x4 r hf
set_option maxHeartbeats 4000000 in
set_option maxRecDepth 100000 in
theorem fX9_held_w17 {k : gK} {X : gX} (E : gE k X cX9_held RX9 wsX9_held 9 (some .int) rm_fX9_held) (rc17 : St → Int32 → Int32 → Int32 → Option (Int32 × St)) (hrc17 : ∀ (σ : St) (x1 : Int32) (x2 : Int32) (x3 : Int32) (r : Int32 × St), rc17 σ x1 x2 x3 = some r → G k X 9 (some (.int r.1)) (mw k.2.2.2 r.2) (mw k.2.2.2 σ) [(0, .ref (k.2.2.2.1 0)), (1, .int x1), (2, .int x2), (3, .int x3)] [] 17) (σ : St) (x1 : Int32) (x2 : Int32) (x3 : Int32) (r : Int32 × St) (hf : fX9_held_b17 rc17 σ x1 x2 x3 = some r) : G k X 9 (some (.int r.1)) (mw k.2.2.2 r.2) (mw k.2.2.2 σ) [(0, .ref (k.2.2.2.1 0)), (1, .int x1), (2, .int x2), (3, .int x3)] [] 17 := by
  unfold fX9_held_b17 at hf
  refine g_iload_n E 3 dX9_held_17 rfl rfl ?_
  refine g_aload_n E 0 dX9_held_18 rfl rfl ?_
  refine g_get (C := RX9) (T := TX9) (N := 20) (ci := 9) E 0 9 (.int (σ.2.1 1)) hi_X9_held_X9 (mwG0 _ _) rfl (by decide) hk_X9_held_67 rfl dX9_held_19 ?_
  refine g_icmp_ge (tgt := 173) E dX9_held_22 (by decide) (fun c1 => ?_) (fun c1 => ?_)
  · have hf := gp hf c1
    refine g_iload_n E 2 dX9_held_173 rfl rfl ?_
    have hf := Option.some.inj hf
    subst hf
    exact g_iret E dX9_held_174
  · have hf := gn hf c1
    refine g_iconst (v := (0 : Int32)) E dX9_held_25 (by decide) ?_
    refine g_istore E [(4, .int (0 : Int32)), (0, .ref (k.2.2.2.1 0)), (1, .int x1), (2, .int x2), (3, .int x3)] dX9_held_26 (by decide) rfl ?_
    exact g_sub [1, 2, 3, 4, 0] rfl (fX9_held_v28 E rc17 hrc17 gF σ x1 x2 x3 (0 : Int32) r hf)
theorem fX9_held_v17 {k : gK} {X : gX} (E : gE k X cX9_held RX9 wsX9_held 9 (some .int) rm_fX9_held) : ∀ (n : Nat) (σ : St) (x1 : Int32) (x2 : Int32) (x3 : Int32) (r : Int32 × St), fX9_held_l17 n σ x1 x2 x3 = some r → G k X 9 (some (.int r.1)) (mw k.2.2.2 r.2) (mw k.2.2.2 σ) [(0, .ref (k.2.2.2.1 0)), (1, .int x1), (2, .int x2), (3, .int x3)] [] 17 := by
  intro n
  induction n with
  | zero => intro σ x1 x2 x3 r hf; cases hf
  | succ n ih => intro σ x1 x2 x3 r hf; exact fX9_held_w17 E (fX9_held_l17 n) ih σ x1 x2 x3 r hf
set_option maxHeartbeats 4000000 in
set_option maxRecDepth 100000 in
theorem fX9_held_c (k : gK) (σ : St) (x1 : Int32) (r : Int32 × St) (hf : fX9_held σ x1 = some r) : MC k yX9_held wsX9_held rm_fX9_held [.ref (k.2.2.2.1 0), .int x1] (mw k.2.2.2 σ) (some (.int r.1)) (mw k.2.2.2 r.2) := by
  refine MC_of (cc := cX9_held) (maxL := 9) (ret := (some .int)) (own := RX9) (lvs := [(0, .ref (k.2.2.2.1 0)), (1, .int x1)]) (by decide) rfl rfl (Nat.le_of_ble_eq_true rfl) rfl (fun X E => ?_)
  unfold fX9_held at hf
  refine g_iload_n E 1 dX9_held_0 rfl rfl ?_
  refine g_i2l E dX9_held_1 ?_
  refine g_lconst (v := (0 : Int64)) E dX9_held_2 (by decide) ?_
  refine g_lconst (v := (1 : Int64)) E dX9_held_3 (by decide) ?_
  obtain ⟨q1, hq2, hf⟩ := gb hf
  refine g_callS (As := [.long x1.toInt64, .long (0 : Int64), .long (1 : Int64)]) (rest := []) (n := 3) E (fX9_in_c k σ x1.toInt64 (0 : Int64) (1 : Int64) q1 hq2) gX9_held_X9_in rfl rfl rfl (by decide +kernel) ⟨Nat.le_of_ble_eq_true rfl, Nat.le_of_ble_eq_true rfl⟩ rfl rfl (Nat.le_of_ble_eq_true rfl) dX9_held_4 ?_
  refine g_if_ne (tgt := 13) E dX9_held_7 (by decide) (fun c3 => ?_) (fun c3 => ?_)
  · have hf := gn hf c3
    refine g_iconst (v := (0 : Int32)) E dX9_held_13 (by decide) ?_
    refine g_istore_n E [(2, .int (0 : Int32)), (0, .ref (k.2.2.2.1 0)), (1, .int x1)] dX9_held_14 rfl (by decide) rfl ?_
    refine g_iconst (v := (0 : Int32)) E dX9_held_15 (by decide) ?_
    refine g_istore_n E [(3, .int (0 : Int32)), (2, .int (0 : Int32)), (0, .ref (k.2.2.2.1 0)), (1, .int x1)] dX9_held_16 rfl (by decide) rfl ?_
    exact g_sub [2, 3, 1, 0] rfl (fX9_held_v17 E gF q1.2 x1 (0 : Int32) (0 : Int32) r hf)
  · have hf := gp hf c3
    refine g_bipush (v := (-2 : Int32)) E dX9_held_10 (by decide) ?_
    have hf := Option.some.inj hf
    subst hf
    exact g_iret E dX9_held_12
