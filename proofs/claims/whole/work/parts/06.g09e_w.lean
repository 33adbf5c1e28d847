theorem hi_X9_gave_X9 : ∀ w ∈ wsX90, w ∈ wsX9_gave := by decide +kernel
theorem hk_X9_gave_67 : Cond.fieldLink RX9 67 "PaperMarksModel" "papers" "I" ∈ wsX9_gave := by decide +kernel
theorem hk_X9_gave_25 : Cond.fieldLink RX9 25 "PaperMarksModel" "writers" "[I" ∈ wsX9_gave := by decide +kernel
theorem hk_X9_gave_34 : Cond.fieldLink RX9 34 "PaperMarksModel" "marks" "[I" ∈ wsX9_gave := by decide +kernel
def rm_fX9_gave : Room := { frames := 1, cells := 0, slots := 0, locals := 21 }
set_option maxHeartbeats 4000000 in
set_option maxRecDepth 100000 in
theorem fX9_gave_w49 {k : gK} {X : gX} (E : gE k X cX9_gave RX9 wsX9_gave 5 (some .boolean) rm_fX9_gave) (rc5 : St → Int32 → Int32 → Int32 → Int32 → Option (Int32 × St)) (hrc5 : ∀ (σ : St) (x1 : Int32) (x2 : Int32) (x3 : Int32) (x4 : Int32) (r : Int32 × St), rc5 σ x1 x2 x3 x4 = some r → G k X 5 (some (.int r.1)) (mw k.2.2.2 r.2) (mw k.2.2.2 σ) [(0, .ref (k.2.2.2.1 0)), (1, .int x1), (2, .int x2), (3, .int x3), (4, .int x4)] [] 5) (σ : St) (x1 : Int32) (x2 : Int32) (x4 : Int32) (t0 : Int32) (r : Int32 × St) (hf : fX9_gave_b49 rc5 σ x1 x2 x4 t0 = some r) : G k X 5 (some (.int r.1)) (mw k.2.2.2 r.2) (mw k.2.2.2 σ) [(0, .ref (k.2.2.2.1 0)), (1, .int x1), (2, .int x2), (4, .int x4)] [.int t0] 49 := by
  unfold fX9_gave_b49 at hf
  refine g_istore_n E [(3, .int t0), (0, .ref (k.2.2.2.1 0)), (1, .int x1), (2, .int x2), (4, .int x4)] dX9_gave_49 rfl (by decide) rfl ?_
  refine g_iinc E 4 [(4, .int (x4 + (1 : Int32))), (3, .int t0), (0, .ref (k.2.2.2.1 0)), (1, .int x1), (2, .int x2)] (x4 + (1 : Int32)) dX9_gave_50 rfl (by rfl) (by decide) rfl ?_
  refine g_goto (tgt := 5) E dX9_gave_53 (by decide) ?_
  exact g_sub [2, 3, 4, 1, 0] rfl (hrc5 σ x1 x2 t0 (x4 + (1 : Int32)) r hf)
set_option maxHeartbeats 4000000 in
set_option maxRecDepth 100000 in
theorem fX9_gave_w44 {k : gK} {X : gX} (E : gE k X cX9_gave RX9 wsX9_gave 5 (some .boolean) rm_fX9_gave) (rc5 : St → Int32 → Int32 → Int32 → Int32 → Option (Int32 × St)) (hrc5 : ∀ (σ : St) (x1 : Int32) (x2 : Int32) (x3 : Int32) (x4 : Int32) (r : Int32 × St), rc5 σ x1 x2 x3 x4 = some r → G k X 5 (some (.int r.1)) (mw k.2.2.2 r.2) (mw k.2.2.2 σ) [(0, .ref (k.2.2.2.1 0)), (1, .int x1), (2, .int x2), (3, .int x3), (4, .int x4)] [] 5) (σ : St) (x1 : Int32) (x2 : Int32) (x4 : Int32) (r : Int32 × St) (hf : fX9_gave_b44 rc5 σ x1 x2 x4 = some r) : G k X 5 (some (.int r.1)) (mw k.2.2.2 r.2) (mw k.2.2.2 σ) [(0, .ref (k.2.2.2.1 0)), (1, .int x1), (2, .int x2), (4, .int x4)] [] 44 := by
  unfold fX9_gave_b44 at hf
  refine g_iconst (v := (1 : Int32)) E dX9_gave_44 (by decide) ?_
  refine g_goto (tgt := 49) E dX9_gave_45 (by decide) ?_
  exact fX9_gave_w49 E rc5 hrc5 σ x1 x2 x4 (1 : Int32) r hf
set_option maxHeartbeats 4000000 in
set_option maxRecDepth 100000 in
theorem fX9_gave_w48 {k : gK} {X : gX} (E : gE k X cX9_gave RX9 wsX9_gave 5 (some .boolean) rm_fX9_gave) (rc5 : St → Int32 → Int32 → Int32 → Int32 → Option (Int32 × St)) (hrc5 : ∀ (σ : St) (x1 : Int32) (x2 : Int32) (x3 : Int32) (x4 : Int32) (r : Int32 × St), rc5 σ x1 x2 x3 x4 = some r → G k X 5 (some (.int r.1)) (mw k.2.2.2 r.2) (mw k.2.2.2 σ) [(0, .ref (k.2.2.2.1 0)), (1, .int x1), (2, .int x2), (3, .int x3), (4, .int x4)] [] 5) (σ : St) (x1 : Int32) (x2 : Int32) (x4 : Int32) (r : Int32 × St) (hf : fX9_gave_b48 rc5 σ x1 x2 x4 = some r) : G k X 5 (some (.int r.1)) (mw k.2.2.2 r.2) (mw k.2.2.2 σ) [(0, .ref (k.2.2.2.1 0)), (1, .int x1), (2, .int x2), (4, .int x4)] [] 48 := by
  unfold fX9_gave_b48 at hf
  refine g_iconst (v := (0 : Int32)) E dX9_gave_48 (by decide) ?_
  exact fX9_gave_w49 E rc5 hrc5 σ x1 x2 x4 (0 : Int32) r hf
set_option maxHeartbeats 4000000 in
set_option maxRecDepth 100000 in
theorem fX9_gave_w5 {k : gK} {X : gX} (E : gE k X cX9_gave RX9 wsX9_gave 5 (some .boolean) rm_fX9_gave) (rc5 : St → Int32 → Int32 → Int32 → Int32 → Option (Int32 × St)) (hrc5 : ∀ (σ : St) (x1 : Int32) (x2 : Int32) (x3 : Int32) (x4 : Int32) (r : Int32 × St), rc5 σ x1 x2 x3 x4 = some r → G k X 5 (some (.int r.1)) (mw k.2.2.2 r.2) (mw k.2.2.2 σ) [(0, .ref (k.2.2.2.1 0)), (1, .int x1), (2, .int x2), (3, .int x3), (4, .int x4)] [] 5) (σ : St) (x1 : Int32) (x2 : Int32) (x3 : Int32) (x4 : Int32) (r : Int32 × St) (hf : fX9_gave_b5 rc5 σ x1 x2 x3 x4 = some r) : G k X 5 (some (.int r.1)) (mw k.2.2.2 r.2) (mw k.2.2.2 σ) [(0, .ref (k.2.2.2.1 0)), (1, .int x1), (2, .int x2), (3, .int x3), (4, .int x4)] [] 5 := by
  unfold fX9_gave_b5 at hf
  refine g_iload E 4 dX9_gave_5 rfl ?_
  refine g_aload_n E 0 dX9_gave_7 rfl rfl ?_
  refine g_get (C := RX9) (T := TX9) (N := 20) (ci := 9) E 0 9 (.int (σ.2.1 1)) hi_X9_gave_X9 (mwG0 _ _) rfl (by decide) hk_X9_gave_67 rfl dX9_gave_8 ?_
  refine g_icmp_ge (tgt := 56) E dX9_gave_11 (by decide) (fun c1 => ?_) (fun c1 => ?_)
  · have hf := gp hf c1
    refine g_iload_n E 3 dX9_gave_56 rfl rfl ?_
    obtain ⟨hv2, hf⟩ := gd hf
    have hf := Option.some.inj hf
    subst hf
    exact g_zret E hv2 dX9_gave_57
  · have hf := gn hf c1
    refine g_iload_n E 3 dX9_gave_14 rfl rfl ?_
    refine g_if_ne (tgt := 44) E dX9_gave_15 (by decide) (fun c3 => ?_) (fun c3 => ?_)
    · have hf := gn hf c3
      exact g_sub [0, 1, 2, 4] rfl (fX9_gave_w44 E rc5 hrc5 σ x1 x2 x4 r hf)
    · have hf := gp hf c3
      refine g_aload_n E 0 dX9_gave_18 rfl rfl ?_
      refine g_get (C := RX9) (T := TX9) (N := 20) (ci := 9) E 0 6 (.ref (k.2.2.2.1 6)) hi_X9_gave_X9 (mwG0 _ _) rfl (by decide) hk_X9_gave_25 rfl dX9_gave_19 ?_
      refine g_iload E 4 dX9_gave_22 rfl ?_
      obtain ⟨hi4, hf⟩ := gd hf
      refine g_iald E 6 (σ.1 6) (mwG6 _ _) hi4 dX9_gave_24 ?_
      refine g_iload_n E 2 dX9_gave_25 rfl rfl ?_
      refine g_icmp_ne (tgt := 48) E dX9_gave_26 (by decide) (fun c5 => ?_) (fun c5 => ?_)
      · have hf := gn hf c5
        exact g_sub [0, 1, 2, 4] rfl (fX9_gave_w48 E rc5 hrc5 σ x1 x2 x4 r hf)
      · have hf := gp hf c5
        refine g_aload_n E 0 dX9_gave_29 rfl rfl ?_
        refine g_get (C := RX9) (T := TX9) (N := 20) (ci := 9) E 0 10 (.ref (k.2.2.2.1 9)) hi_X9_gave_X9 (mwG0 _ _) rfl (by decide) hk_X9_gave_34 rfl dX9_gave_30 ?_
        refine g_iload_n E 1 dX9_gave_33 rfl rfl ?_
        refine g_iload E 4 dX9_gave_34 rfl ?_
        obtain ⟨q6, hq7, hf⟩ := gb hf
        refine g_callS (As := [.int x1, .int x4]) (rest := [.ref (k.2.2.2.1 9)]) (n := 2) E (fX9_at_c k σ x1 x4 q6 hq7) gX9_gave_X9_at rfl rfl rfl (by decide +kernel) ⟨Nat.le_of_ble_eq_true rfl, Nat.le_of_ble_eq_true rfl⟩ rfl rfl (Nat.le_of_ble_eq_true rfl) dX9_gave_36 ?_
        obtain ⟨hi8, hf⟩ := gd hf
        refine g_iald E 9 (q6.2.1 9) (mwG9 _ _) hi8 dX9_gave_39 ?_
        refine g_iconst (v := (4 : Int32)) E dX9_gave_40 (by decide) ?_
        refine g_icmp_lt (tgt := 48) E dX9_gave_41 (by decide) (fun c9 => ?_) (fun c9 => ?_)
        · have hf := gp hf c9
          exact g_sub [0, 1, 2, 4] rfl (fX9_gave_w48 E rc5 hrc5 q6.2 x1 x2 x4 r hf)
        · have hf := gn hf c9
          exact g_sub [0, 1, 2, 4] rfl (fX9_gave_w44 E rc5 hrc5 q6.2 x1 x2 x4 r hf)
theorem fX9_gave_v5 {k : gK} {X : gX} (E : gE k X cX9_gave RX9 wsX9_gave 5 (some .boolean) rm_fX9_gave) : ∀ (n : Nat) (σ : St) (x1 : Int32) (x2 : Int32) (x3 : Int32) (x4 : Int32) (r : Int32 × St), fX9_gave_l5 n σ x1 x2 x3 x4 = some r → G k X 5 (some (.int r.1)) (mw k.2.2.2 r.2) (mw k.2.2.2 σ) [(0, .ref (k.2.2.2.1 0)), (1, .int x1), (2, .int x2), (3, .int x3), (4, .int x4)] [] 5 := by
  intro n
  induction n with
  | zero => intro σ x1 x2 x3 x4 r hf; cases hf
  | succ n ih => intro σ x1 x2 x3 x4 r hf; exact fX9_gave_w5 E (fX9_gave_l5 n) ih σ x1 x2 x3 x4 r hf
set_option maxHeartbeats 4000000 in
set_option maxRecDepth 100000 in
theorem fX9_gave_c (k : gK) (σ : St) (x1 : Int32) (x2 : Int32) (r : Int32 × St) (hf : fX9_gave σ x1 x2 = some r) : MC k yX9_gave wsX9_gave rm_fX9_gave [.ref (k.2.2.2.1 0), .int x1, .int x2] (mw k.2.2.2 σ) (some (.int r.1)) (mw k.2.2.2 r.2) := by
  refine MC_of (cc := cX9_gave) (maxL := 5) (ret := (some .boolean)) (own := RX9) (lvs := [(0, .ref (k.2.2.2.1 0)), (1, .int x1), (2, .int x2)]) (by decide) rfl rfl (Nat.le_of_ble_eq_true rfl) rfl (fun X E => ?_)
  unfold fX9_gave at hf
  refine g_iconst (v := (0 : Int32)) E dX9_gave_0 (by decide) ?_
  refine g_istore_n E [(3, .int (0 : Int32)), (0, .ref (k.2.2.2.1 0)), (1, .int x1), (2, .int x2)] dX9_gave_1 rfl (by decide) rfl ?_
  refine g_iconst (v := (0 : Int32)) E dX9_gave_2 (by decide) ?_
  refine g_istore E [(4, .int (0 : Int32)), (3, .int (0 : Int32)), (0, .ref (k.2.2.2.1 0)), (1, .int x1), (2, .int x2)] dX9_gave_3 (by decide) rfl ?_
  exact g_sub [2, 3, 4, 1, 0] rfl (fX9_gave_v5 E gF σ x1 x2 (0 : Int32) (0 : Int32) r hf)
