theorem hi_X9_isFit_X9 : ∀ w ∈ wsX90, w ∈ wsX9_isFit := by decide +kernel
theorem hk_X9_isFit_63 : Cond.fieldLink RX9 63 "PaperMarksModel" "judges" "I" ∈ wsX9_isFit := by decide +kernel
def rm_fX9_isFit : Room := { frames := 1, cells := 0, slots := 0, locals := 22 }
set_option maxHeartbeats 4000000 in
set_option maxRecDepth 100000 in
theorem fX9_isFit_w66 {k : gK} {X : gX} (E : gE k X cX9_isFit RX9 wsX9_isFit 6 (some .boolean) rm_fX9_isFit) (rc28 : St → Int32 → Int32 → Int32 → Int32 → Option (Int32 × St)) (hrc28 : ∀ (σ : St) (x1 : Int32) (x2 : Int32) (x4 : Int32) (x5 : Int32) (r : Int32 × St), rc28 σ x1 x2 x4 x5 = some r → G k X 6 (some (.int r.1)) (mw k.2.2.2 r.2) (mw k.2.2.2 σ) [(0, .ref (k.2.2.2.1 0)), (1, .int x1), (2, .int x2), (4, .int x4), (5, .int x5)] [] 28) (σ : St) (x1 : Int32) (x2 : Int32) (x5 : Int32) (t0 : Int32) (r : Int32 × St) (hf : fX9_isFit_b66 rc28 σ x1 x2 x5 t0 = some r) : G k X 6 (some (.int r.1)) (mw k.2.2.2 r.2) (mw k.2.2.2 σ) [(0, .ref (k.2.2.2.1 0)), (1, .int x1), (2, .int x2), (5, .int x5)] [.int t0] 66 := by
  unfold fX9_isFit_b66 at hf
  refine g_istore E [(4, .int t0), (0, .ref (k.2.2.2.1 0)), (1, .int x1), (2, .int x2), (5, .int x5)] dX9_isFit_66 (by decide) rfl ?_
  refine g_iinc E 4 [(5, .int (x5 + (1 : Int32))), (4, .int t0), (0, .ref (k.2.2.2.1 0)), (1, .int x1), (2, .int x2)] (x5 + (1 : Int32)) dX9_isFit_68 rfl (by rfl) (by decide) rfl ?_
  refine g_goto (tgt := 28) E dX9_isFit_71 (by decide) ?_
  exact g_sub [2, 3, 4, 1, 0] rfl (hrc28 σ x1 x2 t0 (x5 + (1 : Int32)) r hf)
set_option maxHeartbeats 4000000 in
set_option maxRecDepth 100000 in
theorem fX9_isFit_w65 {k : gK} {X : gX} (E : gE k X cX9_isFit RX9 wsX9_isFit 6 (some .boolean) rm_fX9_isFit) (rc28 : St → Int32 → Int32 → Int32 → Int32 → Option (Int32 × St)) (hrc28 : ∀ (σ : St) (x1 : Int32) (x2 : Int32) (x4 : Int32) (x5 : Int32) (r : Int32 × St), rc28 σ x1 x2 x4 x5 = some r → G k X 6 (some (.int r.1)) (mw k.2.2.2 r.2) (mw k.2.2.2 σ) [(0, .ref (k.2.2.2.1 0)), (1, .int x1), (2, .int x2), (4, .int x4), (5, .int x5)] [] 28) (σ : St) (x1 : Int32) (x2 : Int32) (x5 : Int32) (r : Int32 × St) (hf : fX9_isFit_b65 rc28 σ x1 x2 x5 = some r) : G k X 6 (some (.int r.1)) (mw k.2.2.2 r.2) (mw k.2.2.2 σ) [(0, .ref (k.2.2.2.1 0)), (1, .int x1), (2, .int x2), (5, .int x5)] [] 65 := by
  unfold fX9_isFit_b65 at hf
  refine g_iconst (v := (0 : Int32)) E dX9_isFit_65 (by decide) ?_
  exact fX9_isFit_w66 E rc28 hrc28 σ x1 x2 x5 (0 : Int32) r hf
set_option maxHeartbeats 4000000 in
set_option maxRecDepth 100000 in
theorem fX9_isFit_w61 {k : gK} {X : gX} (E : gE k X cX9_isFit RX9 wsX9_isFit 6 (some .boolean) rm_fX9_isFit) (rc28 : St → Int32 → Int32 → Int32 → Int32 → Option (Int32 × St)) (hrc28 : ∀ (σ : St) (x1 : Int32) (x2 : Int32) (x4 : Int32) (x5 : Int32) (r : Int32 × St), rc28 σ x1 x2 x4 x5 = some r → G k X 6 (some (.int r.1)) (mw k.2.2.2 r.2) (mw k.2.2.2 σ) [(0, .ref (k.2.2.2.1 0)), (1, .int x1), (2, .int x2), (4, .int x4), (5, .int x5)] [] 28) (σ : St) (x1 : Int32) (x2 : Int32) (x5 : Int32) (r : Int32 × St) (hf : fX9_isFit_b61 rc28 σ x1 x2 x5 = some r) : G k X 6 (some (.int r.1)) (mw k.2.2.2 r.2) (mw k.2.2.2 σ) [(0, .ref (k.2.2.2.1 0)), (1, .int x1), (2, .int x2), (5, .int x5)] [] 61 := by
  unfold fX9_isFit_b61 at hf
  refine g_iconst (v := (1 : Int32)) E dX9_isFit_61 (by decide) ?_
  refine g_goto (tgt := 66) E dX9_isFit_62 (by decide) ?_
  exact fX9_isFit_w66 E rc28 hrc28 σ x1 x2 x5 (1 : Int32) r hf
set_option maxHeartbeats 4000000 in
set_option maxRecDepth 100000 in
theorem fX9_isFit_w28 {k : gK} {X : gX} (E : gE k X cX9_isFit RX9 wsX9_isFit 6 (some .boolean) rm_fX9_isFit) (rc28 : St → Int32 → Int32 → Int32 → Int32 → Option (Int32 × St)) (hrc28 : ∀ (σ : St) (x1 : Int32) (x2 : Int32) (x4 : Int32) (x5 : Int32) (r : Int32 × St), rc28 σ x1 x2 x4 x5 = some r → G k X 6 (some (.int r.1)) (mw k.2.2.2 r.2) (mw k.2.2.2 σ) [(0, .ref (k.2.2.2.1 0)), (1, .int x1), (2, .int x2), (4, .int x4), (5, .int x5)] [] 28) (σ : St) (x1 : Int32) (x2 : Int32) (x4 : Int32) (x5 : Int32) (r : Int32 × St) (hf : fX9_isFit_b28 rc28 σ x1 x2 x4 x5 = some r) : G k X 6 (some (.int r.1)) (mw k.2.2.2 r.2) (mw k.2.2.2 σ) [(0, .ref (k.2.2.2.1 0)), (1, .int x1), (2, .int x2), (4, .int x4), (5, .int x5)] [] 28 := by
  unfold fX9_isFit_b28 at hf
  refine g_iload E 4 dX9_isFit_28 rfl ?_
  refine g_aload_n E 0 dX9_isFit_30 rfl rfl ?_
  refine g_get (C := RX9) (T := TX9) (N := 20) (ci := 9) E 0 3 (.int (σ.2.1 0)) hi_X9_isFit_X9 (mwG0 _ _) rfl (by decide) hk_X9_isFit_63 rfl dX9_isFit_31 ?_
  refine g_icmp_ge (tgt := 74) E dX9_isFit_34 (by decide) (fun c1 => ?_) (fun c1 => ?_)
  · have hf := gp hf c1
    refine g_iload E 3 dX9_isFit_74 rfl ?_
    obtain ⟨hv2, hf⟩ := gd hf
    have hf := Option.some.inj hf
    subst hf
    exact g_zret E hv2 dX9_isFit_76
  · have hf := gn hf c1
    refine g_iload E 3 dX9_isFit_37 rfl ?_
    refine g_if_eq (tgt := 65) E dX9_isFit_39 (by decide) (fun c3 => ?_) (fun c3 => ?_)
    · have hf := gp hf c3
      exact g_sub [0, 1, 2, 4] rfl (fX9_isFit_w65 E rc28 hrc28 σ x1 x2 x5 r hf)
    · have hf := gn hf c3
      refine g_iload_n E 2 dX9_isFit_42 rfl rfl ?_
      refine g_iload E 4 dX9_isFit_43 rfl ?_
      refine g_ishr E dX9_isFit_45 ?_
      refine g_iconst (v := (1 : Int32)) E dX9_isFit_46 (by decide) ?_
      refine g_iand E dX9_isFit_47 ?_
      refine g_if_eq (tgt := 61) E dX9_isFit_48 (by decide) (fun c4 => ?_) (fun c4 => ?_)
      · have hf := gp hf c4
        exact g_sub [0, 1, 2, 4] rfl (fX9_isFit_w61 E rc28 hrc28 σ x1 x2 x5 r hf)
      · have hf := gn hf c4
        refine g_aload_n E 0 dX9_isFit_51 rfl rfl ?_
        refine g_iload E 4 dX9_isFit_52 rfl ?_
        refine g_iload_n E 1 dX9_isFit_54 rfl rfl ?_
        obtain ⟨q5, hq6, hf⟩ := gb hf
        refine g_callV (C := RX9) (T := TX9) (N := 20) (ci := 9) (As := [.int x5, .int x1]) (rest := []) (n := 2) E 0 (fX9_tieWith_c k σ x5 x1 q5 hq6) gX9_isFit_X9_tieWith rfl rfl rfl (by decide +kernel) ⟨Nat.le_of_ble_eq_true rfl, Nat.le_of_ble_eq_true rfl⟩ rfl rfl (Nat.le_of_ble_eq_true rfl) rfl (mwG0 _ _) dX9_isFit_55 ?_
        refine g_if_lt (tgt := 65) E dX9_isFit_58 (by decide) (fun c7 => ?_) (fun c7 => ?_)
        · have hf := gp hf c7
          exact g_sub [0, 1, 2, 4] rfl (fX9_isFit_w65 E rc28 hrc28 q5.2 x1 x2 x5 r hf)
        · have hf := gn hf c7
          exact g_sub [0, 1, 2, 4] rfl (fX9_isFit_w61 E rc28 hrc28 q5.2 x1 x2 x5 r hf)
theorem fX9_isFit_v28 {k : gK} {X : gX} (E : gE k X cX9_isFit RX9 wsX9_isFit 6 (some .boolean) rm_fX9_isFit) : ∀ (n : Nat) (σ : St) (x1 : Int32) (x2 : Int32) (x4 : Int32) (x5 : Int32) (r : Int32 × St), fX9_isFit_l28 n σ x1 x2 x4 x5 = some r → G k X 6 (some (.int r.1)) (mw k.2.2.2 r.2) (mw k.2.2.2 σ) [(0, .ref (k.2.2.2.1 0)), (1, .int x1), (2, .int x2), (4, .int x4), (5, .int x5)] [] 28 := by
  intro n
  induction n with
  | zero => intro σ x1 x2 x4 x5 r hf; cases hf
  | succ n ih => intro σ x1 x2 x4 x5 r hf; exact fX9_isFit_w28 E (fX9_isFit_l28 n) ih σ x1 x2 x4 x5 r hf
set_option maxHeartbeats 4000000 in
set_option maxRecDepth 100000 in
theorem fX9_isFit_w23 {k : gK} {X : gX} (E : gE k X cX9_isFit RX9 wsX9_isFit 6 (some .boolean) rm_fX9_isFit) (σ : St) (x1 : Int32) (x2 : Int32) (t0 : Int32) (r : Int32 × St) (hf : fX9_isFit_b23 σ x1 x2 t0 = some r) : G k X 6 (some (.int r.1)) (mw k.2.2.2 r.2) (mw k.2.2.2 σ) [(0, .ref (k.2.2.2.1 0)), (1, .int x1), (2, .int x2)] [.int t0] 23 := by
  unfold fX9_isFit_b23 at hf
  refine g_istore E [(4, .int t0), (0, .ref (k.2.2.2.1 0)), (1, .int x1), (2, .int x2)] dX9_isFit_23 (by decide) rfl ?_
  refine g_iconst (v := (0 : Int32)) E dX9_isFit_25 (by decide) ?_
  refine g_istore E [(5, .int (0 : Int32)), (4, .int t0), (0, .ref (k.2.2.2.1 0)), (1, .int x1), (2, .int x2)] dX9_isFit_26 (by decide) rfl ?_
  exact g_sub [2, 3, 4, 1, 0] rfl (fX9_isFit_v28 E gF σ x1 x2 t0 (0 : Int32) r hf)
set_option maxHeartbeats 4000000 in
set_option maxRecDepth 100000 in
theorem fX9_isFit_w22 {k : gK} {X : gX} (E : gE k X cX9_isFit RX9 wsX9_isFit 6 (some .boolean) rm_fX9_isFit) (σ : St) (x1 : Int32) (x2 : Int32) (r : Int32 × St) (hf : fX9_isFit_b22 σ x1 x2 = some r) : G k X 6 (some (.int r.1)) (mw k.2.2.2 r.2) (mw k.2.2.2 σ) [(0, .ref (k.2.2.2.1 0)), (1, .int x1), (2, .int x2)] [] 22 := by
  unfold fX9_isFit_b22 at hf
  refine g_iconst (v := (0 : Int32)) E dX9_isFit_22 (by decide) ?_
  exact fX9_isFit_w23 E σ x1 x2 (0 : Int32) r hf
set_option maxHeartbeats 4000000 in
set_option maxRecDepth 100000 in
theorem fX9_isFit_c (k : gK) (σ : St) (x1 : Int32) (x2 : Int32) (x3 : Int32) (r : Int32 × St) (hf : fX9_isFit σ x1 x2 x3 = some r) : MC k yX9_isFit wsX9_isFit rm_fX9_isFit [.ref (k.2.2.2.1 0), .int x1, .int x2, .int x3] (mw k.2.2.2 σ) (some (.int r.1)) (mw k.2.2.2 r.2) := by
  refine MC_of (cc := cX9_isFit) (maxL := 6) (ret := (some .boolean)) (own := RX9) (lvs := [(0, .ref (k.2.2.2.1 0)), (1, .int x1), (2, .int x2), (3, .int x3)]) (by decide) rfl rfl (Nat.le_of_ble_eq_true rfl) rfl (fun X E => ?_)
  unfold fX9_isFit at hf
  refine g_iload_n E 2 dX9_isFit_0 rfl rfl ?_
  obtain ⟨q1, hq2, hf⟩ := gb hf
  refine g_callS (As := [.int x2]) (rest := []) (n := 1) E (fX9_ones_c k σ x2 q1 hq2) gX9_isFit_X9_ones rfl rfl rfl (by decide +kernel) ⟨Nat.le_of_ble_eq_true rfl, Nat.le_of_ble_eq_true rfl⟩ rfl rfl (Nat.le_of_ble_eq_true rfl) dX9_isFit_1 ?_
  refine g_iload_n E 3 dX9_isFit_4 rfl rfl ?_
  refine g_icmp_ne (tgt := 22) E dX9_isFit_5 (by decide) (fun c3 => ?_) (fun c3 => ?_)
  · have hf := gn hf c3
    exact g_sub [0, 1, 2] rfl (fX9_isFit_w22 E q1.2 x1 x2 r hf)
  · have hf := gp hf c3
    refine g_aload_n E 0 dX9_isFit_8 rfl rfl ?_
    refine g_iload_n E 1 dX9_isFit_9 rfl rfl ?_
    refine g_iload_n E 2 dX9_isFit_10 rfl rfl ?_
    obtain ⟨q4, hq5, hf⟩ := gb hf
    refine g_callV (C := RX9) (T := TX9) (N := 20) (ci := 9) (As := [.int x1, .int x2]) (rest := []) (n := 2) E 0 (fX9_without_c k q1.2 x1 x2 q4 hq5) gX9_isFit_X9_without rfl rfl rfl (by decide +kernel) ⟨Nat.le_of_ble_eq_true rfl, Nat.le_of_ble_eq_true rfl⟩ rfl rfl (Nat.le_of_ble_eq_true rfl) rfl (mwG0 _ _) dX9_isFit_11 ?_
    refine g_iload_n E 2 dX9_isFit_14 rfl rfl ?_
    refine g_icmp_ne (tgt := 22) E dX9_isFit_15 (by decide) (fun c6 => ?_) (fun c6 => ?_)
    · have hf := gn hf c6
      exact g_sub [0, 1, 2] rfl (fX9_isFit_w22 E q4.2 x1 x2 r hf)
    · have hf := gp hf c6
      refine g_iconst (v := (1 : Int32)) E dX9_isFit_18 (by decide) ?_
      refine g_goto (tgt := 23) E dX9_isFit_19 (by decide) ?_
      exact g_sub [0, 1, 2] rfl (fX9_isFit_w23 E q4.2 x1 x2 (1 : Int32) r hf)
def rm_fX9_loadsBy : Room := { frames := 0, cells := 0, slots := 0, locals := 0 }
set_option maxHeartbeats 4000000 in
set_option maxRecDepth 100000 in
theorem fX9_loadsBy_w12 {k : gK} {X : gX} (E : gE k X cX9_loadsBy RX9 wsX9_loadsBy 9 (some .int) rm_fX9_loadsBy) (rc12 : St → Int32 → Int32 → Int32 → Int32 → Int32 → Int32 → Option (Int32 × St)) (hrc12 : ∀ (σ : St) (x2 : Int32) (x3 : Int32) (x4 : Int32) (x5 : Int32) (x6 : Int32) (x7 : Int32) (r : Int32 × St), rc12 σ x2 x3 x4 x5 x6 x7 = some r → G k X 9 (some (.int r.1)) (mw k.2.2.2 r.2) (mw k.2.2.2 σ) [(2, .int x2), (3, .int x3), (4, .int x4), (5, .int x5), (6, .int x6), (7, .int x7)] [] 12) (σ : St) (x2 : Int32) (x3 : Int32) (x4 : Int32) (x5 : Int32) (x6 : Int32) (x7 : Int32) (r : Int32 × St) (hf : fX9_loadsBy_b12 rc12 σ x2 x3 x4 x5 x6 x7 = some r) : G k X 9 (some (.int r.1)) (mw k.2.2.2 r.2) (mw k.2.2.2 σ) [(2, .int x2), (3, .int x3), (4, .int x4), (5, .int x5), (6, .int x6), (7, .int x7)] [] 12 := by
  unfold fX9_loadsBy_b12 at hf
  refine g_iload E 5 dX9_loadsBy_12 rfl ?_
  refine g_bipush (v := (6 : Int32)) E dX9_loadsBy_14 (by decide) ?_
  refine g_icmp_ge (tgt := 69) E dX9_loadsBy_16 (by decide) (fun c1 => ?_) (fun c1 => ?_)
  · have hf := gp hf c1
    refine g_iload E 4 dX9_loadsBy_69 rfl ?_
    have hf := Option.some.inj hf
    subst hf
    exact g_iret E dX9_loadsBy_71
  · have hf := gn hf c1
    refine g_iload E 2 dX9_loadsBy_19 rfl ?_
    refine g_iconst (v := (5 : Int32)) E dX9_loadsBy_21 (by decide) ?_
    refine g_irem E (by decide) dX9_loadsBy_22 ?_
    refine g_iload_n E 0 dX9_loadsBy_23 rfl rfl ?_
    refine g_iload E 5 dX9_loadsBy_24 rfl ?_
    refine g_ishr E dX9_loadsBy_26 ?_
    refine g_iconst (v := (1 : Int32)) E dX9_loadsBy_27 (by decide) ?_
    refine g_iand E dX9_loadsBy_28 ?_
    refine g_iadd E dX9_loadsBy_29 ?_
    refine g_istore E [(8, .int (((x4 - x4 / (5 : Int32) * (5 : Int32))) + ((((x2 >>> (x7 &&& 31))) &&& (1 : Int32))))), (2, .int x2), (3, .int x3), (4, .int x4), (5, .int x5), (6, .int x6), (7, .int x7)] dX9_loadsBy_30 (by decide) rfl ?_
    refine g_iload E 0 dX9_loadsBy_32 rfl ?_
    refine g_iload_n E 2 dX9_loadsBy_34 rfl rfl ?_
    refine g_icmp_le (tgt := 41) E dX9_loadsBy_35 (by decide) (fun c2 => ?_) (fun c2 => ?_)
    · have hf := gp hf c2
      refine g_iload E 5 dX9_loadsBy_41 rfl ?_
      refine g_iload E 4 dX9_loadsBy_43 rfl ?_
      refine g_iload E 0 dX9_loadsBy_45 rfl ?_
      refine g_imul E dX9_loadsBy_47 ?_
      refine g_iadd E dX9_loadsBy_48 ?_
      refine g_istore E [(6, .int (x6 + ((x5 * ((((x4 - x4 / (5 : Int32) * (5 : Int32))) + ((((x2 >>> (x7 &&& 31))) &&& (1 : Int32))))))))), (8, .int (((x4 - x4 / (5 : Int32) * (5 : Int32))) + ((((x2 >>> (x7 &&& 31))) &&& (1 : Int32))))), (2, .int x2), (3, .int x3), (4, .int x4), (5, .int x5), (7, .int x7)] dX9_loadsBy_49 (by decide) rfl ?_
      refine g_iload E 5 dX9_loadsBy_51 rfl ?_
      refine g_iconst (v := (5 : Int32)) E dX9_loadsBy_53 (by decide) ?_
      refine g_imul E dX9_loadsBy_54 ?_
      refine g_istore E [(5, .int (x5 * (5 : Int32))), (6, .int (x6 + ((x5 * ((((x4 - x4 / (5 : Int32) * (5 : Int32))) + ((((x2 >>> (x7 &&& 31))) &&& (1 : Int32))))))))), (8, .int (((x4 - x4 / (5 : Int32) * (5 : Int32))) + ((((x2 >>> (x7 &&& 31))) &&& (1 : Int32))))), (2, .int x2), (3, .int x3), (4, .int x4), (7, .int x7)] dX9_loadsBy_55 (by decide) rfl ?_
      refine g_iload E 5 dX9_loadsBy_57 rfl ?_
      refine g_iconst (v := (5 : Int32)) E dX9_loadsBy_59 (by decide) ?_
      refine g_idiv E (by decide) dX9_loadsBy_60 ?_
      refine g_istore E [(4, .int (x4 / (5 : Int32))), (5, .int (x5 * (5 : Int32))), (6, .int (x6 + ((x5 * ((((x4 - x4 / (5 : Int32) * (5 : Int32))) + ((((x2 >>> (x7 &&& 31))) &&& (1 : Int32))))))))), (8, .int (((x4 - x4 / (5 : Int32) * (5 : Int32))) + ((((x2 >>> (x7 &&& 31))) &&& (1 : Int32))))), (2, .int x2), (3, .int x3), (7, .int x7)] dX9_loadsBy_61 (by decide) rfl ?_
      refine g_iinc E 6 [(7, .int (x7 + (1 : Int32))), (4, .int (x4 / (5 : Int32))), (5, .int (x5 * (5 : Int32))), (6, .int (x6 + ((x5 * ((((x4 - x4 / (5 : Int32) * (5 : Int32))) + ((((x2 >>> (x7 &&& 31))) &&& (1 : Int32))))))))), (8, .int (((x4 - x4 / (5 : Int32) * (5 : Int32))) + ((((x2 >>> (x7 &&& 31))) &&& (1 : Int32))))), (2, .int x2), (3, .int x3)] (x7 + (1 : Int32)) dX9_loadsBy_63 rfl (by rfl) (by decide) rfl ?_
      refine g_goto (tgt := 12) E dX9_loadsBy_66 (by decide) ?_
      exact g_sub [5, 6, 1, 2, 3, 0] rfl (hrc12 σ x2 x3 (x4 / (5 : Int32)) (x5 * (5 : Int32)) (x6 + ((x5 * ((((x4 - x4 / (5 : Int32) * (5 : Int32))) + ((((x2 >>> (x7 &&& 31))) &&& (1 : Int32)))))))) (x7 + (1 : Int32)) r hf)
    · have hf := gn hf c2
      refine g_bipush (v := (-6 : Int32)) E dX9_loadsBy_38 (by decide) ?_
      have hf := Option.some.inj hf
      subst hf
      exact g_iret E dX9_loadsBy_40
theorem fX9_loadsBy_v12 {k : gK} {X : gX} (E : gE k X cX9_loadsBy RX9 wsX9_loadsBy 9 (some .int) rm_fX9_loadsBy) : ∀ (n : Nat) (σ : St) (x2 : Int32) (x3 : Int32) (x4 : Int32) (x5 : Int32) (x6 : Int32) (x7 : Int32) (r : Int32 × St), fX9_loadsBy_l12 n σ x2 x3 x4 x5 x6 x7 = some r → G k X 9 (some (.int r.1)) (mw k.2.2.2 r.2) (mw k.2.2.2 σ) [(2, .int x2), (3, .int x3), (4, .int x4), (5, .int x5), (6, .int x6), (7, .int x7)] [] 12 := by
  intro n
  induction n with
  | zero => intro σ x2 x3 x4 x5 x6 x7 r hf; cases hf
  | succ n ih => intro σ x2 x3 x4 x5 x6 x7 r hf; exact fX9_loadsBy_w12 E (fX9_loadsBy_l12 n) ih σ x2 x3 x4 x5 x6 x7 r hf
set_option maxHeartbeats 4000000 in
set_option maxRecDepth 100000 in
theorem fX9_loadsBy_c (k : gK) (σ : St) (x1 : Int32) (x2 : Int32) (x3 : Int32) (r : Int32 × St) (hf : fX9_loadsBy σ x1 x2 x3 = some r) : MC k yX9_loadsBy wsX9_loadsBy rm_fX9_loadsBy [.ref (k.2.2.2.1 0), .int x1, .int x2, .int x3] (mw k.2.2.2 σ) (some (.int r.1)) (mw k.2.2.2 r.2) := by
  refine MC_of (cc := cX9_loadsBy) (maxL := 9) (ret := (some .int)) (own := RX9) (lvs := [(0, .ref (k.2.2.2.1 0)), (1, .int x1), (2, .int x2), (3, .int x3)]) (by decide) rfl rfl (Nat.le_of_ble_eq_true rfl) rfl (fun X E => ?_)
  unfold fX9_loadsBy at hf
  refine g_iload_n E 1 dX9_loadsBy_0 rfl rfl ?_
  refine g_istore E [(4, .int x1), (0, .ref (k.2.2.2.1 0)), (1, .int x1), (2, .int x2), (3, .int x3)] dX9_loadsBy_1 (by decide) rfl ?_
  refine g_iconst (v := (1 : Int32)) E dX9_loadsBy_3 (by decide) ?_
  refine g_istore E [(5, .int (1 : Int32)), (4, .int x1), (0, .ref (k.2.2.2.1 0)), (1, .int x1), (2, .int x2), (3, .int x3)] dX9_loadsBy_4 (by decide) rfl ?_
  refine g_iconst (v := (0 : Int32)) E dX9_loadsBy_6 (by decide) ?_
  refine g_istore E [(6, .int (0 : Int32)), (5, .int (1 : Int32)), (4, .int x1), (0, .ref (k.2.2.2.1 0)), (1, .int x1), (2, .int x2), (3, .int x3)] dX9_loadsBy_7 (by decide) rfl ?_
  refine g_iconst (v := (0 : Int32)) E dX9_loadsBy_9 (by decide) ?_
  refine g_istore E [(7, .int (0 : Int32)), (6, .int (0 : Int32)), (5, .int (1 : Int32)), (4, .int x1), (0, .ref (k.2.2.2.1 0)), (1, .int x1), (2, .int x2), (3, .int x3)] dX9_loadsBy_10 (by decide) rfl ?_
  exact g_sub [6, 7, 3, 2, 1, 0] rfl (fX9_loadsBy_v12 E gF σ x2 x3 x1 (1 : Int32) (0 : Int32) (0 : Int32) r hf)
