theorem hi_X9_bringsOf_X9 : ∀ w ∈ wsX90, w ∈ wsX9_bringsOf := by decide +kernel
theorem hk_X9_bringsOf_56 : Cond.fieldLink RX9 56 "PaperMarksModel" "mostFrom" "[I" ∈ wsX9_bringsOf := by decide +kernel
def rm_fX9_bringsOf : Room := { frames := 2, cells := 0, slots := 0, locals := 47 }
set_option maxHeartbeats 4000000 in
set_option maxRecDepth 100000 in
theorem fX9_bringsOf_w51 {k : gK} {X : gX} (E : gE k X cX9_bringsOf RX9 wsX9_bringsOf 8 (some .int) rm_fX9_bringsOf) (σ : St) (x1 : Int32) (x3 : Int32) (t0 : Int32) (r : Int32 × St) (hf : fX9_bringsOf_b51 σ x1 x3 t0 = some r) : G k X 8 (some (.int r.1)) (mw k.2.2.2 r.2) (mw k.2.2.2 σ) [(0, .ref (k.2.2.2.1 0)), (1, .int x1), (3, .int x3)] [.int t0] 51 := by
  unfold fX9_bringsOf_b51 at hf
  refine g_istore E [(7, .int t0), (0, .ref (k.2.2.2.1 0)), (1, .int x1), (3, .int x3)] dX9_bringsOf_51 (by decide) rfl ?_
  refine g_iload E 0 dX9_bringsOf_53 rfl ?_
  refine g_if_ge (tgt := 63) E dX9_bringsOf_55 (by decide) (fun c1 => ?_) (fun c1 => ?_)
  · have hf := gp hf c1
    refine g_iload E 0 dX9_bringsOf_63 rfl ?_
    refine g_aload_n E 1 dX9_bringsOf_65 rfl rfl ?_
    refine g_iload_n E 2 dX9_bringsOf_66 rfl rfl ?_
    refine g_iload_n E 3 dX9_bringsOf_67 rfl rfl ?_
    obtain ⟨q2, hq3, hf⟩ := gb hf
    refine g_callV (C := RX9) (T := TX9) (N := 20) (ci := 9) (As := [.int x1, .int x3]) (rest := [.int t0]) (n := 2) E 0 (fX9_bidsOf_c k σ x1 x3 q2 hq3) gX9_bringsOf_X9_bidsOf rfl rfl rfl (by decide +kernel) ⟨Nat.le_of_ble_eq_true rfl, Nat.le_of_ble_eq_true rfl⟩ rfl rfl (Nat.le_of_ble_eq_true rfl) rfl (mwG0 _ _) dX9_bringsOf_68 ?_
    refine g_iadd E dX9_bringsOf_71 ?_
    have hf := Option.some.inj hf
    subst hf
    exact g_iret E dX9_bringsOf_72
  · have hf := gn hf c1
    refine g_bipush (v := (-6 : Int32)) E dX9_bringsOf_58 (by decide) ?_
    refine g_goto (tgt := 72) E dX9_bringsOf_60 (by decide) ?_
    have hf := Option.some.inj hf
    subst hf
    exact g_iret E dX9_bringsOf_72
set_option maxHeartbeats 4000000 in
set_option maxRecDepth 100000 in
theorem fX9_bringsOf_w24 {k : gK} {X : gX} (E : gE k X cX9_bringsOf RX9 wsX9_bringsOf 8 (some .int) rm_fX9_bringsOf) (σ : St) (x1 : Int32) (x3 : Int32) (t0 : Int32) (r : Int32 × St) (hf : fX9_bringsOf_b24 σ x1 x3 t0 = some r) : G k X 8 (some (.int r.1)) (mw k.2.2.2 r.2) (mw k.2.2.2 σ) [(0, .ref (k.2.2.2.1 0)), (1, .int x1), (3, .int x3)] [.int t0] 24 := by
  unfold fX9_bringsOf_b24 at hf
  refine g_istore E [(6, .int t0), (0, .ref (k.2.2.2.1 0)), (1, .int x1), (3, .int x3)] dX9_bringsOf_24 (by decide) rfl ?_
  refine g_iload E 0 dX9_bringsOf_26 rfl ?_
  refine g_if_ge (tgt := 36) E dX9_bringsOf_28 (by decide) (fun c1 => ?_) (fun c1 => ?_)
  · have hf := gp hf c1
    refine g_aload_n E 1 dX9_bringsOf_36 rfl rfl ?_
    refine g_get (C := RX9) (T := TX9) (N := 20) (ci := 9) E 0 19 (.ref (k.2.2.2.1 16)) hi_X9_bringsOf_X9 (mwG0 _ _) rfl (by decide) hk_X9_bringsOf_56 rfl dX9_bringsOf_37 ?_
    refine g_sipush (v := (15625 : Int32)) E dX9_bringsOf_40 (by decide) ?_
    refine g_iload_n E 2 dX9_bringsOf_43 rfl rfl ?_
    refine g_iconst (v := (1 : Int32)) E dX9_bringsOf_44 (by decide) ?_
    refine g_iadd E dX9_bringsOf_45 ?_
    refine g_imul E dX9_bringsOf_46 ?_
    refine g_iload E 0 dX9_bringsOf_47 rfl ?_
    refine g_iadd E dX9_bringsOf_49 ?_
    obtain ⟨hi2, hf⟩ := gd hf
    refine g_iald E 16 (σ.1 16) (mwG16 _ _) hi2 dX9_bringsOf_50 ?_
    exact g_sub [1, 2, 3] rfl (fX9_bringsOf_w51 E σ x1 x3 (σ.1 16 (((((15625 : Int32) * ((x1 + (1 : Int32))))) + t0)).toNatClampNeg) r hf)
  · have hf := gn hf c1
    refine g_bipush (v := (-6 : Int32)) E dX9_bringsOf_31 (by decide) ?_
    refine g_goto (tgt := 51) E dX9_bringsOf_33 (by decide) ?_
    exact g_sub [1, 2, 3] rfl (fX9_bringsOf_w51 E σ x1 x3 (-6 : Int32) r hf)
set_option maxHeartbeats 4000000 in
set_option maxRecDepth 100000 in
theorem fX9_bringsOf_c (k : gK) (σ : St) (x1 : Int32) (x2 : Int32) (x3 : Int32) (x4 : Int32) (x5 : Int32) (r : Int32 × St) (hf : fX9_bringsOf σ x1 x2 x3 x4 x5 = some r) : MC k yX9_bringsOf wsX9_bringsOf rm_fX9_bringsOf [.ref (k.2.2.2.1 0), .int x1, .int x2, .int x3, .int x4, .int x5] (mw k.2.2.2 σ) (some (.int r.1)) (mw k.2.2.2 r.2) := by
  refine MC_of (cc := cX9_bringsOf) (maxL := 8) (ret := (some .int)) (own := RX9) (lvs := [(0, .ref (k.2.2.2.1 0)), (1, .int x1), (2, .int x2), (3, .int x3), (4, .int x4), (5, .int x5)]) (by decide) rfl rfl (Nat.le_of_ble_eq_true rfl) rfl (fun X E => ?_)
  unfold fX9_bringsOf at hf
  refine g_aload_n E 0 dX9_bringsOf_0 rfl rfl ?_
  refine g_iload_n E 1 dX9_bringsOf_1 rfl rfl ?_
  refine g_iload_n E 3 dX9_bringsOf_2 rfl rfl ?_
  refine g_iload E 4 dX9_bringsOf_3 rfl ?_
  obtain ⟨q1, hq2, hf⟩ := gb hf
  refine g_callV (C := RX9) (T := TX9) (N := 20) (ci := 9) (As := [.int x1, .int x3, .int x4]) (rest := []) (n := 3) E 0 (fX9_isFit_c k σ x1 x3 x4 q1 hq2) gX9_bringsOf_X9_isFit rfl rfl rfl (by decide +kernel) ⟨Nat.le_of_ble_eq_true rfl, Nat.le_of_ble_eq_true rfl⟩ rfl rfl (Nat.le_of_ble_eq_true rfl) rfl (mwG0 _ _) dX9_bringsOf_5 ?_
  refine g_if_eq (tgt := 22) E dX9_bringsOf_8 (by decide) (fun c3 => ?_) (fun c3 => ?_)
  · have hf := gp hf c3
    refine g_bipush (v := (-6 : Int32)) E dX9_bringsOf_22 (by decide) ?_
    exact g_sub [0, 1, 3] rfl (fX9_bringsOf_w24 E q1.2 x1 x3 (-6 : Int32) r hf)
  · have hf := gn hf c3
    refine g_aload_n E 0 dX9_bringsOf_11 rfl rfl ?_
    refine g_iload_n E 2 dX9_bringsOf_12 rfl rfl ?_
    refine g_iload_n E 3 dX9_bringsOf_13 rfl rfl ?_
    refine g_iload E 5 dX9_bringsOf_14 rfl ?_
    obtain ⟨q4, hq5, hf⟩ := gb hf
    refine g_callV (C := RX9) (T := TX9) (N := 20) (ci := 9) (As := [.int x2, .int x3, .int x5]) (rest := []) (n := 3) E 0 (fX9_loadsBy_c k q1.2 x2 x3 x5 q4 hq5) gX9_bringsOf_X9_loadsBy rfl rfl rfl (by decide +kernel) ⟨Nat.le_of_ble_eq_true rfl, Nat.le_of_ble_eq_true rfl⟩ rfl rfl (Nat.le_of_ble_eq_true rfl) rfl (mwG0 _ _) dX9_bringsOf_16 ?_
    refine g_goto (tgt := 24) E dX9_bringsOf_19 (by decide) ?_
    exact g_sub [0, 1, 3] rfl (fX9_bringsOf_w24 E q4.2 x1 x3 q4.1 r hf)
def rm_fX9_totalOf : Room := { frames := 0, cells := 0, slots := 0, locals := 0 }
set_option maxHeartbeats 4000000 in
set_option maxRecDepth 100000 in
theorem fX9_totalOf_w4 {k : gK} {X : gX} (E : gE k X cX9_totalOf RX9 wsX9_totalOf 3 (some .int) rm_fX9_totalOf) (rc4 : St → Int32 → Int32 → Option (Int32 × St)) (hrc4 : ∀ (σ : St) (x1 : Int32) (x2 : Int32) (r : Int32 × St), rc4 σ x1 x2 = some r → G k X 3 (some (.int r.1)) (mw k.2.2.2 r.2) (mw k.2.2.2 σ) [(1, .int x1), (2, .int x2)] [] 4) (σ : St) (x1 : Int32) (x2 : Int32) (r : Int32 × St) (hf : fX9_totalOf_b4 rc4 σ x1 x2 = some r) : G k X 3 (some (.int r.1)) (mw k.2.2.2 r.2) (mw k.2.2.2 σ) [(1, .int x1), (2, .int x2)] [] 4 := by
  unfold fX9_totalOf_b4 at hf
  refine g_iload_n E 1 dX9_totalOf_4 rfl rfl ?_
  refine g_if_le (tgt := 21) E dX9_totalOf_5 (by decide) (fun c1 => ?_) (fun c1 => ?_)
  · have hf := gp hf c1
    refine g_iload_n E 0 dX9_totalOf_21 rfl rfl ?_
    have hf := Option.some.inj hf
    subst hf
    exact g_iret E dX9_totalOf_22
  · have hf := gn hf c1
    refine g_iload_n E 0 dX9_totalOf_8 rfl rfl ?_
    refine g_iload_n E 1 dX9_totalOf_9 rfl rfl ?_
    refine g_iconst (v := (5 : Int32)) E dX9_totalOf_10 (by decide) ?_
    refine g_irem E (by decide) dX9_totalOf_11 ?_
    refine g_iadd E dX9_totalOf_12 ?_
    refine g_istore_n E [(1, .int (x1 + ((x2 - x2 / (5 : Int32) * (5 : Int32))))), (2, .int x2)] dX9_totalOf_13 rfl (by decide) rfl ?_
    refine g_iload_n E 1 dX9_totalOf_14 rfl rfl ?_
    refine g_iconst (v := (5 : Int32)) E dX9_totalOf_15 (by decide) ?_
    refine g_idiv E (by decide) dX9_totalOf_16 ?_
    refine g_istore_n E [(2, .int (x2 / (5 : Int32))), (1, .int (x1 + ((x2 - x2 / (5 : Int32) * (5 : Int32)))))] dX9_totalOf_17 rfl (by decide) rfl ?_
    refine g_goto (tgt := 4) E dX9_totalOf_18 (by decide) ?_
    exact g_sub [1, 0] rfl (hrc4 σ (x1 + ((x2 - x2 / (5 : Int32) * (5 : Int32)))) (x2 / (5 : Int32)) r hf)
theorem fX9_totalOf_v4 {k : gK} {X : gX} (E : gE k X cX9_totalOf RX9 wsX9_totalOf 3 (some .int) rm_fX9_totalOf) : ∀ (n : Nat) (σ : St) (x1 : Int32) (x2 : Int32) (r : Int32 × St), fX9_totalOf_l4 n σ x1 x2 = some r → G k X 3 (some (.int r.1)) (mw k.2.2.2 r.2) (mw k.2.2.2 σ) [(1, .int x1), (2, .int x2)] [] 4 := by
  intro n
  induction n with
  | zero => intro σ x1 x2 r hf; cases hf
  | succ n ih => intro σ x1 x2 r hf; exact fX9_totalOf_w4 E (fX9_totalOf_l4 n) ih σ x1 x2 r hf
set_option maxHeartbeats 4000000 in
set_option maxRecDepth 100000 in
theorem fX9_totalOf_c (k : gK) (σ : St) (x0 : Int32) (r : Int32 × St) (hf : fX9_totalOf σ x0 = some r) : MC k yX9_totalOf wsX9_totalOf rm_fX9_totalOf [.int x0] (mw k.2.2.2 σ) (some (.int r.1)) (mw k.2.2.2 r.2) := by
  refine MC_of (cc := cX9_totalOf) (maxL := 3) (ret := (some .int)) (own := RX9) (lvs := [(0, .int x0)]) (by decide) rfl rfl (Nat.le_of_ble_eq_true rfl) rfl (fun X E => ?_)
  unfold fX9_totalOf at hf
  refine g_iconst (v := (0 : Int32)) E dX9_totalOf_0 (by decide) ?_
  refine g_istore_n E [(1, .int (0 : Int32)), (0, .int x0)] dX9_totalOf_1 rfl (by decide) rfl ?_
  refine g_iload_n E 1 dX9_totalOf_2 rfl rfl ?_
  refine g_istore_n E [(2, .int x0), (1, .int (0 : Int32)), (0, .int x0)] dX9_totalOf_3 rfl (by decide) rfl ?_
  exact g_sub [1, 0] rfl (fX9_totalOf_v4 E gF σ (0 : Int32) x0 r hf)
