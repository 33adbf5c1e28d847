theorem hi_X9_parts_X9 : ∀ w ∈ wsX90, w ∈ wsX9_parts := by decide +kernel
theorem hk_X9_parts_63 : Cond.fieldLink RX9 63 "PaperMarksModel" "judges" "I" ∈ wsX9_parts := by decide +kernel
def rm_fX9_parts : Room := { frames := 2, cells := 0, slots := 0, locals := 47 }
set_option maxHeartbeats 4000000 in
set_option maxRecDepth 100000 in
theorem fX9_parts_w38 {k : gK} {X : gX} (E : gE k X cX9_parts RX9 wsX9_parts 4 (some .int) rm_fX9_parts) (rc4 : St → Int32 → Int32 → Option (Int32 × St)) (hrc4 : ∀ (σ : St) (x1 : Int32) (x2 : Int32) (r : Int32 × St), rc4 σ x1 x2 = some r → G k X 4 (some (.int r.1)) (mw k.2.2.2 r.2) (mw k.2.2.2 σ) [(0, .ref (k.2.2.2.1 0)), (1, .int x1), (2, .int x2)] [] 4) (σ : St) (x2 : Int32) (t0 : Int32) (t1 : Int32) (r : Int32 × St) (hf : fX9_parts_b38 rc4 σ x2 t0 t1 = some r) : G k X 4 (some (.int r.1)) (mw k.2.2.2 r.2) (mw k.2.2.2 σ) [(0, .ref (k.2.2.2.1 0)), (2, .int x2)] [.int t1, .int t0] 38 := by
  unfold fX9_parts_b38 at hf
  refine g_iadd E dX9_parts_38 ?_
  refine g_istore_n E [(1, .int (t0 + t1)), (0, .ref (k.2.2.2.1 0)), (2, .int x2)] dX9_parts_39 rfl (by decide) rfl ?_
  refine g_iinc E 2 [(2, .int (x2 + (1 : Int32))), (1, .int (t0 + t1)), (0, .ref (k.2.2.2.1 0))] (x2 + (1 : Int32)) dX9_parts_40 rfl (by rfl) (by decide) rfl ?_
  refine g_goto (tgt := 4) E dX9_parts_43 (by decide) ?_
  exact g_sub [2, 1, 0] rfl (hrc4 σ (t0 + t1) (x2 + (1 : Int32)) r hf)
set_option maxHeartbeats 4000000 in
set_option maxRecDepth 100000 in
theorem fX9_parts_w37 {k : gK} {X : gX} (E : gE k X cX9_parts RX9 wsX9_parts 4 (some .int) rm_fX9_parts) (rc4 : St → Int32 → Int32 → Option (Int32 × St)) (hrc4 : ∀ (σ : St) (x1 : Int32) (x2 : Int32) (r : Int32 × St), rc4 σ x1 x2 = some r → G k X 4 (some (.int r.1)) (mw k.2.2.2 r.2) (mw k.2.2.2 σ) [(0, .ref (k.2.2.2.1 0)), (1, .int x1), (2, .int x2)] [] 4) (σ : St) (x2 : Int32) (t0 : Int32) (r : Int32 × St) (hf : fX9_parts_b37 rc4 σ x2 t0 = some r) : G k X 4 (some (.int r.1)) (mw k.2.2.2 r.2) (mw k.2.2.2 σ) [(0, .ref (k.2.2.2.1 0)), (2, .int x2)] [.int t0] 37 := by
  unfold fX9_parts_b37 at hf
  refine g_iconst (v := (0 : Int32)) E dX9_parts_37 (by decide) ?_
  exact fX9_parts_w38 E rc4 hrc4 σ x2 t0 (0 : Int32) r hf
set_option maxHeartbeats 4000000 in
set_option maxRecDepth 100000 in
theorem fX9_parts_w4 {k : gK} {X : gX} (E : gE k X cX9_parts RX9 wsX9_parts 4 (some .int) rm_fX9_parts) (rc4 : St → Int32 → Int32 → Option (Int32 × St)) (hrc4 : ∀ (σ : St) (x1 : Int32) (x2 : Int32) (r : Int32 × St), rc4 σ x1 x2 = some r → G k X 4 (some (.int r.1)) (mw k.2.2.2 r.2) (mw k.2.2.2 σ) [(0, .ref (k.2.2.2.1 0)), (1, .int x1), (2, .int x2)] [] 4) (σ : St) (x1 : Int32) (x2 : Int32) (r : Int32 × St) (hf : fX9_parts_b4 rc4 σ x1 x2 = some r) : G k X 4 (some (.int r.1)) (mw k.2.2.2 r.2) (mw k.2.2.2 σ) [(0, .ref (k.2.2.2.1 0)), (1, .int x1), (2, .int x2)] [] 4 := by
  unfold fX9_parts_b4 at hf
  refine g_iload_n E 2 dX9_parts_4 rfl rfl ?_
  refine g_aload_n E 0 dX9_parts_5 rfl rfl ?_
  refine g_get (C := RX9) (T := TX9) (N := 20) (ci := 9) E 0 3 (.int (σ.2.1 0)) hi_X9_parts_X9 (mwG0 _ _) rfl (by decide) hk_X9_parts_63 rfl dX9_parts_6 ?_
  refine g_icmp_ge (tgt := 46) E dX9_parts_9 (by decide) (fun c1 => ?_) (fun c1 => ?_)
  · have hf := gp hf c1
    refine g_iload_n E 1 dX9_parts_46 rfl rfl ?_
    have hf := Option.some.inj hf
    subst hf
    exact g_iret E dX9_parts_47
  · have hf := gn hf c1
    refine g_aload_n E 0 dX9_parts_12 rfl rfl ?_
    refine g_iload_n E 2 dX9_parts_13 rfl rfl ?_
    obtain ⟨q2, hq3, hf⟩ := gb hf
    refine g_callV (C := RX9) (T := TX9) (N := 20) (ci := 9) (As := [.int x2]) (rest := []) (n := 1) E 0 (fX9_joinedOf_c k σ x2 q2 hq3) gX9_parts_X9_joinedOf rfl rfl rfl (by decide +kernel) ⟨Nat.le_of_ble_eq_true rfl, Nat.le_of_ble_eq_true rfl⟩ rfl rfl (Nat.le_of_ble_eq_true rfl) rfl (mwG0 _ _) dX9_parts_14 ?_
    refine g_istore_n E [(3, .int q2.1), (0, .ref (k.2.2.2.1 0)), (1, .int x1), (2, .int x2)] dX9_parts_17 rfl (by decide) rfl ?_
    refine g_iload_n E 2 dX9_parts_18 rfl rfl ?_
    refine g_iload_n E 0 dX9_parts_19 rfl rfl ?_
    refine g_if_eq (tgt := 37) E dX9_parts_20 (by decide) (fun c4 => ?_) (fun c4 => ?_)
    · have hf := gp hf c4
      exact g_sub [1, 3] rfl (fX9_parts_w37 E rc4 hrc4 q2.2 x2 x1 r hf)
    · have hf := gn hf c4
      refine g_iload_n E 0 dX9_parts_23 rfl rfl ?_
      refine g_iconst (v := (1 : Int32)) E dX9_parts_24 (by decide) ?_
      refine g_iload_n E 3 dX9_parts_25 rfl rfl ?_
      refine g_ishl E dX9_parts_26 ?_
      refine g_iconst (v := (1 : Int32)) E dX9_parts_27 (by decide) ?_
      refine g_isub E dX9_parts_28 ?_
      refine g_iand E dX9_parts_29 ?_
      refine g_if_ne (tgt := 37) E dX9_parts_30 (by decide) (fun c5 => ?_) (fun c5 => ?_)
      · have hf := gn hf c5
        exact g_sub [1, 3] rfl (fX9_parts_w37 E rc4 hrc4 q2.2 x2 x1 r hf)
      · have hf := gp hf c5
        refine g_iconst (v := (1 : Int32)) E dX9_parts_33 (by decide) ?_
        refine g_goto (tgt := 38) E dX9_parts_34 (by decide) ?_
        exact g_sub [1, 3] rfl (fX9_parts_w38 E rc4 hrc4 q2.2 x2 x1 (1 : Int32) r hf)
theorem fX9_parts_v4 {k : gK} {X : gX} (E : gE k X cX9_parts RX9 wsX9_parts 4 (some .int) rm_fX9_parts) : ∀ (n : Nat) (σ : St) (x1 : Int32) (x2 : Int32) (r : Int32 × St), fX9_parts_l4 n σ x1 x2 = some r → G k X 4 (some (.int r.1)) (mw k.2.2.2 r.2) (mw k.2.2.2 σ) [(0, .ref (k.2.2.2.1 0)), (1, .int x1), (2, .int x2)] [] 4 := by
  intro n
  induction n with
  | zero => intro σ x1 x2 r hf; cases hf
  | succ n ih => intro σ x1 x2 r hf; exact fX9_parts_w4 E (fX9_parts_l4 n) ih σ x1 x2 r hf
set_option maxHeartbeats 4000000 in
set_option maxRecDepth 100000 in
theorem fX9_parts_c (k : gK) (σ : St) (r : Int32 × St) (hf : fX9_parts σ = some r) : MC k yX9_parts wsX9_parts rm_fX9_parts [.ref (k.2.2.2.1 0)] (mw k.2.2.2 σ) (some (.int r.1)) (mw k.2.2.2 r.2) := by
  refine MC_of (cc := cX9_parts) (maxL := 4) (ret := (some .int)) (own := RX9) (lvs := [(0, .ref (k.2.2.2.1 0))]) (by decide) rfl rfl (Nat.le_of_ble_eq_true rfl) rfl (fun X E => ?_)
  unfold fX9_parts at hf
  refine g_iconst (v := (0 : Int32)) E dX9_parts_0 (by decide) ?_
  refine g_istore_n E [(1, .int (0 : Int32)), (0, .ref (k.2.2.2.1 0))] dX9_parts_1 rfl (by decide) rfl ?_
  refine g_iconst (v := (0 : Int32)) E dX9_parts_2 (by decide) ?_
  refine g_istore_n E [(2, .int (0 : Int32)), (1, .int (0 : Int32)), (0, .ref (k.2.2.2.1 0))] dX9_parts_3 rfl (by decide) rfl ?_
  exact g_sub [2, 1, 0] rfl (fX9_parts_v4 E gF σ (0 : Int32) (0 : Int32) r hf)
