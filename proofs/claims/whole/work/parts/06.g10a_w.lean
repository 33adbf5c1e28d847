theorem hi_X9_swap_X9 : ∀ w ∈ wsX90, w ∈ wsX9_swap := by decide +kernel
theorem hk_X9_swap_63 : Cond.fieldLink RX9 63 "PaperMarksModel" "judges" "I" ∈ wsX9_swap := by decide +kernel
def rm_fX9_swap : Room := { frames := 2, cells := 0, slots := 0, locals := 45 }
set_option maxHeartbeats 4000000 in
set_option maxRecDepth 100000 in
theorem fX9_swap_w62 {k : gK} {X : gX} (E : gE k X cX9_swap RX9 wsX9_swap 5 (some .int) rm_fX9_swap) (rc4 : St → Int32 → Int32 → Int32 → Option (Int32 × St)) (hrc4 : ∀ (σ : St) (x1 : Int32) (x2 : Int32) (x3 : Int32) (r : Int32 × St), rc4 σ x1 x2 x3 = some r → G k X 5 (some (.int r.1)) (mw k.2.2.2 r.2) (mw k.2.2.2 σ) [(0, .ref (k.2.2.2.1 0)), (1, .int x1), (2, .int x2), (3, .int x3)] [] 4) (rc17 : St → Int32 → Int32 → Int32 → Int32 → Option (Int32 × St)) (hrc17 : ∀ (σ : St) (x1 : Int32) (x2 : Int32) (x3 : Int32) (x4 : Int32) (r : Int32 × St), rc17 σ x1 x2 x3 x4 = some r → G k X 5 (some (.int r.1)) (mw k.2.2.2 r.2) (mw k.2.2.2 σ) [(0, .ref (k.2.2.2.1 0)), (1, .int x1), (2, .int x2), (3, .int x3), (4, .int x4)] [] 17) (σ : St) (x1 : Int32) (x2 : Int32) (x3 : Int32) (x4 : Int32) (r : Int32 × St) (hf : fX9_swap_b62 rc4 rc17 σ x1 x2 x3 x4 = some r) : G k X 5 (some (.int r.1)) (mw k.2.2.2 r.2) (mw k.2.2.2 σ) [(0, .ref (k.2.2.2.1 0)), (1, .int x1), (2, .int x2), (3, .int x3), (4, .int x4)] [] 62 := by
  unfold fX9_swap_b62 at hf
  refine g_iinc E 4 [(4, .int (x4 + (1 : Int32))), (0, .ref (k.2.2.2.1 0)), (1, .int x1), (2, .int x2), (3, .int x3)] (x4 + (1 : Int32)) dX9_swap_62 rfl (by rfl) (by decide) rfl ?_
  refine g_goto (tgt := 17) E dX9_swap_65 (by decide) ?_
  exact g_sub [1, 2, 3, 4, 0] rfl (hrc17 σ x1 x2 x3 (x4 + (1 : Int32)) r hf)
set_option maxHeartbeats 4000000 in
set_option maxRecDepth 100000 in
theorem fX9_swap_w17 {k : gK} {X : gX} (E : gE k X cX9_swap RX9 wsX9_swap 5 (some .int) rm_fX9_swap) (rc4 : St → Int32 → Int32 → Int32 → Option (Int32 × St)) (hrc4 : ∀ (σ : St) (x1 : Int32) (x2 : Int32) (x3 : Int32) (r : Int32 × St), rc4 σ x1 x2 x3 = some r → G k X 5 (some (.int r.1)) (mw k.2.2.2 r.2) (mw k.2.2.2 σ) [(0, .ref (k.2.2.2.1 0)), (1, .int x1), (2, .int x2), (3, .int x3)] [] 4) (rc17 : St → Int32 → Int32 → Int32 → Int32 → Option (Int32 × St)) (hrc17 : ∀ (σ : St) (x1 : Int32) (x2 : Int32) (x3 : Int32) (x4 : Int32) (r : Int32 × St), rc17 σ x1 x2 x3 x4 = some r → G k X 5 (some (.int r.1)) (mw k.2.2.2 r.2) (mw k.2.2.2 σ) [(0, .ref (k.2.2.2.1 0)), (1, .int x1), (2, .int x2), (3, .int x3), (4, .int x4)] [] 17) (σ : St) (x1 : Int32) (x2 : Int32) (x3 : Int32) (x4 : Int32) (r : Int32 × St) (hf : fX9_swap_b17 rc4 rc17 σ x1 x2 x3 x4 = some r) : G k X 5 (some (.int r.1)) (mw k.2.2.2 r.2) (mw k.2.2.2 σ) [(0, .ref (k.2.2.2.1 0)), (1, .int x1), (2, .int x2), (3, .int x3), (4, .int x4)] [] 17 := by
  unfold fX9_swap_b17 at hf
  refine g_iload E 4 dX9_swap_17 rfl ?_
  refine g_aload_n E 0 dX9_swap_19 rfl rfl ?_
  refine g_get (C := RX9) (T := TX9) (N := 20) (ci := 9) E 0 3 (.int (σ.2.1 0)) hi_X9_swap_X9 (mwG0 _ _) rfl (by decide) hk_X9_swap_63 rfl dX9_swap_20 ?_
  refine g_icmp_ge (tgt := 68) E dX9_swap_23 (by decide) (fun c1 => ?_) (fun c1 => ?_)
  · have hf := gp hf c1
    refine g_iinc E 3 [(3, .int (x3 + (1 : Int32))), (0, .ref (k.2.2.2.1 0)), (1, .int x1), (2, .int x2), (4, .int x4)] (x3 + (1 : Int32)) dX9_swap_68 rfl (by rfl) (by decide) rfl ?_
    refine g_goto (tgt := 4) E dX9_swap_71 (by decide) ?_
    exact g_sub [1, 2, 3, 0] rfl (hrc4 σ x1 x2 (x3 + (1 : Int32)) r hf)
  · have hf := gn hf c1
    refine g_aload_n E 0 dX9_swap_26 rfl rfl ?_
    refine g_iload_n E 3 dX9_swap_27 rfl rfl ?_
    refine g_iload E 4 dX9_swap_28 rfl ?_
    obtain ⟨q2, hq3, hf⟩ := gb hf
    refine g_callV (C := RX9) (T := TX9) (N := 20) (ci := 9) (As := [.int x3, .int x4]) (rest := []) (n := 2) E 0 (fX9_gave_c k σ x3 x4 q2 hq3) gX9_swap_X9_gave rfl rfl rfl (by decide +kernel) ⟨Nat.le_of_ble_eq_true rfl, Nat.le_of_ble_eq_true rfl⟩ rfl rfl (Nat.le_of_ble_eq_true rfl) rfl (mwG0 _ _) dX9_swap_30 ?_
    refine g_if_eq (tgt := 62) E dX9_swap_33 (by decide) (fun c4 => ?_) (fun c4 => ?_)
    · have hf := gp hf c4
      exact fX9_swap_w62 E rc4 hrc4 rc17 hrc17 q2.2 x1 x2 x3 x4 r hf
    · have hf := gn hf c4
      refine g_aload_n E 0 dX9_swap_36 rfl rfl ?_
      refine g_iload E 4 dX9_swap_37 rfl ?_
      refine g_iload_n E 3 dX9_swap_39 rfl rfl ?_
      obtain ⟨q5, hq6, hf⟩ := gb hf
      refine g_callV (C := RX9) (T := TX9) (N := 20) (ci := 9) (As := [.int x4, .int x3]) (rest := []) (n := 2) E 0 (fX9_gave_c k q2.2 x4 x3 q5 hq6) gX9_swap_X9_gave rfl rfl rfl (by decide +kernel) ⟨Nat.le_of_ble_eq_true rfl, Nat.le_of_ble_eq_true rfl⟩ rfl rfl (Nat.le_of_ble_eq_true rfl) rfl (mwG0 _ _) dX9_swap_40 ?_
      refine g_if_eq (tgt := 62) E dX9_swap_43 (by decide) (fun c7 => ?_) (fun c7 => ?_)
      · have hf := gp hf c7
        exact fX9_swap_w62 E rc4 hrc4 rc17 hrc17 q5.2 x1 x2 x3 x4 r hf
      · have hf := gn hf c7
        refine g_iload_n E 2 dX9_swap_46 rfl rfl ?_
        refine g_iload_n E 1 dX9_swap_47 rfl rfl ?_
        refine g_icmp_ne (tgt := 59) E dX9_swap_48 (by decide) (fun c8 => ?_) (fun c8 => ?_)
        · have hf := gn hf c8
          refine g_iinc E 2 [(2, .int (x2 + (1 : Int32))), (0, .ref (k.2.2.2.1 0)), (1, .int x1), (3, .int x3), (4, .int x4)] (x2 + (1 : Int32)) dX9_swap_59 rfl (by rfl) (by decide) rfl ?_
          exact g_sub [1, 2, 0, 3, 4] rfl (fX9_swap_w62 E rc4 hrc4 rc17 hrc17 q5.2 x1 (x2 + (1 : Int32)) x3 x4 r hf)
        · have hf := gp hf c8
          refine g_bipush (v := (10 : Int32)) E dX9_swap_51 (by decide) ?_
          refine g_iload_n E 3 dX9_swap_53 rfl rfl ?_
          refine g_imul E dX9_swap_54 ?_
          refine g_iload E 4 dX9_swap_55 rfl ?_
          refine g_iadd E dX9_swap_57 ?_
          have hf := Option.some.inj hf
          subst hf
          exact g_iret E dX9_swap_58
theorem fX9_swap_v17 {k : gK} {X : gX} (E : gE k X cX9_swap RX9 wsX9_swap 5 (some .int) rm_fX9_swap) (rc4 : St → Int32 → Int32 → Int32 → Option (Int32 × St)) (hrc4 : ∀ (σ : St) (x1 : Int32) (x2 : Int32) (x3 : Int32) (r : Int32 × St), rc4 σ x1 x2 x3 = some r → G k X 5 (some (.int r.1)) (mw k.2.2.2 r.2) (mw k.2.2.2 σ) [(0, .ref (k.2.2.2.1 0)), (1, .int x1), (2, .int x2), (3, .int x3)] [] 4) : ∀ (n : Nat) (σ : St) (x1 : Int32) (x2 : Int32) (x3 : Int32) (x4 : Int32) (r : Int32 × St), fX9_swap_l17 rc4 n σ x1 x2 x3 x4 = some r → G k X 5 (some (.int r.1)) (mw k.2.2.2 r.2) (mw k.2.2.2 σ) [(0, .ref (k.2.2.2.1 0)), (1, .int x1), (2, .int x2), (3, .int x3), (4, .int x4)] [] 17 := by
  intro n
  induction n with
  | zero => intro σ x1 x2 x3 x4 r hf; cases hf
  | succ n ih => intro σ x1 x2 x3 x4 r hf; exact fX9_swap_w17 E rc4 hrc4 (fX9_swap_l17 rc4 n) ih σ x1 x2 x3 x4 r hf
set_option maxHeartbeats 4000000 in
set_option maxRecDepth 100000 in
theorem fX9_swap_w4 {k : gK} {X : gX} (E : gE k X cX9_swap RX9 wsX9_swap 5 (some .int) rm_fX9_swap) (rc4 : St → Int32 → Int32 → Int32 → Option (Int32 × St)) (hrc4 : ∀ (σ : St) (x1 : Int32) (x2 : Int32) (x3 : Int32) (r : Int32 × St), rc4 σ x1 x2 x3 = some r → G k X 5 (some (.int r.1)) (mw k.2.2.2 r.2) (mw k.2.2.2 σ) [(0, .ref (k.2.2.2.1 0)), (1, .int x1), (2, .int x2), (3, .int x3)] [] 4) (σ : St) (x1 : Int32) (x2 : Int32) (x3 : Int32) (r : Int32 × St) (hf : fX9_swap_b4 rc4 σ x1 x2 x3 = some r) : G k X 5 (some (.int r.1)) (mw k.2.2.2 r.2) (mw k.2.2.2 σ) [(0, .ref (k.2.2.2.1 0)), (1, .int x1), (2, .int x2), (3, .int x3)] [] 4 := by
  unfold fX9_swap_b4 at hf
  refine g_iload_n E 3 dX9_swap_4 rfl rfl ?_
  refine g_aload_n E 0 dX9_swap_5 rfl rfl ?_
  refine g_get (C := RX9) (T := TX9) (N := 20) (ci := 9) E 0 3 (.int (σ.2.1 0)) hi_X9_swap_X9 (mwG0 _ _) rfl (by decide) hk_X9_swap_63 rfl dX9_swap_6 ?_
  refine g_icmp_ge (tgt := 74) E dX9_swap_9 (by decide) (fun c1 => ?_) (fun c1 => ?_)
  · have hf := gp hf c1
    refine g_iload_n E 1 dX9_swap_74 rfl rfl ?_
    refine g_iconst (v := (-1 : Int32)) E dX9_swap_75 (by decide) ?_
    refine g_icmp_ne (tgt := 83) E dX9_swap_76 (by decide) (fun c2 => ?_) (fun c2 => ?_)
    · have hf := gn hf c2
      refine g_bipush (v := (-6 : Int32)) E dX9_swap_83 (by decide) ?_
      have hf := Option.some.inj hf
      subst hf
      exact g_iret E dX9_swap_85
    · have hf := gp hf c2
      refine g_iload_n E 2 dX9_swap_79 rfl rfl ?_
      refine g_goto (tgt := 85) E dX9_swap_80 (by decide) ?_
      have hf := Option.some.inj hf
      subst hf
      exact g_iret E dX9_swap_85
  · have hf := gn hf c1
    refine g_iload_n E 3 dX9_swap_12 rfl rfl ?_
    refine g_iconst (v := (1 : Int32)) E dX9_swap_13 (by decide) ?_
    refine g_iadd E dX9_swap_14 ?_
    refine g_istore E [(4, .int (x3 + (1 : Int32))), (0, .ref (k.2.2.2.1 0)), (1, .int x1), (2, .int x2), (3, .int x3)] dX9_swap_15 (by decide) rfl ?_
    exact g_sub [1, 2, 3, 4, 0] rfl (fX9_swap_v17 E rc4 hrc4 gF σ x1 x2 x3 (x3 + (1 : Int32)) r hf)
theorem fX9_swap_v4 {k : gK} {X : gX} (E : gE k X cX9_swap RX9 wsX9_swap 5 (some .int) rm_fX9_swap) : ∀ (n : Nat) (σ : St) (x1 : Int32) (x2 : Int32) (x3 : Int32) (r : Int32 × St), fX9_swap_l4 n σ x1 x2 x3 = some r → G k X 5 (some (.int r.1)) (mw k.2.2.2 r.2) (mw k.2.2.2 σ) [(0, .ref (k.2.2.2.1 0)), (1, .int x1), (2, .int x2), (3, .int x3)] [] 4 := by
  intro n
  induction n with
  | zero => intro σ x1 x2 x3 r hf; cases hf
  | succ n ih => intro σ x1 x2 x3 r hf; exact fX9_swap_w4 E (fX9_swap_l4 n) ih σ x1 x2 x3 r hf
set_option maxHeartbeats 4000000 in
set_option maxRecDepth 100000 in
theorem fX9_swap_c (k : gK) (σ : St) (x1 : Int32) (r : Int32 × St) (hf : fX9_swap σ x1 = some r) : MC k yX9_swap wsX9_swap rm_fX9_swap [.ref (k.2.2.2.1 0), .int x1] (mw k.2.2.2 σ) (some (.int r.1)) (mw k.2.2.2 r.2) := by
  refine MC_of (cc := cX9_swap) (maxL := 5) (ret := (some .int)) (own := RX9) (lvs := [(0, .ref (k.2.2.2.1 0)), (1, .int x1)]) (by decide) rfl rfl (Nat.le_of_ble_eq_true rfl) rfl (fun X E => ?_)
  unfold fX9_swap at hf
  refine g_iconst (v := (0 : Int32)) E dX9_swap_0 (by decide) ?_
  refine g_istore_n E [(2, .int (0 : Int32)), (0, .ref (k.2.2.2.1 0)), (1, .int x1)] dX9_swap_1 rfl (by decide) rfl ?_
  refine g_iconst (v := (0 : Int32)) E dX9_swap_2 (by decide) ?_
  refine g_istore_n E [(3, .int (0 : Int32)), (2, .int (0 : Int32)), (0, .ref (k.2.2.2.1 0)), (1, .int x1)] dX9_swap_3 rfl (by decide) rfl ?_
  exact g_sub [2, 3, 1, 0] rfl (fX9_swap_v4 E gF σ x1 (0 : Int32) (0 : Int32) r hf)
