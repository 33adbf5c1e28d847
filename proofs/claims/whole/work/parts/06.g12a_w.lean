theorem hi_X9_told_X9 : ∀ w ∈ wsX90, w ∈ wsX9_told := by decide +kernel
theorem hk_X9_told_67 : Cond.fieldLink RX9 67 "PaperMarksModel" "papers" "I" ∈ wsX9_told := by decide +kernel
theorem hk_X9_told_34 : Cond.fieldLink RX9 34 "PaperMarksModel" "marks" "[I" ∈ wsX9_told := by decide +kernel
theorem hk_X9_told_63 : Cond.fieldLink RX9 63 "PaperMarksModel" "judges" "I" ∈ wsX9_told := by decide +kernel
theorem hk_X9_told_97 : Cond.fieldLink RX9 97 "PaperMarksModel" "signMany" "I" ∈ wsX9_told := by decide +kernel
theorem hk_X9_told_118 : Cond.fieldLink RX9 118 "PaperMarksModel" "clauses" "I" ∈ wsX9_told := by decide +kernel
def rm_fX9_told : Room := { frames := 1, cells := 0, slots := 0, locals := 21 }
set_option maxHeartbeats 4000000 in
set_option maxRecDepth 100000 in
theorem fX9_told_w44 {k : gK} {X : gX} (E : gE k X cX9_told RX9 wsX9_told 5 (some .int) rm_fX9_told) (rc4 : St → Int32 → Int32 → Int32 → Option (Int32 × St)) (hrc4 : ∀ (σ : St) (x1 : Int32) (x2 : Int32) (x3 : Int32) (r : Int32 × St), rc4 σ x1 x2 x3 = some r → G k X 5 (some (.int r.1)) (mw k.2.2.2 r.2) (mw k.2.2.2 σ) [(0, .ref (k.2.2.2.1 0)), (1, .int x1), (2, .int x2), (3, .int x3)] [] 4) (rc15 : St → Int32 → Int32 → Int32 → Int32 → Option (Int32 × St)) (hrc15 : ∀ (σ : St) (x1 : Int32) (x2 : Int32) (x3 : Int32) (x4 : Int32) (r : Int32 × St), rc15 σ x1 x2 x3 x4 = some r → G k X 5 (some (.int r.1)) (mw k.2.2.2 r.2) (mw k.2.2.2 σ) [(0, .ref (k.2.2.2.1 0)), (1, .int x1), (2, .int x2), (3, .int x3), (4, .int x4)] [] 15) (σ : St) (x1 : Int32) (x3 : Int32) (x4 : Int32) (t0 : Int32) (t1 : Int32) (r : Int32 × St) (hf : fX9_told_b44 rc4 rc15 σ x1 x3 x4 t0 t1 = some r) : G k X 5 (some (.int r.1)) (mw k.2.2.2 r.2) (mw k.2.2.2 σ) [(0, .ref (k.2.2.2.1 0)), (1, .int x1), (3, .int x3), (4, .int x4)] [.int t1, .int t0] 44 := by
  unfold fX9_told_b44 at hf
  refine g_iadd E dX9_told_44 ?_
  refine g_istore_n E [(2, .int (t0 + t1)), (0, .ref (k.2.2.2.1 0)), (1, .int x1), (3, .int x3), (4, .int x4)] dX9_told_45 rfl (by decide) rfl ?_
  refine g_iinc E 4 [(4, .int (x4 + (1 : Int32))), (2, .int (t0 + t1)), (0, .ref (k.2.2.2.1 0)), (1, .int x1), (3, .int x3)] (x4 + (1 : Int32)) dX9_told_46 rfl (by rfl) (by decide) rfl ?_
  refine g_goto (tgt := 15) E dX9_told_49 (by decide) ?_
  exact g_sub [2, 3, 1, 4, 0] rfl (hrc15 σ x1 (t0 + t1) x3 (x4 + (1 : Int32)) r hf)
set_option maxHeartbeats 4000000 in
set_option maxRecDepth 100000 in
theorem fX9_told_w15 {k : gK} {X : gX} (E : gE k X cX9_told RX9 wsX9_told 5 (some .int) rm_fX9_told) (rc4 : St → Int32 → Int32 → Int32 → Option (Int32 × St)) (hrc4 : ∀ (σ : St) (x1 : Int32) (x2 : Int32) (x3 : Int32) (r : Int32 × St), rc4 σ x1 x2 x3 = some r → G k X 5 (some (.int r.1)) (mw k.2.2.2 r.2) (mw k.2.2.2 σ) [(0, .ref (k.2.2.2.1 0)), (1, .int x1), (2, .int x2), (3, .int x3)] [] 4) (rc15 : St → Int32 → Int32 → Int32 → Int32 → Option (Int32 × St)) (hrc15 : ∀ (σ : St) (x1 : Int32) (x2 : Int32) (x3 : Int32) (x4 : Int32) (r : Int32 × St), rc15 σ x1 x2 x3 x4 = some r → G k X 5 (some (.int r.1)) (mw k.2.2.2 r.2) (mw k.2.2.2 σ) [(0, .ref (k.2.2.2.1 0)), (1, .int x1), (2, .int x2), (3, .int x3), (4, .int x4)] [] 15) (σ : St) (x1 : Int32) (x2 : Int32) (x3 : Int32) (x4 : Int32) (r : Int32 × St) (hf : fX9_told_b15 rc4 rc15 σ x1 x2 x3 x4 = some r) : G k X 5 (some (.int r.1)) (mw k.2.2.2 r.2) (mw k.2.2.2 σ) [(0, .ref (k.2.2.2.1 0)), (1, .int x1), (2, .int x2), (3, .int x3), (4, .int x4)] [] 15 := by
  unfold fX9_told_b15 at hf
  refine g_iload E 4 dX9_told_15 rfl ?_
  refine g_aload_n E 0 dX9_told_17 rfl rfl ?_
  refine g_get (C := RX9) (T := TX9) (N := 20) (ci := 9) E 0 9 (.int (σ.2.1 1)) hi_X9_told_X9 (mwG0 _ _) rfl (by decide) hk_X9_told_67 rfl dX9_told_18 ?_
  refine g_icmp_ge (tgt := 52) E dX9_told_21 (by decide) (fun c1 => ?_) (fun c1 => ?_)
  · have hf := gp hf c1
    refine g_iinc E 3 [(3, .int (x3 + (1 : Int32))), (0, .ref (k.2.2.2.1 0)), (1, .int x1), (2, .int x2), (4, .int x4)] (x3 + (1 : Int32)) dX9_told_52 rfl (by rfl) (by decide) rfl ?_
    refine g_goto (tgt := 4) E dX9_told_55 (by decide) ?_
    exact g_sub [1, 2, 3, 0] rfl (hrc4 σ x1 x2 (x3 + (1 : Int32)) r hf)
  · have hf := gn hf c1
    refine g_iload_n E 2 dX9_told_24 rfl rfl ?_
    refine g_aload_n E 0 dX9_told_25 rfl rfl ?_
    refine g_get (C := RX9) (T := TX9) (N := 20) (ci := 9) E 0 10 (.ref (k.2.2.2.1 9)) hi_X9_told_X9 (mwG0 _ _) rfl (by decide) hk_X9_told_34 rfl dX9_told_26 ?_
    refine g_iload_n E 3 dX9_told_29 rfl rfl ?_
    refine g_iload E 4 dX9_told_30 rfl ?_
    obtain ⟨q2, hq3, hf⟩ := gb hf
    refine g_callS (As := [.int x3, .int x4]) (rest := [.ref (k.2.2.2.1 9), .int x2]) (n := 2) E (fX9_at_c k σ x3 x4 q2 hq3) gX9_told_X9_at rfl rfl rfl (by decide +kernel) ⟨Nat.le_of_ble_eq_true rfl, Nat.le_of_ble_eq_true rfl⟩ rfl rfl (Nat.le_of_ble_eq_true rfl) dX9_told_32 ?_
    obtain ⟨hi4, hf⟩ := gd hf
    refine g_iald E 9 (q2.2.1 9) (mwG9 _ _) hi4 dX9_told_35 ?_
    refine g_if_lt (tgt := 43) E dX9_told_36 (by decide) (fun c5 => ?_) (fun c5 => ?_)
    · have hf := gp hf c5
      refine g_iconst (v := (0 : Int32)) E dX9_told_43 (by decide) ?_
      exact g_sub [0, 1, 3, 4] rfl (fX9_told_w44 E rc4 hrc4 rc15 hrc15 q2.2 x1 x3 x4 x2 (0 : Int32) r hf)
    · have hf := gn hf c5
      refine g_iconst (v := (1 : Int32)) E dX9_told_39 (by decide) ?_
      refine g_goto (tgt := 44) E dX9_told_40 (by decide) ?_
      exact g_sub [0, 1, 3, 4] rfl (fX9_told_w44 E rc4 hrc4 rc15 hrc15 q2.2 x1 x3 x4 x2 (1 : Int32) r hf)
theorem fX9_told_v15 {k : gK} {X : gX} (E : gE k X cX9_told RX9 wsX9_told 5 (some .int) rm_fX9_told) (rc4 : St → Int32 → Int32 → Int32 → Option (Int32 × St)) (hrc4 : ∀ (σ : St) (x1 : Int32) (x2 : Int32) (x3 : Int32) (r : Int32 × St), rc4 σ x1 x2 x3 = some r → G k X 5 (some (.int r.1)) (mw k.2.2.2 r.2) (mw k.2.2.2 σ) [(0, .ref (k.2.2.2.1 0)), (1, .int x1), (2, .int x2), (3, .int x3)] [] 4) : ∀ (n : Nat) (σ : St) (x1 : Int32) (x2 : Int32) (x3 : Int32) (x4 : Int32) (r : Int32 × St), fX9_told_l15 rc4 n σ x1 x2 x3 x4 = some r → G k X 5 (some (.int r.1)) (mw k.2.2.2 r.2) (mw k.2.2.2 σ) [(0, .ref (k.2.2.2.1 0)), (1, .int x1), (2, .int x2), (3, .int x3), (4, .int x4)] [] 15 := by
  intro n
  induction n with
  | zero => intro σ x1 x2 x3 x4 r hf; cases hf
  | succ n ih => intro σ x1 x2 x3 x4 r hf; exact fX9_told_w15 E rc4 hrc4 (fX9_told_l15 rc4 n) ih σ x1 x2 x3 x4 r hf
set_option maxHeartbeats 4000000 in
set_option maxRecDepth 100000 in
theorem fX9_told_w4 {k : gK} {X : gX} (E : gE k X cX9_told RX9 wsX9_told 5 (some .int) rm_fX9_told) (rc4 : St → Int32 → Int32 → Int32 → Option (Int32 × St)) (hrc4 : ∀ (σ : St) (x1 : Int32) (x2 : Int32) (x3 : Int32) (r : Int32 × St), rc4 σ x1 x2 x3 = some r → G k X 5 (some (.int r.1)) (mw k.2.2.2 r.2) (mw k.2.2.2 σ) [(0, .ref (k.2.2.2.1 0)), (1, .int x1), (2, .int x2), (3, .int x3)] [] 4) (σ : St) (x1 : Int32) (x2 : Int32) (x3 : Int32) (r : Int32 × St) (hf : fX9_told_b4 rc4 σ x1 x2 x3 = some r) : G k X 5 (some (.int r.1)) (mw k.2.2.2 r.2) (mw k.2.2.2 σ) [(0, .ref (k.2.2.2.1 0)), (1, .int x1), (2, .int x2), (3, .int x3)] [] 4 := by
  unfold fX9_told_b4 at hf
  refine g_iload_n E 3 dX9_told_4 rfl rfl ?_
  refine g_aload_n E 0 dX9_told_5 rfl rfl ?_
  refine g_get (C := RX9) (T := TX9) (N := 20) (ci := 9) E 0 3 (.int (σ.2.1 0)) hi_X9_told_X9 (mwG0 _ _) rfl (by decide) hk_X9_told_63 rfl dX9_told_6 ?_
  refine g_icmp_ge (tgt := 58) E dX9_told_9 (by decide) (fun c1 => ?_) (fun c1 => ?_)
  · have hf := gp hf c1
    refine g_iload_n E 1 dX9_told_58 rfl rfl ?_
    by_cases c2 : x1 = (0 : Int32)
    · have hf := gp hf c2
      refine g_tabIn (tgt := 92) (off := 33) E (0 : Int32) c2 dX9_told_59 (by decide) (by decide) (by decide) (by decide) ?_
      refine g_aload_n E 0 dX9_told_92 rfl rfl ?_
      refine g_get (C := RX9) (T := TX9) (N := 20) (ci := 9) E 0 3 (.int (σ.2.1 0)) hi_X9_told_X9 (mwG0 _ _) rfl (by decide) hk_X9_told_63 rfl dX9_told_93 ?_
      have hf := Option.some.inj hf
      subst hf
      exact g_iret E dX9_told_96
    · have hf := gn hf c2
      by_cases c3 : x1 = (1 : Int32)
      · have hf := gp hf c3
        refine g_tabIn (tgt := 97) (off := 38) E (1 : Int32) c3 dX9_told_59 (by decide) (by decide) (by decide) (by decide) ?_
        refine g_aload_n E 0 dX9_told_97 rfl rfl ?_
        refine g_get (C := RX9) (T := TX9) (N := 20) (ci := 9) E 0 9 (.int (σ.2.1 1)) hi_X9_told_X9 (mwG0 _ _) rfl (by decide) hk_X9_told_67 rfl dX9_told_98 ?_
        have hf := Option.some.inj hf
        subst hf
        exact g_iret E dX9_told_101
      · have hf := gn hf c3
        by_cases c4 : x1 = (2 : Int32)
        · have hf := gp hf c4
          refine g_tabIn (tgt := 102) (off := 43) E (2 : Int32) c4 dX9_told_59 (by decide) (by decide) (by decide) (by decide) ?_
          refine g_aload_n E 0 dX9_told_102 rfl rfl ?_
          refine g_get (C := RX9) (T := TX9) (N := 20) (ci := 9) E 0 13 (.int (σ.2.1 2)) hi_X9_told_X9 (mwG0 _ _) rfl (by decide) hk_X9_told_97 rfl dX9_told_103 ?_
          have hf := Option.some.inj hf
          subst hf
          exact g_iret E dX9_told_106
        · have hf := gn hf c4
          by_cases c5 : x1 = (3 : Int32)
          · have hf := gp hf c5
            refine g_tabIn (tgt := 107) (off := 48) E (3 : Int32) c5 dX9_told_59 (by decide) (by decide) (by decide) (by decide) ?_
            refine g_aload_n E 0 dX9_told_107 rfl rfl ?_
            refine g_get (C := RX9) (T := TX9) (N := 20) (ci := 9) E 0 17 (.int (σ.2.1 3)) hi_X9_told_X9 (mwG0 _ _) rfl (by decide) hk_X9_told_118 rfl dX9_told_108 ?_
            have hf := Option.some.inj hf
            subst hf
            exact g_iret E dX9_told_111
          · have hf := gn hf c5
            by_cases c6 : x1 = (4 : Int32)
            · have hf := gp hf c6
              refine g_tabIn (tgt := 112) (off := 53) E (4 : Int32) c6 dX9_told_59 (by decide) (by decide) (by decide) (by decide) ?_
              refine g_iload_n E 2 dX9_told_112 rfl rfl ?_
              have hf := Option.some.inj hf
              subst hf
              exact g_iret E dX9_told_113
            · have hf := gn hf c6
              have hout : (x1).toInt < 0 ∨ 4 < (x1).toInt := by
                have := lv_neT c2 (a := 0) rfl
                have := lv_neT c3 (a := 1) rfl
                have := lv_neT c4 (a := 2) rfl
                have := lv_neT c5 (a := 3) rfl
                have := lv_neT c6 (a := 4) rfl
                omega
              refine g_tabOut (tgt := 114) E dX9_told_59 hout (by decide) ?_
              refine g_bipush (v := (-2 : Int32)) E dX9_told_114 (by decide) ?_
              have hf := Option.some.inj hf
              subst hf
              exact g_iret E dX9_told_116
  · have hf := gn hf c1
    refine g_iconst (v := (0 : Int32)) E dX9_told_12 (by decide) ?_
    refine g_istore E [(4, .int (0 : Int32)), (0, .ref (k.2.2.2.1 0)), (1, .int x1), (2, .int x2), (3, .int x3)] dX9_told_13 (by decide) rfl ?_
    exact g_sub [1, 2, 3, 4, 0] rfl (fX9_told_v15 E rc4 hrc4 gF σ x1 x2 x3 (0 : Int32) r hf)
theorem fX9_told_v4 {k : gK} {X : gX} (E : gE k X cX9_told RX9 wsX9_told 5 (some .int) rm_fX9_told) : ∀ (n : Nat) (σ : St) (x1 : Int32) (x2 : Int32) (x3 : Int32) (r : Int32 × St), fX9_told_l4 n σ x1 x2 x3 = some r → G k X 5 (some (.int r.1)) (mw k.2.2.2 r.2) (mw k.2.2.2 σ) [(0, .ref (k.2.2.2.1 0)), (1, .int x1), (2, .int x2), (3, .int x3)] [] 4 := by
  intro n
  induction n with
  | zero => intro σ x1 x2 x3 r hf; cases hf
  | succ n ih => intro σ x1 x2 x3 r hf; exact fX9_told_w4 E (fX9_told_l4 n) ih σ x1 x2 x3 r hf
set_option maxHeartbeats 4000000 in
set_option maxRecDepth 100000 in
theorem fX9_told_c (k : gK) (σ : St) (x1 : Int32) (r : Int32 × St) (hf : fX9_told σ x1 = some r) : MC k yX9_told wsX9_told rm_fX9_told [.ref (k.2.2.2.1 0), .int x1] (mw k.2.2.2 σ) (some (.int r.1)) (mw k.2.2.2 r.2) := by
  refine MC_of (cc := cX9_told) (maxL := 5) (ret := (some .int)) (own := RX9) (lvs := [(0, .ref (k.2.2.2.1 0)), (1, .int x1)]) (by decide) rfl rfl (Nat.le_of_ble_eq_true rfl) rfl (fun X E => ?_)
  unfold fX9_told at hf
  refine g_iconst (v := (0 : Int32)) E dX9_told_0 (by decide) ?_
  refine g_istore_n E [(2, .int (0 : Int32)), (0, .ref (k.2.2.2.1 0)), (1, .int x1)] dX9_told_1 rfl (by decide) rfl ?_
  refine g_iconst (v := (0 : Int32)) E dX9_told_2 (by decide) ?_
  refine g_istore_n E [(3, .int (0 : Int32)), (2, .int (0 : Int32)), (0, .ref (k.2.2.2.1 0)), (1, .int x1)] dX9_told_3 rfl (by decide) rfl ?_
  exact g_sub [2, 3, 1, 0] rfl (fX9_told_v4 E gF σ x1 (0 : Int32) (0 : Int32) r hf)
