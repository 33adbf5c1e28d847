def rm_fX7_fromBelow_9 : Room := { frames := 0, cells := 0, slots := 0, locals := 0 }
set_option maxHeartbeats 4000000 in
set_option maxRecDepth 100000 in
theorem fX7_fromBelow_9_w4 {k : gK} {X : gX} (E : gE k X cX7_fromBelow RX7 wsX7_fromBelow 4 (some .int) rm_fX7_fromBelow_9) (rc4 : St → Int32 → Int32 → Int32 → Option (Int32 × St)) (hrc4 : ∀ (σ : St) (x1 : Int32) (x2 : Int32) (x3 : Int32) (r : Int32 × St), rc4 σ x1 x2 x3 = some r → G k X 4 (some (.int r.1)) (cw k.2.2.2 r.2) (cw k.2.2.2 σ) [(0, .ref (k.2.2.2.1 9)), (1, .int x1), (2, .int x2), (3, .int x3)] [] 4) (σ : St) (x1 : Int32) (x2 : Int32) (x3 : Int32) (r : Int32 × St) (hf : fX7_fromBelow_9_b4 rc4 σ x1 x2 x3 = some r) : G k X 4 (some (.int r.1)) (cw k.2.2.2 r.2) (cw k.2.2.2 σ) [(0, .ref (k.2.2.2.1 9)), (1, .int x1), (2, .int x2), (3, .int x3)] [] 4 := by
  unfold fX7_fromBelow_9_b4 at hf
  refine g_iload_n E 3 dX7_fromBelow_4 rfl rfl ?_
  refine g_iconst (v := (5 : Int32)) E dX7_fromBelow_5 (by decide) ?_
  refine g_icmp_ge (tgt := 31) E dX7_fromBelow_6 (by decide) (fun c1 => ?_) (fun c1 => ?_)
  · have hf := gp hf c1
    refine g_iconst (v := (5 : Int32)) E dX7_fromBelow_31 (by decide) ?_
    have hf := Option.some.inj hf
    subst hf
    exact g_iret E dX7_fromBelow_32
  · have hf := gn hf c1
    refine g_iload_n E 2 dX7_fromBelow_9 rfl rfl ?_
    refine g_aload_n E 0 dX7_fromBelow_10 rfl rfl ?_
    refine g_get (C := RX7) (T := TX7) (N := 3) (ci := 7) E 9 0 (.ref (k.2.2.2.1 26)) hi_X7_fromBelow_X7 (cwG9 _ _) rfl (by decide) hk_X7_fromBelow_9 rfl dX7_fromBelow_11 ?_
    refine g_iload_n E 3 dX7_fromBelow_14 rfl rfl ?_
    obtain ⟨hi2, hf⟩ := gd hf
    refine g_iald E 26 (σ.1 26) (cwG26 _ _) hi2 dX7_fromBelow_15 ?_
    refine g_iadd E dX7_fromBelow_16 ?_
    refine g_istore_n E [(2, .int (x2 + (σ.1 26 x3.toNatClampNeg))), (0, .ref (k.2.2.2.1 9)), (1, .int x1), (3, .int x3)] dX7_fromBelow_17 rfl (by decide) rfl ?_
    refine g_iload_n E 0 dX7_fromBelow_18 rfl rfl ?_
    refine g_iload_n E 2 dX7_fromBelow_19 rfl rfl ?_
    refine g_icmp_le (tgt := 25) E dX7_fromBelow_20 (by decide) (fun c3 => ?_) (fun c3 => ?_)
    · have hf := gp hf c3
      refine g_iinc E 3 [(3, .int (x3 + (1 : Int32))), (2, .int (x2 + (σ.1 26 x3.toNatClampNeg))), (0, .ref (k.2.2.2.1 9)), (1, .int x1)] (x3 + (1 : Int32)) dX7_fromBelow_25 rfl (by rfl) (by decide) rfl ?_
      refine g_goto (tgt := 4) E dX7_fromBelow_28 (by decide) ?_
      exact g_sub [2, 3, 1, 0] rfl (hrc4 σ x1 (x2 + (σ.1 26 x3.toNatClampNeg)) (x3 + (1 : Int32)) r hf)
    · have hf := gn hf c3
      refine g_iload_n E 3 dX7_fromBelow_23 rfl rfl ?_
      have hf := Option.some.inj hf
      subst hf
      exact g_iret E dX7_fromBelow_24
theorem fX7_fromBelow_9_v4 {k : gK} {X : gX} (E : gE k X cX7_fromBelow RX7 wsX7_fromBelow 4 (some .int) rm_fX7_fromBelow_9) : ∀ (n : Nat) (σ : St) (x1 : Int32) (x2 : Int32) (x3 : Int32) (r : Int32 × St), fX7_fromBelow_9_l4 n σ x1 x2 x3 = some r → G k X 4 (some (.int r.1)) (cw k.2.2.2 r.2) (cw k.2.2.2 σ) [(0, .ref (k.2.2.2.1 9)), (1, .int x1), (2, .int x2), (3, .int x3)] [] 4 := by
  intro n
  induction n with
  | zero => intro σ x1 x2 x3 r hf; cases hf
  | succ n ih => intro σ x1 x2 x3 r hf; exact fX7_fromBelow_9_w4 E (fX7_fromBelow_9_l4 n) ih σ x1 x2 x3 r hf
set_option maxHeartbeats 4000000 in
set_option maxRecDepth 100000 in
theorem fX7_fromBelow_9_c (k : gK) (σ : St) (x1 : Int32) (r : Int32 × St) (hf : fX7_fromBelow_9 σ x1 = some r) : MC k yX7_fromBelow wsX7_fromBelow rm_fX7_fromBelow_9 [.ref (k.2.2.2.1 9), .int x1] (cw k.2.2.2 σ) (some (.int r.1)) (cw k.2.2.2 r.2) := by
  refine MC_of (cc := cX7_fromBelow) (maxL := 4) (ret := (some .int)) (own := RX7) (lvs := [(0, .ref (k.2.2.2.1 9)), (1, .int x1)]) (by decide) rfl rfl (Nat.le_of_ble_eq_true rfl) rfl (fun X E => ?_)
  unfold fX7_fromBelow_9 at hf
  refine g_iconst (v := (0 : Int32)) E dX7_fromBelow_0 (by decide) ?_
  refine g_istore_n E [(2, .int (0 : Int32)), (0, .ref (k.2.2.2.1 9)), (1, .int x1)] dX7_fromBelow_1 rfl (by decide) rfl ?_
  refine g_iconst (v := (0 : Int32)) E dX7_fromBelow_2 (by decide) ?_
  refine g_istore_n E [(3, .int (0 : Int32)), (2, .int (0 : Int32)), (0, .ref (k.2.2.2.1 9)), (1, .int x1)] dX7_fromBelow_3 rfl (by decide) rfl ?_
  exact g_sub [2, 3, 1, 0] rfl (fX7_fromBelow_9_v4 E gF σ x1 (0 : Int32) (0 : Int32) r hf)
def rm_fX7_tenths_9 : Room := { frames := 1, cells := 0, slots := 0, locals := 23 }
set_option maxHeartbeats 4000000 in
set_option maxRecDepth 100000 in
theorem fX7_tenths_9_c (k : gK) (σ : St) (x1 : Int32) (r : Int32 × St) (hf : fX7_tenths_9 σ x1 = some r) : MC k yX7_tenths wsX7_tenths rm_fX7_tenths_9 [.ref (k.2.2.2.1 9), .int x1] (cw k.2.2.2 σ) (some (.int r.1)) (cw k.2.2.2 r.2) := by
  refine MC_of (cc := cX7_tenths) (maxL := 2) (ret := (some .int)) (own := RX7) (lvs := [(0, .ref (k.2.2.2.1 9)), (1, .int x1)]) (by decide) rfl rfl (Nat.le_of_ble_eq_true rfl) rfl (fun X E => ?_)
  unfold fX7_tenths_9 at hf
  refine g_iload_n E 1 dX7_tenths_0 rfl rfl ?_
  by_cases c1 : x1 = (97 : Int32)
  · have hf := gp hf c1
    refine g_look (tgt := 36) (off := 35) E dX7_tenths_1 (by decide) (by rw [c1]; decide) (by decide) ?_
    refine g_aload_n E 0 dX7_tenths_36 rfl rfl ?_
    refine g_get (C := RX7) (T := TX7) (N := 3) (ci := 7) E 9 1 (.int (σ.2.1 6)) hi_X7_tenths_X7 (cwG9 _ _) rfl (by decide) hk_X7_tenths_21 rfl dX7_tenths_37 ?_
    refine g_if_le (tgt := 58) E dX7_tenths_40 (by decide) (fun c2 => ?_) (fun c2 => ?_)
    · have hf := gp hf c2
      refine g_iconst (v := (0 : Int32)) E dX7_tenths_58 (by decide) ?_
      have hf := Option.some.inj hf
      subst hf
      exact g_iret E dX7_tenths_59
    · have hf := gn hf c2
      refine g_bipush (v := (10 : Int32)) E dX7_tenths_43 (by decide) ?_
      refine g_aload_n E 0 dX7_tenths_45 rfl rfl ?_
      refine g_get (C := RX7) (T := TX7) (N := 3) (ci := 7) E 9 2 (.int (σ.2.1 7)) hi_X7_tenths_X7 (cwG9 _ _) rfl (by decide) hk_X7_tenths_25 rfl dX7_tenths_46 ?_
      refine g_imul E dX7_tenths_49 ?_
      refine g_aload_n E 0 dX7_tenths_50 rfl rfl ?_
      refine g_get (C := RX7) (T := TX7) (N := 3) (ci := 7) E 9 1 (.int (σ.2.1 6)) hi_X7_tenths_X7 (cwG9 _ _) rfl (by decide) hk_X7_tenths_21 rfl dX7_tenths_51 ?_
      obtain ⟨hn3, hf⟩ := gd hf
      refine g_idiv E hn3 dX7_tenths_54 ?_
      refine g_goto (tgt := 59) E dX7_tenths_55 (by decide) ?_
      have hf := Option.some.inj hf
      subst hf
      exact g_iret E dX7_tenths_59
  · have hf := gn hf c1
    by_cases c4 : x1 = (108 : Int32)
    · have hf := gp hf c4
      refine g_look (tgt := 76) (off := 75) E dX7_tenths_1 (by decide) (by rw [c4]; decide) (by decide) ?_
      refine g_bipush (v := (10 : Int32)) E dX7_tenths_76 (by decide) ?_
      refine g_aload_n E 0 dX7_tenths_78 rfl rfl ?_
      refine g_iconst (v := (0 : Int32)) E dX7_tenths_79 (by decide) ?_
      obtain ⟨q5, hq6, hf⟩ := gb hf
      refine g_callV (C := RX7) (T := TX7) (N := 3) (ci := 7) (As := [.int (0 : Int32)]) (rest := [.int (10 : Int32)]) (n := 1) E 9 (fX7_fromBelow_9_c k σ (0 : Int32) q5 hq6) gX7_tenths_X7_fromBelow rfl rfl rfl (by decide +kernel) ⟨Nat.le_of_ble_eq_true rfl, Nat.le_of_ble_eq_true rfl⟩ rfl rfl (Nat.le_of_ble_eq_true rfl) rfl (cwG9 _ _) dX7_tenths_80 ?_
      refine g_imul E dX7_tenths_83 ?_
      have hf := Option.some.inj hf
      subst hf
      exact g_iret E dX7_tenths_84
    · have hf := gn hf c4
      by_cases c7 : x1 = (109 : Int32)
      · have hf := gp hf c7
        refine g_look (tgt := 60) (off := 59) E dX7_tenths_1 (by decide) (by rw [c7]; decide) (by decide) ?_
        refine g_bipush (v := (10 : Int32)) E dX7_tenths_60 (by decide) ?_
        refine g_aload_n E 0 dX7_tenths_62 rfl rfl ?_
        refine g_aload_n E 0 dX7_tenths_63 rfl rfl ?_
        refine g_get (C := RX7) (T := TX7) (N := 3) (ci := 7) E 9 1 (.int (σ.2.1 6)) hi_X7_tenths_X7 (cwG9 _ _) rfl (by decide) hk_X7_tenths_21 rfl dX7_tenths_64 ?_
        refine g_iconst (v := (1 : Int32)) E dX7_tenths_67 (by decide) ?_
        refine g_isub E dX7_tenths_68 ?_
        refine g_iconst (v := (2 : Int32)) E dX7_tenths_69 (by decide) ?_
        refine g_idiv E (by decide) dX7_tenths_70 ?_
        obtain ⟨q8, hq9, hf⟩ := gb hf
        refine g_callV (C := RX7) (T := TX7) (N := 3) (ci := 7) (As := [.int ((((σ.2.1 6) - (1 : Int32))) / (2 : Int32))]) (rest := [.int (10 : Int32)]) (n := 1) E 9 (fX7_fromBelow_9_c k σ (((((σ.2.1 6) - (1 : Int32))) / (2 : Int32))) q8 hq9) gX7_tenths_X7_fromBelow rfl rfl rfl (by decide +kernel) ⟨Nat.le_of_ble_eq_true rfl, Nat.le_of_ble_eq_true rfl⟩ rfl rfl (Nat.le_of_ble_eq_true rfl) rfl (cwG9 _ _) dX7_tenths_71 ?_
        refine g_imul E dX7_tenths_74 ?_
        have hf := Option.some.inj hf
        subst hf
        exact g_iret E dX7_tenths_75
      · have hf := gn hf c7
        refine g_look (tgt := 85) (off := 84) E dX7_tenths_1 (by decide) ((lv_osw c1 (a := 97) rfl).trans ((lv_osw c4 (a := 108) rfl).trans ((lv_osw c7 (a := 109) rfl).trans rfl))) (by decide) ?_
        refine g_bipush (v := (10 : Int32)) E dX7_tenths_85 (by decide) ?_
        refine g_aload_n E 0 dX7_tenths_87 rfl rfl ?_
        refine g_aload_n E 0 dX7_tenths_88 rfl rfl ?_
        refine g_get (C := RX7) (T := TX7) (N := 3) (ci := 7) E 9 1 (.int (σ.2.1 6)) hi_X7_tenths_X7 (cwG9 _ _) rfl (by decide) hk_X7_tenths_21 rfl dX7_tenths_89 ?_
        refine g_iconst (v := (1 : Int32)) E dX7_tenths_92 (by decide) ?_
        refine g_isub E dX7_tenths_93 ?_
        obtain ⟨q10, hq11, hf⟩ := gb hf
        refine g_callV (C := RX7) (T := TX7) (N := 3) (ci := 7) (As := [.int ((σ.2.1 6) - (1 : Int32))]) (rest := [.int (10 : Int32)]) (n := 1) E 9 (fX7_fromBelow_9_c k σ (((σ.2.1 6) - (1 : Int32))) q10 hq11) gX7_tenths_X7_fromBelow rfl rfl rfl (by decide +kernel) ⟨Nat.le_of_ble_eq_true rfl, Nat.le_of_ble_eq_true rfl⟩ rfl rfl (Nat.le_of_ble_eq_true rfl) rfl (cwG9 _ _) dX7_tenths_94 ?_
        refine g_imul E dX7_tenths_97 ?_
        have hf := Option.some.inj hf
        subst hf
        exact g_iret E dX7_tenths_98
def rm_fX5_quarters_9 : Room := { frames := 2, cells := 0, slots := 0, locals := 44 }
set_option maxHeartbeats 4000000 in
set_option maxRecDepth 100000 in
theorem fX5_quarters_9_w11 {k : gK} {X : gX} (E : gE k X cX5_quarters RX5 wsX5_quarters 3 (some .int) rm_fX5_quarters_9) (rc11 : St → Int32 → Option (Int32 × St)) (hrc11 : ∀ (σ : St) (x2 : Int32) (r : Int32 × St), rc11 σ x2 = some r → G k X 3 (some (.int r.1)) (cw k.2.2.2 r.2) (cw k.2.2.2 σ) [(0, .ref (k.2.2.2.1 5)), (1, .ref (k.2.2.2.1 9)), (2, .int x2)] [] 11) (σ : St) (x2 : Int32) (r : Int32 × St) (hf : fX5_quarters_9_b11 rc11 σ x2 = some r) : G k X 3 (some (.int r.1)) (cw k.2.2.2 r.2) (cw k.2.2.2 σ) [(0, .ref (k.2.2.2.1 5)), (1, .ref (k.2.2.2.1 9)), (2, .int x2)] [] 11 := by
  unfold fX5_quarters_9_b11 at hf
  refine g_iload_n E 2 dX5_quarters_11 rfl rfl ?_
  refine g_aload_n E 0 dX5_quarters_12 rfl rfl ?_
  refine g_get (C := RX5) (T := TX5) (N := 4) (ci := 5) E 5 3 (.int (σ.2.1 3)) hi_X5_quarters_X5 (cwG5 _ _) rfl (by decide) hk_X5_quarters_21 rfl dX5_quarters_13 ?_
  refine g_icmp_ge (tgt := 51) E dX5_quarters_16 (by decide) (fun c1 => ?_) (fun c1 => ?_)
  · have hf := gp hf c1
    refine g_iconst (v := (0 : Int32)) E dX5_quarters_51 (by decide) ?_
    have hf := Option.some.inj hf
    subst hf
    exact g_iret E dX5_quarters_52
  · have hf := gn hf c1
    refine g_aload_n E 1 dX5_quarters_19 rfl rfl ?_
    refine g_aload_n E 0 dX5_quarters_20 rfl rfl ?_
    refine g_get (C := RX5) (T := TX5) (N := 4) (ci := 5) E 5 0 (.ref (k.2.2.2.1 22)) hi_X5_quarters_X5 (cwG5 _ _) rfl (by decide) hk_X5_quarters_11 rfl dX5_quarters_21 ?_
    refine g_iload_n E 2 dX5_quarters_24 rfl rfl ?_
    obtain ⟨hi2, hf⟩ := gd hf
    refine g_iald E 22 (σ.1 22) (cwG22 _ _) hi2 dX5_quarters_25 ?_
    obtain ⟨q3, hq4, hf⟩ := gb hf
    refine g_callV (C := RX7) (T := TX7) (N := 3) (ci := 7) (As := [.int (σ.1 22 x2.toNatClampNeg)]) (rest := []) (n := 1) E 9 (fX7_tenths_9_c k σ (σ.1 22 x2.toNatClampNeg) q3 hq4) gX5_quarters_X7_tenths rfl rfl rfl (by decide +kernel) ⟨Nat.le_of_ble_eq_true rfl, Nat.le_of_ble_eq_true rfl⟩ rfl rfl (Nat.le_of_ble_eq_true rfl) rfl (cwG9 _ _) dX5_quarters_26 ?_
    refine g_aload_n E 0 dX5_quarters_29 rfl rfl ?_
    refine g_get (C := RX5) (T := TX5) (N := 4) (ci := 5) E 5 1 (.ref (k.2.2.2.1 23)) hi_X5_quarters_X5 (cwG5 _ _) rfl (by decide) hk_X5_quarters_15 rfl dX5_quarters_30 ?_
    refine g_iload_n E 2 dX5_quarters_33 rfl rfl ?_
    obtain ⟨hi5, hf⟩ := gd hf
    refine g_iald E 23 (q3.2.1 23) (cwG23 _ _) hi5 dX5_quarters_34 ?_
    refine g_icmp_le (tgt := 45) E dX5_quarters_35 (by decide) (fun c6 => ?_) (fun c6 => ?_)
    · have hf := gp hf c6
      refine g_iinc E 2 [(2, .int (x2 + (1 : Int32))), (0, .ref (k.2.2.2.1 5)), (1, .ref (k.2.2.2.1 9))] (x2 + (1 : Int32)) dX5_quarters_45 rfl (by rfl) (by decide) rfl ?_
      refine g_goto (tgt := 11) E dX5_quarters_48 (by decide) ?_
      exact g_sub [1, 2, 0] rfl (hrc11 q3.2 (x2 + (1 : Int32)) r hf)
    · have hf := gn hf c6
      refine g_aload_n E 0 dX5_quarters_38 rfl rfl ?_
      refine g_get (C := RX5) (T := TX5) (N := 4) (ci := 5) E 5 2 (.ref (k.2.2.2.1 24)) hi_X5_quarters_X5 (cwG5 _ _) rfl (by decide) hk_X5_quarters_18 rfl dX5_quarters_39 ?_
      refine g_iload_n E 2 dX5_quarters_42 rfl rfl ?_
      obtain ⟨hi7, hf⟩ := gd hf
      refine g_iald E 24 (q3.2.1 24) (cwG24 _ _) hi7 dX5_quarters_43 ?_
      have hf := Option.some.inj hf
      subst hf
      exact g_iret E dX5_quarters_44
theorem fX5_quarters_9_v11 {k : gK} {X : gX} (E : gE k X cX5_quarters RX5 wsX5_quarters 3 (some .int) rm_fX5_quarters_9) : ∀ (n : Nat) (σ : St) (x2 : Int32) (r : Int32 × St), fX5_quarters_9_l11 n σ x2 = some r → G k X 3 (some (.int r.1)) (cw k.2.2.2 r.2) (cw k.2.2.2 σ) [(0, .ref (k.2.2.2.1 5)), (1, .ref (k.2.2.2.1 9)), (2, .int x2)] [] 11 := by
  intro n
  induction n with
  | zero => intro σ x2 r hf; cases hf
  | succ n ih => intro σ x2 r hf; exact fX5_quarters_9_w11 E (fX5_quarters_9_l11 n) ih σ x2 r hf
set_option maxHeartbeats 4000000 in
set_option maxRecDepth 100000 in
theorem fX5_quarters_9_c (k : gK) (σ : St) (r : Int32 × St) (hf : fX5_quarters_9 σ = some r) : MC k yX5_quarters wsX5_quarters rm_fX5_quarters_9 [.ref (k.2.2.2.1 5), .ref (k.2.2.2.1 9)] (cw k.2.2.2 σ) (some (.int r.1)) (cw k.2.2.2 r.2) := by
  refine MC_of (cc := cX5_quarters) (maxL := 3) (ret := (some .int)) (own := RX5) (lvs := [(0, .ref (k.2.2.2.1 5)), (1, .ref (k.2.2.2.1 9))]) (by decide) rfl rfl (Nat.le_of_ble_eq_true rfl) rfl (fun X E => ?_)
  unfold fX5_quarters_9 at hf
  refine g_aload_n E 1 dX5_quarters_0 rfl rfl ?_
  refine g_get (C := RX7) (T := TX7) (N := 3) (ci := 7) E 9 1 (.int (σ.2.1 6)) hi_X5_quarters_X7 (cwG9 _ _) rfl (by decide) hk_X5_quarters_41 rfl dX5_quarters_1 ?_
  refine g_if_gt (tgt := 9) E dX5_quarters_4 (by decide) (fun c1 => ?_) (fun c1 => ?_)
  · have hf := gp hf c1
    refine g_iconst (v := (0 : Int32)) E dX5_quarters_9 (by decide) ?_
    refine g_istore_n E [(2, .int (0 : Int32)), (0, .ref (k.2.2.2.1 5)), (1, .ref (k.2.2.2.1 9))] dX5_quarters_10 rfl (by decide) rfl ?_
    exact g_sub [1, 2, 0] rfl (fX5_quarters_9_v11 E gF σ (0 : Int32) r hf)
  · have hf := gn hf c1
    refine g_iconst (v := (0 : Int32)) E dX5_quarters_7 (by decide) ?_
    have hf := Option.some.inj hf
    subst hf
    exact g_iret E dX5_quarters_8
theorem hi_X3_waysFrom_X3 : ∀ w ∈ wsX30, w ∈ wsX3_waysFrom := by decide +kernel
theorem hk_X3_waysFrom_18 : Cond.fieldLink RX3 18 "PaperMarks$Odds" "ways" "[I" ∈ wsX3_waysFrom := by decide +kernel
theorem hk_X3_waysFrom_12 : Cond.fieldLink RX3 12 "PaperMarks$Odds" "tally" "LPaperMarks$Tally;" ∈ wsX3_waysFrom := by decide +kernel
theorem hk_X3_waysFrom_30 : Cond.fieldLink RX3 30 "PaperMarks$Odds" "rule" "LPaperMarks$Rule;" ∈ wsX3_waysFrom := by decide +kernel
def wfR (d : Nat) : Room := { frames := d + 6, cells := 0, slots := 0, locals := 60 * d + 400 }
theorem wfS (d : Nat) : (wfR d).frames + 1 ≤ (wfR (d + 1)).frames ∧ 8 + (7 + 11) + (wfR d).locals ≤ (wfR (d + 1)).locals := by
  simp only [wfR]; omega
theorem wfO (d : Nat) {a b : Nat} (ha : a ≤ 6) (hb : b ≤ 400) : a ≤ (wfR (d + 1)).frames ∧ b ≤ (wfR (d + 1)).locals := by
  simp only [wfR]; omega
set_option maxHeartbeats 4000000 in
set_option maxRecDepth 100000 in
theorem fX3_waysFrom_w105 {k : gK} {X : gX} {d : Nat} (E : gE k X cX3_waysFrom RX3 wsX3_waysFrom 7 (some .long) (wfR (d + 1))) (slf : St → Int32 → Int32 → Option (Int64 × St)) (hslf : ∀ (σ : St) (x1 x2 : Int32) (q : Int64 × St), slf σ x1 x2 = some q → MC k yX3_waysFrom wsX3_waysFrom (wfR d) [.ref (k.2.2.2.1 6), .int x1, .int x2] (cw k.2.2.2 σ) (some (.long q.1)) (cw k.2.2.2 q.2)) (rc45 : St → Int32 → Int32 → Int64 → Int32 → Option (Int64 × St)) (hrc45 : ∀ (σ : St) (x1 : Int32) (x2 : Int32) (x3 : Int64) (x5 : Int32) (r : Int64 × St), rc45 σ x1 x2 x3 x5 = some r → G k X 7 (some (.long r.1)) (cw k.2.2.2 r.2) (cw k.2.2.2 σ) [(0, .ref (k.2.2.2.1 6)), (1, .int x1), (2, .int x2), (3, .long x3), (5, .int x5)] [] 45) (σ : St) (x1 : Int32) (x2 : Int32) (x3 : Int64) (x5 : Int32) (r : Int64 × St) (hf : fX3_waysFrom_b105 slf rc45 σ x1 x2 x3 x5 = some r) : G k X 7 (some (.long r.1)) (cw k.2.2.2 r.2) (cw k.2.2.2 σ) [(0, .ref (k.2.2.2.1 6)), (1, .int x1), (2, .int x2), (3, .long x3), (5, .int x5)] [] 105 := by
  unfold fX3_waysFrom_b105 at hf
  refine g_iinc E 4 [(5, .int (x5 + (1 : Int32))), (0, .ref (k.2.2.2.1 6)), (1, .int x1), (2, .int x2), (3, .long x3)] (x5 + (1 : Int32)) dX3_waysFrom_105 rfl (by rfl) (by decide) rfl ?_
  refine g_goto (tgt := 45) E dX3_waysFrom_108 (by decide) ?_
  exact g_sub [1, 2, 3, 4, 0] rfl (hrc45 σ x1 x2 x3 (x5 + (1 : Int32)) r hf)
set_option maxHeartbeats 4000000 in
set_option maxRecDepth 100000 in
theorem fX3_waysFrom_w45 {k : gK} {X : gX} {d : Nat} (E : gE k X cX3_waysFrom RX3 wsX3_waysFrom 7 (some .long) (wfR (d + 1))) (slf : St → Int32 → Int32 → Option (Int64 × St)) (hslf : ∀ (σ : St) (x1 x2 : Int32) (q : Int64 × St), slf σ x1 x2 = some q → MC k yX3_waysFrom wsX3_waysFrom (wfR d) [.ref (k.2.2.2.1 6), .int x1, .int x2] (cw k.2.2.2 σ) (some (.long q.1)) (cw k.2.2.2 q.2)) (rc45 : St → Int32 → Int32 → Int64 → Int32 → Option (Int64 × St)) (hrc45 : ∀ (σ : St) (x1 : Int32) (x2 : Int32) (x3 : Int64) (x5 : Int32) (r : Int64 × St), rc45 σ x1 x2 x3 x5 = some r → G k X 7 (some (.long r.1)) (cw k.2.2.2 r.2) (cw k.2.2.2 σ) [(0, .ref (k.2.2.2.1 6)), (1, .int x1), (2, .int x2), (3, .long x3), (5, .int x5)] [] 45) (σ : St) (x1 : Int32) (x2 : Int32) (x3 : Int64) (x5 : Int32) (r : Int64 × St) (hf : fX3_waysFrom_b45 slf rc45 σ x1 x2 x3 x5 = some r) : G k X 7 (some (.long r.1)) (cw k.2.2.2 r.2) (cw k.2.2.2 σ) [(0, .ref (k.2.2.2.1 6)), (1, .int x1), (2, .int x2), (3, .long x3), (5, .int x5)] [] 45 := by
  unfold fX3_waysFrom_b45 at hf
  refine g_iload E 4 dX3_waysFrom_45 rfl ?_
  refine g_iconst (v := (5 : Int32)) E dX3_waysFrom_47 (by decide) ?_
  refine g_icmp_gt (tgt := 111) E dX3_waysFrom_48 (by decide) (fun c1 => ?_) (fun c1 => ?_)
  · have hf := gp hf c1
    refine g_lload_n E 3 dX3_waysFrom_111 rfl rfl ?_
    have hf := Option.some.inj hf
    subst hf
    exact g_lret E dX3_waysFrom_112
  · have hf := gn hf c1
    refine g_aload_n E 0 dX3_waysFrom_51 rfl rfl ?_
    refine g_get (C := RX3) (T := TX3) (N := 5) (ci := 3) E 6 4 (.ref (k.2.2.2.1 25)) hi_X3_waysFrom_X3 (cwG6 _ _) rfl (by decide) hk_X3_waysFrom_18 rfl dX3_waysFrom_52 ?_
    refine g_iload_n E 1 dX3_waysFrom_55 rfl rfl ?_
    refine g_bipush (v := (6 : Int32)) E dX3_waysFrom_56 (by decide) ?_
    refine g_imul E dX3_waysFrom_58 ?_
    refine g_iload E 4 dX3_waysFrom_59 rfl ?_
    refine g_iadd E dX3_waysFrom_61 ?_
    obtain ⟨hi2, hf⟩ := gd hf
    refine g_iald E 25 (σ.1 25) (cwG25 _ _) hi2 dX3_waysFrom_62 ?_
    refine g_istore E [(6, .int (σ.1 25 ((((x1 * (6 : Int32))) + x5)).toNatClampNeg)), (0, .ref (k.2.2.2.1 6)), (1, .int x1), (2, .int x2), (3, .long x3), (5, .int x5)] dX3_waysFrom_63 (by decide) rfl ?_
    refine g_iload E 0 dX3_waysFrom_65 rfl ?_
    refine g_if_le (tgt := 105) E dX3_waysFrom_67 (by decide) (fun c3 => ?_) (fun c3 => ?_)
    · have hf := gp hf c3
      exact g_sub [1, 2, 3, 4, 5] rfl (fX3_waysFrom_w105 E slf hslf rc45 hrc45 σ x1 x2 x3 x5 r hf)
    · have hf := gn hf c3
      refine g_aload_n E 1 dX3_waysFrom_70 rfl rfl ?_
      refine g_get (C := RX3) (T := TX3) (N := 5) (ci := 3) E 6 3 (.ref (k.2.2.2.1 9)) hi_X3_waysFrom_X3 (cwG6 _ _) rfl (by decide) hk_X3_waysFrom_12 rfl dX3_waysFrom_71 ?_
      refine g_iload E 5 dX3_waysFrom_74 rfl ?_
      refine g_iconst (v := (1 : Int32)) E dX3_waysFrom_76 (by decide) ?_
      obtain ⟨q4, hq5, hf⟩ := gb hf
      refine g_callV (C := RX7) (T := TX7) (N := 3) (ci := 7) (As := [.int x5, .int (1 : Int32)]) (rest := []) (n := 2) E 9 (fX7_put_9_c k σ x5 (1 : Int32) q4 hq5) gX3_waysFrom_X7_put rfl rfl rfl (by decide +kernel) (wfO _ (by decide) (by decide)) rfl rfl (Nat.le_of_ble_eq_true rfl) rfl (cwG9 _ _) dX3_waysFrom_77 ?_
      refine g_lload_n E 4 dX3_waysFrom_80 rfl rfl ?_
      refine g_iload E 0 dX3_waysFrom_81 rfl ?_
      refine g_i2l E dX3_waysFrom_83 ?_
      refine g_aload_n E 1 dX3_waysFrom_84 rfl rfl ?_
      refine g_iload_n E 2 dX3_waysFrom_85 rfl rfl ?_
      refine g_iconst (v := (1 : Int32)) E dX3_waysFrom_86 (by decide) ?_
      refine g_iadd E dX3_waysFrom_87 ?_
      refine g_iload_n E 3 dX3_waysFrom_88 rfl rfl ?_
      obtain ⟨q6, hq7, hf⟩ := gb hf
      refine g_callV (C := RX3) (T := TX3) (N := 5) (ci := 3) (As := [.int (x1 + (1 : Int32)), .int x2]) (rest := [.long ((σ.1 25 ((((x1 * (6 : Int32))) + x5)).toNatClampNeg)).toInt64, .long x3]) (n := 2) E 6 (hslf q4.2 ((x1 + (1 : Int32))) x2 q6 hq7) gX3_waysFrom_X3_waysFrom rfl rfl rfl (by decide +kernel) (wfS _) rfl rfl (Nat.le_of_ble_eq_true rfl) rfl (cwG6 _ _) dX3_waysFrom_89 ?_
      refine g_lmul E dX3_waysFrom_92 ?_
      refine g_ladd E dX3_waysFrom_93 ?_
      refine g_lstore_n E [(3, .long (x3 + (((((σ.1 25 ((((x1 * (6 : Int32))) + x5)).toNatClampNeg)).toInt64) * q6.1)))), (6, .int (σ.1 25 ((((x1 * (6 : Int32))) + x5)).toNatClampNeg)), (0, .ref (k.2.2.2.1 6)), (1, .int x1), (2, .int x2), (5, .int x5)] dX3_waysFrom_94 rfl (by decide) rfl ?_
      refine g_aload_n E 2 dX3_waysFrom_95 rfl rfl ?_
      refine g_get (C := RX3) (T := TX3) (N := 5) (ci := 3) E 6 3 (.ref (k.2.2.2.1 9)) hi_X3_waysFrom_X3 (cwG6 _ _) rfl (by decide) hk_X3_waysFrom_12 rfl dX3_waysFrom_96 ?_
      refine g_iload E 5 dX3_waysFrom_99 rfl ?_
      refine g_iconst (v := (-1 : Int32)) E dX3_waysFrom_101 (by decide) ?_
      obtain ⟨q8, hq9, hf⟩ := gb hf
      refine g_callV (C := RX7) (T := TX7) (N := 3) (ci := 7) (As := [.int x5, .int (-1 : Int32)]) (rest := []) (n := 2) E 9 (fX7_put_9_c k q6.2 x5 (-1 : Int32) q8 hq9) gX3_waysFrom_X7_put rfl rfl rfl (by decide +kernel) (wfO _ (by decide) (by decide)) rfl rfl (Nat.le_of_ble_eq_true rfl) rfl (cwG9 _ _) dX3_waysFrom_102 ?_
      exact g_sub [2, 3, 4, 0, 5] rfl (fX3_waysFrom_w105 E slf hslf rc45 hrc45 q8.2 x1 x2 (x3 + (((((σ.1 25 ((((x1 * (6 : Int32))) + x5)).toNatClampNeg)).toInt64) * q6.1))) x5 r hf)
theorem fX3_waysFrom_v45 {k : gK} {X : gX} {d : Nat} (E : gE k X cX3_waysFrom RX3 wsX3_waysFrom 7 (some .long) (wfR (d + 1))) (slf : St → Int32 → Int32 → Option (Int64 × St)) (hslf : ∀ (σ : St) (x1 x2 : Int32) (q : Int64 × St), slf σ x1 x2 = some q → MC k yX3_waysFrom wsX3_waysFrom (wfR d) [.ref (k.2.2.2.1 6), .int x1, .int x2] (cw k.2.2.2 σ) (some (.long q.1)) (cw k.2.2.2 q.2)) : ∀ (n : Nat) (σ : St) (x1 : Int32) (x2 : Int32) (x3 : Int64) (x5 : Int32) (r : Int64 × St), fX3_waysFrom_l45 slf n σ x1 x2 x3 x5 = some r → G k X 7 (some (.long r.1)) (cw k.2.2.2 r.2) (cw k.2.2.2 σ) [(0, .ref (k.2.2.2.1 6)), (1, .int x1), (2, .int x2), (3, .long x3), (5, .int x5)] [] 45 := by
  intro n
  induction n with
  | zero => intro σ x1 x2 x3 x5 r hf; cases hf
  | succ n ih => intro σ x1 x2 x3 x5 r hf; exact fX3_waysFrom_w45 E slf hslf (fX3_waysFrom_l45 slf n) ih σ x1 x2 x3 x5 r hf
set_option maxHeartbeats 4000000 in
set_option maxRecDepth 100000 in
theorem fX3_waysFrom_cf (k : gK) {d : Nat} (slf : St → Int32 → Int32 → Option (Int64 × St)) (hslf : ∀ (σ : St) (x1 x2 : Int32) (q : Int64 × St), slf σ x1 x2 = some q → MC k yX3_waysFrom wsX3_waysFrom (wfR d) [.ref (k.2.2.2.1 6), .int x1, .int x2] (cw k.2.2.2 σ) (some (.long q.1)) (cw k.2.2.2 q.2)) (σ : St) (x1 : Int32) (x2 : Int32) (r : Int64 × St) (hf : fX3_waysFrom_f slf σ x1 x2 = some r) : MC k yX3_waysFrom wsX3_waysFrom (wfR (d + 1)) [.ref (k.2.2.2.1 6), .int x1, .int x2] (cw k.2.2.2 σ) (some (.long r.1)) (cw k.2.2.2 r.2) := by
  refine MC_of (cc := cX3_waysFrom) (maxL := 7) (ret := (some .long)) (own := RX3) (lvs := [(0, .ref (k.2.2.2.1 6)), (1, .int x1), (2, .int x2)]) (by decide) rfl rfl (Nat.le_of_ble_eq_true rfl) rfl (fun X E => ?_)
  unfold fX3_waysFrom_f at hf
  refine g_iload_n E 1 dX3_waysFrom_0 rfl rfl ?_
  refine g_bipush (v := (6 : Int32)) E dX3_waysFrom_1 (by decide) ?_
  refine g_icmp_lt (tgt := 19) E dX3_waysFrom_3 (by decide) (fun c1 => ?_) (fun c1 => ?_)
  · have hf := gp hf c1
    refine g_iload_n E 2 dX3_waysFrom_19 rfl rfl ?_
    refine g_iload_n E 1 dX3_waysFrom_20 rfl rfl ?_
    obtain ⟨q2, hq3, hf⟩ := gb hf
    refine g_callSN (As := [.int x2, .int x1]) (rest := []) (n := 2) E (fX8_hasBit_c k σ x2 x1 q2 hq3) gX3_waysFrom_X8_hasBit_n70 rfl rfl rfl (by decide +kernel) (by decide +kernel) (by decide +kernel) (by decide +kernel) (wfO _ (by decide) (by decide)) rfl rfl (Nat.le_of_ble_eq_true rfl) dX3_waysFrom_21 ?_
    refine g_if_ne (tgt := 40) E dX3_waysFrom_24 (by decide) (fun c4 => ?_) (fun c4 => ?_)
    · have hf := gn hf c4
      refine g_lconst (v := (0 : Int64)) E dX3_waysFrom_40 (by decide) ?_
      refine g_lstore_n E [(3, .long (0 : Int64)), (0, .ref (k.2.2.2.1 6)), (1, .int x1), (2, .int x2)] dX3_waysFrom_41 rfl (by decide) rfl ?_
      refine g_iconst (v := (0 : Int32)) E dX3_waysFrom_42 (by decide) ?_
      refine g_istore E [(5, .int (0 : Int32)), (3, .long (0 : Int64)), (0, .ref (k.2.2.2.1 6)), (1, .int x1), (2, .int x2)] dX3_waysFrom_43 (by decide) rfl ?_
      exact g_sub [2, 3, 4, 1, 0] rfl (fX3_waysFrom_v45 E slf hslf gF q2.2 x1 x2 (0 : Int64) (0 : Int32) r hf)
    · have hf := gp hf c4
      refine g_ldc2 (v := (4 : Int64)) E (by decide +kernel) dX3_waysFrom_27 ?_
      refine g_aload_n E 0 dX3_waysFrom_30 rfl rfl ?_
      refine g_iload_n E 1 dX3_waysFrom_31 rfl rfl ?_
      refine g_iconst (v := (1 : Int32)) E dX3_waysFrom_32 (by decide) ?_
      refine g_iadd E dX3_waysFrom_33 ?_
      refine g_iload_n E 2 dX3_waysFrom_34 rfl rfl ?_
      obtain ⟨q5, hq6, hf⟩ := gb hf
      refine g_callV (C := RX3) (T := TX3) (N := 5) (ci := 3) (As := [.int (x1 + (1 : Int32)), .int x2]) (rest := [.long (4 : Int64)]) (n := 2) E 6 (hslf q2.2 ((x1 + (1 : Int32))) x2 q5 hq6) gX3_waysFrom_X3_waysFrom rfl rfl rfl (by decide +kernel) (wfS _) rfl rfl (Nat.le_of_ble_eq_true rfl) rfl (cwG6 _ _) dX3_waysFrom_35 ?_
      refine g_lmul E dX3_waysFrom_38 ?_
      have hf := Option.some.inj hf
      subst hf
      exact g_lret E dX3_waysFrom_39
  · have hf := gn hf c1
    refine g_aload_n E 0 dX3_waysFrom_6 rfl rfl ?_
    refine g_get (C := RX3) (T := TX3) (N := 5) (ci := 3) E 6 2 (.ref (k.2.2.2.1 5)) hi_X3_waysFrom_X3 (cwG6 _ _) rfl (by decide) hk_X3_waysFrom_30 rfl dX3_waysFrom_7 ?_
    refine g_aload_n E 0 dX3_waysFrom_10 rfl rfl ?_
    refine g_get (C := RX3) (T := TX3) (N := 5) (ci := 3) E 6 3 (.ref (k.2.2.2.1 9)) hi_X3_waysFrom_X3 (cwG6 _ _) rfl (by decide) hk_X3_waysFrom_12 rfl dX3_waysFrom_11 ?_
    obtain ⟨q7, hq8, hf⟩ := gb hf
    refine g_callV (C := RX5) (T := TX5) (N := 4) (ci := 5) (As := [.ref (k.2.2.2.1 9)]) (rest := []) (n := 1) E 5 (fX5_quarters_9_c k σ  q7 hq8) gX3_waysFrom_X5_quarters rfl rfl rfl (by decide +kernel) (wfO _ (by decide) (by decide)) rfl rfl (Nat.le_of_ble_eq_true rfl) rfl (cwG5 _ _) dX3_waysFrom_14 ?_
    refine g_i2l E dX3_waysFrom_17 ?_
    have hf := Option.some.inj hf
    subst hf
    exact g_lret E dX3_waysFrom_18
theorem fX3_waysFrom_cn (k : gK) : ∀ (d : Nat) (σ : St) (x1 x2 : Int32) (q : Int64 × St), fX3_waysFrom_n d σ x1 x2 = some q → MC k yX3_waysFrom wsX3_waysFrom (wfR d) [.ref (k.2.2.2.1 6), .int x1, .int x2] (cw k.2.2.2 σ) (some (.long q.1)) (cw k.2.2.2 q.2) := by
  intro d
  induction d with
  | zero => intro σ x1 x2 q h; cases h
  | succ d ih => intro σ x1 x2 q h; exact fX3_waysFrom_cf k (fX3_waysFrom_n d) ih σ x1 x2 q h
abbrev rm_fX3_waysFrom : Room := wfR 8
theorem fX3_waysFrom_c (k : gK) (σ : St) (x1 x2 : Int32) (q : Int64 × St) (hf : fX3_waysFrom σ x1 x2 = some q) : MC k yX3_waysFrom wsX3_waysFrom rm_fX3_waysFrom [.ref (k.2.2.2.1 6), .int x1, .int x2] (cw k.2.2.2 σ) (some (.long q.1)) (cw k.2.2.2 q.2) := fX3_waysFrom_cn k 8 σ x1 x2 q hf
theorem hi_X3_waysTaken_X3 : ∀ w ∈ wsX30, w ∈ wsX3_waysTaken := by decide +kernel
theorem hk_X3_waysTaken_12 : Cond.fieldLink RX3 12 "PaperMarks$Odds" "tally" "LPaperMarks$Tally;" ∈ wsX3_waysTaken := by decide +kernel
theorem hk_X3_waysTaken_26 : Cond.fieldLink RX3 26 "PaperMarks$Odds" "papers" "LPaperMarks$Papers;" ∈ wsX3_waysTaken := by decide +kernel
def rm_fX3_waysTaken : Room := { frames := 15, cells := 0, slots := 0, locals := 906 }
set_option maxHeartbeats 4000000 in
set_option maxRecDepth 100000 in
theorem fX3_waysTaken_c (k : gK) (σ : St) (x1 : Int32) (x2 : Int32) (r : Int64 × St) (hf : fX3_waysTaken σ x1 x2 = some r) : MC k yX3_waysTaken wsX3_waysTaken rm_fX3_waysTaken [.ref (k.2.2.2.1 6), .int x1, .int x2] (cw k.2.2.2 σ) (some (.long r.1)) (cw k.2.2.2 r.2) := by
  refine MC_of (cc := cX3_waysTaken) (maxL := 3) (ret := (some .long)) (own := RX3) (lvs := [(0, .ref (k.2.2.2.1 6)), (1, .int x1), (2, .int x2)]) (by decide) rfl rfl (Nat.le_of_ble_eq_true rfl) rfl (fun X E => ?_)
  unfold fX3_waysTaken at hf
  refine g_aload_n E 0 dX3_waysTaken_0 rfl rfl ?_
  refine g_get (C := RX3) (T := TX3) (N := 5) (ci := 3) E 6 3 (.ref (k.2.2.2.1 9)) hi_X3_waysTaken_X3 (cwG6 _ _) rfl (by decide) hk_X3_waysTaken_12 rfl dX3_waysTaken_1 ?_
  obtain ⟨q1, hq2, hf⟩ := gb hf
  refine g_callV (C := RX7) (T := TX7) (N := 3) (ci := 7) (As := []) (rest := []) (n := 0) E 9 (fX7_clear_9_c k σ  q1 hq2) gX3_waysTaken_X7_clear rfl rfl rfl (by decide +kernel) ⟨Nat.le_of_ble_eq_true rfl, Nat.le_of_ble_eq_true rfl⟩ rfl rfl (Nat.le_of_ble_eq_true rfl) rfl (cwG9 _ _) dX3_waysTaken_4 ?_
  refine g_aload_n E 0 dX3_waysTaken_7 rfl rfl ?_
  refine g_iload_n E 1 dX3_waysTaken_8 rfl rfl ?_
  obtain ⟨q3, hq4, hf⟩ := gb hf
  refine g_callV (C := RX3) (T := TX3) (N := 5) (ci := 3) (As := [.int x1]) (rest := []) (n := 1) E 6 (fX3_layOutWays_c k q1.2 x1 q3 hq4) gX3_waysTaken_X3_layOutWays rfl rfl rfl (by decide +kernel) ⟨Nat.le_of_ble_eq_true rfl, Nat.le_of_ble_eq_true rfl⟩ rfl rfl (Nat.le_of_ble_eq_true rfl) rfl (cwG6 _ _) dX3_waysTaken_9 ?_
  refine g_aload_n E 0 dX3_waysTaken_12 rfl rfl ?_
  refine g_iconst (v := (0 : Int32)) E dX3_waysTaken_13 (by decide) ?_
  refine g_aload_n E 0 dX3_waysTaken_14 rfl rfl ?_
  refine g_get (C := RX3) (T := TX3) (N := 5) (ci := 3) E 6 1 (.ref (k.2.2.2.1 2)) hi_X3_waysTaken_X3 (cwG6 _ _) rfl (by decide) hk_X3_waysTaken_26 rfl dX3_waysTaken_15 ?_
  refine g_iload_n E 1 dX3_waysTaken_18 rfl rfl ?_
  refine g_iload_n E 2 dX3_waysTaken_19 rfl rfl ?_
  obtain ⟨q5, hq6, hf⟩ := gb hf
  refine g_callV (C := RX4) (T := TX4) (N := 6) (ci := 4) (As := [.int x1, .int x2]) (rest := [.int (0 : Int32), .ref (k.2.2.2.1 6)]) (n := 2) E 2 (fX4_withoutWriter_c k q3.2 x1 x2 q5 hq6) gX3_waysTaken_X4_withoutWriter rfl rfl rfl (by decide +kernel) ⟨Nat.le_of_ble_eq_true rfl, Nat.le_of_ble_eq_true rfl⟩ rfl rfl (Nat.le_of_ble_eq_true rfl) rfl (cwG2 _ _) dX3_waysTaken_20 ?_
  obtain ⟨q7, hq8, hf⟩ := gb hf
  refine g_callV (C := RX3) (T := TX3) (N := 5) (ci := 3) (As := [.int (0 : Int32), .int q5.1]) (rest := []) (n := 2) E 6 (fX3_waysFrom_c k q5.2 (0 : Int32) q5.1 q7 hq8) gX3_waysTaken_X3_waysFrom rfl rfl rfl (by decide +kernel) ⟨Nat.le_of_ble_eq_true rfl, Nat.le_of_ble_eq_true rfl⟩ rfl rfl (Nat.le_of_ble_eq_true rfl) rfl (cwG6 _ _) dX3_waysTaken_23 ?_
  have hf := Option.some.inj hf
  subst hf
  exact g_lret E dX3_waysTaken_26
def rm_fX8_greatestDivisor : Room := { frames := 0, cells := 0, slots := 0, locals := 0 }
set_option maxHeartbeats 4000000 in
set_option maxRecDepth 100000 in
theorem fX8_greatestDivisor_w3 {k : gK} {X : gX} (E : gE k X cX8_greatestDivisor RX8 wsX8_greatestDivisor 7 (some .long) rm_fX8_greatestDivisor) (rc3 : St → Int64 → Int64 → Int32 → Option (Int64 × St)) (hrc3 : ∀ (σ : St) (x0 : Int64) (x2 : Int64) (x4 : Int32) (r : Int64 × St), rc3 σ x0 x2 x4 = some r → G k X 7 (some (.long r.1)) (cw k.2.2.2 r.2) (cw k.2.2.2 σ) [(0, .long x0), (2, .long x2), (4, .int x4)] [] 3) (σ : St) (x0 : Int64) (x2 : Int64) (x4 : Int32) (r : Int64 × St) (hf : fX8_greatestDivisor_b3 rc3 σ x0 x2 x4 = some r) : G k X 7 (some (.long r.1)) (cw k.2.2.2 r.2) (cw k.2.2.2 σ) [(0, .long x0), (2, .long x2), (4, .int x4)] [] 3 := by
  unfold fX8_greatestDivisor_b3 at hf
  refine g_iload E 2 dX8_greatestDivisor_3 rfl ?_
  refine g_bipush (v := (100 : Int32)) E dX8_greatestDivisor_5 (by decide) ?_
  refine g_icmp_ge (tgt := 32) E dX8_greatestDivisor_7 (by decide) (fun c1 => ?_) (fun c1 => ?_)
  · have hf := gp hf c1
    refine g_lload_n E 0 dX8_greatestDivisor_32 rfl rfl ?_
    have hf := Option.some.inj hf
    subst hf
    exact g_lret E dX8_greatestDivisor_33
  · have hf := gn hf c1
    refine g_lload_n E 1 dX8_greatestDivisor_10 rfl rfl ?_
    refine g_lconst (v := (0 : Int64)) E dX8_greatestDivisor_11 (by decide) ?_
    refine g_lcmp E dX8_greatestDivisor_12 ?_
    refine g_if_eq (tgt := 32) E dX8_greatestDivisor_13 (by decide) (fun c2 => ?_) (fun c2 => ?_)
    · have hf := gp hf c2
      refine g_lload_n E 0 dX8_greatestDivisor_32 rfl rfl ?_
      have hf := Option.some.inj hf
      subst hf
      exact g_lret E dX8_greatestDivisor_33
    · have hf := gn hf c2
      refine g_lload_n E 0 dX8_greatestDivisor_16 rfl rfl ?_
      refine g_lload_n E 1 dX8_greatestDivisor_17 rfl rfl ?_
      obtain ⟨hn3, hf⟩ := gd hf
      refine g_lrem E hn3 dX8_greatestDivisor_18 ?_
      refine g_lstore E [(5, .long (x0 - x0 / x2 * x2)), (0, .long x0), (2, .long x2), (4, .int x4)] dX8_greatestDivisor_19 (by decide) rfl ?_
      refine g_lload_n E 2 dX8_greatestDivisor_21 rfl rfl ?_
      refine g_lstore_n E [(0, .long x2), (5, .long (x0 - x0 / x2 * x2)), (2, .long x2), (4, .int x4)] dX8_greatestDivisor_22 rfl (by decide) rfl ?_
      refine g_lload E 1 dX8_greatestDivisor_23 rfl ?_
      refine g_lstore_n E [(2, .long (x0 - x0 / x2 * x2)), (0, .long x2), (5, .long (x0 - x0 / x2 * x2)), (4, .int x4)] dX8_greatestDivisor_25 rfl (by decide) rfl ?_
      refine g_iinc E 3 [(4, .int (x4 + (1 : Int32))), (2, .long (x0 - x0 / x2 * x2)), (0, .long x2), (5, .long (x0 - x0 / x2 * x2))] (x4 + (1 : Int32)) dX8_greatestDivisor_26 rfl (by rfl) (by decide) rfl ?_
      refine g_goto (tgt := 3) E dX8_greatestDivisor_29 (by decide) ?_
      exact g_sub [2, 1, 0] rfl (hrc3 σ x2 (x0 - x0 / x2 * x2) (x4 + (1 : Int32)) r hf)
theorem fX8_greatestDivisor_v3 {k : gK} {X : gX} (E : gE k X cX8_greatestDivisor RX8 wsX8_greatestDivisor 7 (some .long) rm_fX8_greatestDivisor) : ∀ (n : Nat) (σ : St) (x0 : Int64) (x2 : Int64) (x4 : Int32) (r : Int64 × St), fX8_greatestDivisor_l3 n σ x0 x2 x4 = some r → G k X 7 (some (.long r.1)) (cw k.2.2.2 r.2) (cw k.2.2.2 σ) [(0, .long x0), (2, .long x2), (4, .int x4)] [] 3 := by
  intro n
  induction n with
  | zero => intro σ x0 x2 x4 r hf; cases hf
  | succ n ih => intro σ x0 x2 x4 r hf; exact fX8_greatestDivisor_w3 E (fX8_greatestDivisor_l3 n) ih σ x0 x2 x4 r hf
set_option maxHeartbeats 4000000 in
set_option maxRecDepth 100000 in
theorem fX8_greatestDivisor_c (k : gK) (σ : St) (x0 : Int64) (x2 : Int64) (r : Int64 × St) (hf : fX8_greatestDivisor σ x0 x2 = some r) : MC k yX8_greatestDivisor wsX8_greatestDivisor rm_fX8_greatestDivisor [.long x0, .long x2] (cw k.2.2.2 σ) (some (.long r.1)) (cw k.2.2.2 r.2) := by
  refine MC_of (cc := cX8_greatestDivisor) (maxL := 7) (ret := (some .long)) (own := RX8) (lvs := [(0, .long x0), (2, .long x2)]) (by decide) rfl rfl (Nat.le_of_ble_eq_true rfl) rfl (fun X E => ?_)
  unfold fX8_greatestDivisor at hf
  refine g_iconst (v := (0 : Int32)) E dX8_greatestDivisor_0 (by decide) ?_
  refine g_istore E [(4, .int (0 : Int32)), (0, .long x0), (2, .long x2)] dX8_greatestDivisor_1 (by decide) rfl ?_
  exact g_sub [1, 2, 0] rfl (fX8_greatestDivisor_v3 E gF σ x0 x2 (0 : Int32) r hf)
def rm_fX8_tell : Room := { frames := 1, cells := 0, slots := 0, locals := 40 }
set_option maxHeartbeats 4000000 in
set_option maxRecDepth 100000 in
theorem fX8_tell_w29 {k : gK} {X : gX} (E : gE k X cX8_tell RX8 wsX8_tell 7 (some .long) rm_fX8_tell) (σ : St) (x4 : Int32) (r : Int64 × St) (hf : fX8_tell_b29 σ x4 = some r) : G k X 7 (some (.long r.1)) (cw k.2.2.2 r.2) (cw k.2.2.2 σ) [(4, .int x4)] [] 29 := by
  unfold fX8_tell_b29 at hf
  refine g_iload E 0 dX8_tell_29 rfl ?_
  refine g_if_ne (tgt := 38) E dX8_tell_31 (by decide) (fun c1 => ?_) (fun c1 => ?_)
  · have hf := gn hf c1
    refine g_lconst (v := (1 : Int64)) E dX8_tell_38 (by decide) ?_
    have hf := Option.some.inj hf
    subst hf
    exact g_lret E dX8_tell_39
  · have hf := gp hf c1
    refine g_lconst (v := (0 : Int64)) E dX8_tell_34 (by decide) ?_
    refine g_goto (tgt := 39) E dX8_tell_35 (by decide) ?_
    have hf := Option.some.inj hf
    subst hf
    exact g_lret E dX8_tell_39
set_option maxHeartbeats 4000000 in
set_option maxRecDepth 100000 in
theorem fX8_tell_c (k : gK) (σ : St) (x0 : Int64) (x2 : Int64) (x4 : Int32) (r : Int64 × St) (hf : fX8_tell σ x0 x2 x4 = some r) : MC k yX8_tell wsX8_tell rm_fX8_tell [.long x0, .long x2, .int x4] (cw k.2.2.2 σ) (some (.long r.1)) (cw k.2.2.2 r.2) := by
  refine MC_of (cc := cX8_tell) (maxL := 7) (ret := (some .long)) (own := RX8) (lvs := [(0, .long x0), (2, .long x2), (4, .int x4)]) (by decide) rfl rfl (Nat.le_of_ble_eq_true rfl) rfl (fun X E => ?_)
  unfold fX8_tell at hf
  refine g_lload_n E 0 dX8_tell_0 rfl rfl ?_
  refine g_mabsl E (by decide +kernel) (by decide +kernel) (by decide +kernel) (by decide +kernel) (Nat.le_of_ble_eq_true rfl) (Nat.le_of_ble_eq_true rfl) dX8_tell_1 ?_
  refine g_lload_n E 1 dX8_tell_4 rfl rfl ?_
  obtain ⟨q1, hq2, hf⟩ := gb hf
  refine g_callS (As := [.long (if 0 < x0 then x0 else -x0), .long x2]) (rest := []) (n := 2) E (fX8_greatestDivisor_c k σ (if 0 < x0 then x0 else -x0) x2 q1 hq2) gX8_tell_X8_greatestDivisor rfl rfl rfl (by decide +kernel) ⟨Nat.le_of_ble_eq_true rfl, Nat.le_of_ble_eq_true rfl⟩ rfl rfl (Nat.le_of_ble_eq_true rfl) dX8_tell_5 ?_
  refine g_lstore E [(5, .long q1.1), (0, .long x0), (2, .long x2), (4, .int x4)] dX8_tell_8 (by decide) rfl ?_
  refine g_lload_n E 1 dX8_tell_10 rfl rfl ?_
  refine g_lconst (v := (0 : Int64)) E dX8_tell_11 (by decide) ?_
  refine g_lcmp E dX8_tell_12 ?_
  refine g_if_eq (tgt := 29) E dX8_tell_13 (by decide) (fun c3 => ?_) (fun c3 => ?_)
  · have hf := gp hf c3
    exact g_sub [3] rfl (fX8_tell_w29 E q1.2 x4 r hf)
  · have hf := gn hf c3
    refine g_lload_n E 2 dX8_tell_16 rfl rfl ?_
    refine g_lconst (v := (0 : Int64)) E dX8_tell_17 (by decide) ?_
    refine g_lcmp E dX8_tell_18 ?_
    refine g_if_eq (tgt := 29) E dX8_tell_19 (by decide) (fun c4 => ?_) (fun c4 => ?_)
    · have hf := gp hf c4
      exact g_sub [3] rfl (fX8_tell_w29 E q1.2 x4 r hf)
    · have hf := gn hf c4
      refine g_lload E 0 dX8_tell_22 rfl ?_
      refine g_lconst (v := (0 : Int64)) E dX8_tell_24 (by decide) ?_
      refine g_lcmp E dX8_tell_25 ?_
      refine g_if_ne (tgt := 40) E dX8_tell_26 (by decide) (fun c5 => ?_) (fun c5 => ?_)
      · have hf := gn hf c5
        refine g_iload E 3 dX8_tell_40 rfl ?_
        refine g_if_ne (tgt := 49) E dX8_tell_42 (by decide) (fun c6 => ?_) (fun c6 => ?_)
        · have hf := gn hf c6
          refine g_lload_n E 2 dX8_tell_49 rfl rfl ?_
          refine g_lload E 0 dX8_tell_50 rfl ?_
          obtain ⟨hn7, hf⟩ := gd hf
          refine g_ldiv E hn7 dX8_tell_52 ?_
          have hf := Option.some.inj hf
          subst hf
          exact g_lret E dX8_tell_53
        · have hf := gp hf c6
          refine g_lload_n E 1 dX8_tell_45 rfl rfl ?_
          refine g_goto (tgt := 50) E dX8_tell_46 (by decide) ?_
          refine g_lload E 0 dX8_tell_50 rfl ?_
          obtain ⟨hn8, hf⟩ := gd hf
          refine g_ldiv E hn8 dX8_tell_52 ?_
          have hf := Option.some.inj hf
          subst hf
          exact g_lret E dX8_tell_53
      · have hf := gp hf c5
        exact g_sub [3] rfl (fX8_tell_w29 E q1.2 x4 r hf)
theorem hi_X8_areJudges_X8 : ∀ w ∈ wsX80, w ∈ wsX8_areJudges := by decide +kernel
theorem hi_X8_areJudges_X0 : ∀ w ∈ wsX00, w ∈ wsX8_areJudges := by decide +kernel
theorem hk_X8_areJudges_10 : Cond.fieldLink RX8 10 "PaperMarks" "judges" "LPaperMarks$Judges;" ∈ wsX8_areJudges := by decide +kernel
theorem hk_X8_areJudges_191 : Cond.fieldLink RX8 191 "PaperMarks$Judges" "count" "I" ∈ wsX8_areJudges := by decide +kernel
def rm_fX8_areJudges : Room := { frames := 1, cells := 0, slots := 0, locals := 22 }
set_option maxHeartbeats 4000000 in
set_option maxRecDepth 100000 in
theorem fX8_areJudges_c (k : gK) (σ : St) (x1 : Int32) (r : Int32 × St) (hf : fX8_areJudges σ x1 = some r) : MC k yX8_areJudges wsX8_areJudges rm_fX8_areJudges [.ref (k.2.2.2.1 0), .int x1] (cw k.2.2.2 σ) (some (.int r.1)) (cw k.2.2.2 r.2) := by
  refine MC_of (cc := cX8_areJudges) (maxL := 2) (ret := (some .boolean)) (own := RX8) (lvs := [(0, .ref (k.2.2.2.1 0)), (1, .int x1)]) (by decide) rfl rfl (Nat.le_of_ble_eq_true rfl) rfl (fun X E => ?_)
  unfold fX8_areJudges at hf
  refine g_iload_n E 1 dX8_areJudges_0 rfl rfl ?_
  refine g_iconst (v := (0 : Int32)) E dX8_areJudges_1 (by decide) ?_
  refine g_iconst (v := (1 : Int32)) E dX8_areJudges_2 (by decide) ?_
  refine g_aload_n E 0 dX8_areJudges_3 rfl rfl ?_
  refine g_get (C := RX8) (T := TX8) (N := 7) (ci := 8) E 0 0 (.ref (k.2.2.2.1 1)) hi_X8_areJudges_X8 (cwG0 _ _) rfl (by decide) hk_X8_areJudges_10 rfl dX8_areJudges_4 ?_
  refine g_get (C := RX0) (T := TX0) (N := 5) (ci := 0) E 1 4 (.int (σ.2.1 0)) hi_X8_areJudges_X0 (cwG1 _ _) rfl (by decide) hk_X8_areJudges_191 rfl dX8_areJudges_7 ?_
  refine g_ishl E dX8_areJudges_10 ?_
  refine g_iconst (v := (1 : Int32)) E dX8_areJudges_11 (by decide) ?_
  refine g_isub E dX8_areJudges_12 ?_
  obtain ⟨q1, hq2, hf⟩ := gb hf
  refine g_callS (As := [.int x1, .int (0 : Int32), .int ((((1 : Int32) <<< ((σ.2.1 0) &&& 31))) - (1 : Int32))]) (rest := []) (n := 3) E (fX8_within_c k σ x1 (0 : Int32) (((((1 : Int32) <<< ((σ.2.1 0) &&& 31))) - (1 : Int32))) q1 hq2) gX8_areJudges_X8_within rfl rfl rfl (by decide +kernel) ⟨Nat.le_of_ble_eq_true rfl, Nat.le_of_ble_eq_true rfl⟩ rfl rfl (Nat.le_of_ble_eq_true rfl) dX8_areJudges_13 ?_
  obtain ⟨hv3, hf⟩ := gd hf
  have hf := Option.some.inj hf
  subst hf
  exact g_zret E hv3 dX8_areJudges_16
def rm_fX8_isPart : Room := { frames := 1, cells := 0, slots := 0, locals := 22 }
set_option maxHeartbeats 4000000 in
set_option maxRecDepth 100000 in
theorem fX8_isPart_c (k : gK) (σ : St) (x0 : Int32) (r : Int32 × St) (hf : fX8_isPart σ x0 = some r) : MC k yX8_isPart wsX8_isPart rm_fX8_isPart [.int x0] (cw k.2.2.2 σ) (some (.int r.1)) (cw k.2.2.2 r.2) := by
  refine MC_of (cc := cX8_isPart) (maxL := 1) (ret := (some .boolean)) (own := RX8) (lvs := [(0, .int x0)]) (by decide) rfl rfl (Nat.le_of_ble_eq_true rfl) rfl (fun X E => ?_)
  unfold fX8_isPart at hf
  refine g_iload_n E 0 dX8_isPart_0 rfl rfl ?_
  refine g_iconst (v := (0 : Int32)) E dX8_isPart_1 (by decide) ?_
  refine g_iconst (v := (1 : Int32)) E dX8_isPart_2 (by decide) ?_
  obtain ⟨q1, hq2, hf⟩ := gb hf
  refine g_callS (As := [.int x0, .int (0 : Int32), .int (1 : Int32)]) (rest := []) (n := 3) E (fX8_within_c k σ x0 (0 : Int32) (1 : Int32) q1 hq2) gX8_isPart_X8_within rfl rfl rfl (by decide +kernel) ⟨Nat.le_of_ble_eq_true rfl, Nat.le_of_ble_eq_true rfl⟩ rfl rfl (Nat.le_of_ble_eq_true rfl) dX8_isPart_3 ?_
  obtain ⟨hv3, hf⟩ := gd hf
  have hf := Option.some.inj hf
  subst hf
  exact g_zret E hv3 dX8_isPart_6
theorem hi_X8_taken_X8 : ∀ w ∈ wsX80, w ∈ wsX8_taken := by decide +kernel
theorem hk_X8_taken_49 : Cond.fieldLink RX8 49 "PaperMarks" "odds" "LPaperMarks$Odds;" ∈ wsX8_taken := by decide +kernel
theorem hk_X8_taken_19 : Cond.fieldLink RX8 19 "PaperMarks" "papers" "LPaperMarks$Papers;" ∈ wsX8_taken := by decide +kernel
def rm_fX8_taken : Room := { frames := 16, cells := 0, slots := 0, locals := 928 }
set_option maxHeartbeats 4000000 in
set_option maxRecDepth 100000 in
theorem fX8_taken_w29 {k : gK} {X : gX} (E : gE k X cX8_taken RX8 wsX8_taken 5 (some .long) rm_fX8_taken) (σ : St) (x1 : Int32) (x2 : Int32) (x3 : Int32) (t1 : Int32) (t2 : Int32) (r : Int64 × St) (hf : fX8_taken_b29 σ x1 x2 x3 t1 t2 = some r) : G k X 5 (some (.long r.1)) (cw k.2.2.2 r.2) (cw k.2.2.2 σ) [(0, .ref (k.2.2.2.1 0)), (1, .int x1), (2, .int x2), (3, .int x3)] [.int t2, .int t1, .ref (k.2.2.2.1 0)] 29 := by
  unfold fX8_taken_b29 at hf
  obtain ⟨q1, hq2, hf⟩ := gb hf
  refine g_callV (C := RX8) (T := TX8) (N := 7) (ci := 8) (As := [.int t1, .int t2]) (rest := []) (n := 2) E 0 (fX8_refusalOfOdds_c k σ t1 t2 q1 hq2) gX8_taken_X8_refusalOfOdds rfl rfl rfl (by decide +kernel) ⟨Nat.le_of_ble_eq_true rfl, Nat.le_of_ble_eq_true rfl⟩ rfl rfl (Nat.le_of_ble_eq_true rfl) rfl (cwG0 _ _) dX8_taken_29 ?_
  refine g_istore E [(4, .int q1.1), (0, .ref (k.2.2.2.1 0)), (1, .int x1), (2, .int x2), (3, .int x3)] dX8_taken_32 (by decide) rfl ?_
  refine g_iload E 0 dX8_taken_34 rfl ?_
  refine g_if_eq (tgt := 47) E dX8_taken_36 (by decide) (fun c3 => ?_) (fun c3 => ?_)
  · have hf := gp hf c3
    refine g_aload_n E 1 dX8_taken_47 rfl rfl ?_
    refine g_get (C := RX8) (T := TX8) (N := 7) (ci := 8) E 0 5 (.ref (k.2.2.2.1 6)) hi_X8_taken_X8 (cwG0 _ _) rfl (by decide) hk_X8_taken_49 rfl dX8_taken_48 ?_
    refine g_iload_n E 2 dX8_taken_51 rfl rfl ?_
    refine g_iload_n E 3 dX8_taken_52 rfl rfl ?_
    obtain ⟨q4, hq5, hf⟩ := gb hf
    refine g_callV (C := RX3) (T := TX3) (N := 5) (ci := 3) (As := [.int x1, .int x2]) (rest := []) (n := 2) E 6 (fX3_waysTaken_c k q1.2 x1 x2 q4 hq5) gX8_taken_X3_waysTaken rfl rfl rfl (by decide +kernel) ⟨Nat.le_of_ble_eq_true rfl, Nat.le_of_ble_eq_true rfl⟩ rfl rfl (Nat.le_of_ble_eq_true rfl) rfl (cwG6 _ _) dX8_taken_53 ?_
    refine g_ldc2 (v := (16384 : Int64)) E (by decide +kernel) dX8_taken_56 ?_
    refine g_iload_n E 4 dX8_taken_59 rfl rfl ?_
    obtain ⟨q6, hq7, hf⟩ := gb hf
    refine g_callS (As := [.long q4.1, .long (16384 : Int64), .int x3]) (rest := []) (n := 3) E (fX8_tell_c k q4.2 q4.1 (16384 : Int64) x3 q6 hq7) gX8_taken_X8_tell rfl rfl rfl (by decide +kernel) ⟨Nat.le_of_ble_eq_true rfl, Nat.le_of_ble_eq_true rfl⟩ rfl rfl (Nat.le_of_ble_eq_true rfl) dX8_taken_60 ?_
    have hf := Option.some.inj hf
    subst hf
    exact g_lret E dX8_taken_63
  · have hf := gn hf c3
    refine g_ldc2 (v := (-1000000000000000000 : Int64)) E (by decide +kernel) dX8_taken_39 ?_
    refine g_iload E 0 dX8_taken_42 rfl ?_
    refine g_i2l E dX8_taken_44 ?_
    refine g_ladd E dX8_taken_45 ?_
    have hf := Option.some.inj hf
    subst hf
    exact g_lret E dX8_taken_46
set_option maxHeartbeats 4000000 in
set_option maxRecDepth 100000 in
theorem fX8_taken_w28 {k : gK} {X : gX} (E : gE k X cX8_taken RX8 wsX8_taken 5 (some .long) rm_fX8_taken) (σ : St) (x1 : Int32) (x2 : Int32) (x3 : Int32) (t1 : Int32) (r : Int64 × St) (hf : fX8_taken_b28 σ x1 x2 x3 t1 = some r) : G k X 5 (some (.long r.1)) (cw k.2.2.2 r.2) (cw k.2.2.2 σ) [(0, .ref (k.2.2.2.1 0)), (1, .int x1), (2, .int x2), (3, .int x3)] [.int t1, .ref (k.2.2.2.1 0)] 28 := by
  unfold fX8_taken_b28 at hf
  refine g_iconst (v := (0 : Int32)) E dX8_taken_28 (by decide) ?_
  exact fX8_taken_w29 E σ x1 x2 x3 t1 (0 : Int32) r hf
set_option maxHeartbeats 4000000 in
set_option maxRecDepth 100000 in
theorem fX8_taken_c (k : gK) (σ : St) (x1 : Int32) (x2 : Int32) (x3 : Int32) (r : Int64 × St) (hf : fX8_taken σ x1 x2 x3 = some r) : MC k yX8_taken wsX8_taken rm_fX8_taken [.ref (k.2.2.2.1 0), .int x1, .int x2, .int x3] (cw k.2.2.2 σ) (some (.long r.1)) (cw k.2.2.2 r.2) := by
  refine MC_of (cc := cX8_taken) (maxL := 5) (ret := (some .long)) (own := RX8) (lvs := [(0, .ref (k.2.2.2.1 0)), (1, .int x1), (2, .int x2), (3, .int x3)]) (by decide) rfl rfl (Nat.le_of_ble_eq_true rfl) rfl (fun X E => ?_)
  unfold fX8_taken at hf
  refine g_aload_n E 0 dX8_taken_0 rfl rfl ?_
  refine g_aload_n E 0 dX8_taken_1 rfl rfl ?_
  refine g_get (C := RX8) (T := TX8) (N := 7) (ci := 8) E 0 1 (.ref (k.2.2.2.1 2)) hi_X8_taken_X8 (cwG0 _ _) rfl (by decide) hk_X8_taken_19 rfl dX8_taken_2 ?_
  refine g_iload_n E 1 dX8_taken_5 rfl rfl ?_
  obtain ⟨q1, hq2, hf⟩ := gb hf
  refine g_callV (C := RX4) (T := TX4) (N := 6) (ci := 4) (As := [.int x1]) (rest := [.ref (k.2.2.2.1 0)]) (n := 1) E 2 (fX4_has_c k σ x1 q1 hq2) gX8_taken_X4_has rfl rfl rfl (by decide +kernel) ⟨Nat.le_of_ble_eq_true rfl, Nat.le_of_ble_eq_true rfl⟩ rfl rfl (Nat.le_of_ble_eq_true rfl) rfl (cwG2 _ _) dX8_taken_6 ?_
  refine g_aload_n E 0 dX8_taken_9 rfl rfl ?_
  refine g_iload_n E 2 dX8_taken_10 rfl rfl ?_
  obtain ⟨q3, hq4, hf⟩ := gb hf
  refine g_callV (C := RX8) (T := TX8) (N := 7) (ci := 8) (As := [.int x2]) (rest := [.int q1.1, .ref (k.2.2.2.1 0)]) (n := 1) E 0 (fX8_areJudges_c k q1.2 x2 q3 hq4) gX8_taken_X8_areJudges rfl rfl rfl (by decide +kernel) ⟨Nat.le_of_ble_eq_true rfl, Nat.le_of_ble_eq_true rfl⟩ rfl rfl (Nat.le_of_ble_eq_true rfl) rfl (cwG0 _ _) dX8_taken_11 ?_
  refine g_if_eq (tgt := 28) E dX8_taken_14 (by decide) (fun c5 => ?_) (fun c5 => ?_)
  · have hf := gp hf c5
    exact fX8_taken_w28 E q3.2 x1 x2 x3 q1.1 r hf
  · have hf := gn hf c5
    refine g_iload_n E 3 dX8_taken_17 rfl rfl ?_
    obtain ⟨q6, hq7, hf⟩ := gb hf
    refine g_callS (As := [.int x3]) (rest := [.int q1.1, .ref (k.2.2.2.1 0)]) (n := 1) E (fX8_isPart_c k q3.2 x3 q6 hq7) gX8_taken_X8_isPart rfl rfl rfl (by decide +kernel) ⟨Nat.le_of_ble_eq_true rfl, Nat.le_of_ble_eq_true rfl⟩ rfl rfl (Nat.le_of_ble_eq_true rfl) dX8_taken_18 ?_
    refine g_if_eq (tgt := 28) E dX8_taken_21 (by decide) (fun c8 => ?_) (fun c8 => ?_)
    · have hf := gp hf c8
      exact fX8_taken_w28 E q6.2 x1 x2 x3 q1.1 r hf
    · have hf := gn hf c8
      refine g_iconst (v := (1 : Int32)) E dX8_taken_24 (by decide) ?_
      refine g_goto (tgt := 29) E dX8_taken_25 (by decide) ?_
      exact fX8_taken_w29 E q6.2 x1 x2 x3 q1.1 (1 : Int32) r hf
theorem hi_X8_lot_X8 : ∀ w ∈ wsX80, w ∈ wsX8_lot := by decide +kernel
theorem hk_X8_lot_49 : Cond.fieldLink RX8 49 "PaperMarks" "odds" "LPaperMarks$Odds;" ∈ wsX8_lot := by decide +kernel
theorem hk_X8_lot_19 : Cond.fieldLink RX8 19 "PaperMarks" "papers" "LPaperMarks$Papers;" ∈ wsX8_lot := by decide +kernel
def rm_fX8_lot : Room := { frames := 16, cells := 0, slots := 0, locals := 928 }
set_option maxHeartbeats 4000000 in
set_option maxRecDepth 100000 in
theorem fX8_lot_w38 {k : gK} {X : gX} (E : gE k X cX8_lot RX8 wsX8_lot 12 (some .long) rm_fX8_lot) (σ : St) (x1 : Int32) (x2 : Int32) (x3 : Int32) (x4 : Int32) (t1 : Int32) (t2 : Int32) (r : Int64 × St) (hf : fX8_lot_b38 σ x1 x2 x3 x4 t1 t2 = some r) : G k X 12 (some (.long r.1)) (cw k.2.2.2 r.2) (cw k.2.2.2 σ) [(0, .ref (k.2.2.2.1 0)), (1, .int x1), (2, .int x2), (3, .int x3), (4, .int x4)] [.int t2, .int t1, .ref (k.2.2.2.1 0)] 38 := by
  unfold fX8_lot_b38 at hf
  obtain ⟨q1, hq2, hf⟩ := gb hf
  refine g_callV (C := RX8) (T := TX8) (N := 7) (ci := 8) (As := [.int t1, .int t2]) (rest := []) (n := 2) E 0 (fX8_refusalOfOdds_c k σ t1 t2 q1 hq2) gX8_lot_X8_refusalOfOdds rfl rfl rfl (by decide +kernel) ⟨Nat.le_of_ble_eq_true rfl, Nat.le_of_ble_eq_true rfl⟩ rfl rfl (Nat.le_of_ble_eq_true rfl) rfl (cwG0 _ _) dX8_lot_38 ?_
  refine g_istore E [(5, .int q1.1), (0, .ref (k.2.2.2.1 0)), (1, .int x1), (2, .int x2), (3, .int x3), (4, .int x4)] dX8_lot_41 (by decide) rfl ?_
  refine g_iload E 0 dX8_lot_43 rfl ?_
  refine g_if_eq (tgt := 56) E dX8_lot_45 (by decide) (fun c3 => ?_) (fun c3 => ?_)
  · have hf := gp hf c3
    refine g_aload_n E 1 dX8_lot_56 rfl rfl ?_
    refine g_get (C := RX8) (T := TX8) (N := 7) (ci := 8) E 0 5 (.ref (k.2.2.2.1 6)) hi_X8_lot_X8 (cwG0 _ _) rfl (by decide) hk_X8_lot_49 rfl dX8_lot_57 ?_
    refine g_iload_n E 2 dX8_lot_60 rfl rfl ?_
    refine g_iload_n E 3 dX8_lot_61 rfl rfl ?_
    obtain ⟨q4, hq5, hf⟩ := gb hf
    refine g_callV (C := RX3) (T := TX3) (N := 5) (ci := 3) (As := [.int x1, .int x2]) (rest := []) (n := 2) E 6 (fX3_waysTaken_c k q1.2 x1 x2 q4 hq5) gX8_lot_X3_waysTaken rfl rfl rfl (by decide +kernel) ⟨Nat.le_of_ble_eq_true rfl, Nat.le_of_ble_eq_true rfl⟩ rfl rfl (Nat.le_of_ble_eq_true rfl) rfl (cwG6 _ _) dX8_lot_62 ?_
    refine g_lstore E [(6, .long q4.1), (5, .int q1.1), (0, .ref (k.2.2.2.1 0)), (1, .int x1), (2, .int x2), (3, .int x3), (4, .int x4)] dX8_lot_65 (by decide) rfl ?_
    refine g_aload_n E 2 dX8_lot_67 rfl rfl ?_
    refine g_get (C := RX8) (T := TX8) (N := 7) (ci := 8) E 0 5 (.ref (k.2.2.2.1 6)) hi_X8_lot_X8 (cwG0 _ _) rfl (by decide) hk_X8_lot_49 rfl dX8_lot_68 ?_
    refine g_iload_n E 3 dX8_lot_71 rfl rfl ?_
    refine g_iload_n E 5 dX8_lot_72 rfl rfl ?_
    obtain ⟨q6, hq7, hf⟩ := gb hf
    refine g_callV (C := RX3) (T := TX3) (N := 5) (ci := 3) (As := [.int x1, .int x3]) (rest := []) (n := 2) E 6 (fX3_waysTaken_c k q4.2 x1 x3 q6 hq7) gX8_lot_X3_waysTaken rfl rfl rfl (by decide +kernel) ⟨Nat.le_of_ble_eq_true rfl, Nat.le_of_ble_eq_true rfl⟩ rfl rfl (Nat.le_of_ble_eq_true rfl) rfl (cwG6 _ _) dX8_lot_73 ?_
    refine g_lstore E [(8, .long q6.1), (6, .long q4.1), (5, .int q1.1), (0, .ref (k.2.2.2.1 0)), (1, .int x1), (2, .int x2), (3, .int x3), (4, .int x4)] dX8_lot_76 (by decide) rfl ?_
    refine g_lload E 1 dX8_lot_78 rfl ?_
    refine g_ldc2 (v := (16384 : Int64)) E (by decide +kernel) dX8_lot_80 ?_
    refine g_lload E 0 dX8_lot_83 rfl ?_
    refine g_lsub E dX8_lot_85 ?_
    refine g_lmul E dX8_lot_86 ?_
    refine g_lload E 0 dX8_lot_87 rfl ?_
    refine g_ldc2 (v := (16384 : Int64)) E (by decide +kernel) dX8_lot_89 ?_
    refine g_lload E 1 dX8_lot_92 rfl ?_
    refine g_lsub E dX8_lot_94 ?_
    refine g_lmul E dX8_lot_95 ?_
    refine g_ladd E dX8_lot_96 ?_
    refine g_lstore E [(10, .long (((q4.1 * (((16384 : Int64) - q6.1)))) + ((q6.1 * (((16384 : Int64) - q4.1)))))), (8, .long q6.1), (6, .long q4.1), (5, .int q1.1), (0, .ref (k.2.2.2.1 0)), (1, .int x1), (2, .int x2), (3, .int x3), (4, .int x4)] dX8_lot_97 (by decide) rfl ?_
    refine g_lload E 0 dX8_lot_99 rfl ?_
    refine g_ldc2 (v := (268435456 : Int64)) E (by decide +kernel) dX8_lot_101 ?_
    refine g_iload E 8 dX8_lot_104 rfl ?_
    obtain ⟨q8, hq9, hf⟩ := gb hf
    refine g_callS (As := [.long (((q4.1 * (((16384 : Int64) - q6.1)))) + ((q6.1 * (((16384 : Int64) - q4.1))))), .long (268435456 : Int64), .int x4]) (rest := []) (n := 3) E (fX8_tell_c k q6.2 ((((q4.1 * (((16384 : Int64) - q6.1)))) + ((q6.1 * (((16384 : Int64) - q4.1)))))) (268435456 : Int64) x4 q8 hq9) gX8_lot_X8_tell rfl rfl rfl (by decide +kernel) ⟨Nat.le_of_ble_eq_true rfl, Nat.le_of_ble_eq_true rfl⟩ rfl rfl (Nat.le_of_ble_eq_true rfl) dX8_lot_106 ?_
    have hf := Option.some.inj hf
    subst hf
    exact g_lret E dX8_lot_109
  · have hf := gn hf c3
    refine g_ldc2 (v := (-1000000000000000000 : Int64)) E (by decide +kernel) dX8_lot_48 ?_
    refine g_iload E 0 dX8_lot_51 rfl ?_
    refine g_i2l E dX8_lot_53 ?_
    refine g_ladd E dX8_lot_54 ?_
    have hf := Option.some.inj hf
    subst hf
    exact g_lret E dX8_lot_55
set_option maxHeartbeats 4000000 in
set_option maxRecDepth 100000 in
theorem fX8_lot_w37 {k : gK} {X : gX} (E : gE k X cX8_lot RX8 wsX8_lot 12 (some .long) rm_fX8_lot) (σ : St) (x1 : Int32) (x2 : Int32) (x3 : Int32) (x4 : Int32) (t1 : Int32) (r : Int64 × St) (hf : fX8_lot_b37 σ x1 x2 x3 x4 t1 = some r) : G k X 12 (some (.long r.1)) (cw k.2.2.2 r.2) (cw k.2.2.2 σ) [(0, .ref (k.2.2.2.1 0)), (1, .int x1), (2, .int x2), (3, .int x3), (4, .int x4)] [.int t1, .ref (k.2.2.2.1 0)] 37 := by
  unfold fX8_lot_b37 at hf
  refine g_iconst (v := (0 : Int32)) E dX8_lot_37 (by decide) ?_
  exact fX8_lot_w38 E σ x1 x2 x3 x4 t1 (0 : Int32) r hf
set_option maxHeartbeats 4000000 in
set_option maxRecDepth 100000 in
theorem fX8_lot_c (k : gK) (σ : St) (x1 : Int32) (x2 : Int32) (x3 : Int32) (x4 : Int32) (r : Int64 × St) (hf : fX8_lot σ x1 x2 x3 x4 = some r) : MC k yX8_lot wsX8_lot rm_fX8_lot [.ref (k.2.2.2.1 0), .int x1, .int x2, .int x3, .int x4] (cw k.2.2.2 σ) (some (.long r.1)) (cw k.2.2.2 r.2) := by
  refine MC_of (cc := cX8_lot) (maxL := 12) (ret := (some .long)) (own := RX8) (lvs := [(0, .ref (k.2.2.2.1 0)), (1, .int x1), (2, .int x2), (3, .int x3), (4, .int x4)]) (by decide) rfl rfl (Nat.le_of_ble_eq_true rfl) rfl (fun X E => ?_)
  unfold fX8_lot at hf
  refine g_aload_n E 0 dX8_lot_0 rfl rfl ?_
  refine g_aload_n E 0 dX8_lot_1 rfl rfl ?_
  refine g_get (C := RX8) (T := TX8) (N := 7) (ci := 8) E 0 1 (.ref (k.2.2.2.1 2)) hi_X8_lot_X8 (cwG0 _ _) rfl (by decide) hk_X8_lot_19 rfl dX8_lot_2 ?_
  refine g_iload_n E 1 dX8_lot_5 rfl rfl ?_
  obtain ⟨q1, hq2, hf⟩ := gb hf
  refine g_callV (C := RX4) (T := TX4) (N := 6) (ci := 4) (As := [.int x1]) (rest := [.ref (k.2.2.2.1 0)]) (n := 1) E 2 (fX4_has_c k σ x1 q1 hq2) gX8_lot_X4_has rfl rfl rfl (by decide +kernel) ⟨Nat.le_of_ble_eq_true rfl, Nat.le_of_ble_eq_true rfl⟩ rfl rfl (Nat.le_of_ble_eq_true rfl) rfl (cwG2 _ _) dX8_lot_6 ?_
  refine g_aload_n E 0 dX8_lot_9 rfl rfl ?_
  refine g_iload_n E 2 dX8_lot_10 rfl rfl ?_
  obtain ⟨q3, hq4, hf⟩ := gb hf
  refine g_callV (C := RX8) (T := TX8) (N := 7) (ci := 8) (As := [.int x2]) (rest := [.int q1.1, .ref (k.2.2.2.1 0)]) (n := 1) E 0 (fX8_areJudges_c k q1.2 x2 q3 hq4) gX8_lot_X8_areJudges rfl rfl rfl (by decide +kernel) ⟨Nat.le_of_ble_eq_true rfl, Nat.le_of_ble_eq_true rfl⟩ rfl rfl (Nat.le_of_ble_eq_true rfl) rfl (cwG0 _ _) dX8_lot_11 ?_
  refine g_if_eq (tgt := 37) E dX8_lot_14 (by decide) (fun c5 => ?_) (fun c5 => ?_)
  · have hf := gp hf c5
    exact fX8_lot_w37 E q3.2 x1 x2 x3 x4 q1.1 r hf
  · have hf := gn hf c5
    refine g_aload_n E 0 dX8_lot_17 rfl rfl ?_
    refine g_iload_n E 3 dX8_lot_18 rfl rfl ?_
    obtain ⟨q6, hq7, hf⟩ := gb hf
    refine g_callV (C := RX8) (T := TX8) (N := 7) (ci := 8) (As := [.int x3]) (rest := [.int q1.1, .ref (k.2.2.2.1 0)]) (n := 1) E 0 (fX8_areJudges_c k q3.2 x3 q6 hq7) gX8_lot_X8_areJudges rfl rfl rfl (by decide +kernel) ⟨Nat.le_of_ble_eq_true rfl, Nat.le_of_ble_eq_true rfl⟩ rfl rfl (Nat.le_of_ble_eq_true rfl) rfl (cwG0 _ _) dX8_lot_19 ?_
    refine g_if_eq (tgt := 37) E dX8_lot_22 (by decide) (fun c8 => ?_) (fun c8 => ?_)
    · have hf := gp hf c8
      exact fX8_lot_w37 E q6.2 x1 x2 x3 x4 q1.1 r hf
    · have hf := gn hf c8
      refine g_iload E 4 dX8_lot_25 rfl ?_
      obtain ⟨q9, hq10, hf⟩ := gb hf
      refine g_callS (As := [.int x4]) (rest := [.int q1.1, .ref (k.2.2.2.1 0)]) (n := 1) E (fX8_isPart_c k q6.2 x4 q9 hq10) gX8_lot_X8_isPart rfl rfl rfl (by decide +kernel) ⟨Nat.le_of_ble_eq_true rfl, Nat.le_of_ble_eq_true rfl⟩ rfl rfl (Nat.le_of_ble_eq_true rfl) dX8_lot_27 ?_
      refine g_if_eq (tgt := 37) E dX8_lot_30 (by decide) (fun c11 => ?_) (fun c11 => ?_)
      · have hf := gp hf c11
        exact fX8_lot_w37 E q9.2 x1 x2 x3 x4 q1.1 r hf
      · have hf := gn hf c11
        refine g_iconst (v := (1 : Int32)) E dX8_lot_33 (by decide) ?_
        refine g_goto (tgt := 38) E dX8_lot_34 (by decide) ?_
        exact fX8_lot_w38 E q9.2 x1 x2 x3 x4 q1.1 (1 : Int32) r hf
theorem hi_X3_waysRight_X3 : ∀ w ∈ wsX30, w ∈ wsX3_waysRight := by decide +kernel
theorem hi_X3_waysRight_X4 : ∀ w ∈ wsX40, w ∈ wsX3_waysRight := by decide +kernel
theorem hk_X3_waysRight_26 : Cond.fieldLink RX3 26 "PaperMarks$Odds" "papers" "LPaperMarks$Papers;" ∈ wsX3_waysRight := by decide +kernel
theorem hk_X3_waysRight_80 : Cond.fieldLink RX3 80 "PaperMarks$Papers" "count" "I" ∈ wsX3_waysRight := by decide +kernel
theorem hk_X3_waysRight_57 : Cond.fieldLink RX3 57 "PaperMarks$Papers" "worths" "[I" ∈ wsX3_waysRight := by decide +kernel
def rm_fX3_waysRight : Room := { frames := 16, cells := 0, slots := 0, locals := 928 }
set_option maxHeartbeats 4000000 in
set_option maxRecDepth 100000 in
theorem fX3_waysRight_w52 {k : gK} {X : gX} (E : gE k X cX3_waysRight RX3 wsX3_waysRight 8 (some .long) rm_fX3_waysRight) (rc5 : St → Int32 → Int32 → Int64 → Int32 → Option (Int64 × St)) (hrc5 : ∀ (σ : St) (x1 : Int32) (x2 : Int32) (x3 : Int64) (x5 : Int32) (r : Int64 × St), rc5 σ x1 x2 x3 x5 = some r → G k X 8 (some (.long r.1)) (cw k.2.2.2 r.2) (cw k.2.2.2 σ) [(0, .ref (k.2.2.2.1 6)), (1, .int x1), (2, .int x2), (3, .long x3), (5, .int x5)] [] 5) (σ : St) (x1 : Int32) (x2 : Int32) (x5 : Int32) (t0 : Int64) (t1 : Int64) (r : Int64 × St) (hf : fX3_waysRight_b52 rc5 σ x1 x2 x5 t0 t1 = some r) : G k X 8 (some (.long r.1)) (cw k.2.2.2 r.2) (cw k.2.2.2 σ) [(0, .ref (k.2.2.2.1 6)), (1, .int x1), (2, .int x2), (5, .int x5)] [.long t1, .long t0] 52 := by
  unfold fX3_waysRight_b52 at hf
  refine g_ladd E dX3_waysRight_52 ?_
  refine g_lstore_n E [(3, .long (t0 + t1)), (0, .ref (k.2.2.2.1 6)), (1, .int x1), (2, .int x2), (5, .int x5)] dX3_waysRight_53 rfl (by decide) rfl ?_
  refine g_iinc E 4 [(5, .int (x5 + (1 : Int32))), (3, .long (t0 + t1)), (0, .ref (k.2.2.2.1 6)), (1, .int x1), (2, .int x2)] (x5 + (1 : Int32)) dX3_waysRight_54 rfl (by rfl) (by decide) rfl ?_
  refine g_goto (tgt := 5) E dX3_waysRight_57 (by decide) ?_
  exact g_sub [2, 3, 4, 1, 0] rfl (hrc5 σ x1 x2 (t0 + t1) (x5 + (1 : Int32)) r hf)
set_option maxHeartbeats 4000000 in
set_option maxRecDepth 100000 in
theorem fX3_waysRight_w5 {k : gK} {X : gX} (E : gE k X cX3_waysRight RX3 wsX3_waysRight 8 (some .long) rm_fX3_waysRight) (rc5 : St → Int32 → Int32 → Int64 → Int32 → Option (Int64 × St)) (hrc5 : ∀ (σ : St) (x1 : Int32) (x2 : Int32) (x3 : Int64) (x5 : Int32) (r : Int64 × St), rc5 σ x1 x2 x3 x5 = some r → G k X 8 (some (.long r.1)) (cw k.2.2.2 r.2) (cw k.2.2.2 σ) [(0, .ref (k.2.2.2.1 6)), (1, .int x1), (2, .int x2), (3, .long x3), (5, .int x5)] [] 5) (σ : St) (x1 : Int32) (x2 : Int32) (x3 : Int64) (x5 : Int32) (r : Int64 × St) (hf : fX3_waysRight_b5 rc5 σ x1 x2 x3 x5 = some r) : G k X 8 (some (.long r.1)) (cw k.2.2.2 r.2) (cw k.2.2.2 σ) [(0, .ref (k.2.2.2.1 6)), (1, .int x1), (2, .int x2), (3, .long x3), (5, .int x5)] [] 5 := by
  unfold fX3_waysRight_b5 at hf
  refine g_iload E 4 dX3_waysRight_5 rfl ?_
  refine g_aload_n E 0 dX3_waysRight_7 rfl rfl ?_
  refine g_get (C := RX3) (T := TX3) (N := 5) (ci := 3) E 6 1 (.ref (k.2.2.2.1 2)) hi_X3_waysRight_X3 (cwG6 _ _) rfl (by decide) hk_X3_waysRight_26 rfl dX3_waysRight_8 ?_
  refine g_get (C := RX4) (T := TX4) (N := 6) (ci := 4) E 2 5 (.int (σ.2.1 1)) hi_X3_waysRight_X4 (cwG2 _ _) rfl (by decide) hk_X3_waysRight_80 rfl dX3_waysRight_11 ?_
  refine g_icmp_ge (tgt := 60) E dX3_waysRight_14 (by decide) (fun c1 => ?_) (fun c1 => ?_)
  · have hf := gp hf c1
    refine g_lload_n E 3 dX3_waysRight_60 rfl rfl ?_
    have hf := Option.some.inj hf
    subst hf
    exact g_lret E dX3_waysRight_61
  · have hf := gn hf c1
    refine g_aload_n E 0 dX3_waysRight_17 rfl rfl ?_
    refine g_iload E 4 dX3_waysRight_18 rfl ?_
    refine g_iload_n E 2 dX3_waysRight_20 rfl rfl ?_
    obtain ⟨q2, hq3, hf⟩ := gb hf
    refine g_callV (C := RX3) (T := TX3) (N := 5) (ci := 3) (As := [.int x5, .int x2]) (rest := []) (n := 2) E 6 (fX3_waysTaken_c k σ x5 x2 q2 hq3) gX3_waysRight_X3_waysTaken rfl rfl rfl (by decide +kernel) ⟨Nat.le_of_ble_eq_true rfl, Nat.le_of_ble_eq_true rfl⟩ rfl rfl (Nat.le_of_ble_eq_true rfl) rfl (cwG6 _ _) dX3_waysRight_21 ?_
    refine g_lstore E [(6, .long q2.1), (0, .ref (k.2.2.2.1 6)), (1, .int x1), (2, .int x2), (3, .long x3), (5, .int x5)] dX3_waysRight_24 (by decide) rfl ?_
    refine g_lload_n E 4 dX3_waysRight_26 rfl rfl ?_
    refine g_aload_n E 1 dX3_waysRight_27 rfl rfl ?_
    refine g_get (C := RX3) (T := TX3) (N := 5) (ci := 3) E 6 1 (.ref (k.2.2.2.1 2)) hi_X3_waysRight_X3 (cwG6 _ _) rfl (by decide) hk_X3_waysRight_26 rfl dX3_waysRight_28 ?_
    refine g_get (C := RX4) (T := TX4) (N := 6) (ci := 4) E 2 0 (.ref (k.2.2.2.1 14)) hi_X3_waysRight_X4 (cwG2 _ _) rfl (by decide) hk_X3_waysRight_57 rfl dX3_waysRight_31 ?_
    refine g_iload E 5 dX3_waysRight_34 rfl ?_
    obtain ⟨hi4, hf⟩ := gd hf
    refine g_iald E 14 (q2.2.1 14) (cwG14 _ _) hi4 dX3_waysRight_36 ?_
    refine g_iload_n E 2 dX3_waysRight_37 rfl rfl ?_
    refine g_icmp_lt (tgt := 46) E dX3_waysRight_38 (by decide) (fun c5 => ?_) (fun c5 => ?_)
    · have hf := gp hf c5
      refine g_ldc2 (v := (16384 : Int64)) E (by decide +kernel) dX3_waysRight_46 ?_
      refine g_lload E 0 dX3_waysRight_49 rfl ?_
      refine g_lsub E dX3_waysRight_51 ?_
      exact g_sub [1, 2, 3, 5] rfl (fX3_waysRight_w52 E rc5 hrc5 q2.2 x1 x2 x5 x3 ((16384 : Int64) - q2.1) r hf)
    · have hf := gn hf c5
      refine g_lload E 0 dX3_waysRight_41 rfl ?_
      refine g_goto (tgt := 52) E dX3_waysRight_43 (by decide) ?_
      exact g_sub [1, 2, 3, 5] rfl (fX3_waysRight_w52 E rc5 hrc5 q2.2 x1 x2 x5 x3 q2.1 r hf)
theorem fX3_waysRight_v5 {k : gK} {X : gX} (E : gE k X cX3_waysRight RX3 wsX3_waysRight 8 (some .long) rm_fX3_waysRight) : ∀ (n : Nat) (σ : St) (x1 : Int32) (x2 : Int32) (x3 : Int64) (x5 : Int32) (r : Int64 × St), fX3_waysRight_l5 n σ x1 x2 x3 x5 = some r → G k X 8 (some (.long r.1)) (cw k.2.2.2 r.2) (cw k.2.2.2 σ) [(0, .ref (k.2.2.2.1 6)), (1, .int x1), (2, .int x2), (3, .long x3), (5, .int x5)] [] 5 := by
  intro n
  induction n with
  | zero => intro σ x1 x2 x3 x5 r hf; cases hf
  | succ n ih => intro σ x1 x2 x3 x5 r hf; exact fX3_waysRight_w5 E (fX3_waysRight_l5 n) ih σ x1 x2 x3 x5 r hf
set_option maxHeartbeats 4000000 in
set_option maxRecDepth 100000 in
theorem fX3_waysRight_c (k : gK) (σ : St) (x1 : Int32) (x2 : Int32) (r : Int64 × St) (hf : fX3_waysRight σ x1 x2 = some r) : MC k yX3_waysRight wsX3_waysRight rm_fX3_waysRight [.ref (k.2.2.2.1 6), .int x1, .int x2] (cw k.2.2.2 σ) (some (.long r.1)) (cw k.2.2.2 r.2) := by
  refine MC_of (cc := cX3_waysRight) (maxL := 8) (ret := (some .long)) (own := RX3) (lvs := [(0, .ref (k.2.2.2.1 6)), (1, .int x1), (2, .int x2)]) (by decide) rfl rfl (Nat.le_of_ble_eq_true rfl) rfl (fun X E => ?_)
  unfold fX3_waysRight at hf
  refine g_lconst (v := (0 : Int64)) E dX3_waysRight_0 (by decide) ?_
  refine g_lstore_n E [(3, .long (0 : Int64)), (0, .ref (k.2.2.2.1 6)), (1, .int x1), (2, .int x2)] dX3_waysRight_1 rfl (by decide) rfl ?_
  refine g_iconst (v := (0 : Int32)) E dX3_waysRight_2 (by decide) ?_
  refine g_istore E [(5, .int (0 : Int32)), (3, .long (0 : Int64)), (0, .ref (k.2.2.2.1 6)), (1, .int x1), (2, .int x2)] dX3_waysRight_3 (by decide) rfl ?_
  exact g_sub [2, 3, 4, 1, 0] rfl (fX3_waysRight_v5 E gF σ x1 x2 (0 : Int64) (0 : Int32) r hf)
def rm_fX8_isBar : Room := { frames := 1, cells := 0, slots := 0, locals := 22 }
set_option maxHeartbeats 4000000 in
set_option maxRecDepth 100000 in
theorem fX8_isBar_c (k : gK) (σ : St) (x0 : Int32) (r : Int32 × St) (hf : fX8_isBar σ x0 = some r) : MC k yX8_isBar wsX8_isBar rm_fX8_isBar [.int x0] (cw k.2.2.2 σ) (some (.int r.1)) (cw k.2.2.2 r.2) := by
  refine MC_of (cc := cX8_isBar) (maxL := 1) (ret := (some .boolean)) (own := RX8) (lvs := [(0, .int x0)]) (by decide) rfl rfl (Nat.le_of_ble_eq_true rfl) rfl (fun X E => ?_)
  unfold fX8_isBar at hf
  refine g_iload_n E 0 dX8_isBar_0 rfl rfl ?_
  refine g_iconst (v := (1 : Int32)) E dX8_isBar_1 (by decide) ?_
  refine g_iconst (v := (5 : Int32)) E dX8_isBar_2 (by decide) ?_
  obtain ⟨q1, hq2, hf⟩ := gb hf
  refine g_callS (As := [.int x0, .int (1 : Int32), .int (5 : Int32)]) (rest := []) (n := 3) E (fX8_within_c k σ x0 (1 : Int32) (5 : Int32) q1 hq2) gX8_isBar_X8_within rfl rfl rfl (by decide +kernel) ⟨Nat.le_of_ble_eq_true rfl, Nat.le_of_ble_eq_true rfl⟩ rfl rfl (Nat.le_of_ble_eq_true rfl) dX8_isBar_3 ?_
  obtain ⟨hv3, hf⟩ := gd hf
  have hf := Option.some.inj hf
  subst hf
  exact g_zret E hv3 dX8_isBar_6
theorem hi_X8_right_X8 : ∀ w ∈ wsX80, w ∈ wsX8_right := by decide +kernel
theorem hk_X8_right_49 : Cond.fieldLink RX8 49 "PaperMarks" "odds" "LPaperMarks$Odds;" ∈ wsX8_right := by decide +kernel
def rm_fX8_right : Room := { frames := 17, cells := 0, slots := 0, locals := 955 }
set_option maxHeartbeats 4000000 in
set_option maxRecDepth 100000 in
theorem fX8_right_w29 {k : gK} {X : gX} (E : gE k X cX8_right RX8 wsX8_right 5 (some .long) rm_fX8_right) (σ : St) (x1 : Int32) (x2 : Int32) (x3 : Int32) (t1 : Int32) (t2 : Int32) (r : Int64 × St) (hf : fX8_right_b29 σ x1 x2 x3 t1 t2 = some r) : G k X 5 (some (.long r.1)) (cw k.2.2.2 r.2) (cw k.2.2.2 σ) [(0, .ref (k.2.2.2.1 0)), (1, .int x1), (2, .int x2), (3, .int x3)] [.int t2, .int t1, .ref (k.2.2.2.1 0)] 29 := by
  unfold fX8_right_b29 at hf
  obtain ⟨q1, hq2, hf⟩ := gb hf
  refine g_callV (C := RX8) (T := TX8) (N := 7) (ci := 8) (As := [.int t1, .int t2]) (rest := []) (n := 2) E 0 (fX8_refusalOfOdds_c k σ t1 t2 q1 hq2) gX8_right_X8_refusalOfOdds rfl rfl rfl (by decide +kernel) ⟨Nat.le_of_ble_eq_true rfl, Nat.le_of_ble_eq_true rfl⟩ rfl rfl (Nat.le_of_ble_eq_true rfl) rfl (cwG0 _ _) dX8_right_29 ?_
  refine g_istore E [(4, .int q1.1), (0, .ref (k.2.2.2.1 0)), (1, .int x1), (2, .int x2), (3, .int x3)] dX8_right_32 (by decide) rfl ?_
  refine g_iload E 0 dX8_right_34 rfl ?_
  refine g_if_eq (tgt := 47) E dX8_right_36 (by decide) (fun c3 => ?_) (fun c3 => ?_)
  · have hf := gp hf c3
    refine g_aload_n E 1 dX8_right_47 rfl rfl ?_
    refine g_get (C := RX8) (T := TX8) (N := 7) (ci := 8) E 0 5 (.ref (k.2.2.2.1 6)) hi_X8_right_X8 (cwG0 _ _) rfl (by decide) hk_X8_right_49 rfl dX8_right_48 ?_
    refine g_iload_n E 2 dX8_right_51 rfl rfl ?_
    refine g_iload_n E 3 dX8_right_52 rfl rfl ?_
    obtain ⟨q4, hq5, hf⟩ := gb hf
    refine g_callV (C := RX3) (T := TX3) (N := 5) (ci := 3) (As := [.int x1, .int x2]) (rest := []) (n := 2) E 6 (fX3_waysRight_c k q1.2 x1 x2 q4 hq5) gX8_right_X3_waysRight rfl rfl rfl (by decide +kernel) ⟨Nat.le_of_ble_eq_true rfl, Nat.le_of_ble_eq_true rfl⟩ rfl rfl (Nat.le_of_ble_eq_true rfl) rfl (cwG6 _ _) dX8_right_53 ?_
    refine g_ldc2 (v := (16384 : Int64)) E (by decide +kernel) dX8_right_56 ?_
    refine g_iload_n E 4 dX8_right_59 rfl rfl ?_
    obtain ⟨q6, hq7, hf⟩ := gb hf
    refine g_callS (As := [.long q4.1, .long (16384 : Int64), .int x3]) (rest := []) (n := 3) E (fX8_tell_c k q4.2 q4.1 (16384 : Int64) x3 q6 hq7) gX8_right_X8_tell rfl rfl rfl (by decide +kernel) ⟨Nat.le_of_ble_eq_true rfl, Nat.le_of_ble_eq_true rfl⟩ rfl rfl (Nat.le_of_ble_eq_true rfl) dX8_right_60 ?_
    have hf := Option.some.inj hf
    subst hf
    exact g_lret E dX8_right_63
  · have hf := gn hf c3
    refine g_ldc2 (v := (-1000000000000000000 : Int64)) E (by decide +kernel) dX8_right_39 ?_
    refine g_iload E 0 dX8_right_42 rfl ?_
    refine g_i2l E dX8_right_44 ?_
    refine g_ladd E dX8_right_45 ?_
    have hf := Option.some.inj hf
    subst hf
    exact g_lret E dX8_right_46
set_option maxHeartbeats 4000000 in
set_option maxRecDepth 100000 in
theorem fX8_right_w28 {k : gK} {X : gX} (E : gE k X cX8_right RX8 wsX8_right 5 (some .long) rm_fX8_right) (σ : St) (x1 : Int32) (x2 : Int32) (x3 : Int32) (t1 : Int32) (r : Int64 × St) (hf : fX8_right_b28 σ x1 x2 x3 t1 = some r) : G k X 5 (some (.long r.1)) (cw k.2.2.2 r.2) (cw k.2.2.2 σ) [(0, .ref (k.2.2.2.1 0)), (1, .int x1), (2, .int x2), (3, .int x3)] [.int t1, .ref (k.2.2.2.1 0)] 28 := by
  unfold fX8_right_b28 at hf
  refine g_iconst (v := (0 : Int32)) E dX8_right_28 (by decide) ?_
  exact fX8_right_w29 E σ x1 x2 x3 t1 (0 : Int32) r hf
set_option maxHeartbeats 4000000 in
set_option maxRecDepth 100000 in
theorem fX8_right_c (k : gK) (σ : St) (x1 : Int32) (x2 : Int32) (x3 : Int32) (r : Int64 × St) (hf : fX8_right σ x1 x2 x3 = some r) : MC k yX8_right wsX8_right rm_fX8_right [.ref (k.2.2.2.1 0), .int x1, .int x2, .int x3] (cw k.2.2.2 σ) (some (.long r.1)) (cw k.2.2.2 r.2) := by
  refine MC_of (cc := cX8_right) (maxL := 5) (ret := (some .long)) (own := RX8) (lvs := [(0, .ref (k.2.2.2.1 0)), (1, .int x1), (2, .int x2), (3, .int x3)]) (by decide) rfl rfl (Nat.le_of_ble_eq_true rfl) rfl (fun X E => ?_)
  unfold fX8_right at hf
  refine g_aload_n E 0 dX8_right_0 rfl rfl ?_
  refine g_iconst (v := (1 : Int32)) E dX8_right_1 (by decide) ?_
  refine g_iload_n E 1 dX8_right_2 rfl rfl ?_
  obtain ⟨q1, hq2, hf⟩ := gb hf
  refine g_callS (As := [.int x1]) (rest := [.int (1 : Int32), .ref (k.2.2.2.1 0)]) (n := 1) E (fX8_isBar_c k σ x1 q1 hq2) gX8_right_X8_isBar rfl rfl rfl (by decide +kernel) ⟨Nat.le_of_ble_eq_true rfl, Nat.le_of_ble_eq_true rfl⟩ rfl rfl (Nat.le_of_ble_eq_true rfl) dX8_right_3 ?_
  refine g_if_eq (tgt := 28) E dX8_right_6 (by decide) (fun c3 => ?_) (fun c3 => ?_)
  · have hf := gp hf c3
    exact fX8_right_w28 E q1.2 x1 x2 x3 (1 : Int32) r hf
  · have hf := gn hf c3
    refine g_aload_n E 0 dX8_right_9 rfl rfl ?_
    refine g_iload_n E 2 dX8_right_10 rfl rfl ?_
    obtain ⟨q4, hq5, hf⟩ := gb hf
    refine g_callV (C := RX8) (T := TX8) (N := 7) (ci := 8) (As := [.int x2]) (rest := [.int (1 : Int32), .ref (k.2.2.2.1 0)]) (n := 1) E 0 (fX8_areJudges_c k q1.2 x2 q4 hq5) gX8_right_X8_areJudges rfl rfl rfl (by decide +kernel) ⟨Nat.le_of_ble_eq_true rfl, Nat.le_of_ble_eq_true rfl⟩ rfl rfl (Nat.le_of_ble_eq_true rfl) rfl (cwG0 _ _) dX8_right_11 ?_
    refine g_if_eq (tgt := 28) E dX8_right_14 (by decide) (fun c6 => ?_) (fun c6 => ?_)
    · have hf := gp hf c6
      exact fX8_right_w28 E q4.2 x1 x2 x3 (1 : Int32) r hf
    · have hf := gn hf c6
      refine g_iload_n E 3 dX8_right_17 rfl rfl ?_
      obtain ⟨q7, hq8, hf⟩ := gb hf
      refine g_callS (As := [.int x3]) (rest := [.int (1 : Int32), .ref (k.2.2.2.1 0)]) (n := 1) E (fX8_isPart_c k q4.2 x3 q7 hq8) gX8_right_X8_isPart rfl rfl rfl (by decide +kernel) ⟨Nat.le_of_ble_eq_true rfl, Nat.le_of_ble_eq_true rfl⟩ rfl rfl (Nat.le_of_ble_eq_true rfl) dX8_right_18 ?_
      refine g_if_eq (tgt := 28) E dX8_right_21 (by decide) (fun c9 => ?_) (fun c9 => ?_)
      · have hf := gp hf c9
        exact fX8_right_w28 E q7.2 x1 x2 x3 (1 : Int32) r hf
      · have hf := gn hf c9
        refine g_iconst (v := (1 : Int32)) E dX8_right_24 (by decide) ?_
        refine g_goto (tgt := 29) E dX8_right_25 (by decide) ?_
        exact fX8_right_w29 E q7.2 x1 x2 x3 (1 : Int32) (1 : Int32) r hf
theorem hi_X8_more_X8 : ∀ w ∈ wsX80, w ∈ wsX8_more := by decide +kernel
theorem hk_X8_more_49 : Cond.fieldLink RX8 49 "PaperMarks" "odds" "LPaperMarks$Odds;" ∈ wsX8_more := by decide +kernel
theorem hk_X8_more_10 : Cond.fieldLink RX8 10 "PaperMarks" "judges" "LPaperMarks$Judges;" ∈ wsX8_more := by decide +kernel
def rm_fX8_more : Room := { frames := 17, cells := 0, slots := 0, locals := 955 }
set_option maxHeartbeats 4000000 in
set_option maxRecDepth 100000 in
theorem fX8_more_w61 {k : gK} {X : gX} (E : gE k X cX8_more RX8 wsX8_more 10 (some .long) rm_fX8_more) (σ : St) (x1 : Int32) (x2 : Int32) (x3 : Int32) (x4 : Int32) (t1 : Int32) (t2 : Int32) (r : Int64 × St) (hf : fX8_more_b61 σ x1 x2 x3 x4 t1 t2 = some r) : G k X 10 (some (.long r.1)) (cw k.2.2.2 r.2) (cw k.2.2.2 σ) [(0, .ref (k.2.2.2.1 0)), (1, .int x1), (2, .int x2), (3, .int x3), (4, .int x4)] [.int t2, .int t1, .ref (k.2.2.2.1 0)] 61 := by
  unfold fX8_more_b61 at hf
  obtain ⟨q1, hq2, hf⟩ := gb hf
  refine g_callV (C := RX8) (T := TX8) (N := 7) (ci := 8) (As := [.int t1, .int t2]) (rest := []) (n := 2) E 0 (fX8_refusalOfOdds_c k σ t1 t2 q1 hq2) gX8_more_X8_refusalOfOdds rfl rfl rfl (by decide +kernel) ⟨Nat.le_of_ble_eq_true rfl, Nat.le_of_ble_eq_true rfl⟩ rfl rfl (Nat.le_of_ble_eq_true rfl) rfl (cwG0 _ _) dX8_more_61 ?_
  refine g_istore E [(7, .int q1.1), (0, .ref (k.2.2.2.1 0)), (1, .int x1), (2, .int x2), (3, .int x3), (4, .int x4)] dX8_more_64 (by decide) rfl ?_
  refine g_iload E 0 dX8_more_66 rfl ?_
  refine g_if_eq (tgt := 79) E dX8_more_68 (by decide) (fun c3 => ?_) (fun c3 => ?_)
  · have hf := gp hf c3
    refine g_aload_n E 1 dX8_more_79 rfl rfl ?_
    refine g_get (C := RX8) (T := TX8) (N := 7) (ci := 8) E 0 5 (.ref (k.2.2.2.1 6)) hi_X8_more_X8 (cwG0 _ _) rfl (by decide) hk_X8_more_49 rfl dX8_more_80 ?_
    refine g_iload_n E 3 dX8_more_83 rfl rfl ?_
    refine g_iload_n E 4 dX8_more_84 rfl rfl ?_
    refine g_iconst (v := (1 : Int32)) E dX8_more_85 (by decide) ?_
    refine g_iload_n E 2 dX8_more_86 rfl rfl ?_
    refine g_ishl E dX8_more_87 ?_
    refine g_ior E dX8_more_88 ?_
    obtain ⟨q4, hq5, hf⟩ := gb hf
    refine g_callV (C := RX3) (T := TX3) (N := 5) (ci := 3) (As := [.int x2, .int (x3 ||| (((1 : Int32) <<< (x1 &&& 31))))]) (rest := []) (n := 2) E 6 (fX3_waysRight_c k q1.2 x2 ((x3 ||| (((1 : Int32) <<< (x1 &&& 31))))) q4 hq5) gX8_more_X3_waysRight rfl rfl rfl (by decide +kernel) ⟨Nat.le_of_ble_eq_true rfl, Nat.le_of_ble_eq_true rfl⟩ rfl rfl (Nat.le_of_ble_eq_true rfl) rfl (cwG6 _ _) dX8_more_89 ?_
    refine g_lstore E [(8, .long q4.1), (7, .int q1.1), (0, .ref (k.2.2.2.1 0)), (1, .int x1), (2, .int x2), (3, .int x3), (4, .int x4)] dX8_more_92 (by decide) rfl ?_
    refine g_lload E 0 dX8_more_94 rfl ?_
    refine g_aload_n E 2 dX8_more_96 rfl rfl ?_
    refine g_get (C := RX8) (T := TX8) (N := 7) (ci := 8) E 0 5 (.ref (k.2.2.2.1 6)) hi_X8_more_X8 (cwG0 _ _) rfl (by decide) hk_X8_more_49 rfl dX8_more_97 ?_
    refine g_iload_n E 4 dX8_more_100 rfl rfl ?_
    refine g_iload_n E 5 dX8_more_101 rfl rfl ?_
    obtain ⟨q6, hq7, hf⟩ := gb hf
    refine g_callV (C := RX3) (T := TX3) (N := 5) (ci := 3) (As := [.int x2, .int x3]) (rest := [.long q4.1]) (n := 2) E 6 (fX3_waysRight_c k q4.2 x2 x3 q6 hq7) gX8_more_X3_waysRight rfl rfl rfl (by decide +kernel) ⟨Nat.le_of_ble_eq_true rfl, Nat.le_of_ble_eq_true rfl⟩ rfl rfl (Nat.le_of_ble_eq_true rfl) rfl (cwG6 _ _) dX8_more_102 ?_
    refine g_lsub E dX8_more_105 ?_
    refine g_ldc2 (v := (16384 : Int64)) E (by decide +kernel) dX8_more_106 ?_
    refine g_iload E 6 dX8_more_109 rfl ?_
    obtain ⟨q8, hq9, hf⟩ := gb hf
    refine g_callS (As := [.long (q4.1 - q6.1), .long (16384 : Int64), .int x4]) (rest := []) (n := 3) E (fX8_tell_c k q6.2 (q4.1 - q6.1) (16384 : Int64) x4 q8 hq9) gX8_more_X8_tell rfl rfl rfl (by decide +kernel) ⟨Nat.le_of_ble_eq_true rfl, Nat.le_of_ble_eq_true rfl⟩ rfl rfl (Nat.le_of_ble_eq_true rfl) dX8_more_111 ?_
    have hf := Option.some.inj hf
    subst hf
    exact g_lret E dX8_more_114
  · have hf := gn hf c3
    refine g_ldc2 (v := (-1000000000000000000 : Int64)) E (by decide +kernel) dX8_more_71 ?_
    refine g_iload E 0 dX8_more_74 rfl ?_
    refine g_i2l E dX8_more_76 ?_
    refine g_ladd E dX8_more_77 ?_
    have hf := Option.some.inj hf
    subst hf
    exact g_lret E dX8_more_78
set_option maxHeartbeats 4000000 in
set_option maxRecDepth 100000 in
theorem fX8_more_w60 {k : gK} {X : gX} (E : gE k X cX8_more RX8 wsX8_more 10 (some .long) rm_fX8_more) (σ : St) (x1 : Int32) (x2 : Int32) (x3 : Int32) (x4 : Int32) (t1 : Int32) (r : Int64 × St) (hf : fX8_more_b60 σ x1 x2 x3 x4 t1 = some r) : G k X 10 (some (.long r.1)) (cw k.2.2.2 r.2) (cw k.2.2.2 σ) [(0, .ref (k.2.2.2.1 0)), (1, .int x1), (2, .int x2), (3, .int x3), (4, .int x4)] [.int t1, .ref (k.2.2.2.1 0)] 60 := by
  unfold fX8_more_b60 at hf
  refine g_iconst (v := (0 : Int32)) E dX8_more_60 (by decide) ?_
  exact fX8_more_w61 E σ x1 x2 x3 x4 t1 (0 : Int32) r hf
set_option maxHeartbeats 4000000 in
set_option maxRecDepth 100000 in
theorem fX8_more_w28 {k : gK} {X : gX} (E : gE k X cX8_more RX8 wsX8_more 10 (some .long) rm_fX8_more) (σ : St) (x1 : Int32) (x2 : Int32) (x3 : Int32) (x4 : Int32) (t0 : Int32) (r : Int64 × St) (hf : fX8_more_b28 σ x1 x2 x3 x4 t0 = some r) : G k X 10 (some (.long r.1)) (cw k.2.2.2 r.2) (cw k.2.2.2 σ) [(0, .ref (k.2.2.2.1 0)), (1, .int x1), (2, .int x2), (3, .int x3), (4, .int x4)] [.int t0] 28 := by
  unfold fX8_more_b28 at hf
  refine g_istore E [(5, .int t0), (0, .ref (k.2.2.2.1 0)), (1, .int x1), (2, .int x2), (3, .int x3), (4, .int x4)] dX8_more_28 (by decide) rfl ?_
  refine g_aload_n E 1 dX8_more_30 rfl rfl ?_
  refine g_get (C := RX8) (T := TX8) (N := 7) (ci := 8) E 0 0 (.ref (k.2.2.2.1 1)) hi_X8_more_X8 (cwG0 _ _) rfl (by decide) hk_X8_more_10 rfl dX8_more_31 ?_
  refine g_iload_n E 2 dX8_more_34 rfl rfl ?_
  obtain ⟨q1, hq2, hf⟩ := gb hf
  refine g_callV (C := RX0) (T := TX0) (N := 5) (ci := 0) (As := [.int x1]) (rest := []) (n := 1) E 1 (fX0_has_c k σ x1 q1 hq2) gX8_more_X0_has rfl rfl rfl (by decide +kernel) ⟨Nat.le_of_ble_eq_true rfl, Nat.le_of_ble_eq_true rfl⟩ rfl rfl (Nat.le_of_ble_eq_true rfl) rfl (cwG1 _ _) dX8_more_35 ?_
  refine g_istore E [(6, .int q1.1), (5, .int t0), (0, .ref (k.2.2.2.1 0)), (1, .int x1), (2, .int x2), (3, .int x3), (4, .int x4)] dX8_more_38 (by decide) rfl ?_
  refine g_aload_n E 2 dX8_more_40 rfl rfl ?_
  refine g_iload E 0 dX8_more_41 rfl ?_
  refine g_iload E 1 dX8_more_43 rfl ?_
  refine g_if_eq (tgt := 60) E dX8_more_45 (by decide) (fun c3 => ?_) (fun c3 => ?_)
  · have hf := gp hf c3
    exact g_sub [2, 3, 4, 5, 6] rfl (fX8_more_w60 E q1.2 x1 x2 x3 x4 q1.1 r hf)
  · have hf := gn hf c3
    refine g_iload_n E 5 dX8_more_48 rfl rfl ?_
    refine g_iload_n E 3 dX8_more_49 rfl rfl ?_
    obtain ⟨q4, hq5, hf⟩ := gb hf
    refine g_callS (As := [.int x3, .int x1]) (rest := [.int q1.1, .ref (k.2.2.2.1 0)]) (n := 2) E (fX8_hasBit_c k q1.2 x3 x1 q4 hq5) gX8_more_X8_hasBit rfl rfl rfl (by decide +kernel) ⟨Nat.le_of_ble_eq_true rfl, Nat.le_of_ble_eq_true rfl⟩ rfl rfl (Nat.le_of_ble_eq_true rfl) dX8_more_50 ?_
    refine g_if_ne (tgt := 60) E dX8_more_53 (by decide) (fun c6 => ?_) (fun c6 => ?_)
    · have hf := gn hf c6
      exact g_sub [2, 3, 4, 5, 6] rfl (fX8_more_w60 E q4.2 x1 x2 x3 x4 q1.1 r hf)
    · have hf := gp hf c6
      refine g_iconst (v := (1 : Int32)) E dX8_more_56 (by decide) ?_
      refine g_goto (tgt := 61) E dX8_more_57 (by decide) ?_
      exact g_sub [2, 3, 4, 5, 6] rfl (fX8_more_w61 E q4.2 x1 x2 x3 x4 q1.1 (1 : Int32) r hf)
set_option maxHeartbeats 4000000 in
set_option maxRecDepth 100000 in
theorem fX8_more_w27 {k : gK} {X : gX} (E : gE k X cX8_more RX8 wsX8_more 10 (some .long) rm_fX8_more) (σ : St) (x1 : Int32) (x2 : Int32) (x3 : Int32) (x4 : Int32) (r : Int64 × St) (hf : fX8_more_b27 σ x1 x2 x3 x4 = some r) : G k X 10 (some (.long r.1)) (cw k.2.2.2 r.2) (cw k.2.2.2 σ) [(0, .ref (k.2.2.2.1 0)), (1, .int x1), (2, .int x2), (3, .int x3), (4, .int x4)] [] 27 := by
  unfold fX8_more_b27 at hf
  refine g_iconst (v := (0 : Int32)) E dX8_more_27 (by decide) ?_
  exact fX8_more_w28 E σ x1 x2 x3 x4 (0 : Int32) r hf
set_option maxHeartbeats 4000000 in
set_option maxRecDepth 100000 in
theorem fX8_more_c (k : gK) (σ : St) (x1 : Int32) (x2 : Int32) (x3 : Int32) (x4 : Int32) (r : Int64 × St) (hf : fX8_more σ x1 x2 x3 x4 = some r) : MC k yX8_more wsX8_more rm_fX8_more [.ref (k.2.2.2.1 0), .int x1, .int x2, .int x3, .int x4] (cw k.2.2.2 σ) (some (.long r.1)) (cw k.2.2.2 r.2) := by
  refine MC_of (cc := cX8_more) (maxL := 10) (ret := (some .long)) (own := RX8) (lvs := [(0, .ref (k.2.2.2.1 0)), (1, .int x1), (2, .int x2), (3, .int x3), (4, .int x4)]) (by decide) rfl rfl (Nat.le_of_ble_eq_true rfl) rfl (fun X E => ?_)
  unfold fX8_more at hf
  refine g_iload_n E 2 dX8_more_0 rfl rfl ?_
  obtain ⟨q1, hq2, hf⟩ := gb hf
  refine g_callS (As := [.int x2]) (rest := []) (n := 1) E (fX8_isBar_c k σ x2 q1 hq2) gX8_more_X8_isBar rfl rfl rfl (by decide +kernel) ⟨Nat.le_of_ble_eq_true rfl, Nat.le_of_ble_eq_true rfl⟩ rfl rfl (Nat.le_of_ble_eq_true rfl) dX8_more_1 ?_
  refine g_if_eq (tgt := 27) E dX8_more_4 (by decide) (fun c3 => ?_) (fun c3 => ?_)
  · have hf := gp hf c3
    exact fX8_more_w27 E q1.2 x1 x2 x3 x4 r hf
  · have hf := gn hf c3
    refine g_aload_n E 0 dX8_more_7 rfl rfl ?_
    refine g_iload_n E 3 dX8_more_8 rfl rfl ?_
    obtain ⟨q4, hq5, hf⟩ := gb hf
    refine g_callV (C := RX8) (T := TX8) (N := 7) (ci := 8) (As := [.int x3]) (rest := []) (n := 1) E 0 (fX8_areJudges_c k q1.2 x3 q4 hq5) gX8_more_X8_areJudges rfl rfl rfl (by decide +kernel) ⟨Nat.le_of_ble_eq_true rfl, Nat.le_of_ble_eq_true rfl⟩ rfl rfl (Nat.le_of_ble_eq_true rfl) rfl (cwG0 _ _) dX8_more_9 ?_
    refine g_if_eq (tgt := 27) E dX8_more_12 (by decide) (fun c6 => ?_) (fun c6 => ?_)
    · have hf := gp hf c6
      exact fX8_more_w27 E q4.2 x1 x2 x3 x4 r hf
    · have hf := gn hf c6
      refine g_iload E 4 dX8_more_15 rfl ?_
      obtain ⟨q7, hq8, hf⟩ := gb hf
      refine g_callS (As := [.int x4]) (rest := []) (n := 1) E (fX8_isPart_c k q4.2 x4 q7 hq8) gX8_more_X8_isPart rfl rfl rfl (by decide +kernel) ⟨Nat.le_of_ble_eq_true rfl, Nat.le_of_ble_eq_true rfl⟩ rfl rfl (Nat.le_of_ble_eq_true rfl) dX8_more_17 ?_
      refine g_if_eq (tgt := 27) E dX8_more_20 (by decide) (fun c9 => ?_) (fun c9 => ?_)
      · have hf := gp hf c9
        exact fX8_more_w27 E q7.2 x1 x2 x3 x4 r hf
      · have hf := gn hf c9
        refine g_iconst (v := (1 : Int32)) E dX8_more_23 (by decide) ?_
        refine g_goto (tgt := 28) E dX8_more_24 (by decide) ?_
        exact fX8_more_w28 E q7.2 x1 x2 x3 x4 (1 : Int32) r hf
