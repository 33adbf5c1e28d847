theorem hi_X5_goOn_X5 : ∀ w ∈ wsX50, w ∈ wsX5_goOn := by decide +kernel
theorem hk_X5_goOn_15 : Cond.fieldLink RX5 15 "PaperMarks$Rule" "numbers" "[I" ∈ wsX5_goOn := by decide +kernel
theorem hk_X5_goOn_18 : Cond.fieldLink RX5 18 "PaperMarks$Rule" "coins" "[I" ∈ wsX5_goOn := by decide +kernel
def rm_fX5_goOn : Room := { frames := 0, cells := 0, slots := 0, locals := 0 }
set_option maxHeartbeats 4000000 in
set_option maxRecDepth 100000 in
theorem fX5_goOn_w10 {k : gK} {X : gX} (E : gE k X cX5_goOn RX5 wsX5_goOn 4 none rm_fX5_goOn) (σ : St) (x1 : Int32) (x3 : Int32) (r : Unit × St) (hf : fX5_goOn_b10 σ x1 x3 = some r) : G k X 4 (none) (cw k.2.2.2 r.2) (cw k.2.2.2 σ) [(0, .ref (k.2.2.2.1 5)), (1, .int x1), (3, .int x3)] [] 10 := by
  unfold fX5_goOn_b10 at hf
  refine g_aload_n E 0 dX5_goOn_10 rfl rfl ?_
  refine g_get (C := RX5) (T := TX5) (N := 4) (ci := 5) E 5 1 (.ref (k.2.2.2.1 23)) hi_X5_goOn_X5 (cwG5 _ _) rfl (by decide) hk_X5_goOn_15 rfl dX5_goOn_11 ?_
  refine g_iload_n E 1 dX5_goOn_14 rfl rfl ?_
  refine g_bipush (v := (10 : Int32)) E dX5_goOn_15 (by decide) ?_
  refine g_aload_n E 0 dX5_goOn_17 rfl rfl ?_
  refine g_get (C := RX5) (T := TX5) (N := 4) (ci := 5) E 5 1 (.ref (k.2.2.2.1 23)) hi_X5_goOn_X5 (cwG5 _ _) rfl (by decide) hk_X5_goOn_15 rfl dX5_goOn_18 ?_
  refine g_iload_n E 1 dX5_goOn_21 rfl rfl ?_
  obtain ⟨hi1, hf⟩ := gd hf
  refine g_iald E 23 (σ.1 23) (cwG23 _ _) hi1 dX5_goOn_22 ?_
  refine g_imul E dX5_goOn_23 ?_
  refine g_iload_n E 2 dX5_goOn_24 rfl rfl ?_
  refine g_iadd E dX5_goOn_25 ?_
  obtain ⟨hi2, hf⟩ := gd hf
  refine g_iast E 23 (cw k.2.2.2 (uA σ 23 x1.toNatClampNeg (((((10 : Int32) * (σ.1 23 x1.toNatClampNeg))) + x3)))) (σ.1 23) (cwG23 _ _) hi2 (cwA23 _ _ _ _) dX5_goOn_26 ?_
  refine g_goto (tgt := 43) E dX5_goOn_27 (by decide) ?_
  have hf := Option.some.inj hf
  subst hf
  exact g_vret E dX5_goOn_43
set_option maxHeartbeats 4000000 in
set_option maxRecDepth 100000 in
theorem fX5_goOn_c (k : gK) (σ : St) (x1 : Int32) (x2 : Int32) (x3 : Int32) (r : Unit × St) (hf : fX5_goOn σ x1 x2 x3 = some r) : MC k yX5_goOn wsX5_goOn rm_fX5_goOn [.ref (k.2.2.2.1 5), .int x1, .int x2, .int x3] (cw k.2.2.2 σ) (none) (cw k.2.2.2 r.2) := by
  refine MC_of (cc := cX5_goOn) (maxL := 4) (ret := none) (own := RX5) (lvs := [(0, .ref (k.2.2.2.1 5)), (1, .int x1), (2, .int x2), (3, .int x3)]) (by decide) rfl rfl (Nat.le_of_ble_eq_true rfl) rfl (fun X E => ?_)
  unfold fX5_goOn at hf
  refine g_iload_n E 2 dX5_goOn_0 rfl rfl ?_
  refine g_iconst (v := (3 : Int32)) E dX5_goOn_1 (by decide) ?_
  refine g_icmp_eq (tgt := 10) E dX5_goOn_2 (by decide) (fun c1 => ?_) (fun c1 => ?_)
  · have hf := gp hf c1
    exact g_sub [0, 1, 3] rfl (fX5_goOn_w10 E σ x1 x3 r hf)
  · have hf := gn hf c1
    refine g_iload_n E 2 dX5_goOn_5 rfl rfl ?_
    refine g_iconst (v := (4 : Int32)) E dX5_goOn_6 (by decide) ?_
    refine g_icmp_ne (tgt := 30) E dX5_goOn_7 (by decide) (fun c2 => ?_) (fun c2 => ?_)
    · have hf := gn hf c2
      refine g_iload_n E 2 dX5_goOn_30 rfl rfl ?_
      refine g_bipush (v := (6 : Int32)) E dX5_goOn_31 (by decide) ?_
      refine g_icmp_ne (tgt := 43) E dX5_goOn_33 (by decide) (fun c3 => ?_) (fun c3 => ?_)
      · have hf := gn hf c3
        have hf := Option.some.inj hf
        subst hf
        exact g_vret E dX5_goOn_43
      · have hf := gp hf c3
        refine g_aload_n E 0 dX5_goOn_36 rfl rfl ?_
        refine g_get (C := RX5) (T := TX5) (N := 4) (ci := 5) E 5 2 (.ref (k.2.2.2.1 24)) hi_X5_goOn_X5 (cwG5 _ _) rfl (by decide) hk_X5_goOn_18 rfl dX5_goOn_37 ?_
        refine g_iload_n E 1 dX5_goOn_40 rfl rfl ?_
        refine g_iload_n E 3 dX5_goOn_41 rfl rfl ?_
        obtain ⟨hi4, hf⟩ := gd hf
        refine g_iast E 24 (cw k.2.2.2 (uA σ 24 x1.toNatClampNeg x3)) (σ.1 24) (cwG24 _ _) hi4 (cwA24 _ _ _ _) dX5_goOn_42 ?_
        have hf := Option.some.inj hf
        subst hf
        exact g_vret E dX5_goOn_43
    · have hf := gp hf c2
      exact g_sub [0, 1, 3] rfl (fX5_goOn_w10 E σ x1 x3 r hf)
theorem hi_X5_begin_X5 : ∀ w ∈ wsX50, w ∈ wsX5_begin := by decide +kernel
theorem hk_X5_begin_11 : Cond.fieldLink RX5 11 "PaperMarks$Rule" "joins" "[I" ∈ wsX5_begin := by decide +kernel
theorem hk_X5_begin_21 : Cond.fieldLink RX5 21 "PaperMarks$Rule" "count" "I" ∈ wsX5_begin := by decide +kernel
theorem hk_X5_begin_15 : Cond.fieldLink RX5 15 "PaperMarks$Rule" "numbers" "[I" ∈ wsX5_begin := by decide +kernel
theorem hk_X5_begin_18 : Cond.fieldLink RX5 18 "PaperMarks$Rule" "coins" "[I" ∈ wsX5_begin := by decide +kernel
def rm_fX5_begin : Room := { frames := 0, cells := 0, slots := 0, locals := 0 }
set_option maxHeartbeats 4000000 in
set_option maxRecDepth 100000 in
theorem fX5_begin_c (k : gK) (σ : St) (x1 : Int32) (r : Unit × St) (hf : fX5_begin σ x1 = some r) : MC k yX5_begin wsX5_begin rm_fX5_begin [.ref (k.2.2.2.1 5), .int x1] (cw k.2.2.2 σ) (none) (cw k.2.2.2 r.2) := by
  refine MC_of (cc := cX5_begin) (maxL := 2) (ret := none) (own := RX5) (lvs := [(0, .ref (k.2.2.2.1 5)), (1, .int x1)]) (by decide) rfl rfl (Nat.le_of_ble_eq_true rfl) rfl (fun X E => ?_)
  unfold fX5_begin at hf
  refine g_aload_n E 0 dX5_begin_0 rfl rfl ?_
  refine g_get (C := RX5) (T := TX5) (N := 4) (ci := 5) E 5 0 (.ref (k.2.2.2.1 22)) hi_X5_begin_X5 (cwG5 _ _) rfl (by decide) hk_X5_begin_11 rfl dX5_begin_1 ?_
  refine g_aload_n E 0 dX5_begin_4 rfl rfl ?_
  refine g_get (C := RX5) (T := TX5) (N := 4) (ci := 5) E 5 3 (.int (σ.2.1 3)) hi_X5_begin_X5 (cwG5 _ _) rfl (by decide) hk_X5_begin_21 rfl dX5_begin_5 ?_
  refine g_iload_n E 1 dX5_begin_8 rfl rfl ?_
  obtain ⟨hi1, hf⟩ := gd hf
  refine g_iast E 22 (cw k.2.2.2 (uA σ 22 (σ.2.1 3).toNatClampNeg x1)) (σ.1 22) (cwG22 _ _) hi1 (cwA22 _ _ _ _) dX5_begin_9 ?_
  refine g_aload_n E 0 dX5_begin_10 rfl rfl ?_
  refine g_get (C := RX5) (T := TX5) (N := 4) (ci := 5) E 5 1 (.ref (k.2.2.2.1 23)) hi_X5_begin_X5 (cwG5 _ _) rfl (by decide) hk_X5_begin_15 rfl dX5_begin_11 ?_
  refine g_aload_n E 0 dX5_begin_14 rfl rfl ?_
  refine g_get (C := RX5) (T := TX5) (N := 4) (ci := 5) E 5 3 (.int (((uA σ 22 (σ.2.1 3).toNatClampNeg x1)).2.1 3)) hi_X5_begin_X5 (cwG5 _ _) rfl (by decide) hk_X5_begin_21 rfl dX5_begin_15 ?_
  refine g_iconst (v := (0 : Int32)) E dX5_begin_18 (by decide) ?_
  obtain ⟨hi2, hf⟩ := gd hf
  refine g_iast E 23 (cw k.2.2.2 (uA ((uA σ 22 (σ.2.1 3).toNatClampNeg x1)) 23 ((((uA σ 22 (σ.2.1 3).toNatClampNeg x1)).2.1 3)).toNatClampNeg (0 : Int32))) (((uA σ 22 (σ.2.1 3).toNatClampNeg x1)).1 23) (cwG23 _ _) hi2 (cwA23 _ _ _ _) dX5_begin_19 ?_
  refine g_aload_n E 0 dX5_begin_20 rfl rfl ?_
  refine g_get (C := RX5) (T := TX5) (N := 4) (ci := 5) E 5 2 (.ref (k.2.2.2.1 24)) hi_X5_begin_X5 (cwG5 _ _) rfl (by decide) hk_X5_begin_18 rfl dX5_begin_21 ?_
  refine g_aload_n E 0 dX5_begin_24 rfl rfl ?_
  refine g_get (C := RX5) (T := TX5) (N := 4) (ci := 5) E 5 3 (.int (((uA ((uA σ 22 (σ.2.1 3).toNatClampNeg x1)) 23 ((((uA σ 22 (σ.2.1 3).toNatClampNeg x1)).2.1 3)).toNatClampNeg (0 : Int32))).2.1 3)) hi_X5_begin_X5 (cwG5 _ _) rfl (by decide) hk_X5_begin_21 rfl dX5_begin_25 ?_
  refine g_iconst (v := (4 : Int32)) E dX5_begin_28 (by decide) ?_
  obtain ⟨hi3, hf⟩ := gd hf
  refine g_iast E 24 (cw k.2.2.2 (uA ((uA ((uA σ 22 (σ.2.1 3).toNatClampNeg x1)) 23 ((((uA σ 22 (σ.2.1 3).toNatClampNeg x1)).2.1 3)).toNatClampNeg (0 : Int32))) 24 ((((uA ((uA σ 22 (σ.2.1 3).toNatClampNeg x1)) 23 ((((uA σ 22 (σ.2.1 3).toNatClampNeg x1)).2.1 3)).toNatClampNeg (0 : Int32))).2.1 3)).toNatClampNeg (4 : Int32))) (((uA ((uA σ 22 (σ.2.1 3).toNatClampNeg x1)) 23 ((((uA σ 22 (σ.2.1 3).toNatClampNeg x1)).2.1 3)).toNatClampNeg (0 : Int32))).1 24) (cwG24 _ _) hi3 (cwA24 _ _ _ _) dX5_begin_29 ?_
  refine g_aload_n E 0 dX5_begin_30 rfl rfl ?_
  refine g_dup E dX5_begin_31 rfl ?_
  refine g_get (C := RX5) (T := TX5) (N := 4) (ci := 5) E 5 3 (.int (((uA ((uA ((uA σ 22 (σ.2.1 3).toNatClampNeg x1)) 23 ((((uA σ 22 (σ.2.1 3).toNatClampNeg x1)).2.1 3)).toNatClampNeg (0 : Int32))) 24 ((((uA ((uA σ 22 (σ.2.1 3).toNatClampNeg x1)) 23 ((((uA σ 22 (σ.2.1 3).toNatClampNeg x1)).2.1 3)).toNatClampNeg (0 : Int32))).2.1 3)).toNatClampNeg (4 : Int32))).2.1 3)) hi_X5_begin_X5 (cwG5 _ _) rfl (by decide) hk_X5_begin_21 rfl dX5_begin_32 ?_
  refine g_iconst (v := (1 : Int32)) E dX5_begin_35 (by decide) ?_
  refine g_iadd E dX5_begin_36 ?_
  refine g_put (C := RX5) (T := TX5) (N := 4) (ci := 5) E 5 3 (cw k.2.2.2 (uI ((uA ((uA ((uA σ 22 (σ.2.1 3).toNatClampNeg x1)) 23 ((((uA σ 22 (σ.2.1 3).toNatClampNeg x1)).2.1 3)).toNatClampNeg (0 : Int32))) 24 ((((uA ((uA σ 22 (σ.2.1 3).toNatClampNeg x1)) 23 ((((uA σ 22 (σ.2.1 3).toNatClampNeg x1)).2.1 3)).toNatClampNeg (0 : Int32))).2.1 3)).toNatClampNeg (4 : Int32))) 3 ((((((uA ((uA ((uA σ 22 (σ.2.1 3).toNatClampNeg x1)) 23 ((((uA σ 22 (σ.2.1 3).toNatClampNeg x1)).2.1 3)).toNatClampNeg (0 : Int32))) 24 ((((uA ((uA σ 22 (σ.2.1 3).toNatClampNeg x1)) 23 ((((uA σ 22 (σ.2.1 3).toNatClampNeg x1)).2.1 3)).toNatClampNeg (0 : Int32))).2.1 3)).toNatClampNeg (4 : Int32))).2.1 3)) + (1 : Int32))))) hi_X5_begin_X5 tyX5 tyX5_ok nmX5 (cwG5 _ _) rfl (by decide) hk_X5_begin_21 rfl (by decide +kernel) (Nat.le_of_ble_eq_true rfl) (cwI3 _ _ _) dX5_begin_37 ?_
  have hf := Option.some.inj hf
  subst hf
  exact g_vret E dX5_begin_40
theorem hi_X5_read_X5 : ∀ w ∈ wsX50, w ∈ wsX5_read := by decide +kernel
theorem hi_X5_read_X6 : ∀ w ∈ wsX60, w ∈ wsX5_read := by decide +kernel
theorem hk_X5_read_21 : Cond.fieldLink RX5 21 "PaperMarks$Rule" "count" "I" ∈ wsX5_read := by decide +kernel
theorem hk_X5_read_25 : Cond.fieldLink RX5 25 "PaperMarks$Signs" "count" "I" ∈ wsX5_read := by decide +kernel
theorem hk_X5_read_26 : Cond.fieldLink RX5 26 "PaperMarks$Signs" "signs" "[I" ∈ wsX5_read := by decide +kernel
def rm_fX5_read_4 : Room := { frames := 2, cells := 0, slots := 0, locals := 41 }
set_option maxHeartbeats 4000000 in
set_option maxRecDepth 100000 in
theorem fX5_read_4_w78 {k : gK} {X : gX} (E : gE k X cX5_read RX5 wsX5_read 5 none rm_fX5_read_4) (rc9 : St → Int32 → Int32 → Option (Unit × St)) (hrc9 : ∀ (σ : St) (x2 : Int32) (x3 : Int32) (r : Unit × St), rc9 σ x2 x3 = some r → G k X 5 (none) (cw k.2.2.2 r.2) (cw k.2.2.2 σ) [(0, .ref (k.2.2.2.1 5)), (1, .ref (k.2.2.2.1 4)), (2, .int x2), (3, .int x3)] [] 9) (σ : St) (x2 : Int32) (x3 : Int32) (r : Unit × St) (hf : fX5_read_4_b78 rc9 σ x2 x3 = some r) : G k X 5 (none) (cw k.2.2.2 r.2) (cw k.2.2.2 σ) [(0, .ref (k.2.2.2.1 5)), (1, .ref (k.2.2.2.1 4)), (2, .int x2), (3, .int x3)] [] 78 := by
  unfold fX5_read_4_b78 at hf
  refine g_iinc E 3 [(3, .int (x3 + (1 : Int32))), (0, .ref (k.2.2.2.1 5)), (1, .ref (k.2.2.2.1 4)), (2, .int x2)] (x3 + (1 : Int32)) dX5_read_78 rfl (by rfl) (by decide) rfl ?_
  refine g_goto (tgt := 9) E dX5_read_81 (by decide) ?_
  exact g_sub [1, 2, 3, 0] rfl (hrc9 σ x2 (x3 + (1 : Int32)) r hf)
set_option maxHeartbeats 4000000 in
set_option maxRecDepth 100000 in
theorem fX5_read_4_w55 {k : gK} {X : gX} (E : gE k X cX5_read RX5 wsX5_read 5 none rm_fX5_read_4) (rc9 : St → Int32 → Int32 → Option (Unit × St)) (hrc9 : ∀ (σ : St) (x2 : Int32) (x3 : Int32) (r : Unit × St), rc9 σ x2 x3 = some r → G k X 5 (none) (cw k.2.2.2 r.2) (cw k.2.2.2 σ) [(0, .ref (k.2.2.2.1 5)), (1, .ref (k.2.2.2.1 4)), (2, .int x2), (3, .int x3)] [] 9) (σ : St) (x2 : Int32) (x3 : Int32) (x4 : Int32) (r : Unit × St) (hf : fX5_read_4_b55 rc9 σ x2 x3 x4 = some r) : G k X 5 (none) (cw k.2.2.2 r.2) (cw k.2.2.2 σ) [(0, .ref (k.2.2.2.1 5)), (1, .ref (k.2.2.2.1 4)), (2, .int x2), (3, .int x3), (4, .int x4)] [] 55 := by
  unfold fX5_read_4_b55 at hf
  refine g_aload_n E 0 dX5_read_55 rfl rfl ?_
  refine g_get (C := RX5) (T := TX5) (N := 4) (ci := 5) E 5 3 (.int (σ.2.1 3)) hi_X5_read_X5 (cwG5 _ _) rfl (by decide) hk_X5_read_21 rfl dX5_read_56 ?_
  refine g_if_le (tgt := 78) E dX5_read_59 (by decide) (fun c1 => ?_) (fun c1 => ?_)
  · have hf := gp hf c1
    exact g_sub [0, 1, 2, 3] rfl (fX5_read_4_w78 E rc9 hrc9 σ x2 x3 r hf)
  · have hf := gn hf c1
    refine g_aload_n E 0 dX5_read_62 rfl rfl ?_
    refine g_aload_n E 0 dX5_read_63 rfl rfl ?_
    refine g_get (C := RX5) (T := TX5) (N := 4) (ci := 5) E 5 3 (.int (σ.2.1 3)) hi_X5_read_X5 (cwG5 _ _) rfl (by decide) hk_X5_read_21 rfl dX5_read_64 ?_
    refine g_iconst (v := (1 : Int32)) E dX5_read_67 (by decide) ?_
    refine g_isub E dX5_read_68 ?_
    refine g_iload_n E 2 dX5_read_69 rfl rfl ?_
    refine g_iload E 4 dX5_read_70 rfl ?_
    refine g_bipush (v := (48 : Int32)) E dX5_read_72 (by decide) ?_
    refine g_isub E dX5_read_74 ?_
    obtain ⟨q2, hq3, hf⟩ := gb hf
    refine g_callV (C := RX5) (T := TX5) (N := 4) (ci := 5) (As := [.int ((σ.2.1 3) - (1 : Int32)), .int x2, .int (x4 - (48 : Int32))]) (rest := []) (n := 3) E 5 (fX5_goOn_c k σ (((σ.2.1 3) - (1 : Int32))) x2 ((x4 - (48 : Int32))) q2 hq3) gX5_read_X5_goOn rfl rfl rfl (by decide +kernel) ⟨Nat.le_of_ble_eq_true rfl, Nat.le_of_ble_eq_true rfl⟩ rfl rfl (Nat.le_of_ble_eq_true rfl) rfl (cwG5 _ _) dX5_read_75 ?_
    exact g_sub [0, 1, 2, 3] rfl (fX5_read_4_w78 E rc9 hrc9 q2.2 x2 x3 r hf)
set_option maxHeartbeats 4000000 in
set_option maxRecDepth 100000 in
theorem fX5_read_4_w9 {k : gK} {X : gX} (E : gE k X cX5_read RX5 wsX5_read 5 none rm_fX5_read_4) (rc9 : St → Int32 → Int32 → Option (Unit × St)) (hrc9 : ∀ (σ : St) (x2 : Int32) (x3 : Int32) (r : Unit × St), rc9 σ x2 x3 = some r → G k X 5 (none) (cw k.2.2.2 r.2) (cw k.2.2.2 σ) [(0, .ref (k.2.2.2.1 5)), (1, .ref (k.2.2.2.1 4)), (2, .int x2), (3, .int x3)] [] 9) (σ : St) (x2 : Int32) (x3 : Int32) (r : Unit × St) (hf : fX5_read_4_b9 rc9 σ x2 x3 = some r) : G k X 5 (none) (cw k.2.2.2 r.2) (cw k.2.2.2 σ) [(0, .ref (k.2.2.2.1 5)), (1, .ref (k.2.2.2.1 4)), (2, .int x2), (3, .int x3)] [] 9 := by
  unfold fX5_read_4_b9 at hf
  refine g_iload_n E 3 dX5_read_9 rfl rfl ?_
  refine g_aload_n E 1 dX5_read_10 rfl rfl ?_
  refine g_get (C := RX6) (T := TX6) (N := 2) (ci := 6) E 4 1 (.int (σ.2.1 2)) hi_X5_read_X6 (cwG4 _ _) rfl (by decide) hk_X5_read_25 rfl dX5_read_11 ?_
  refine g_icmp_ge (tgt := 84) E dX5_read_14 (by decide) (fun c1 => ?_) (fun c1 => ?_)
  · have hf := gp hf c1
    have hf := Option.some.inj hf
    subst hf
    exact g_vret E dX5_read_84
  · have hf := gn hf c1
    refine g_aload_n E 1 dX5_read_17 rfl rfl ?_
    refine g_get (C := RX6) (T := TX6) (N := 2) (ci := 6) E 4 0 (.ref (k.2.2.2.1 21)) hi_X5_read_X6 (cwG4 _ _) rfl (by decide) hk_X5_read_26 rfl dX5_read_18 ?_
    refine g_iload_n E 3 dX5_read_21 rfl rfl ?_
    obtain ⟨hi2, hf⟩ := gd hf
    refine g_iald E 21 (σ.1 21) (cwG21 _ _) hi2 dX5_read_22 ?_
    refine g_istore E [(4, .int (σ.1 21 x3.toNatClampNeg)), (0, .ref (k.2.2.2.1 5)), (1, .ref (k.2.2.2.1 4)), (2, .int x2), (3, .int x3)] dX5_read_23 (by decide) rfl ?_
    refine g_iload_n E 3 dX5_read_25 rfl rfl ?_
    refine g_iload E 0 dX5_read_26 rfl ?_
    obtain ⟨q3, hq4, hf⟩ := gb hf
    refine g_callS (As := [.int x2, .int (σ.1 21 x3.toNatClampNeg)]) (rest := []) (n := 2) E (fX6_after_c k σ x2 (σ.1 21 x3.toNatClampNeg) q3 hq4) gX5_read_X6_after rfl rfl rfl (by decide +kernel) ⟨Nat.le_of_ble_eq_true rfl, Nat.le_of_ble_eq_true rfl⟩ rfl rfl (Nat.le_of_ble_eq_true rfl) dX5_read_28 ?_
    refine g_istore_n E [(2, .int q3.1), (4, .int (σ.1 21 x3.toNatClampNeg)), (0, .ref (k.2.2.2.1 5)), (1, .ref (k.2.2.2.1 4)), (3, .int x3)] dX5_read_31 rfl (by decide) rfl ?_
    refine g_iload_n E 0 dX5_read_32 rfl rfl ?_
    refine g_iconst (v := (1 : Int32)) E dX5_read_33 (by decide) ?_
    refine g_icmp_ne (tgt := 55) E dX5_read_34 (by decide) (fun c5 => ?_) (fun c5 => ?_)
    · have hf := gn hf c5
      exact g_sub [2, 3, 0, 4, 1] rfl (fX5_read_4_w55 E rc9 hrc9 q3.2 q3.1 x3 (σ.1 21 x3.toNatClampNeg) r hf)
    · have hf := gp hf c5
      refine g_aload_n E 2 dX5_read_37 rfl rfl ?_
      refine g_get (C := RX5) (T := TX5) (N := 4) (ci := 5) E 5 3 (.int (q3.2.2.1 3)) hi_X5_read_X5 (cwG5 _ _) rfl (by decide) hk_X5_read_21 rfl dX5_read_38 ?_
      refine g_bipush (v := (10 : Int32)) E dX5_read_41 (by decide) ?_
      refine g_icmp_ge (tgt := 55) E dX5_read_43 (by decide) (fun c6 => ?_) (fun c6 => ?_)
      · have hf := gp hf c6
        exact g_sub [2, 3, 0, 4, 1] rfl (fX5_read_4_w55 E rc9 hrc9 q3.2 q3.1 x3 (σ.1 21 x3.toNatClampNeg) r hf)
      · have hf := gn hf c6
        refine g_aload_n E 2 dX5_read_46 rfl rfl ?_
        refine g_iload E 1 dX5_read_47 rfl ?_
        obtain ⟨q7, hq8, hf⟩ := gb hf
        refine g_callV (C := RX5) (T := TX5) (N := 4) (ci := 5) (As := [.int (σ.1 21 x3.toNatClampNeg)]) (rest := []) (n := 1) E 5 (fX5_begin_c k q3.2 (σ.1 21 x3.toNatClampNeg) q7 hq8) gX5_read_X5_begin rfl rfl rfl (by decide +kernel) ⟨Nat.le_of_ble_eq_true rfl, Nat.le_of_ble_eq_true rfl⟩ rfl rfl (Nat.le_of_ble_eq_true rfl) rfl (cwG5 _ _) dX5_read_49 ?_
        refine g_goto (tgt := 78) E dX5_read_52 (by decide) ?_
        exact g_sub [2, 3, 0, 4] rfl (fX5_read_4_w78 E rc9 hrc9 q7.2 q3.1 x3 r hf)
theorem fX5_read_4_v9 {k : gK} {X : gX} (E : gE k X cX5_read RX5 wsX5_read 5 none rm_fX5_read_4) : ∀ (n : Nat) (σ : St) (x2 : Int32) (x3 : Int32) (r : Unit × St), fX5_read_4_l9 n σ x2 x3 = some r → G k X 5 (none) (cw k.2.2.2 r.2) (cw k.2.2.2 σ) [(0, .ref (k.2.2.2.1 5)), (1, .ref (k.2.2.2.1 4)), (2, .int x2), (3, .int x3)] [] 9 := by
  intro n
  induction n with
  | zero => intro σ x2 x3 r hf; cases hf
  | succ n ih => intro σ x2 x3 r hf; exact fX5_read_4_w9 E (fX5_read_4_l9 n) ih σ x2 x3 r hf
set_option maxHeartbeats 4000000 in
set_option maxRecDepth 100000 in
theorem fX5_read_4_c (k : gK) (σ : St) (r : Unit × St) (hf : fX5_read_4 σ = some r) : MC k yX5_read wsX5_read rm_fX5_read_4 [.ref (k.2.2.2.1 5), .ref (k.2.2.2.1 4)] (cw k.2.2.2 σ) (none) (cw k.2.2.2 r.2) := by
  refine MC_of (cc := cX5_read) (maxL := 5) (ret := none) (own := RX5) (lvs := [(0, .ref (k.2.2.2.1 5)), (1, .ref (k.2.2.2.1 4))]) (by decide) rfl rfl (Nat.le_of_ble_eq_true rfl) rfl (fun X E => ?_)
  unfold fX5_read_4 at hf
  refine g_iconst (v := (0 : Int32)) E dX5_read_0 (by decide) ?_
  refine g_istore_n E [(2, .int (0 : Int32)), (0, .ref (k.2.2.2.1 5)), (1, .ref (k.2.2.2.1 4))] dX5_read_1 rfl (by decide) rfl ?_
  refine g_aload_n E 1 dX5_read_2 rfl rfl ?_
  refine g_iconst (v := (0 : Int32)) E dX5_read_3 (by decide) ?_
  refine g_put (C := RX5) (T := TX5) (N := 4) (ci := 5) E 5 3 (cw k.2.2.2 (uI σ 3 (0 : Int32))) hi_X5_read_X5 tyX5 tyX5_ok nmX5 (cwG5 _ _) rfl (by decide) hk_X5_read_21 rfl (by decide +kernel) (Nat.le_of_ble_eq_true rfl) (cwI3 _ _ _) dX5_read_4 ?_
  refine g_iconst (v := (0 : Int32)) E dX5_read_7 (by decide) ?_
  refine g_istore_n E [(3, .int (0 : Int32)), (2, .int (0 : Int32)), (0, .ref (k.2.2.2.1 5)), (1, .ref (k.2.2.2.1 4))] dX5_read_8 rfl (by decide) rfl ?_
  exact g_sub [2, 3, 1, 0] rfl (fX5_read_4_v9 E gF (uI σ 3 (0 : Int32)) (0 : Int32) (0 : Int32) r hf)
theorem hi_X8_rule_X8 : ∀ w ∈ wsX80, w ∈ wsX8_rule := by decide +kernel
theorem hi_X8_rule_X5 : ∀ w ∈ wsX50, w ∈ wsX8_rule := by decide +kernel
theorem hk_X8_rule_33 : Cond.fieldLink RX8 33 "PaperMarks" "signs" "LPaperMarks$Signs;" ∈ wsX8_rule := by decide +kernel
theorem hk_X8_rule_40 : Cond.fieldLink RX8 40 "PaperMarks" "rule" "LPaperMarks$Rule;" ∈ wsX8_rule := by decide +kernel
theorem hk_X8_rule_122 : Cond.fieldLink RX8 122 "PaperMarks$Rule" "count" "I" ∈ wsX8_rule := by decide +kernel
def rm_fX8_rule : Room := { frames := 3, cells := 0, slots := 0, locals := 65 }
set_option maxHeartbeats 4000000 in
set_option maxRecDepth 100000 in
theorem fX8_rule_c (k : gK) (σ : St) (r : Int32 × St) (hf : fX8_rule σ = some r) : MC k yX8_rule wsX8_rule rm_fX8_rule [.ref (k.2.2.2.1 0)] (cw k.2.2.2 σ) (some (.int r.1)) (cw k.2.2.2 r.2) := by
  refine MC_of (cc := cX8_rule) (maxL := 1) (ret := (some .int)) (own := RX8) (lvs := [(0, .ref (k.2.2.2.1 0))]) (by decide) rfl rfl (Nat.le_of_ble_eq_true rfl) rfl (fun X E => ?_)
  unfold fX8_rule at hf
  refine g_aload_n E 0 dX8_rule_0 rfl rfl ?_
  refine g_get (C := RX8) (T := TX8) (N := 7) (ci := 8) E 0 3 (.ref (k.2.2.2.1 4)) hi_X8_rule_X8 (cwG0 _ _) rfl (by decide) hk_X8_rule_33 rfl dX8_rule_1 ?_
  obtain ⟨q1, hq2, hf⟩ := gb hf
  refine g_callV (C := RX6) (T := TX6) (N := 2) (ci := 6) (As := []) (rest := []) (n := 0) E 4 (fX6_firstFault_c k σ  q1 hq2) gX8_rule_X6_firstFault rfl rfl rfl (by decide +kernel) ⟨Nat.le_of_ble_eq_true rfl, Nat.le_of_ble_eq_true rfl⟩ rfl rfl (Nat.le_of_ble_eq_true rfl) rfl (cwG4 _ _) dX8_rule_4 ?_
  refine g_bipush (v := (-6 : Int32)) E dX8_rule_7 (by decide) ?_
  refine g_icmp_eq (tgt := 15) E dX8_rule_9 (by decide) (fun c3 => ?_) (fun c3 => ?_)
  · have hf := gp hf c3
    refine g_aload_n E 0 dX8_rule_15 rfl rfl ?_
    refine g_get (C := RX8) (T := TX8) (N := 7) (ci := 8) E 0 4 (.ref (k.2.2.2.1 5)) hi_X8_rule_X8 (cwG0 _ _) rfl (by decide) hk_X8_rule_40 rfl dX8_rule_16 ?_
    refine g_aload_n E 0 dX8_rule_19 rfl rfl ?_
    refine g_get (C := RX8) (T := TX8) (N := 7) (ci := 8) E 0 3 (.ref (k.2.2.2.1 4)) hi_X8_rule_X8 (cwG0 _ _) rfl (by decide) hk_X8_rule_33 rfl dX8_rule_20 ?_
    obtain ⟨q4, hq5, hf⟩ := gb hf
    refine g_callV (C := RX5) (T := TX5) (N := 4) (ci := 5) (As := [.ref (k.2.2.2.1 4)]) (rest := []) (n := 1) E 5 (fX5_read_4_c k q1.2  q4 hq5) gX8_rule_X5_read rfl rfl rfl (by decide +kernel) ⟨Nat.le_of_ble_eq_true rfl, Nat.le_of_ble_eq_true rfl⟩ rfl rfl (Nat.le_of_ble_eq_true rfl) rfl (cwG5 _ _) dX8_rule_23 ?_
    refine g_aload_n E 0 dX8_rule_26 rfl rfl ?_
    refine g_get (C := RX8) (T := TX8) (N := 7) (ci := 8) E 0 3 (.ref (k.2.2.2.1 4)) hi_X8_rule_X8 (cwG0 _ _) rfl (by decide) hk_X8_rule_33 rfl dX8_rule_27 ?_
    obtain ⟨q6, hq7, hf⟩ := gb hf
    refine g_callV (C := RX6) (T := TX6) (N := 2) (ci := 6) (As := []) (rest := []) (n := 0) E 4 (fX6_clear_c k q4.2  q6 hq7) gX8_rule_X6_clear rfl rfl rfl (by decide +kernel) ⟨Nat.le_of_ble_eq_true rfl, Nat.le_of_ble_eq_true rfl⟩ rfl rfl (Nat.le_of_ble_eq_true rfl) rfl (cwG4 _ _) dX8_rule_30 ?_
    refine g_pop E dX8_rule_33 rfl ?_
    refine g_aload_n E 0 dX8_rule_34 rfl rfl ?_
    refine g_get (C := RX8) (T := TX8) (N := 7) (ci := 8) E 0 4 (.ref (k.2.2.2.1 5)) hi_X8_rule_X8 (cwG0 _ _) rfl (by decide) hk_X8_rule_40 rfl dX8_rule_35 ?_
    refine g_get (C := RX5) (T := TX5) (N := 4) (ci := 5) E 5 3 (.int (q6.2.2.1 3)) hi_X8_rule_X5 (cwG5 _ _) rfl (by decide) hk_X8_rule_122 rfl dX8_rule_38 ?_
    have hf := Option.some.inj hf
    subst hf
    exact g_iret E dX8_rule_41
  · have hf := gn hf c3
    refine g_bipush (v := (-5 : Int32)) E dX8_rule_12 (by decide) ?_
    have hf := Option.some.inj hf
    subst hf
    exact g_iret E dX8_rule_14
theorem hi_X1_of_X1 : ∀ w ∈ wsX10, w ∈ wsX1_of := by decide +kernel
theorem hk_X1_of_9 : Cond.fieldLink RX1 9 "PaperMarks$Marks" "came" "[I" ∈ wsX1_of := by decide +kernel
def rm_fX1_of : Room := { frames := 0, cells := 0, slots := 0, locals := 0 }
set_option maxHeartbeats 4000000 in
set_option maxRecDepth 100000 in
theorem fX1_of_c (k : gK) (σ : St) (x1 : Int32) (x2 : Int32) (r : Int32 × St) (hf : fX1_of σ x1 x2 = some r) : MC k yX1_of wsX1_of rm_fX1_of [.ref (k.2.2.2.1 3), .int x1, .int x2] (cw k.2.2.2 σ) (some (.int r.1)) (cw k.2.2.2 r.2) := by
  refine MC_of (cc := cX1_of) (maxL := 3) (ret := (some .int)) (own := RX1) (lvs := [(0, .ref (k.2.2.2.1 3)), (1, .int x1), (2, .int x2)]) (by decide) rfl rfl (Nat.le_of_ble_eq_true rfl) rfl (fun X E => ?_)
  unfold fX1_of at hf
  refine g_aload_n E 0 dX1_of_0 rfl rfl ?_
  refine g_get (C := RX1) (T := TX1) (N := 2) (ci := 1) E 3 0 (.ref (k.2.2.2.1 19)) hi_X1_of_X1 (cwG3 _ _) rfl (by decide) hk_X1_of_9 rfl dX1_of_1 ?_
  refine g_iload_n E 1 dX1_of_4 rfl rfl ?_
  refine g_bipush (v := (6 : Int32)) E dX1_of_5 (by decide) ?_
  refine g_imul E dX1_of_7 ?_
  refine g_iload_n E 2 dX1_of_8 rfl rfl ?_
  refine g_iadd E dX1_of_9 ?_
  obtain ⟨hi1, hf⟩ := gd hf
  refine g_iald E 19 (σ.1 19) (cwG19 _ _) hi1 dX1_of_10 ?_
  have hf := Option.some.inj hf
  subst hf
  exact g_iret E dX1_of_11
def rm_fX1_has : Room := { frames := 1, cells := 0, slots := 0, locals := 22 }
set_option maxHeartbeats 4000000 in
set_option maxRecDepth 100000 in
theorem fX1_has_c (k : gK) (σ : St) (x1 : Int32) (x2 : Int32) (r : Int32 × St) (hf : fX1_has σ x1 x2 = some r) : MC k yX1_has wsX1_has rm_fX1_has [.ref (k.2.2.2.1 3), .int x1, .int x2] (cw k.2.2.2 σ) (some (.int r.1)) (cw k.2.2.2 r.2) := by
  refine MC_of (cc := cX1_has) (maxL := 3) (ret := (some .boolean)) (own := RX1) (lvs := [(0, .ref (k.2.2.2.1 3)), (1, .int x1), (2, .int x2)]) (by decide) rfl rfl (Nat.le_of_ble_eq_true rfl) rfl (fun X E => ?_)
  unfold fX1_has at hf
  refine g_aload_n E 0 dX1_has_0 rfl rfl ?_
  refine g_iload_n E 1 dX1_has_1 rfl rfl ?_
  refine g_iload_n E 2 dX1_has_2 rfl rfl ?_
  obtain ⟨q1, hq2, hf⟩ := gb hf
  refine g_callV (C := RX1) (T := TX1) (N := 2) (ci := 1) (As := [.int x1, .int x2]) (rest := []) (n := 2) E 3 (fX1_of_c k σ x1 x2 q1 hq2) gX1_has_X1_of rfl rfl rfl (by decide +kernel) ⟨Nat.le_of_ble_eq_true rfl, Nat.le_of_ble_eq_true rfl⟩ rfl rfl (Nat.le_of_ble_eq_true rfl) rfl (cwG3 _ _) dX1_has_3 ?_
  refine g_bipush (v := (-6 : Int32)) E dX1_has_6 (by decide) ?_
  refine g_icmp_eq (tgt := 15) E dX1_has_8 (by decide) (fun c3 => ?_) (fun c3 => ?_)
  · have hf := gp hf c3
    refine g_iconst (v := (0 : Int32)) E dX1_has_15 (by decide) ?_
    have hf := Option.some.inj hf
    subst hf
    exact g_zret E (Or.inl rfl) dX1_has_16
  · have hf := gn hf c3
    refine g_iconst (v := (1 : Int32)) E dX1_has_11 (by decide) ?_
    refine g_goto (tgt := 16) E dX1_has_12 (by decide) ?_
    have hf := Option.some.inj hf
    subst hf
    exact g_zret E (Or.inr rfl) dX1_has_16
theorem hi_X7_put_X7 : ∀ w ∈ wsX70, w ∈ wsX7_put := by decide +kernel
theorem hk_X7_put_9 : Cond.fieldLink RX7 9 "PaperMarks$Tally" "counts" "[I" ∈ wsX7_put := by decide +kernel
theorem hk_X7_put_21 : Cond.fieldLink RX7 21 "PaperMarks$Tally" "count" "I" ∈ wsX7_put := by decide +kernel
theorem hk_X7_put_25 : Cond.fieldLink RX7 25 "PaperMarks$Tally" "sum" "I" ∈ wsX7_put := by decide +kernel
def rm_fX7_put_8 : Room := { frames := 0, cells := 0, slots := 0, locals := 0 }
set_option maxHeartbeats 4000000 in
set_option maxRecDepth 100000 in
theorem fX7_put_8_c (k : gK) (σ : St) (x1 : Int32) (x2 : Int32) (r : Unit × St) (hf : fX7_put_8 σ x1 x2 = some r) : MC k yX7_put wsX7_put rm_fX7_put_8 [.ref (k.2.2.2.1 8), .int x1, .int x2] (cw k.2.2.2 σ) (none) (cw k.2.2.2 r.2) := by
  refine MC_of (cc := cX7_put) (maxL := 3) (ret := none) (own := RX7) (lvs := [(0, .ref (k.2.2.2.1 8)), (1, .int x1), (2, .int x2)]) (by decide) rfl rfl (Nat.le_of_ble_eq_true rfl) rfl (fun X E => ?_)
  unfold fX7_put_8 at hf
  refine g_aload_n E 0 dX7_put_0 rfl rfl ?_
  refine g_get (C := RX7) (T := TX7) (N := 3) (ci := 7) E 8 0 (.ref (k.2.2.2.1 20)) hi_X7_put_X7 (cwG8 _ _) rfl (by decide) hk_X7_put_9 rfl dX7_put_1 ?_
  refine g_iload_n E 1 dX7_put_4 rfl rfl ?_
  refine g_dup2 E dX7_put_5 rfl rfl ?_
  obtain ⟨hi1, hf⟩ := gd hf
  refine g_iald E 20 (σ.1 20) (cwG20 _ _) hi1 dX7_put_6 ?_
  refine g_iload_n E 2 dX7_put_7 rfl rfl ?_
  refine g_iadd E dX7_put_8 ?_
  obtain ⟨hi2, hf⟩ := gd hf
  refine g_iast E 20 (cw k.2.2.2 (uA σ 20 x1.toNatClampNeg (((σ.1 20 x1.toNatClampNeg) + x2)))) (σ.1 20) (cwG20 _ _) hi2 (cwA20 _ _ _ _) dX7_put_9 ?_
  refine g_aload_n E 0 dX7_put_10 rfl rfl ?_
  refine g_dup E dX7_put_11 rfl ?_
  refine g_get (C := RX7) (T := TX7) (N := 3) (ci := 7) E 8 1 (.int (((uA σ 20 x1.toNatClampNeg (((σ.1 20 x1.toNatClampNeg) + x2)))).2.1 4)) hi_X7_put_X7 (cwG8 _ _) rfl (by decide) hk_X7_put_21 rfl dX7_put_12 ?_
  refine g_iload_n E 2 dX7_put_15 rfl rfl ?_
  refine g_iadd E dX7_put_16 ?_
  refine g_put (C := RX7) (T := TX7) (N := 3) (ci := 7) E 8 1 (cw k.2.2.2 (uI ((uA σ 20 x1.toNatClampNeg (((σ.1 20 x1.toNatClampNeg) + x2)))) 4 ((((((uA σ 20 x1.toNatClampNeg (((σ.1 20 x1.toNatClampNeg) + x2)))).2.1 4)) + x2)))) hi_X7_put_X7 tyX7 tyX7_ok nmX7 (cwG8 _ _) rfl (by decide) hk_X7_put_21 rfl (by decide +kernel) (Nat.le_of_ble_eq_true rfl) (cwI4 _ _ _) dX7_put_17 ?_
  refine g_aload_n E 0 dX7_put_20 rfl rfl ?_
  refine g_dup E dX7_put_21 rfl ?_
  refine g_get (C := RX7) (T := TX7) (N := 3) (ci := 7) E 8 2 (.int (((uI ((uA σ 20 x1.toNatClampNeg (((σ.1 20 x1.toNatClampNeg) + x2)))) 4 ((((((uA σ 20 x1.toNatClampNeg (((σ.1 20 x1.toNatClampNeg) + x2)))).2.1 4)) + x2)))).2.1 5)) hi_X7_put_X7 (cwG8 _ _) rfl (by decide) hk_X7_put_25 rfl dX7_put_22 ?_
  refine g_iload_n E 1 dX7_put_25 rfl rfl ?_
  refine g_iload_n E 2 dX7_put_26 rfl rfl ?_
  refine g_imul E dX7_put_27 ?_
  refine g_iadd E dX7_put_28 ?_
  refine g_put (C := RX7) (T := TX7) (N := 3) (ci := 7) E 8 2 (cw k.2.2.2 (uI ((uI ((uA σ 20 x1.toNatClampNeg (((σ.1 20 x1.toNatClampNeg) + x2)))) 4 ((((((uA σ 20 x1.toNatClampNeg (((σ.1 20 x1.toNatClampNeg) + x2)))).2.1 4)) + x2)))) 5 ((((((uI ((uA σ 20 x1.toNatClampNeg (((σ.1 20 x1.toNatClampNeg) + x2)))) 4 ((((((uA σ 20 x1.toNatClampNeg (((σ.1 20 x1.toNatClampNeg) + x2)))).2.1 4)) + x2)))).2.1 5)) + (x1 * x2))))) hi_X7_put_X7 tyX7 tyX7_ok nmX7 (cwG8 _ _) rfl (by decide) hk_X7_put_25 rfl (by decide +kernel) (Nat.le_of_ble_eq_true rfl) (cwI5 _ _ _) dX7_put_29 ?_
  have hf := Option.some.inj hf
  subst hf
  exact g_vret E dX7_put_32
def rm_fJ7_fill_53178_20 : Room := { frames := 0, cells := 0, slots := 0, locals := 0 }
set_option maxHeartbeats 4000000 in
set_option maxRecDepth 100000 in
theorem fJ7_fill_53178_20_w5 {k : gK} {X : gX} (E : gE k X cJ7_fill_53178 RJ7 wsJ7_fill_53178 4 none rm_fJ7_fill_53178_20) (rc5 : St → Int32 → Int32 → Int32 → Option (Unit × St)) (hrc5 : ∀ (σ : St) (x1 : Int32) (x2 : Int32) (x3 : Int32) (r : Unit × St), rc5 σ x1 x2 x3 = some r → G k X 4 (none) (cw k.2.2.2 r.2) (cw k.2.2.2 σ) [(0, .ref (k.2.2.2.1 20)), (1, .int x1), (2, .int x2), (3, .int x3)] [] 5) (σ : St) (x1 : Int32) (x2 : Int32) (x3 : Int32) (r : Unit × St) (hf : fJ7_fill_53178_20_b5 rc5 σ x1 x2 x3 = some r) : G k X 4 (none) (cw k.2.2.2 r.2) (cw k.2.2.2 σ) [(0, .ref (k.2.2.2.1 20)), (1, .int x1), (2, .int x2), (3, .int x3)] [] 5 := by
  unfold fJ7_fill_53178_20_b5 at hf
  refine g_iload_n E 2 dJ7_fill_53178_5 rfl rfl ?_
  refine g_iload_n E 3 dJ7_fill_53178_6 rfl rfl ?_
  refine g_icmp_ge (tgt := 20) E dJ7_fill_53178_7 (by decide) (fun c1 => ?_) (fun c1 => ?_)
  · have hf := gp hf c1
    have hf := Option.some.inj hf
    subst hf
    exact g_vret E dJ7_fill_53178_20
  · have hf := gn hf c1
    refine g_aload_n E 0 dJ7_fill_53178_10 rfl rfl ?_
    refine g_iload_n E 2 dJ7_fill_53178_11 rfl rfl ?_
    refine g_iload_n E 1 dJ7_fill_53178_12 rfl rfl ?_
    obtain ⟨hi2, hf⟩ := gd hf
    refine g_iast E 20 (cw k.2.2.2 (uA σ 20 x2.toNatClampNeg x1)) (σ.1 20) (cwG20 _ _) hi2 (cwA20 _ _ _ _) dJ7_fill_53178_13 ?_
    refine g_iinc E 2 [(2, .int (x2 + (1 : Int32))), (0, .ref (k.2.2.2.1 20)), (1, .int x1), (3, .int x3)] (x2 + (1 : Int32)) dJ7_fill_53178_14 rfl (by rfl) (by decide) rfl ?_
    refine g_goto (tgt := 5) E dJ7_fill_53178_17 (by decide) ?_
    exact g_sub [1, 2, 0, 3] rfl (hrc5 (uA σ 20 x2.toNatClampNeg x1) x1 (x2 + (1 : Int32)) x3 r hf)
theorem fJ7_fill_53178_20_v5 {k : gK} {X : gX} (E : gE k X cJ7_fill_53178 RJ7 wsJ7_fill_53178 4 none rm_fJ7_fill_53178_20) : ∀ (n : Nat) (σ : St) (x1 : Int32) (x2 : Int32) (x3 : Int32) (r : Unit × St), fJ7_fill_53178_20_l5 n σ x1 x2 x3 = some r → G k X 4 (none) (cw k.2.2.2 r.2) (cw k.2.2.2 σ) [(0, .ref (k.2.2.2.1 20)), (1, .int x1), (2, .int x2), (3, .int x3)] [] 5 := by
  intro n
  induction n with
  | zero => intro σ x1 x2 x3 r hf; cases hf
  | succ n ih => intro σ x1 x2 x3 r hf; exact fJ7_fill_53178_20_w5 E (fJ7_fill_53178_20_l5 n) ih σ x1 x2 x3 r hf
set_option maxHeartbeats 4000000 in
set_option maxRecDepth 100000 in
theorem fJ7_fill_53178_20_c (k : gK) (σ : St) (x1 : Int32) (r : Unit × St) (hf : fJ7_fill_53178_20 σ x1 = some r) : MC k yJ7_fill_53178 wsJ7_fill_53178 rm_fJ7_fill_53178_20 [.ref (k.2.2.2.1 20), .int x1] (cw k.2.2.2 σ) (none) (cw k.2.2.2 r.2) := by
  refine MC_of (cc := cJ7_fill_53178) (maxL := 4) (ret := none) (own := RJ7) (lvs := [(0, .ref (k.2.2.2.1 20)), (1, .int x1)]) (by decide) rfl rfl (Nat.le_of_ble_eq_true rfl) rfl (fun X E => ?_)
  unfold fJ7_fill_53178_20 at hf
  refine g_iconst (v := (0 : Int32)) E dJ7_fill_53178_0 (by decide) ?_
  refine g_istore_n E [(2, .int (0 : Int32)), (0, .ref (k.2.2.2.1 20)), (1, .int x1)] dJ7_fill_53178_1 rfl (by decide) rfl ?_
  refine g_aload_n E 1 dJ7_fill_53178_2 rfl rfl ?_
  refine g_alenI (v := (6 : Int32)) E 20 (σ.1 20) (cwG20 _ _) (by decide) dJ7_fill_53178_3 ?_
  refine g_istore_n E [(3, .int (6 : Int32)), (2, .int (0 : Int32)), (0, .ref (k.2.2.2.1 20)), (1, .int x1)] dJ7_fill_53178_4 rfl (by decide) rfl ?_
  exact g_sub [2, 3, 1, 0] rfl (fJ7_fill_53178_20_v5 E gF σ x1 (0 : Int32) (6 : Int32) r hf)
theorem hi_X7_clear_X7 : ∀ w ∈ wsX70, w ∈ wsX7_clear := by decide +kernel
theorem hk_X7_clear_9 : Cond.fieldLink RX7 9 "PaperMarks$Tally" "counts" "[I" ∈ wsX7_clear := by decide +kernel
theorem hk_X7_clear_21 : Cond.fieldLink RX7 21 "PaperMarks$Tally" "count" "I" ∈ wsX7_clear := by decide +kernel
theorem hk_X7_clear_25 : Cond.fieldLink RX7 25 "PaperMarks$Tally" "sum" "I" ∈ wsX7_clear := by decide +kernel
def rm_fX7_clear_8 : Room := { frames := 1, cells := 0, slots := 0, locals := 23 }
set_option maxHeartbeats 4000000 in
set_option maxRecDepth 100000 in
theorem fX7_clear_8_c (k : gK) (σ : St) (r : Unit × St) (hf : fX7_clear_8 σ = some r) : MC k yX7_clear wsX7_clear rm_fX7_clear_8 [.ref (k.2.2.2.1 8)] (cw k.2.2.2 σ) (none) (cw k.2.2.2 r.2) := by
  refine MC_of (cc := cX7_clear) (maxL := 1) (ret := none) (own := RX7) (lvs := [(0, .ref (k.2.2.2.1 8))]) (by decide) rfl rfl (Nat.le_of_ble_eq_true rfl) rfl (fun X E => ?_)
  unfold fX7_clear_8 at hf
  refine g_aload_n E 0 dX7_clear_0 rfl rfl ?_
  refine g_get (C := RX7) (T := TX7) (N := 3) (ci := 7) E 8 0 (.ref (k.2.2.2.1 20)) hi_X7_clear_X7 (cwG8 _ _) rfl (by decide) hk_X7_clear_9 rfl dX7_clear_1 ?_
  refine g_iconst (v := (0 : Int32)) E dX7_clear_4 (by decide) ?_
  obtain ⟨q1, hq2, hf⟩ := gb hf
  refine g_callS (As := [.ref (k.2.2.2.1 20), .int (0 : Int32)]) (rest := []) (n := 2) E (fJ7_fill_53178_20_c k σ (0 : Int32) q1 hq2) gX7_clear_J7_fill_53178 rfl rfl rfl (by decide +kernel) ⟨Nat.le_of_ble_eq_true rfl, Nat.le_of_ble_eq_true rfl⟩ rfl rfl (Nat.le_of_ble_eq_true rfl) dX7_clear_5 ?_
  refine g_aload_n E 0 dX7_clear_8 rfl rfl ?_
  refine g_iconst (v := (0 : Int32)) E dX7_clear_9 (by decide) ?_
  refine g_put (C := RX7) (T := TX7) (N := 3) (ci := 7) E 8 1 (cw k.2.2.2 (uI q1.2 4 (0 : Int32))) hi_X7_clear_X7 tyX7 tyX7_ok nmX7 (cwG8 _ _) rfl (by decide) hk_X7_clear_21 rfl (by decide +kernel) (Nat.le_of_ble_eq_true rfl) (cwI4 _ _ _) dX7_clear_10 ?_
  refine g_aload_n E 0 dX7_clear_13 rfl rfl ?_
  refine g_iconst (v := (0 : Int32)) E dX7_clear_14 (by decide) ?_
  refine g_put (C := RX7) (T := TX7) (N := 3) (ci := 7) E 8 2 (cw k.2.2.2 (uI ((uI q1.2 4 (0 : Int32))) 5 (0 : Int32))) hi_X7_clear_X7 tyX7 tyX7_ok nmX7 (cwG8 _ _) rfl (by decide) hk_X7_clear_25 rfl (by decide +kernel) (Nat.le_of_ble_eq_true rfl) (cwI5 _ _ _) dX7_clear_15 ?_
  have hf := Option.some.inj hf
  subst hf
  exact g_vret E dX7_clear_18
theorem hi_X1_tallyOf_X1 : ∀ w ∈ wsX10, w ∈ wsX1_tallyOf := by decide +kernel
theorem hk_X1_tallyOf_18 : Cond.fieldLink RX1 18 "PaperMarks$Marks" "tally" "LPaperMarks$Tally;" ∈ wsX1_tallyOf := by decide +kernel
def rm_fX1_tallyOf : Room := { frames := 2, cells := 0, slots := 0, locals := 44 }
set_option maxHeartbeats 4000000 in
set_option maxRecDepth 100000 in
theorem fX1_tallyOf_w38 {k : gK} {X : gX} (E : gE k X cX1_tallyOf RX1 wsX1_tallyOf 3 (some (.object "PaperMarks$Tally")) rm_fX1_tallyOf) (rc9 : St → Int32 → Int32 → Option (Unit × St)) (hrc9 : ∀ (σ : St) (x1 : Int32) (x2 : Int32) (r : Unit × St), rc9 σ x1 x2 = some r → G k X 3 (some (.ref (k.2.2.2.1 8))) (cw k.2.2.2 r.2) (cw k.2.2.2 σ) [(0, .ref (k.2.2.2.1 3)), (1, .int x1), (2, .int x2)] [] 9) (σ : St) (x1 : Int32) (x2 : Int32) (r : Unit × St) (hf : fX1_tallyOf_b38 rc9 σ x1 x2 = some r) : G k X 3 (some (.ref (k.2.2.2.1 8))) (cw k.2.2.2 r.2) (cw k.2.2.2 σ) [(0, .ref (k.2.2.2.1 3)), (1, .int x1), (2, .int x2)] [] 38 := by
  unfold fX1_tallyOf_b38 at hf
  refine g_iinc E 2 [(2, .int (x2 + (1 : Int32))), (0, .ref (k.2.2.2.1 3)), (1, .int x1)] (x2 + (1 : Int32)) dX1_tallyOf_38 rfl (by rfl) (by decide) rfl ?_
  refine g_goto (tgt := 9) E dX1_tallyOf_41 (by decide) ?_
  exact g_sub [1, 2, 0] rfl (hrc9 σ x1 (x2 + (1 : Int32)) r hf)
set_option maxHeartbeats 4000000 in
set_option maxRecDepth 100000 in
theorem fX1_tallyOf_w9 {k : gK} {X : gX} (E : gE k X cX1_tallyOf RX1 wsX1_tallyOf 3 (some (.object "PaperMarks$Tally")) rm_fX1_tallyOf) (rc9 : St → Int32 → Int32 → Option (Unit × St)) (hrc9 : ∀ (σ : St) (x1 : Int32) (x2 : Int32) (r : Unit × St), rc9 σ x1 x2 = some r → G k X 3 (some (.ref (k.2.2.2.1 8))) (cw k.2.2.2 r.2) (cw k.2.2.2 σ) [(0, .ref (k.2.2.2.1 3)), (1, .int x1), (2, .int x2)] [] 9) (σ : St) (x1 : Int32) (x2 : Int32) (r : Unit × St) (hf : fX1_tallyOf_b9 rc9 σ x1 x2 = some r) : G k X 3 (some (.ref (k.2.2.2.1 8))) (cw k.2.2.2 r.2) (cw k.2.2.2 σ) [(0, .ref (k.2.2.2.1 3)), (1, .int x1), (2, .int x2)] [] 9 := by
  unfold fX1_tallyOf_b9 at hf
  refine g_iload_n E 2 dX1_tallyOf_9 rfl rfl ?_
  refine g_bipush (v := (6 : Int32)) E dX1_tallyOf_10 (by decide) ?_
  refine g_icmp_ge (tgt := 44) E dX1_tallyOf_12 (by decide) (fun c1 => ?_) (fun c1 => ?_)
  · have hf := gp hf c1
    refine g_aload_n E 0 dX1_tallyOf_44 rfl rfl ?_
    refine g_get (C := RX1) (T := TX1) (N := 2) (ci := 1) E 3 1 (.ref (k.2.2.2.1 8)) hi_X1_tallyOf_X1 (cwG3 _ _) rfl (by decide) hk_X1_tallyOf_18 rfl dX1_tallyOf_45 ?_
    have hf := Option.some.inj hf
    subst hf
    exact g_aret E dX1_tallyOf_48
  · have hf := gn hf c1
    refine g_aload_n E 0 dX1_tallyOf_15 rfl rfl ?_
    refine g_iload_n E 2 dX1_tallyOf_16 rfl rfl ?_
    refine g_iload_n E 1 dX1_tallyOf_17 rfl rfl ?_
    obtain ⟨q2, hq3, hf⟩ := gb hf
    refine g_callV (C := RX1) (T := TX1) (N := 2) (ci := 1) (As := [.int x2, .int x1]) (rest := []) (n := 2) E 3 (fX1_has_c k σ x2 x1 q2 hq3) gX1_tallyOf_X1_has rfl rfl rfl (by decide +kernel) ⟨Nat.le_of_ble_eq_true rfl, Nat.le_of_ble_eq_true rfl⟩ rfl rfl (Nat.le_of_ble_eq_true rfl) rfl (cwG3 _ _) dX1_tallyOf_18 ?_
    refine g_if_eq (tgt := 38) E dX1_tallyOf_21 (by decide) (fun c4 => ?_) (fun c4 => ?_)
    · have hf := gp hf c4
      exact fX1_tallyOf_w38 E rc9 hrc9 q2.2 x1 x2 r hf
    · have hf := gn hf c4
      refine g_aload_n E 0 dX1_tallyOf_24 rfl rfl ?_
      refine g_get (C := RX1) (T := TX1) (N := 2) (ci := 1) E 3 1 (.ref (k.2.2.2.1 8)) hi_X1_tallyOf_X1 (cwG3 _ _) rfl (by decide) hk_X1_tallyOf_18 rfl dX1_tallyOf_25 ?_
      refine g_aload_n E 0 dX1_tallyOf_28 rfl rfl ?_
      refine g_iload_n E 2 dX1_tallyOf_29 rfl rfl ?_
      refine g_iload_n E 1 dX1_tallyOf_30 rfl rfl ?_
      obtain ⟨q5, hq6, hf⟩ := gb hf
      refine g_callV (C := RX1) (T := TX1) (N := 2) (ci := 1) (As := [.int x2, .int x1]) (rest := [.ref (k.2.2.2.1 8)]) (n := 2) E 3 (fX1_of_c k q2.2 x2 x1 q5 hq6) gX1_tallyOf_X1_of rfl rfl rfl (by decide +kernel) ⟨Nat.le_of_ble_eq_true rfl, Nat.le_of_ble_eq_true rfl⟩ rfl rfl (Nat.le_of_ble_eq_true rfl) rfl (cwG3 _ _) dX1_tallyOf_31 ?_
      refine g_iconst (v := (1 : Int32)) E dX1_tallyOf_34 (by decide) ?_
      obtain ⟨q7, hq8, hf⟩ := gb hf
      refine g_callV (C := RX7) (T := TX7) (N := 3) (ci := 7) (As := [.int q5.1, .int (1 : Int32)]) (rest := []) (n := 2) E 8 (fX7_put_8_c k q5.2 q5.1 (1 : Int32) q7 hq8) gX1_tallyOf_X7_put rfl rfl rfl (by decide +kernel) ⟨Nat.le_of_ble_eq_true rfl, Nat.le_of_ble_eq_true rfl⟩ rfl rfl (Nat.le_of_ble_eq_true rfl) rfl (cwG8 _ _) dX1_tallyOf_35 ?_
      exact fX1_tallyOf_w38 E rc9 hrc9 q7.2 x1 x2 r hf
theorem fX1_tallyOf_v9 {k : gK} {X : gX} (E : gE k X cX1_tallyOf RX1 wsX1_tallyOf 3 (some (.object "PaperMarks$Tally")) rm_fX1_tallyOf) : ∀ (n : Nat) (σ : St) (x1 : Int32) (x2 : Int32) (r : Unit × St), fX1_tallyOf_l9 n σ x1 x2 = some r → G k X 3 (some (.ref (k.2.2.2.1 8))) (cw k.2.2.2 r.2) (cw k.2.2.2 σ) [(0, .ref (k.2.2.2.1 3)), (1, .int x1), (2, .int x2)] [] 9 := by
  intro n
  induction n with
  | zero => intro σ x1 x2 r hf; cases hf
  | succ n ih => intro σ x1 x2 r hf; exact fX1_tallyOf_w9 E (fX1_tallyOf_l9 n) ih σ x1 x2 r hf
set_option maxHeartbeats 4000000 in
set_option maxRecDepth 100000 in
theorem fX1_tallyOf_c (k : gK) (σ : St) (x1 : Int32) (r : Unit × St) (hf : fX1_tallyOf σ x1 = some r) : MC k yX1_tallyOf wsX1_tallyOf rm_fX1_tallyOf [.ref (k.2.2.2.1 3), .int x1] (cw k.2.2.2 σ) (some (.ref (k.2.2.2.1 8))) (cw k.2.2.2 r.2) := by
  refine MC_of (cc := cX1_tallyOf) (maxL := 3) (ret := (some (.object "PaperMarks$Tally"))) (own := RX1) (lvs := [(0, .ref (k.2.2.2.1 3)), (1, .int x1)]) (by decide) rfl rfl (Nat.le_of_ble_eq_true rfl) rfl (fun X E => ?_)
  unfold fX1_tallyOf at hf
  refine g_aload_n E 0 dX1_tallyOf_0 rfl rfl ?_
  refine g_get (C := RX1) (T := TX1) (N := 2) (ci := 1) E 3 1 (.ref (k.2.2.2.1 8)) hi_X1_tallyOf_X1 (cwG3 _ _) rfl (by decide) hk_X1_tallyOf_18 rfl dX1_tallyOf_1 ?_
  obtain ⟨q1, hq2, hf⟩ := gb hf
  refine g_callV (C := RX7) (T := TX7) (N := 3) (ci := 7) (As := []) (rest := []) (n := 0) E 8 (fX7_clear_8_c k σ  q1 hq2) gX1_tallyOf_X7_clear rfl rfl rfl (by decide +kernel) ⟨Nat.le_of_ble_eq_true rfl, Nat.le_of_ble_eq_true rfl⟩ rfl rfl (Nat.le_of_ble_eq_true rfl) rfl (cwG8 _ _) dX1_tallyOf_4 ?_
  refine g_iconst (v := (0 : Int32)) E dX1_tallyOf_7 (by decide) ?_
  refine g_istore_n E [(2, .int (0 : Int32)), (0, .ref (k.2.2.2.1 3)), (1, .int x1)] dX1_tallyOf_8 rfl (by decide) rfl ?_
  exact g_sub [1, 2, 0] rfl (fX1_tallyOf_v9 E gF q1.2 x1 (0 : Int32) r hf)
theorem hi_X7_fromBelow_X7 : ∀ w ∈ wsX70, w ∈ wsX7_fromBelow := by decide +kernel
theorem hk_X7_fromBelow_9 : Cond.fieldLink RX7 9 "PaperMarks$Tally" "counts" "[I" ∈ wsX7_fromBelow := by decide +kernel
def rm_fX7_fromBelow_8 : Room := { frames := 0, cells := 0, slots := 0, locals := 0 }
set_option maxHeartbeats 4000000 in
set_option maxRecDepth 100000 in
theorem fX7_fromBelow_8_w4 {k : gK} {X : gX} (E : gE k X cX7_fromBelow RX7 wsX7_fromBelow 4 (some .int) rm_fX7_fromBelow_8) (rc4 : St → Int32 → Int32 → Int32 → Option (Int32 × St)) (hrc4 : ∀ (σ : St) (x1 : Int32) (x2 : Int32) (x3 : Int32) (r : Int32 × St), rc4 σ x1 x2 x3 = some r → G k X 4 (some (.int r.1)) (cw k.2.2.2 r.2) (cw k.2.2.2 σ) [(0, .ref (k.2.2.2.1 8)), (1, .int x1), (2, .int x2), (3, .int x3)] [] 4) (σ : St) (x1 : Int32) (x2 : Int32) (x3 : Int32) (r : Int32 × St) (hf : fX7_fromBelow_8_b4 rc4 σ x1 x2 x3 = some r) : G k X 4 (some (.int r.1)) (cw k.2.2.2 r.2) (cw k.2.2.2 σ) [(0, .ref (k.2.2.2.1 8)), (1, .int x1), (2, .int x2), (3, .int x3)] [] 4 := by
  unfold fX7_fromBelow_8_b4 at hf
  refine g_iload_n E 3 dX7_fromBelow_4 rfl rfl ?_
  refine g_iconst (v := (5 : Int32)) E dX7_fromBelow_5 (by decide) ?_
  refine g_icmp_ge (tgt := 31) E dX7_fromBelow_6 (by decide) (fun c1 => ?_) (fun c1 => ?_)
  · have hf := gp hf c1
    refine g_iconst (v := (5 : Int32)) E dX7_fromBelow_31 (by decide) ?_
    have hf := Option.some.inj hf
    subst hf
    exact g_iret E dX7_fromBelow_32
  · have hf := gn hf c1
    refine g_iload_n E 2 dX7_fromBelow_9 rfl rfl ?_
    refine g_aload_n E 0 dX7_fromBelow_10 rfl rfl ?_
    refine g_get (C := RX7) (T := TX7) (N := 3) (ci := 7) E 8 0 (.ref (k.2.2.2.1 20)) hi_X7_fromBelow_X7 (cwG8 _ _) rfl (by decide) hk_X7_fromBelow_9 rfl dX7_fromBelow_11 ?_
    refine g_iload_n E 3 dX7_fromBelow_14 rfl rfl ?_
    obtain ⟨hi2, hf⟩ := gd hf
    refine g_iald E 20 (σ.1 20) (cwG20 _ _) hi2 dX7_fromBelow_15 ?_
    refine g_iadd E dX7_fromBelow_16 ?_
    refine g_istore_n E [(2, .int (x2 + (σ.1 20 x3.toNatClampNeg))), (0, .ref (k.2.2.2.1 8)), (1, .int x1), (3, .int x3)] dX7_fromBelow_17 rfl (by decide) rfl ?_
    refine g_iload_n E 0 dX7_fromBelow_18 rfl rfl ?_
    refine g_iload_n E 2 dX7_fromBelow_19 rfl rfl ?_
    refine g_icmp_le (tgt := 25) E dX7_fromBelow_20 (by decide) (fun c3 => ?_) (fun c3 => ?_)
    · have hf := gp hf c3
      refine g_iinc E 3 [(3, .int (x3 + (1 : Int32))), (2, .int (x2 + (σ.1 20 x3.toNatClampNeg))), (0, .ref (k.2.2.2.1 8)), (1, .int x1)] (x3 + (1 : Int32)) dX7_fromBelow_25 rfl (by rfl) (by decide) rfl ?_
      refine g_goto (tgt := 4) E dX7_fromBelow_28 (by decide) ?_
      exact g_sub [2, 3, 1, 0] rfl (hrc4 σ x1 (x2 + (σ.1 20 x3.toNatClampNeg)) (x3 + (1 : Int32)) r hf)
    · have hf := gn hf c3
      refine g_iload_n E 3 dX7_fromBelow_23 rfl rfl ?_
      have hf := Option.some.inj hf
      subst hf
      exact g_iret E dX7_fromBelow_24
theorem fX7_fromBelow_8_v4 {k : gK} {X : gX} (E : gE k X cX7_fromBelow RX7 wsX7_fromBelow 4 (some .int) rm_fX7_fromBelow_8) : ∀ (n : Nat) (σ : St) (x1 : Int32) (x2 : Int32) (x3 : Int32) (r : Int32 × St), fX7_fromBelow_8_l4 n σ x1 x2 x3 = some r → G k X 4 (some (.int r.1)) (cw k.2.2.2 r.2) (cw k.2.2.2 σ) [(0, .ref (k.2.2.2.1 8)), (1, .int x1), (2, .int x2), (3, .int x3)] [] 4 := by
  intro n
  induction n with
  | zero => intro σ x1 x2 x3 r hf; cases hf
  | succ n ih => intro σ x1 x2 x3 r hf; exact fX7_fromBelow_8_w4 E (fX7_fromBelow_8_l4 n) ih σ x1 x2 x3 r hf
set_option maxHeartbeats 4000000 in
set_option maxRecDepth 100000 in
theorem fX7_fromBelow_8_c (k : gK) (σ : St) (x1 : Int32) (r : Int32 × St) (hf : fX7_fromBelow_8 σ x1 = some r) : MC k yX7_fromBelow wsX7_fromBelow rm_fX7_fromBelow_8 [.ref (k.2.2.2.1 8), .int x1] (cw k.2.2.2 σ) (some (.int r.1)) (cw k.2.2.2 r.2) := by
  refine MC_of (cc := cX7_fromBelow) (maxL := 4) (ret := (some .int)) (own := RX7) (lvs := [(0, .ref (k.2.2.2.1 8)), (1, .int x1)]) (by decide) rfl rfl (Nat.le_of_ble_eq_true rfl) rfl (fun X E => ?_)
  unfold fX7_fromBelow_8 at hf
  refine g_iconst (v := (0 : Int32)) E dX7_fromBelow_0 (by decide) ?_
  refine g_istore_n E [(2, .int (0 : Int32)), (0, .ref (k.2.2.2.1 8)), (1, .int x1)] dX7_fromBelow_1 rfl (by decide) rfl ?_
  refine g_iconst (v := (0 : Int32)) E dX7_fromBelow_2 (by decide) ?_
  refine g_istore_n E [(3, .int (0 : Int32)), (2, .int (0 : Int32)), (0, .ref (k.2.2.2.1 8)), (1, .int x1)] dX7_fromBelow_3 rfl (by decide) rfl ?_
  exact g_sub [2, 3, 1, 0] rfl (fX7_fromBelow_8_v4 E gF σ x1 (0 : Int32) (0 : Int32) r hf)
theorem hi_X7_tenths_X7 : ∀ w ∈ wsX70, w ∈ wsX7_tenths := by decide +kernel
theorem hk_X7_tenths_21 : Cond.fieldLink RX7 21 "PaperMarks$Tally" "count" "I" ∈ wsX7_tenths := by decide +kernel
theorem hk_X7_tenths_25 : Cond.fieldLink RX7 25 "PaperMarks$Tally" "sum" "I" ∈ wsX7_tenths := by decide +kernel
def rm_fX7_tenths_8 : Room := { frames := 1, cells := 0, slots := 0, locals := 23 }
set_option maxHeartbeats 4000000 in
set_option maxRecDepth 100000 in
theorem fX7_tenths_8_c (k : gK) (σ : St) (x1 : Int32) (r : Int32 × St) (hf : fX7_tenths_8 σ x1 = some r) : MC k yX7_tenths wsX7_tenths rm_fX7_tenths_8 [.ref (k.2.2.2.1 8), .int x1] (cw k.2.2.2 σ) (some (.int r.1)) (cw k.2.2.2 r.2) := by
  refine MC_of (cc := cX7_tenths) (maxL := 2) (ret := (some .int)) (own := RX7) (lvs := [(0, .ref (k.2.2.2.1 8)), (1, .int x1)]) (by decide) rfl rfl (Nat.le_of_ble_eq_true rfl) rfl (fun X E => ?_)
  unfold fX7_tenths_8 at hf
  refine g_iload_n E 1 dX7_tenths_0 rfl rfl ?_
  by_cases c1 : x1 = (97 : Int32)
  · have hf := gp hf c1
    refine g_look (tgt := 36) (off := 35) E dX7_tenths_1 (by decide) (by rw [c1]; decide) (by decide) ?_
    refine g_aload_n E 0 dX7_tenths_36 rfl rfl ?_
    refine g_get (C := RX7) (T := TX7) (N := 3) (ci := 7) E 8 1 (.int (σ.2.1 4)) hi_X7_tenths_X7 (cwG8 _ _) rfl (by decide) hk_X7_tenths_21 rfl dX7_tenths_37 ?_
    refine g_if_le (tgt := 58) E dX7_tenths_40 (by decide) (fun c2 => ?_) (fun c2 => ?_)
    · have hf := gp hf c2
      refine g_iconst (v := (0 : Int32)) E dX7_tenths_58 (by decide) ?_
      have hf := Option.some.inj hf
      subst hf
      exact g_iret E dX7_tenths_59
    · have hf := gn hf c2
      refine g_bipush (v := (10 : Int32)) E dX7_tenths_43 (by decide) ?_
      refine g_aload_n E 0 dX7_tenths_45 rfl rfl ?_
      refine g_get (C := RX7) (T := TX7) (N := 3) (ci := 7) E 8 2 (.int (σ.2.1 5)) hi_X7_tenths_X7 (cwG8 _ _) rfl (by decide) hk_X7_tenths_25 rfl dX7_tenths_46 ?_
      refine g_imul E dX7_tenths_49 ?_
      refine g_aload_n E 0 dX7_tenths_50 rfl rfl ?_
      refine g_get (C := RX7) (T := TX7) (N := 3) (ci := 7) E 8 1 (.int (σ.2.1 4)) hi_X7_tenths_X7 (cwG8 _ _) rfl (by decide) hk_X7_tenths_21 rfl dX7_tenths_51 ?_
      obtain ⟨hn3, hf⟩ := gd hf
      refine g_idiv E hn3 dX7_tenths_54 ?_
      refine g_goto (tgt := 59) E dX7_tenths_55 (by decide) ?_
      have hf := Option.some.inj hf
      subst hf
      exact g_iret E dX7_tenths_59
  · have hf := gn hf c1
    by_cases c4 : x1 = (108 : Int32)
    · have hf := gp hf c4
      refine g_look (tgt := 76) (off := 75) E dX7_tenths_1 (by decide) (by rw [c4]; decide) (by decide) ?_
      refine g_bipush (v := (10 : Int32)) E dX7_tenths_76 (by decide) ?_
      refine g_aload_n E 0 dX7_tenths_78 rfl rfl ?_
      refine g_iconst (v := (0 : Int32)) E dX7_tenths_79 (by decide) ?_
      obtain ⟨q5, hq6, hf⟩ := gb hf
      refine g_callV (C := RX7) (T := TX7) (N := 3) (ci := 7) (As := [.int (0 : Int32)]) (rest := [.int (10 : Int32)]) (n := 1) E 8 (fX7_fromBelow_8_c k σ (0 : Int32) q5 hq6) gX7_tenths_X7_fromBelow rfl rfl rfl (by decide +kernel) ⟨Nat.le_of_ble_eq_true rfl, Nat.le_of_ble_eq_true rfl⟩ rfl rfl (Nat.le_of_ble_eq_true rfl) rfl (cwG8 _ _) dX7_tenths_80 ?_
      refine g_imul E dX7_tenths_83 ?_
      have hf := Option.some.inj hf
      subst hf
      exact g_iret E dX7_tenths_84
    · have hf := gn hf c4
      by_cases c7 : x1 = (109 : Int32)
      · have hf := gp hf c7
        refine g_look (tgt := 60) (off := 59) E dX7_tenths_1 (by decide) (by rw [c7]; decide) (by decide) ?_
        refine g_bipush (v := (10 : Int32)) E dX7_tenths_60 (by decide) ?_
        refine g_aload_n E 0 dX7_tenths_62 rfl rfl ?_
        refine g_aload_n E 0 dX7_tenths_63 rfl rfl ?_
        refine g_get (C := RX7) (T := TX7) (N := 3) (ci := 7) E 8 1 (.int (σ.2.1 4)) hi_X7_tenths_X7 (cwG8 _ _) rfl (by decide) hk_X7_tenths_21 rfl dX7_tenths_64 ?_
        refine g_iconst (v := (1 : Int32)) E dX7_tenths_67 (by decide) ?_
        refine g_isub E dX7_tenths_68 ?_
        refine g_iconst (v := (2 : Int32)) E dX7_tenths_69 (by decide) ?_
        refine g_idiv E (by decide) dX7_tenths_70 ?_
        obtain ⟨q8, hq9, hf⟩ := gb hf
        refine g_callV (C := RX7) (T := TX7) (N := 3) (ci := 7) (As := [.int ((((σ.2.1 4) - (1 : Int32))) / (2 : Int32))]) (rest := [.int (10 : Int32)]) (n := 1) E 8 (fX7_fromBelow_8_c k σ (((((σ.2.1 4) - (1 : Int32))) / (2 : Int32))) q8 hq9) gX7_tenths_X7_fromBelow rfl rfl rfl (by decide +kernel) ⟨Nat.le_of_ble_eq_true rfl, Nat.le_of_ble_eq_true rfl⟩ rfl rfl (Nat.le_of_ble_eq_true rfl) rfl (cwG8 _ _) dX7_tenths_71 ?_
        refine g_imul E dX7_tenths_74 ?_
        have hf := Option.some.inj hf
        subst hf
        exact g_iret E dX7_tenths_75
      · have hf := gn hf c7
        refine g_look (tgt := 85) (off := 84) E dX7_tenths_1 (by decide) ((lv_osw c1 (a := 97) rfl).trans ((lv_osw c4 (a := 108) rfl).trans ((lv_osw c7 (a := 109) rfl).trans rfl))) (by decide) ?_
        refine g_bipush (v := (10 : Int32)) E dX7_tenths_85 (by decide) ?_
        refine g_aload_n E 0 dX7_tenths_87 rfl rfl ?_
        refine g_aload_n E 0 dX7_tenths_88 rfl rfl ?_
        refine g_get (C := RX7) (T := TX7) (N := 3) (ci := 7) E 8 1 (.int (σ.2.1 4)) hi_X7_tenths_X7 (cwG8 _ _) rfl (by decide) hk_X7_tenths_21 rfl dX7_tenths_89 ?_
        refine g_iconst (v := (1 : Int32)) E dX7_tenths_92 (by decide) ?_
        refine g_isub E dX7_tenths_93 ?_
        obtain ⟨q10, hq11, hf⟩ := gb hf
        refine g_callV (C := RX7) (T := TX7) (N := 3) (ci := 7) (As := [.int ((σ.2.1 4) - (1 : Int32))]) (rest := [.int (10 : Int32)]) (n := 1) E 8 (fX7_fromBelow_8_c k σ (((σ.2.1 4) - (1 : Int32))) q10 hq11) gX7_tenths_X7_fromBelow rfl rfl rfl (by decide +kernel) ⟨Nat.le_of_ble_eq_true rfl, Nat.le_of_ble_eq_true rfl⟩ rfl rfl (Nat.le_of_ble_eq_true rfl) rfl (cwG8 _ _) dX7_tenths_94 ?_
        refine g_imul E dX7_tenths_97 ?_
        have hf := Option.some.inj hf
        subst hf
        exact g_iret E dX7_tenths_98
theorem hi_X5_quarters_X5 : ∀ w ∈ wsX50, w ∈ wsX5_quarters := by decide +kernel
theorem hi_X5_quarters_X7 : ∀ w ∈ wsX70, w ∈ wsX5_quarters := by decide +kernel
theorem hk_X5_quarters_21 : Cond.fieldLink RX5 21 "PaperMarks$Rule" "count" "I" ∈ wsX5_quarters := by decide +kernel
theorem hk_X5_quarters_11 : Cond.fieldLink RX5 11 "PaperMarks$Rule" "joins" "[I" ∈ wsX5_quarters := by decide +kernel
theorem hk_X5_quarters_15 : Cond.fieldLink RX5 15 "PaperMarks$Rule" "numbers" "[I" ∈ wsX5_quarters := by decide +kernel
theorem hk_X5_quarters_18 : Cond.fieldLink RX5 18 "PaperMarks$Rule" "coins" "[I" ∈ wsX5_quarters := by decide +kernel
theorem hk_X5_quarters_41 : Cond.fieldLink RX5 41 "PaperMarks$Tally" "count" "I" ∈ wsX5_quarters := by decide +kernel
def rm_fX5_quarters_8 : Room := { frames := 2, cells := 0, slots := 0, locals := 44 }
set_option maxHeartbeats 4000000 in
set_option maxRecDepth 100000 in
theorem fX5_quarters_8_w11 {k : gK} {X : gX} (E : gE k X cX5_quarters RX5 wsX5_quarters 3 (some .int) rm_fX5_quarters_8) (rc11 : St → Int32 → Option (Int32 × St)) (hrc11 : ∀ (σ : St) (x2 : Int32) (r : Int32 × St), rc11 σ x2 = some r → G k X 3 (some (.int r.1)) (cw k.2.2.2 r.2) (cw k.2.2.2 σ) [(0, .ref (k.2.2.2.1 5)), (1, .ref (k.2.2.2.1 8)), (2, .int x2)] [] 11) (σ : St) (x2 : Int32) (r : Int32 × St) (hf : fX5_quarters_8_b11 rc11 σ x2 = some r) : G k X 3 (some (.int r.1)) (cw k.2.2.2 r.2) (cw k.2.2.2 σ) [(0, .ref (k.2.2.2.1 5)), (1, .ref (k.2.2.2.1 8)), (2, .int x2)] [] 11 := by
  unfold fX5_quarters_8_b11 at hf
  refine g_iload_n E 2 dX5_quarters_11 rfl rfl ?_
  refine g_aload_n E 0 dX5_quarters_12 rfl rfl ?_
  refine g_get (C := RX5) (T := TX5) (N := 4) (ci := 5) E 5 3 (.int (σ.2.1 3)) hi_X5_quarters_X5 (cwG5 _ _) rfl (by decide) hk_X5_quarters_21 rfl dX5_quarters_13 ?_
  refine g_icmp_ge (tgt := 51) E dX5_quarters_16 (by decide) (fun c1 => ?_) (fun c1 => ?_)
  · have hf := gp hf c1
    refine g_iconst (v := (0 : Int32)) E dX5_quarters_51 (by decide) ?_
    have hf := Option.some.inj hf
    subst hf
    exact g_iret E dX5_quarters_52
  · have hf := gn hf c1
    refine g_aload_n E 1 dX5_quarters_19 rfl rfl ?_
    refine g_aload_n E 0 dX5_quarters_20 rfl rfl ?_
    refine g_get (C := RX5) (T := TX5) (N := 4) (ci := 5) E 5 0 (.ref (k.2.2.2.1 22)) hi_X5_quarters_X5 (cwG5 _ _) rfl (by decide) hk_X5_quarters_11 rfl dX5_quarters_21 ?_
    refine g_iload_n E 2 dX5_quarters_24 rfl rfl ?_
    obtain ⟨hi2, hf⟩ := gd hf
    refine g_iald E 22 (σ.1 22) (cwG22 _ _) hi2 dX5_quarters_25 ?_
    obtain ⟨q3, hq4, hf⟩ := gb hf
    refine g_callV (C := RX7) (T := TX7) (N := 3) (ci := 7) (As := [.int (σ.1 22 x2.toNatClampNeg)]) (rest := []) (n := 1) E 8 (fX7_tenths_8_c k σ (σ.1 22 x2.toNatClampNeg) q3 hq4) gX5_quarters_X7_tenths rfl rfl rfl (by decide +kernel) ⟨Nat.le_of_ble_eq_true rfl, Nat.le_of_ble_eq_true rfl⟩ rfl rfl (Nat.le_of_ble_eq_true rfl) rfl (cwG8 _ _) dX5_quarters_26 ?_
    refine g_aload_n E 0 dX5_quarters_29 rfl rfl ?_
    refine g_get (C := RX5) (T := TX5) (N := 4) (ci := 5) E 5 1 (.ref (k.2.2.2.1 23)) hi_X5_quarters_X5 (cwG5 _ _) rfl (by decide) hk_X5_quarters_15 rfl dX5_quarters_30 ?_
    refine g_iload_n E 2 dX5_quarters_33 rfl rfl ?_
    obtain ⟨hi5, hf⟩ := gd hf
    refine g_iald E 23 (q3.2.1 23) (cwG23 _ _) hi5 dX5_quarters_34 ?_
    refine g_icmp_le (tgt := 45) E dX5_quarters_35 (by decide) (fun c6 => ?_) (fun c6 => ?_)
    · have hf := gp hf c6
      refine g_iinc E 2 [(2, .int (x2 + (1 : Int32))), (0, .ref (k.2.2.2.1 5)), (1, .ref (k.2.2.2.1 8))] (x2 + (1 : Int32)) dX5_quarters_45 rfl (by rfl) (by decide) rfl ?_
      refine g_goto (tgt := 11) E dX5_quarters_48 (by decide) ?_
      exact g_sub [1, 2, 0] rfl (hrc11 q3.2 (x2 + (1 : Int32)) r hf)
    · have hf := gn hf c6
      refine g_aload_n E 0 dX5_quarters_38 rfl rfl ?_
      refine g_get (C := RX5) (T := TX5) (N := 4) (ci := 5) E 5 2 (.ref (k.2.2.2.1 24)) hi_X5_quarters_X5 (cwG5 _ _) rfl (by decide) hk_X5_quarters_18 rfl dX5_quarters_39 ?_
      refine g_iload_n E 2 dX5_quarters_42 rfl rfl ?_
      obtain ⟨hi7, hf⟩ := gd hf
      refine g_iald E 24 (q3.2.1 24) (cwG24 _ _) hi7 dX5_quarters_43 ?_
      have hf := Option.some.inj hf
      subst hf
      exact g_iret E dX5_quarters_44
theorem fX5_quarters_8_v11 {k : gK} {X : gX} (E : gE k X cX5_quarters RX5 wsX5_quarters 3 (some .int) rm_fX5_quarters_8) : ∀ (n : Nat) (σ : St) (x2 : Int32) (r : Int32 × St), fX5_quarters_8_l11 n σ x2 = some r → G k X 3 (some (.int r.1)) (cw k.2.2.2 r.2) (cw k.2.2.2 σ) [(0, .ref (k.2.2.2.1 5)), (1, .ref (k.2.2.2.1 8)), (2, .int x2)] [] 11 := by
  intro n
  induction n with
  | zero => intro σ x2 r hf; cases hf
  | succ n ih => intro σ x2 r hf; exact fX5_quarters_8_w11 E (fX5_quarters_8_l11 n) ih σ x2 r hf
set_option maxHeartbeats 4000000 in
set_option maxRecDepth 100000 in
theorem fX5_quarters_8_c (k : gK) (σ : St) (r : Int32 × St) (hf : fX5_quarters_8 σ = some r) : MC k yX5_quarters wsX5_quarters rm_fX5_quarters_8 [.ref (k.2.2.2.1 5), .ref (k.2.2.2.1 8)] (cw k.2.2.2 σ) (some (.int r.1)) (cw k.2.2.2 r.2) := by
  refine MC_of (cc := cX5_quarters) (maxL := 3) (ret := (some .int)) (own := RX5) (lvs := [(0, .ref (k.2.2.2.1 5)), (1, .ref (k.2.2.2.1 8))]) (by decide) rfl rfl (Nat.le_of_ble_eq_true rfl) rfl (fun X E => ?_)
  unfold fX5_quarters_8 at hf
  refine g_aload_n E 1 dX5_quarters_0 rfl rfl ?_
  refine g_get (C := RX7) (T := TX7) (N := 3) (ci := 7) E 8 1 (.int (σ.2.1 4)) hi_X5_quarters_X7 (cwG8 _ _) rfl (by decide) hk_X5_quarters_41 rfl dX5_quarters_1 ?_
  refine g_if_gt (tgt := 9) E dX5_quarters_4 (by decide) (fun c1 => ?_) (fun c1 => ?_)
  · have hf := gp hf c1
    refine g_iconst (v := (0 : Int32)) E dX5_quarters_9 (by decide) ?_
    refine g_istore_n E [(2, .int (0 : Int32)), (0, .ref (k.2.2.2.1 5)), (1, .ref (k.2.2.2.1 8))] dX5_quarters_10 rfl (by decide) rfl ?_
    exact g_sub [1, 2, 0] rfl (fX5_quarters_8_v11 E gF σ (0 : Int32) r hf)
  · have hf := gn hf c1
    refine g_iconst (v := (0 : Int32)) E dX5_quarters_7 (by decide) ?_
    have hf := Option.some.inj hf
    subst hf
    exact g_iret E dX5_quarters_8
theorem hi_X8_yes_X8 : ∀ w ∈ wsX80, w ∈ wsX8_yes := by decide +kernel
theorem hi_X8_yes_X5 : ∀ w ∈ wsX50, w ∈ wsX8_yes := by decide +kernel
theorem hk_X8_yes_19 : Cond.fieldLink RX8 19 "PaperMarks" "papers" "LPaperMarks$Papers;" ∈ wsX8_yes := by decide +kernel
theorem hk_X8_yes_40 : Cond.fieldLink RX8 40 "PaperMarks" "rule" "LPaperMarks$Rule;" ∈ wsX8_yes := by decide +kernel
theorem hk_X8_yes_122 : Cond.fieldLink RX8 122 "PaperMarks$Rule" "count" "I" ∈ wsX8_yes := by decide +kernel
theorem hk_X8_yes_26 : Cond.fieldLink RX8 26 "PaperMarks" "marks" "LPaperMarks$Marks;" ∈ wsX8_yes := by decide +kernel
def rm_fX8_yes : Room := { frames := 3, cells := 0, slots := 0, locals := 66 }
set_option maxHeartbeats 4000000 in
set_option maxRecDepth 100000 in
theorem fX8_yes_c (k : gK) (σ : St) (x1 : Int32) (r : Int32 × St) (hf : fX8_yes σ x1 = some r) : MC k yX8_yes wsX8_yes rm_fX8_yes [.ref (k.2.2.2.1 0), .int x1] (cw k.2.2.2 σ) (some (.int r.1)) (cw k.2.2.2 r.2) := by
  refine MC_of (cc := cX8_yes) (maxL := 2) (ret := (some .int)) (own := RX8) (lvs := [(0, .ref (k.2.2.2.1 0)), (1, .int x1)]) (by decide) rfl rfl (Nat.le_of_ble_eq_true rfl) rfl (fun X E => ?_)
  unfold fX8_yes at hf
  refine g_aload_n E 0 dX8_yes_0 rfl rfl ?_
  refine g_get (C := RX8) (T := TX8) (N := 7) (ci := 8) E 0 1 (.ref (k.2.2.2.1 2)) hi_X8_yes_X8 (cwG0 _ _) rfl (by decide) hk_X8_yes_19 rfl dX8_yes_1 ?_
  refine g_iload_n E 1 dX8_yes_4 rfl rfl ?_
  obtain ⟨q1, hq2, hf⟩ := gb hf
  refine g_callV (C := RX4) (T := TX4) (N := 6) (ci := 4) (As := [.int x1]) (rest := []) (n := 1) E 2 (fX4_has_c k σ x1 q1 hq2) gX8_yes_X4_has rfl rfl rfl (by decide +kernel) ⟨Nat.le_of_ble_eq_true rfl, Nat.le_of_ble_eq_true rfl⟩ rfl rfl (Nat.le_of_ble_eq_true rfl) rfl (cwG2 _ _) dX8_yes_5 ?_
  refine g_if_ne (tgt := 13) E dX8_yes_8 (by decide) (fun c3 => ?_) (fun c3 => ?_)
  · have hf := gn hf c3
    refine g_aload_n E 0 dX8_yes_13 rfl rfl ?_
    refine g_get (C := RX8) (T := TX8) (N := 7) (ci := 8) E 0 4 (.ref (k.2.2.2.1 5)) hi_X8_yes_X8 (cwG0 _ _) rfl (by decide) hk_X8_yes_40 rfl dX8_yes_14 ?_
    refine g_get (C := RX5) (T := TX5) (N := 4) (ci := 5) E 5 3 (.int (q1.2.2.1 3)) hi_X8_yes_X5 (cwG5 _ _) rfl (by decide) hk_X8_yes_122 rfl dX8_yes_17 ?_
    refine g_if_ne (tgt := 26) E dX8_yes_20 (by decide) (fun c4 => ?_) (fun c4 => ?_)
    · have hf := gn hf c4
      refine g_aload_n E 0 dX8_yes_26 rfl rfl ?_
      refine g_get (C := RX8) (T := TX8) (N := 7) (ci := 8) E 0 4 (.ref (k.2.2.2.1 5)) hi_X8_yes_X8 (cwG0 _ _) rfl (by decide) hk_X8_yes_40 rfl dX8_yes_27 ?_
      refine g_aload_n E 0 dX8_yes_30 rfl rfl ?_
      refine g_get (C := RX8) (T := TX8) (N := 7) (ci := 8) E 0 2 (.ref (k.2.2.2.1 3)) hi_X8_yes_X8 (cwG0 _ _) rfl (by decide) hk_X8_yes_26 rfl dX8_yes_31 ?_
      refine g_iload_n E 1 dX8_yes_34 rfl rfl ?_
      obtain ⟨q5, hq6, hf⟩ := gb hf
      refine g_callV (C := RX1) (T := TX1) (N := 2) (ci := 1) (As := [.int x1]) (rest := [.ref (k.2.2.2.1 5)]) (n := 1) E 3 (fX1_tallyOf_c k q1.2 x1 q5 hq6) gX8_yes_X1_tallyOf rfl rfl rfl (by decide +kernel) ⟨Nat.le_of_ble_eq_true rfl, Nat.le_of_ble_eq_true rfl⟩ rfl rfl (Nat.le_of_ble_eq_true rfl) rfl (cwG3 _ _) dX8_yes_35 ?_
      obtain ⟨q7, hq8, hf⟩ := gb hf
      refine g_callV (C := RX5) (T := TX5) (N := 4) (ci := 5) (As := [.ref (k.2.2.2.1 8)]) (rest := []) (n := 1) E 5 (fX5_quarters_8_c k q5.2  q7 hq8) gX8_yes_X5_quarters rfl rfl rfl (by decide +kernel) ⟨Nat.le_of_ble_eq_true rfl, Nat.le_of_ble_eq_true rfl⟩ rfl rfl (Nat.le_of_ble_eq_true rfl) rfl (cwG5 _ _) dX8_yes_38 ?_
      have hf := Option.some.inj hf
      subst hf
      exact g_iret E dX8_yes_41
    · have hf := gp hf c4
      refine g_bipush (v := (-3 : Int32)) E dX8_yes_23 (by decide) ?_
      have hf := Option.some.inj hf
      subst hf
      exact g_iret E dX8_yes_25
  · have hf := gp hf c3
    refine g_iconst (v := (-1 : Int32)) E dX8_yes_11 (by decide) ?_
    have hf := Option.some.inj hf
    subst hf
    exact g_iret E dX8_yes_12
theorem hi_X8_refusalOfOdds_X8 : ∀ w ∈ wsX80, w ∈ wsX8_refusalOfOdds := by decide +kernel
theorem hi_X8_refusalOfOdds_X5 : ∀ w ∈ wsX50, w ∈ wsX8_refusalOfOdds := by decide +kernel
theorem hk_X8_refusalOfOdds_40 : Cond.fieldLink RX8 40 "PaperMarks" "rule" "LPaperMarks$Rule;" ∈ wsX8_refusalOfOdds := by decide +kernel
theorem hk_X8_refusalOfOdds_122 : Cond.fieldLink RX8 122 "PaperMarks$Rule" "count" "I" ∈ wsX8_refusalOfOdds := by decide +kernel
def rm_fX8_refusalOfOdds : Room := { frames := 0, cells := 0, slots := 0, locals := 0 }
set_option maxHeartbeats 4000000 in
set_option maxRecDepth 100000 in
theorem fX8_refusalOfOdds_c (k : gK) (σ : St) (x1 : Int32) (x2 : Int32) (r : Int32 × St) (hf : fX8_refusalOfOdds σ x1 x2 = some r) : MC k yX8_refusalOfOdds wsX8_refusalOfOdds rm_fX8_refusalOfOdds [.ref (k.2.2.2.1 0), .int x1, .int x2] (cw k.2.2.2 σ) (some (.int r.1)) (cw k.2.2.2 r.2) := by
  refine MC_of (cc := cX8_refusalOfOdds) (maxL := 3) (ret := (some .int)) (own := RX8) (lvs := [(0, .ref (k.2.2.2.1 0)), (1, .int x1), (2, .int x2)]) (by decide) rfl rfl (Nat.le_of_ble_eq_true rfl) rfl (fun X E => ?_)
  unfold fX8_refusalOfOdds at hf
  refine g_iload_n E 1 dX8_refusalOfOdds_0 rfl rfl ?_
  refine g_if_ne (tgt := 6) E dX8_refusalOfOdds_1 (by decide) (fun c1 => ?_) (fun c1 => ?_)
  · have hf := gn hf c1
    refine g_iload_n E 2 dX8_refusalOfOdds_6 rfl rfl ?_
    refine g_if_ne (tgt := 13) E dX8_refusalOfOdds_7 (by decide) (fun c2 => ?_) (fun c2 => ?_)
    · have hf := gn hf c2
      refine g_aload_n E 0 dX8_refusalOfOdds_13 rfl rfl ?_
      refine g_get (C := RX8) (T := TX8) (N := 7) (ci := 8) E 0 4 (.ref (k.2.2.2.1 5)) hi_X8_refusalOfOdds_X8 (cwG0 _ _) rfl (by decide) hk_X8_refusalOfOdds_40 rfl dX8_refusalOfOdds_14 ?_
      refine g_get (C := RX5) (T := TX5) (N := 4) (ci := 5) E 5 3 (.int (σ.2.1 3)) hi_X8_refusalOfOdds_X5 (cwG5 _ _) rfl (by decide) hk_X8_refusalOfOdds_122 rfl dX8_refusalOfOdds_17 ?_
      refine g_if_ne (tgt := 28) E dX8_refusalOfOdds_20 (by decide) (fun c3 => ?_) (fun c3 => ?_)
      · have hf := gn hf c3
        refine g_iconst (v := (0 : Int32)) E dX8_refusalOfOdds_28 (by decide) ?_
        have hf := Option.some.inj hf
        subst hf
        exact g_iret E dX8_refusalOfOdds_29
      · have hf := gp hf c3
        refine g_bipush (v := (-3 : Int32)) E dX8_refusalOfOdds_23 (by decide) ?_
        refine g_goto (tgt := 29) E dX8_refusalOfOdds_25 (by decide) ?_
        have hf := Option.some.inj hf
        subst hf
        exact g_iret E dX8_refusalOfOdds_29
    · have hf := gp hf c2
      refine g_bipush (v := (-2 : Int32)) E dX8_refusalOfOdds_10 (by decide) ?_
      have hf := Option.some.inj hf
      subst hf
      exact g_iret E dX8_refusalOfOdds_12
  · have hf := gp hf c1
    refine g_iconst (v := (-1 : Int32)) E dX8_refusalOfOdds_4 (by decide) ?_
    have hf := Option.some.inj hf
    subst hf
    exact g_iret E dX8_refusalOfOdds_5
def rm_fJ7_fill_53178_26 : Room := { frames := 0, cells := 0, slots := 0, locals := 0 }
set_option maxHeartbeats 4000000 in
set_option maxRecDepth 100000 in
theorem fJ7_fill_53178_26_w5 {k : gK} {X : gX} (E : gE k X cJ7_fill_53178 RJ7 wsJ7_fill_53178 4 none rm_fJ7_fill_53178_26) (rc5 : St → Int32 → Int32 → Int32 → Option (Unit × St)) (hrc5 : ∀ (σ : St) (x1 : Int32) (x2 : Int32) (x3 : Int32) (r : Unit × St), rc5 σ x1 x2 x3 = some r → G k X 4 (none) (cw k.2.2.2 r.2) (cw k.2.2.2 σ) [(0, .ref (k.2.2.2.1 26)), (1, .int x1), (2, .int x2), (3, .int x3)] [] 5) (σ : St) (x1 : Int32) (x2 : Int32) (x3 : Int32) (r : Unit × St) (hf : fJ7_fill_53178_26_b5 rc5 σ x1 x2 x3 = some r) : G k X 4 (none) (cw k.2.2.2 r.2) (cw k.2.2.2 σ) [(0, .ref (k.2.2.2.1 26)), (1, .int x1), (2, .int x2), (3, .int x3)] [] 5 := by
  unfold fJ7_fill_53178_26_b5 at hf
  refine g_iload_n E 2 dJ7_fill_53178_5 rfl rfl ?_
  refine g_iload_n E 3 dJ7_fill_53178_6 rfl rfl ?_
  refine g_icmp_ge (tgt := 20) E dJ7_fill_53178_7 (by decide) (fun c1 => ?_) (fun c1 => ?_)
  · have hf := gp hf c1
    have hf := Option.some.inj hf
    subst hf
    exact g_vret E dJ7_fill_53178_20
  · have hf := gn hf c1
    refine g_aload_n E 0 dJ7_fill_53178_10 rfl rfl ?_
    refine g_iload_n E 2 dJ7_fill_53178_11 rfl rfl ?_
    refine g_iload_n E 1 dJ7_fill_53178_12 rfl rfl ?_
    obtain ⟨hi2, hf⟩ := gd hf
    refine g_iast E 26 (cw k.2.2.2 (uA σ 26 x2.toNatClampNeg x1)) (σ.1 26) (cwG26 _ _) hi2 (cwA26 _ _ _ _) dJ7_fill_53178_13 ?_
    refine g_iinc E 2 [(2, .int (x2 + (1 : Int32))), (0, .ref (k.2.2.2.1 26)), (1, .int x1), (3, .int x3)] (x2 + (1 : Int32)) dJ7_fill_53178_14 rfl (by rfl) (by decide) rfl ?_
    refine g_goto (tgt := 5) E dJ7_fill_53178_17 (by decide) ?_
    exact g_sub [1, 2, 0, 3] rfl (hrc5 (uA σ 26 x2.toNatClampNeg x1) x1 (x2 + (1 : Int32)) x3 r hf)
theorem fJ7_fill_53178_26_v5 {k : gK} {X : gX} (E : gE k X cJ7_fill_53178 RJ7 wsJ7_fill_53178 4 none rm_fJ7_fill_53178_26) : ∀ (n : Nat) (σ : St) (x1 : Int32) (x2 : Int32) (x3 : Int32) (r : Unit × St), fJ7_fill_53178_26_l5 n σ x1 x2 x3 = some r → G k X 4 (none) (cw k.2.2.2 r.2) (cw k.2.2.2 σ) [(0, .ref (k.2.2.2.1 26)), (1, .int x1), (2, .int x2), (3, .int x3)] [] 5 := by
  intro n
  induction n with
  | zero => intro σ x1 x2 x3 r hf; cases hf
  | succ n ih => intro σ x1 x2 x3 r hf; exact fJ7_fill_53178_26_w5 E (fJ7_fill_53178_26_l5 n) ih σ x1 x2 x3 r hf
set_option maxHeartbeats 4000000 in
set_option maxRecDepth 100000 in
theorem fJ7_fill_53178_26_c (k : gK) (σ : St) (x1 : Int32) (r : Unit × St) (hf : fJ7_fill_53178_26 σ x1 = some r) : MC k yJ7_fill_53178 wsJ7_fill_53178 rm_fJ7_fill_53178_26 [.ref (k.2.2.2.1 26), .int x1] (cw k.2.2.2 σ) (none) (cw k.2.2.2 r.2) := by
  refine MC_of (cc := cJ7_fill_53178) (maxL := 4) (ret := none) (own := RJ7) (lvs := [(0, .ref (k.2.2.2.1 26)), (1, .int x1)]) (by decide) rfl rfl (Nat.le_of_ble_eq_true rfl) rfl (fun X E => ?_)
  unfold fJ7_fill_53178_26 at hf
  refine g_iconst (v := (0 : Int32)) E dJ7_fill_53178_0 (by decide) ?_
  refine g_istore_n E [(2, .int (0 : Int32)), (0, .ref (k.2.2.2.1 26)), (1, .int x1)] dJ7_fill_53178_1 rfl (by decide) rfl ?_
  refine g_aload_n E 1 dJ7_fill_53178_2 rfl rfl ?_
  refine g_alenI (v := (6 : Int32)) E 26 (σ.1 26) (cwG26 _ _) (by decide) dJ7_fill_53178_3 ?_
  refine g_istore_n E [(3, .int (6 : Int32)), (2, .int (0 : Int32)), (0, .ref (k.2.2.2.1 26)), (1, .int x1)] dJ7_fill_53178_4 rfl (by decide) rfl ?_
  exact g_sub [2, 3, 1, 0] rfl (fJ7_fill_53178_26_v5 E gF σ x1 (0 : Int32) (6 : Int32) r hf)
def rm_fX7_clear_9 : Room := { frames := 1, cells := 0, slots := 0, locals := 23 }
set_option maxHeartbeats 4000000 in
set_option maxRecDepth 100000 in
theorem fX7_clear_9_c (k : gK) (σ : St) (r : Unit × St) (hf : fX7_clear_9 σ = some r) : MC k yX7_clear wsX7_clear rm_fX7_clear_9 [.ref (k.2.2.2.1 9)] (cw k.2.2.2 σ) (none) (cw k.2.2.2 r.2) := by
  refine MC_of (cc := cX7_clear) (maxL := 1) (ret := none) (own := RX7) (lvs := [(0, .ref (k.2.2.2.1 9))]) (by decide) rfl rfl (Nat.le_of_ble_eq_true rfl) rfl (fun X E => ?_)
  unfold fX7_clear_9 at hf
  refine g_aload_n E 0 dX7_clear_0 rfl rfl ?_
  refine g_get (C := RX7) (T := TX7) (N := 3) (ci := 7) E 9 0 (.ref (k.2.2.2.1 26)) hi_X7_clear_X7 (cwG9 _ _) rfl (by decide) hk_X7_clear_9 rfl dX7_clear_1 ?_
  refine g_iconst (v := (0 : Int32)) E dX7_clear_4 (by decide) ?_
  obtain ⟨q1, hq2, hf⟩ := gb hf
  refine g_callS (As := [.ref (k.2.2.2.1 26), .int (0 : Int32)]) (rest := []) (n := 2) E (fJ7_fill_53178_26_c k σ (0 : Int32) q1 hq2) gX7_clear_J7_fill_53178 rfl rfl rfl (by decide +kernel) ⟨Nat.le_of_ble_eq_true rfl, Nat.le_of_ble_eq_true rfl⟩ rfl rfl (Nat.le_of_ble_eq_true rfl) dX7_clear_5 ?_
  refine g_aload_n E 0 dX7_clear_8 rfl rfl ?_
  refine g_iconst (v := (0 : Int32)) E dX7_clear_9 (by decide) ?_
  refine g_put (C := RX7) (T := TX7) (N := 3) (ci := 7) E 9 1 (cw k.2.2.2 (uI q1.2 6 (0 : Int32))) hi_X7_clear_X7 tyX7 tyX7_ok nmX7 (cwG9 _ _) rfl (by decide) hk_X7_clear_21 rfl (by decide +kernel) (Nat.le_of_ble_eq_true rfl) (cwI6 _ _ _) dX7_clear_10 ?_
  refine g_aload_n E 0 dX7_clear_13 rfl rfl ?_
  refine g_iconst (v := (0 : Int32)) E dX7_clear_14 (by decide) ?_
  refine g_put (C := RX7) (T := TX7) (N := 3) (ci := 7) E 9 2 (cw k.2.2.2 (uI ((uI q1.2 6 (0 : Int32))) 7 (0 : Int32))) hi_X7_clear_X7 tyX7 tyX7_ok nmX7 (cwG9 _ _) rfl (by decide) hk_X7_clear_25 rfl (by decide +kernel) (Nat.le_of_ble_eq_true rfl) (cwI7 _ _ _) dX7_clear_15 ?_
  have hf := Option.some.inj hf
  subst hf
  exact g_vret E dX7_clear_18
def rm_fX3_bounded : Room := { frames := 1, cells := 0, slots := 0, locals := 40 }
set_option maxHeartbeats 4000000 in
set_option maxRecDepth 100000 in
theorem fX3_bounded_c (k : gK) (σ : St) (x0 : Int32) (r : Int32 × St) (hf : fX3_bounded σ x0 = some r) : MC k yX3_bounded wsX3_bounded rm_fX3_bounded [.int x0] (cw k.2.2.2 σ) (some (.int r.1)) (cw k.2.2.2 r.2) := by
  refine MC_of (cc := cX3_bounded) (maxL := 1) (ret := (some .int)) (own := RX3) (lvs := [(0, .int x0)]) (by decide) rfl rfl (Nat.le_of_ble_eq_true rfl) rfl (fun X E => ?_)
  unfold fX3_bounded at hf
  refine g_iconst (v := (0 : Int32)) E dX3_bounded_0 (by decide) ?_
  refine g_iconst (v := (5 : Int32)) E dX3_bounded_1 (by decide) ?_
  refine g_iload_n E 0 dX3_bounded_2 rfl rfl ?_
  refine g_mmin E (by decide +kernel) (by decide +kernel) (by decide +kernel) (by decide +kernel) (Nat.le_of_ble_eq_true rfl) (Nat.le_of_ble_eq_true rfl) dX3_bounded_3 ?_
  refine g_mmax E (by decide +kernel) (by decide +kernel) (by decide +kernel) (by decide +kernel) (Nat.le_of_ble_eq_true rfl) (Nat.le_of_ble_eq_true rfl) dX3_bounded_6 ?_
  have hf := Option.some.inj hf
  subst hf
  exact g_iret E dX3_bounded_9
theorem hi_X3_waysOfMark_X3 : ∀ w ∈ wsX30, w ∈ wsX3_waysOfMark := by decide +kernel
theorem hi_X3_waysOfMark_X0 : ∀ w ∈ wsX00, w ∈ wsX3_waysOfMark := by decide +kernel
theorem hi_X3_waysOfMark_X4 : ∀ w ∈ wsX40, w ∈ wsX3_waysOfMark := by decide +kernel
theorem hk_X3_waysOfMark_22 : Cond.fieldLink RX3 22 "PaperMarks$Odds" "judges" "LPaperMarks$Judges;" ∈ wsX3_waysOfMark := by decide +kernel
theorem hk_X3_waysOfMark_94 : Cond.fieldLink RX3 94 "PaperMarks$Judges" "leans" "[I" ∈ wsX3_waysOfMark := by decide +kernel
theorem hk_X3_waysOfMark_26 : Cond.fieldLink RX3 26 "PaperMarks$Odds" "papers" "LPaperMarks$Papers;" ∈ wsX3_waysOfMark := by decide +kernel
theorem hk_X3_waysOfMark_97 : Cond.fieldLink RX3 97 "PaperMarks$Papers" "writers" "[I" ∈ wsX3_waysOfMark := by decide +kernel
theorem hk_X3_waysOfMark_103 : Cond.fieldLink RX3 103 "PaperMarks$Judges" "slips" "[I" ∈ wsX3_waysOfMark := by decide +kernel
def rm_fX3_waysOfMark : Room := { frames := 2, cells := 0, slots := 0, locals := 60 }
set_option maxHeartbeats 4000000 in
set_option maxRecDepth 100000 in
theorem fX3_waysOfMark_w90 {k : gK} {X : gX} (E : gE k X cX3_waysOfMark RX3 wsX3_waysOfMark 8 (some .int) rm_fX3_waysOfMark) (σ : St) (x4 : Int32) (x5 : Int32) (x6 : Int32) (t0 : Int32) (t1 : Int32) (r : Int32 × St) (hf : fX3_waysOfMark_b90 σ x4 x5 x6 t0 t1 = some r) : G k X 8 (some (.int r.1)) (cw k.2.2.2 r.2) (cw k.2.2.2 σ) [(4, .int x4), (5, .int x5), (6, .int x6)] [.int t1, .int t0] 90 := by
  unfold fX3_waysOfMark_b90 at hf
  refine g_iadd E dX3_waysOfMark_90 ?_
  refine g_istore E [(7, .int (t0 + t1)), (4, .int x4), (5, .int x5), (6, .int x6)] dX3_waysOfMark_91 (by decide) rfl ?_
  refine g_iload E 0 dX3_waysOfMark_93 rfl ?_
  refine g_iload E 2 dX3_waysOfMark_95 rfl ?_
  refine g_iconst (v := (1 : Int32)) E dX3_waysOfMark_97 (by decide) ?_
  refine g_iadd E dX3_waysOfMark_98 ?_
  obtain ⟨q1, hq2, hf⟩ := gb hf
  refine g_callS (As := [.int (x5 + (1 : Int32))]) (rest := [.int (t0 + t1)]) (n := 1) E (fX3_bounded_c k σ ((x5 + (1 : Int32))) q1 hq2) gX3_waysOfMark_X3_bounded rfl rfl rfl (by decide +kernel) ⟨Nat.le_of_ble_eq_true rfl, Nat.le_of_ble_eq_true rfl⟩ rfl rfl (Nat.le_of_ble_eq_true rfl) dX3_waysOfMark_99 ?_
  refine g_iload E 1 dX3_waysOfMark_102 rfl ?_
  refine g_icmp_ne (tgt := 112) E dX3_waysOfMark_104 (by decide) (fun c3 => ?_) (fun c3 => ?_)
  · have hf := gn hf c3
    refine g_iconst (v := (0 : Int32)) E dX3_waysOfMark_112 (by decide) ?_
    refine g_iadd E dX3_waysOfMark_113 ?_
    refine g_istore E [(7, .int ((t0 + t1) + (0 : Int32))), (4, .int x4), (5, .int x5), (6, .int x6)] dX3_waysOfMark_114 (by decide) rfl ?_
    refine g_iload E 0 dX3_waysOfMark_116 rfl ?_
    have hf := Option.some.inj hf
    subst hf
    exact g_iret E dX3_waysOfMark_118
  · have hf := gp hf c3
    refine g_iload E 3 dX3_waysOfMark_107 rfl ?_
    refine g_goto (tgt := 113) E dX3_waysOfMark_109 (by decide) ?_
    refine g_iadd E dX3_waysOfMark_113 ?_
    refine g_istore E [(7, .int ((t0 + t1) + x6)), (4, .int x4), (5, .int x5), (6, .int x6)] dX3_waysOfMark_114 (by decide) rfl ?_
    refine g_iload E 0 dX3_waysOfMark_116 rfl ?_
    have hf := Option.some.inj hf
    subst hf
    exact g_iret E dX3_waysOfMark_118
set_option maxHeartbeats 4000000 in
set_option maxRecDepth 100000 in
theorem fX3_waysOfMark_w65 {k : gK} {X : gX} (E : gE k X cX3_waysOfMark RX3 wsX3_waysOfMark 8 (some .int) rm_fX3_waysOfMark) (σ : St) (x4 : Int32) (x5 : Int32) (x6 : Int32) (t0 : Int32) (t1 : Int32) (r : Int32 × St) (hf : fX3_waysOfMark_b65 σ x4 x5 x6 t0 t1 = some r) : G k X 8 (some (.int r.1)) (cw k.2.2.2 r.2) (cw k.2.2.2 σ) [(4, .int x4), (5, .int x5), (6, .int x6)] [.int t1, .int t0] 65 := by
  unfold fX3_waysOfMark_b65 at hf
  refine g_iadd E dX3_waysOfMark_65 ?_
  refine g_istore E [(7, .int (t0 + t1)), (4, .int x4), (5, .int x5), (6, .int x6)] dX3_waysOfMark_66 (by decide) rfl ?_
  refine g_iload E 0 dX3_waysOfMark_68 rfl ?_
  refine g_iload E 2 dX3_waysOfMark_70 rfl ?_
  obtain ⟨q1, hq2, hf⟩ := gb hf
  refine g_callS (As := [.int x5]) (rest := [.int (t0 + t1)]) (n := 1) E (fX3_bounded_c k σ x5 q1 hq2) gX3_waysOfMark_X3_bounded rfl rfl rfl (by decide +kernel) ⟨Nat.le_of_ble_eq_true rfl, Nat.le_of_ble_eq_true rfl⟩ rfl rfl (Nat.le_of_ble_eq_true rfl) dX3_waysOfMark_72 ?_
  refine g_iload E 1 dX3_waysOfMark_75 rfl ?_
  refine g_icmp_ne (tgt := 89) E dX3_waysOfMark_77 (by decide) (fun c3 => ?_) (fun c3 => ?_)
  · have hf := gn hf c3
    refine g_iconst (v := (0 : Int32)) E dX3_waysOfMark_89 (by decide) ?_
    exact g_sub [1, 2, 3] rfl (fX3_waysOfMark_w90 E q1.2 x4 x5 x6 (t0 + t1) (0 : Int32) r hf)
  · have hf := gp hf c3
    refine g_iconst (v := (4 : Int32)) E dX3_waysOfMark_80 (by decide) ?_
    refine g_iconst (v := (2 : Int32)) E dX3_waysOfMark_81 (by decide) ?_
    refine g_iload E 3 dX3_waysOfMark_82 rfl ?_
    refine g_imul E dX3_waysOfMark_84 ?_
    refine g_isub E dX3_waysOfMark_85 ?_
    refine g_goto (tgt := 90) E dX3_waysOfMark_86 (by decide) ?_
    exact g_sub [1, 2, 3] rfl (fX3_waysOfMark_w90 E q1.2 x4 x5 x6 (t0 + t1) ((4 : Int32) - (((2 : Int32) * x6))) r hf)
set_option maxHeartbeats 4000000 in
set_option maxRecDepth 100000 in
theorem fX3_waysOfMark_c (k : gK) (σ : St) (x1 : Int32) (x2 : Int32) (x3 : Int32) (x4 : Int32) (r : Int32 × St) (hf : fX3_waysOfMark σ x1 x2 x3 x4 = some r) : MC k yX3_waysOfMark wsX3_waysOfMark rm_fX3_waysOfMark [.ref (k.2.2.2.1 6), .int x1, .int x2, .int x3, .int x4] (cw k.2.2.2 σ) (some (.int r.1)) (cw k.2.2.2 r.2) := by
  refine MC_of (cc := cX3_waysOfMark) (maxL := 8) (ret := (some .int)) (own := RX3) (lvs := [(0, .ref (k.2.2.2.1 6)), (1, .int x1), (2, .int x2), (3, .int x3), (4, .int x4)]) (by decide) rfl rfl (Nat.le_of_ble_eq_true rfl) rfl (fun X E => ?_)
  unfold fX3_waysOfMark at hf
  refine g_iload_n E 3 dX3_waysOfMark_0 rfl rfl ?_
  refine g_aload_n E 0 dX3_waysOfMark_1 rfl rfl ?_
  refine g_get (C := RX3) (T := TX3) (N := 5) (ci := 3) E 6 0 (.ref (k.2.2.2.1 1)) hi_X3_waysOfMark_X3 (cwG6 _ _) rfl (by decide) hk_X3_waysOfMark_22 rfl dX3_waysOfMark_2 ?_
  refine g_get (C := RX0) (T := TX0) (N := 5) (ci := 0) E 1 0 (.ref (k.2.2.2.1 10)) hi_X3_waysOfMark_X0 (cwG1 _ _) rfl (by decide) hk_X3_waysOfMark_94 rfl dX3_waysOfMark_5 ?_
  refine g_iload_n E 1 dX3_waysOfMark_8 rfl rfl ?_
  obtain ⟨hi1, hf⟩ := gd hf
  refine g_iald E 10 (σ.1 10) (cwG10 _ _) hi1 dX3_waysOfMark_9 ?_
  refine g_iadd E dX3_waysOfMark_10 ?_
  refine g_aload_n E 0 dX3_waysOfMark_11 rfl rfl ?_
  refine g_get (C := RX3) (T := TX3) (N := 5) (ci := 3) E 6 0 (.ref (k.2.2.2.1 1)) hi_X3_waysOfMark_X3 (cwG6 _ _) rfl (by decide) hk_X3_waysOfMark_22 rfl dX3_waysOfMark_12 ?_
  refine g_iload_n E 1 dX3_waysOfMark_15 rfl rfl ?_
  refine g_aload_n E 0 dX3_waysOfMark_16 rfl rfl ?_
  refine g_get (C := RX3) (T := TX3) (N := 5) (ci := 3) E 6 1 (.ref (k.2.2.2.1 2)) hi_X3_waysOfMark_X3 (cwG6 _ _) rfl (by decide) hk_X3_waysOfMark_26 rfl dX3_waysOfMark_17 ?_
  refine g_get (C := RX4) (T := TX4) (N := 6) (ci := 4) E 2 1 (.ref (k.2.2.2.1 15)) hi_X3_waysOfMark_X4 (cwG2 _ _) rfl (by decide) hk_X3_waysOfMark_97 rfl dX3_waysOfMark_20 ?_
  refine g_iload_n E 2 dX3_waysOfMark_23 rfl rfl ?_
  obtain ⟨hi2, hf⟩ := gd hf
  refine g_iald E 15 (σ.1 15) (cwG15 _ _) hi2 dX3_waysOfMark_24 ?_
  obtain ⟨q3, hq4, hf⟩ := gb hf
  refine g_callV (C := RX0) (T := TX0) (N := 5) (ci := 0) (As := [.int x1, .int (σ.1 15 x2.toNatClampNeg)]) (rest := [.int (x3 + (σ.1 10 x1.toNatClampNeg))]) (n := 2) E 1 (fX0_tieOf_c k σ x1 (σ.1 15 x2.toNatClampNeg) q3 hq4) gX3_waysOfMark_X0_tieOf rfl rfl rfl (by decide +kernel) ⟨Nat.le_of_ble_eq_true rfl, Nat.le_of_ble_eq_true rfl⟩ rfl rfl (Nat.le_of_ble_eq_true rfl) rfl (cwG1 _ _) dX3_waysOfMark_25 ?_
  refine g_iadd E dX3_waysOfMark_28 ?_
  refine g_istore E [(5, .int (((x3 + (σ.1 10 x1.toNatClampNeg))) + q3.1)), (0, .ref (k.2.2.2.1 6)), (1, .int x1), (2, .int x2), (3, .int x3), (4, .int x4)] dX3_waysOfMark_29 (by decide) rfl ?_
  refine g_aload_n E 1 dX3_waysOfMark_31 rfl rfl ?_
  refine g_get (C := RX3) (T := TX3) (N := 5) (ci := 3) E 6 0 (.ref (k.2.2.2.1 1)) hi_X3_waysOfMark_X3 (cwG6 _ _) rfl (by decide) hk_X3_waysOfMark_22 rfl dX3_waysOfMark_32 ?_
  refine g_get (C := RX0) (T := TX0) (N := 5) (ci := 0) E 1 1 (.ref (k.2.2.2.1 11)) hi_X3_waysOfMark_X0 (cwG1 _ _) rfl (by decide) hk_X3_waysOfMark_103 rfl dX3_waysOfMark_35 ?_
  refine g_iload_n E 2 dX3_waysOfMark_38 rfl rfl ?_
  obtain ⟨hi5, hf⟩ := gd hf
  refine g_iald E 11 (q3.2.1 11) (cwG11 _ _) hi5 dX3_waysOfMark_39 ?_
  refine g_istore E [(6, .int (q3.2.1 11 x1.toNatClampNeg)), (5, .int (((x3 + (σ.1 10 x1.toNatClampNeg))) + q3.1)), (0, .ref (k.2.2.2.1 6)), (1, .int x1), (2, .int x2), (3, .int x3), (4, .int x4)] dX3_waysOfMark_40 (by decide) rfl ?_
  refine g_iconst (v := (0 : Int32)) E dX3_waysOfMark_42 (by decide) ?_
  refine g_istore E [(7, .int (0 : Int32)), (6, .int (q3.2.1 11 x1.toNatClampNeg)), (5, .int (((x3 + (σ.1 10 x1.toNatClampNeg))) + q3.1)), (0, .ref (k.2.2.2.1 6)), (1, .int x1), (2, .int x2), (3, .int x3), (4, .int x4)] dX3_waysOfMark_43 (by decide) rfl ?_
  refine g_iload E 0 dX3_waysOfMark_45 rfl ?_
  refine g_iload E 2 dX3_waysOfMark_47 rfl ?_
  refine g_iconst (v := (1 : Int32)) E dX3_waysOfMark_49 (by decide) ?_
  refine g_isub E dX3_waysOfMark_50 ?_
  obtain ⟨q6, hq7, hf⟩ := gb hf
  refine g_callS (As := [.int (((((x3 + (σ.1 10 x1.toNatClampNeg))) + q3.1)) - (1 : Int32))]) (rest := [.int (0 : Int32)]) (n := 1) E (fX3_bounded_c k q3.2 ((((((x3 + (σ.1 10 x1.toNatClampNeg))) + q3.1)) - (1 : Int32))) q6 hq7) gX3_waysOfMark_X3_bounded rfl rfl rfl (by decide +kernel) ⟨Nat.le_of_ble_eq_true rfl, Nat.le_of_ble_eq_true rfl⟩ rfl rfl (Nat.le_of_ble_eq_true rfl) dX3_waysOfMark_51 ?_
  refine g_iload E 7 dX3_waysOfMark_54 rfl ?_
  refine g_icmp_ne (tgt := 64) E dX3_waysOfMark_56 (by decide) (fun c8 => ?_) (fun c8 => ?_)
  · have hf := gn hf c8
    refine g_iconst (v := (0 : Int32)) E dX3_waysOfMark_64 (by decide) ?_
    exact g_sub [7, 2, 1] rfl (fX3_waysOfMark_w65 E q6.2 x4 (((x3 + (σ.1 10 x1.toNatClampNeg))) + q3.1) (q3.2.1 11 x1.toNatClampNeg) (0 : Int32) (0 : Int32) r hf)
  · have hf := gp hf c8
    refine g_iload E 1 dX3_waysOfMark_59 rfl ?_
    refine g_goto (tgt := 65) E dX3_waysOfMark_61 (by decide) ?_
    exact g_sub [7, 2, 1] rfl (fX3_waysOfMark_w65 E q6.2 x4 (((x3 + (σ.1 10 x1.toNatClampNeg))) + q3.1) (q3.2.1 11 x1.toNatClampNeg) (0 : Int32) (q3.2.1 11 x1.toNatClampNeg) r hf)
theorem hi_X3_layOutWays_X3 : ∀ w ∈ wsX30, w ∈ wsX3_layOutWays := by decide +kernel
theorem hi_X3_layOutWays_X4 : ∀ w ∈ wsX40, w ∈ wsX3_layOutWays := by decide +kernel
theorem hi_X3_layOutWays_X0 : ∀ w ∈ wsX00, w ∈ wsX3_layOutWays := by decide +kernel
theorem hk_X3_layOutWays_18 : Cond.fieldLink RX3 18 "PaperMarks$Odds" "ways" "[I" ∈ wsX3_layOutWays := by decide +kernel
theorem hk_X3_layOutWays_26 : Cond.fieldLink RX3 26 "PaperMarks$Odds" "papers" "LPaperMarks$Papers;" ∈ wsX3_layOutWays := by decide +kernel
theorem hk_X3_layOutWays_57 : Cond.fieldLink RX3 57 "PaperMarks$Papers" "worths" "[I" ∈ wsX3_layOutWays := by decide +kernel
theorem hk_X3_layOutWays_22 : Cond.fieldLink RX3 22 "PaperMarks$Odds" "judges" "LPaperMarks$Judges;" ∈ wsX3_layOutWays := by decide +kernel
theorem hk_X3_layOutWays_51 : Cond.fieldLink RX3 51 "PaperMarks$Judges" "count" "I" ∈ wsX3_layOutWays := by decide +kernel
def rm_fX3_layOutWays : Room := { frames := 3, cells := 0, slots := 0, locals := 87 }
set_option maxHeartbeats 4000000 in
set_option maxRecDepth 100000 in
theorem fX3_layOutWays_w15 {k : gK} {X : gX} (E : gE k X cX3_layOutWays RX3 wsX3_layOutWays 4 none rm_fX3_layOutWays) (rc2 : St → Int32 → Int32 → Option (Unit × St)) (hrc2 : ∀ (σ : St) (x1 : Int32) (x2 : Int32) (r : Unit × St), rc2 σ x1 x2 = some r → G k X 4 (none) (cw k.2.2.2 r.2) (cw k.2.2.2 σ) [(0, .ref (k.2.2.2.1 6)), (1, .int x1), (2, .int x2)] [] 2) (rc15 : St → Int32 → Int32 → Int32 → Option (Unit × St)) (hrc15 : ∀ (σ : St) (x1 : Int32) (x2 : Int32) (x3 : Int32) (r : Unit × St), rc15 σ x1 x2 x3 = some r → G k X 4 (none) (cw k.2.2.2 r.2) (cw k.2.2.2 σ) [(0, .ref (k.2.2.2.1 6)), (1, .int x1), (2, .int x2), (3, .int x3)] [] 15) (σ : St) (x1 : Int32) (x2 : Int32) (x3 : Int32) (r : Unit × St) (hf : fX3_layOutWays_b15 rc2 rc15 σ x1 x2 x3 = some r) : G k X 4 (none) (cw k.2.2.2 r.2) (cw k.2.2.2 σ) [(0, .ref (k.2.2.2.1 6)), (1, .int x1), (2, .int x2), (3, .int x3)] [] 15 := by
  unfold fX3_layOutWays_b15 at hf
  refine g_iload_n E 3 dX3_layOutWays_15 rfl rfl ?_
  refine g_iconst (v := (5 : Int32)) E dX3_layOutWays_16 (by decide) ?_
  refine g_icmp_gt (tgt := 53) E dX3_layOutWays_17 (by decide) (fun c1 => ?_) (fun c1 => ?_)
  · have hf := gp hf c1
    refine g_iinc E 2 [(2, .int (x2 + (1 : Int32))), (0, .ref (k.2.2.2.1 6)), (1, .int x1), (3, .int x3)] (x2 + (1 : Int32)) dX3_layOutWays_53 rfl (by rfl) (by decide) rfl ?_
    refine g_goto (tgt := 2) E dX3_layOutWays_56 (by decide) ?_
    exact g_sub [1, 2, 0] rfl (hrc2 σ x1 (x2 + (1 : Int32)) r hf)
  · have hf := gn hf c1
    refine g_aload_n E 0 dX3_layOutWays_20 rfl rfl ?_
    refine g_get (C := RX3) (T := TX3) (N := 5) (ci := 3) E 6 4 (.ref (k.2.2.2.1 25)) hi_X3_layOutWays_X3 (cwG6 _ _) rfl (by decide) hk_X3_layOutWays_18 rfl dX3_layOutWays_21 ?_
    refine g_iload_n E 2 dX3_layOutWays_24 rfl rfl ?_
    refine g_bipush (v := (6 : Int32)) E dX3_layOutWays_25 (by decide) ?_
    refine g_imul E dX3_layOutWays_27 ?_
    refine g_iload_n E 3 dX3_layOutWays_28 rfl rfl ?_
    refine g_iadd E dX3_layOutWays_29 ?_
    refine g_aload_n E 0 dX3_layOutWays_30 rfl rfl ?_
    refine g_iload_n E 2 dX3_layOutWays_31 rfl rfl ?_
    refine g_iload_n E 1 dX3_layOutWays_32 rfl rfl ?_
    refine g_aload_n E 0 dX3_layOutWays_33 rfl rfl ?_
    refine g_get (C := RX3) (T := TX3) (N := 5) (ci := 3) E 6 1 (.ref (k.2.2.2.1 2)) hi_X3_layOutWays_X3 (cwG6 _ _) rfl (by decide) hk_X3_layOutWays_26 rfl dX3_layOutWays_34 ?_
    refine g_get (C := RX4) (T := TX4) (N := 6) (ci := 4) E 2 0 (.ref (k.2.2.2.1 14)) hi_X3_layOutWays_X4 (cwG2 _ _) rfl (by decide) hk_X3_layOutWays_57 rfl dX3_layOutWays_37 ?_
    refine g_iload_n E 1 dX3_layOutWays_40 rfl rfl ?_
    obtain ⟨hi2, hf⟩ := gd hf
    refine g_iald E 14 (σ.1 14) (cwG14 _ _) hi2 dX3_layOutWays_41 ?_
    refine g_iload_n E 3 dX3_layOutWays_42 rfl rfl ?_
    obtain ⟨q3, hq4, hf⟩ := gb hf
    refine g_callV (C := RX3) (T := TX3) (N := 5) (ci := 3) (As := [.int x2, .int x1, .int (σ.1 14 x1.toNatClampNeg), .int x3]) (rest := [.int (((x2 * (6 : Int32))) + x3), .ref (k.2.2.2.1 25)]) (n := 4) E 6 (fX3_waysOfMark_c k σ x2 x1 (σ.1 14 x1.toNatClampNeg) x3 q3 hq4) gX3_layOutWays_X3_waysOfMark rfl rfl rfl (by decide +kernel) ⟨Nat.le_of_ble_eq_true rfl, Nat.le_of_ble_eq_true rfl⟩ rfl rfl (Nat.le_of_ble_eq_true rfl) rfl (cwG6 _ _) dX3_layOutWays_43 ?_
    obtain ⟨hi5, hf⟩ := gd hf
    refine g_iast E 25 (cw k.2.2.2 (uA q3.2 25 ((((x2 * (6 : Int32))) + x3)).toNatClampNeg q3.1)) (q3.2.1 25) (cwG25 _ _) hi5 (cwA25 _ _ _ _) dX3_layOutWays_46 ?_
    refine g_iinc E 3 [(3, .int (x3 + (1 : Int32))), (0, .ref (k.2.2.2.1 6)), (1, .int x1), (2, .int x2)] (x3 + (1 : Int32)) dX3_layOutWays_47 rfl (by rfl) (by decide) rfl ?_
    refine g_goto (tgt := 15) E dX3_layOutWays_50 (by decide) ?_
    exact g_sub [1, 2, 3, 0] rfl (hrc15 (uA q3.2 25 ((((x2 * (6 : Int32))) + x3)).toNatClampNeg q3.1) x1 x2 (x3 + (1 : Int32)) r hf)
theorem fX3_layOutWays_v15 {k : gK} {X : gX} (E : gE k X cX3_layOutWays RX3 wsX3_layOutWays 4 none rm_fX3_layOutWays) (rc2 : St → Int32 → Int32 → Option (Unit × St)) (hrc2 : ∀ (σ : St) (x1 : Int32) (x2 : Int32) (r : Unit × St), rc2 σ x1 x2 = some r → G k X 4 (none) (cw k.2.2.2 r.2) (cw k.2.2.2 σ) [(0, .ref (k.2.2.2.1 6)), (1, .int x1), (2, .int x2)] [] 2) : ∀ (n : Nat) (σ : St) (x1 : Int32) (x2 : Int32) (x3 : Int32) (r : Unit × St), fX3_layOutWays_l15 rc2 n σ x1 x2 x3 = some r → G k X 4 (none) (cw k.2.2.2 r.2) (cw k.2.2.2 σ) [(0, .ref (k.2.2.2.1 6)), (1, .int x1), (2, .int x2), (3, .int x3)] [] 15 := by
  intro n
  induction n with
  | zero => intro σ x1 x2 x3 r hf; cases hf
  | succ n ih => intro σ x1 x2 x3 r hf; exact fX3_layOutWays_w15 E rc2 hrc2 (fX3_layOutWays_l15 rc2 n) ih σ x1 x2 x3 r hf
set_option maxHeartbeats 4000000 in
set_option maxRecDepth 100000 in
theorem fX3_layOutWays_w2 {k : gK} {X : gX} (E : gE k X cX3_layOutWays RX3 wsX3_layOutWays 4 none rm_fX3_layOutWays) (rc2 : St → Int32 → Int32 → Option (Unit × St)) (hrc2 : ∀ (σ : St) (x1 : Int32) (x2 : Int32) (r : Unit × St), rc2 σ x1 x2 = some r → G k X 4 (none) (cw k.2.2.2 r.2) (cw k.2.2.2 σ) [(0, .ref (k.2.2.2.1 6)), (1, .int x1), (2, .int x2)] [] 2) (σ : St) (x1 : Int32) (x2 : Int32) (r : Unit × St) (hf : fX3_layOutWays_b2 rc2 σ x1 x2 = some r) : G k X 4 (none) (cw k.2.2.2 r.2) (cw k.2.2.2 σ) [(0, .ref (k.2.2.2.1 6)), (1, .int x1), (2, .int x2)] [] 2 := by
  unfold fX3_layOutWays_b2 at hf
  refine g_iload_n E 2 dX3_layOutWays_2 rfl rfl ?_
  refine g_aload_n E 0 dX3_layOutWays_3 rfl rfl ?_
  refine g_get (C := RX3) (T := TX3) (N := 5) (ci := 3) E 6 0 (.ref (k.2.2.2.1 1)) hi_X3_layOutWays_X3 (cwG6 _ _) rfl (by decide) hk_X3_layOutWays_22 rfl dX3_layOutWays_4 ?_
  refine g_get (C := RX0) (T := TX0) (N := 5) (ci := 0) E 1 4 (.int (σ.2.1 0)) hi_X3_layOutWays_X0 (cwG1 _ _) rfl (by decide) hk_X3_layOutWays_51 rfl dX3_layOutWays_7 ?_
  refine g_icmp_ge (tgt := 59) E dX3_layOutWays_10 (by decide) (fun c1 => ?_) (fun c1 => ?_)
  · have hf := gp hf c1
    have hf := Option.some.inj hf
    subst hf
    exact g_vret E dX3_layOutWays_59
  · have hf := gn hf c1
    refine g_iconst (v := (0 : Int32)) E dX3_layOutWays_13 (by decide) ?_
    refine g_istore_n E [(3, .int (0 : Int32)), (0, .ref (k.2.2.2.1 6)), (1, .int x1), (2, .int x2)] dX3_layOutWays_14 rfl (by decide) rfl ?_
    exact g_sub [1, 2, 3, 0] rfl (fX3_layOutWays_v15 E rc2 hrc2 gF σ x1 x2 (0 : Int32) r hf)
theorem fX3_layOutWays_v2 {k : gK} {X : gX} (E : gE k X cX3_layOutWays RX3 wsX3_layOutWays 4 none rm_fX3_layOutWays) : ∀ (n : Nat) (σ : St) (x1 : Int32) (x2 : Int32) (r : Unit × St), fX3_layOutWays_l2 n σ x1 x2 = some r → G k X 4 (none) (cw k.2.2.2 r.2) (cw k.2.2.2 σ) [(0, .ref (k.2.2.2.1 6)), (1, .int x1), (2, .int x2)] [] 2 := by
  intro n
  induction n with
  | zero => intro σ x1 x2 r hf; cases hf
  | succ n ih => intro σ x1 x2 r hf; exact fX3_layOutWays_w2 E (fX3_layOutWays_l2 n) ih σ x1 x2 r hf
set_option maxHeartbeats 4000000 in
set_option maxRecDepth 100000 in
theorem fX3_layOutWays_c (k : gK) (σ : St) (x1 : Int32) (r : Unit × St) (hf : fX3_layOutWays σ x1 = some r) : MC k yX3_layOutWays wsX3_layOutWays rm_fX3_layOutWays [.ref (k.2.2.2.1 6), .int x1] (cw k.2.2.2 σ) (none) (cw k.2.2.2 r.2) := by
  refine MC_of (cc := cX3_layOutWays) (maxL := 4) (ret := none) (own := RX3) (lvs := [(0, .ref (k.2.2.2.1 6)), (1, .int x1)]) (by decide) rfl rfl (Nat.le_of_ble_eq_true rfl) rfl (fun X E => ?_)
  unfold fX3_layOutWays at hf
  refine g_iconst (v := (0 : Int32)) E dX3_layOutWays_0 (by decide) ?_
  refine g_istore_n E [(2, .int (0 : Int32)), (0, .ref (k.2.2.2.1 6)), (1, .int x1)] dX3_layOutWays_1 rfl (by decide) rfl ?_
  exact g_sub [1, 2, 0] rfl (fX3_layOutWays_v2 E gF σ x1 (0 : Int32) r hf)
theorem hi_X4_withoutWriter_X4 : ∀ w ∈ wsX40, w ∈ wsX4_withoutWriter := by decide +kernel
theorem hk_X4_withoutWriter_15 : Cond.fieldLink RX4 15 "PaperMarks$Papers" "writers" "[I" ∈ wsX4_withoutWriter := by decide +kernel
def rm_fX4_withoutWriter : Room := { frames := 0, cells := 0, slots := 0, locals := 0 }
set_option maxHeartbeats 4000000 in
set_option maxRecDepth 100000 in
theorem fX4_withoutWriter_c (k : gK) (σ : St) (x1 : Int32) (x2 : Int32) (r : Int32 × St) (hf : fX4_withoutWriter σ x1 x2 = some r) : MC k yX4_withoutWriter wsX4_withoutWriter rm_fX4_withoutWriter [.ref (k.2.2.2.1 2), .int x1, .int x2] (cw k.2.2.2 σ) (some (.int r.1)) (cw k.2.2.2 r.2) := by
  refine MC_of (cc := cX4_withoutWriter) (maxL := 4) (ret := (some .int)) (own := RX4) (lvs := [(0, .ref (k.2.2.2.1 2)), (1, .int x1), (2, .int x2)]) (by decide) rfl rfl (Nat.le_of_ble_eq_true rfl) rfl (fun X E => ?_)
  unfold fX4_withoutWriter at hf
  refine g_aload_n E 0 dX4_withoutWriter_0 rfl rfl ?_
  refine g_get (C := RX4) (T := TX4) (N := 6) (ci := 4) E 2 1 (.ref (k.2.2.2.1 15)) hi_X4_withoutWriter_X4 (cwG2 _ _) rfl (by decide) hk_X4_withoutWriter_15 rfl dX4_withoutWriter_1 ?_
  refine g_iload_n E 1 dX4_withoutWriter_4 rfl rfl ?_
  obtain ⟨hi1, hf⟩ := gd hf
  refine g_iald E 15 (σ.1 15) (cwG15 _ _) hi1 dX4_withoutWriter_5 ?_
  refine g_istore_n E [(3, .int (σ.1 15 x1.toNatClampNeg)), (0, .ref (k.2.2.2.1 2)), (1, .int x1), (2, .int x2)] dX4_withoutWriter_6 rfl (by decide) rfl ?_
  refine g_iload_n E 0 dX4_withoutWriter_7 rfl rfl ?_
  refine g_bipush (v := (-6 : Int32)) E dX4_withoutWriter_8 (by decide) ?_
  refine g_icmp_ne (tgt := 17) E dX4_withoutWriter_10 (by decide) (fun c2 => ?_) (fun c2 => ?_)
  · have hf := gn hf c2
    refine g_iload_n E 3 dX4_withoutWriter_17 rfl rfl ?_
    refine g_iconst (v := (1 : Int32)) E dX4_withoutWriter_18 (by decide) ?_
    refine g_iload_n E 0 dX4_withoutWriter_19 rfl rfl ?_
    refine g_ishl E dX4_withoutWriter_20 ?_
    refine g_iconst (v := (-1 : Int32)) E dX4_withoutWriter_21 (by decide) ?_
    refine g_ixor E dX4_withoutWriter_22 ?_
    refine g_iand E dX4_withoutWriter_23 ?_
    have hf := Option.some.inj hf
    subst hf
    exact g_iret E dX4_withoutWriter_24
  · have hf := gp hf c2
    refine g_iload_n E 3 dX4_withoutWriter_13 rfl rfl ?_
    refine g_goto (tgt := 24) E dX4_withoutWriter_14 (by decide) ?_
    have hf := Option.some.inj hf
    subst hf
    exact g_iret E dX4_withoutWriter_24
def rm_fX7_put_9 : Room := { frames := 0, cells := 0, slots := 0, locals := 0 }
set_option maxHeartbeats 4000000 in
set_option maxRecDepth 100000 in
theorem fX7_put_9_c (k : gK) (σ : St) (x1 : Int32) (x2 : Int32) (r : Unit × St) (hf : fX7_put_9 σ x1 x2 = some r) : MC k yX7_put wsX7_put rm_fX7_put_9 [.ref (k.2.2.2.1 9), .int x1, .int x2] (cw k.2.2.2 σ) (none) (cw k.2.2.2 r.2) := by
  refine MC_of (cc := cX7_put) (maxL := 3) (ret := none) (own := RX7) (lvs := [(0, .ref (k.2.2.2.1 9)), (1, .int x1), (2, .int x2)]) (by decide) rfl rfl (Nat.le_of_ble_eq_true rfl) rfl (fun X E => ?_)
  unfold fX7_put_9 at hf
  refine g_aload_n E 0 dX7_put_0 rfl rfl ?_
  refine g_get (C := RX7) (T := TX7) (N := 3) (ci := 7) E 9 0 (.ref (k.2.2.2.1 26)) hi_X7_put_X7 (cwG9 _ _) rfl (by decide) hk_X7_put_9 rfl dX7_put_1 ?_
  refine g_iload_n E 1 dX7_put_4 rfl rfl ?_
  refine g_dup2 E dX7_put_5 rfl rfl ?_
  obtain ⟨hi1, hf⟩ := gd hf
  refine g_iald E 26 (σ.1 26) (cwG26 _ _) hi1 dX7_put_6 ?_
  refine g_iload_n E 2 dX7_put_7 rfl rfl ?_
  refine g_iadd E dX7_put_8 ?_
  obtain ⟨hi2, hf⟩ := gd hf
  refine g_iast E 26 (cw k.2.2.2 (uA σ 26 x1.toNatClampNeg (((σ.1 26 x1.toNatClampNeg) + x2)))) (σ.1 26) (cwG26 _ _) hi2 (cwA26 _ _ _ _) dX7_put_9 ?_
  refine g_aload_n E 0 dX7_put_10 rfl rfl ?_
  refine g_dup E dX7_put_11 rfl ?_
  refine g_get (C := RX7) (T := TX7) (N := 3) (ci := 7) E 9 1 (.int (((uA σ 26 x1.toNatClampNeg (((σ.1 26 x1.toNatClampNeg) + x2)))).2.1 6)) hi_X7_put_X7 (cwG9 _ _) rfl (by decide) hk_X7_put_21 rfl dX7_put_12 ?_
  refine g_iload_n E 2 dX7_put_15 rfl rfl ?_
  refine g_iadd E dX7_put_16 ?_
  refine g_put (C := RX7) (T := TX7) (N := 3) (ci := 7) E 9 1 (cw k.2.2.2 (uI ((uA σ 26 x1.toNatClampNeg (((σ.1 26 x1.toNatClampNeg) + x2)))) 6 ((((((uA σ 26 x1.toNatClampNeg (((σ.1 26 x1.toNatClampNeg) + x2)))).2.1 6)) + x2)))) hi_X7_put_X7 tyX7 tyX7_ok nmX7 (cwG9 _ _) rfl (by decide) hk_X7_put_21 rfl (by decide +kernel) (Nat.le_of_ble_eq_true rfl) (cwI6 _ _ _) dX7_put_17 ?_
  refine g_aload_n E 0 dX7_put_20 rfl rfl ?_
  refine g_dup E dX7_put_21 rfl ?_
  refine g_get (C := RX7) (T := TX7) (N := 3) (ci := 7) E 9 2 (.int (((uI ((uA σ 26 x1.toNatClampNeg (((σ.1 26 x1.toNatClampNeg) + x2)))) 6 ((((((uA σ 26 x1.toNatClampNeg (((σ.1 26 x1.toNatClampNeg) + x2)))).2.1 6)) + x2)))).2.1 7)) hi_X7_put_X7 (cwG9 _ _) rfl (by decide) hk_X7_put_25 rfl dX7_put_22 ?_
  refine g_iload_n E 1 dX7_put_25 rfl rfl ?_
  refine g_iload_n E 2 dX7_put_26 rfl rfl ?_
  refine g_imul E dX7_put_27 ?_
  refine g_iadd E dX7_put_28 ?_
  refine g_put (C := RX7) (T := TX7) (N := 3) (ci := 7) E 9 2 (cw k.2.2.2 (uI ((uI ((uA σ 26 x1.toNatClampNeg (((σ.1 26 x1.toNatClampNeg) + x2)))) 6 ((((((uA σ 26 x1.toNatClampNeg (((σ.1 26 x1.toNatClampNeg) + x2)))).2.1 6)) + x2)))) 7 ((((((uI ((uA σ 26 x1.toNatClampNeg (((σ.1 26 x1.toNatClampNeg) + x2)))) 6 ((((((uA σ 26 x1.toNatClampNeg (((σ.1 26 x1.toNatClampNeg) + x2)))).2.1 6)) + x2)))).2.1 7)) + (x1 * x2))))) hi_X7_put_X7 tyX7 tyX7_ok nmX7 (cwG9 _ _) rfl (by decide) hk_X7_put_25 rfl (by decide +kernel) (Nat.le_of_ble_eq_true rfl) (cwI7 _ _ _) dX7_put_29 ?_
  have hf := Option.some.inj hf
  subst hf
  exact g_vret E dX7_put_32
def rm_fX8_hasBit : Room := { frames := 0, cells := 0, slots := 0, locals := 0 }
set_option maxHeartbeats 4000000 in
set_option maxRecDepth 100000 in
theorem fX8_hasBit_c (k : gK) (σ : St) (x0 : Int32) (x1 : Int32) (r : Int32 × St) (hf : fX8_hasBit σ x0 x1 = some r) : MC k yX8_hasBit wsX8_hasBit rm_fX8_hasBit [.int x0, .int x1] (cw k.2.2.2 σ) (some (.int r.1)) (cw k.2.2.2 r.2) := by
  refine MC_of (cc := cX8_hasBit) (maxL := 2) (ret := (some .boolean)) (own := RX8) (lvs := [(0, .int x0), (1, .int x1)]) (by decide) rfl rfl (Nat.le_of_ble_eq_true rfl) rfl (fun X E => ?_)
  unfold fX8_hasBit at hf
  refine g_iload_n E 0 dX8_hasBit_0 rfl rfl ?_
  refine g_iload_n E 1 dX8_hasBit_1 rfl rfl ?_
  refine g_ishr E dX8_hasBit_2 ?_
  refine g_iconst (v := (1 : Int32)) E dX8_hasBit_3 (by decide) ?_
  refine g_iand E dX8_hasBit_4 ?_
  refine g_iconst (v := (1 : Int32)) E dX8_hasBit_5 (by decide) ?_
  refine g_icmp_ne (tgt := 13) E dX8_hasBit_6 (by decide) (fun c1 => ?_) (fun c1 => ?_)
  · have hf := gn hf c1
    refine g_iconst (v := (0 : Int32)) E dX8_hasBit_13 (by decide) ?_
    have hf := Option.some.inj hf
    subst hf
    exact g_zret E (Or.inl rfl) dX8_hasBit_14
  · have hf := gp hf c1
    refine g_iconst (v := (1 : Int32)) E dX8_hasBit_9 (by decide) ?_
    refine g_goto (tgt := 14) E dX8_hasBit_10 (by decide) ?_
    have hf := Option.some.inj hf
    subst hf
    exact g_zret E (Or.inr rfl) dX8_hasBit_14
