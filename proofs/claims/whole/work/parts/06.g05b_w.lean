theorem hi_X2_bestEnd_X2 : ∀ w ∈ wsX20, w ∈ wsX2_bestEnd := by decide +kernel
theorem hi_X2_bestEnd_X0 : ∀ w ∈ wsX00, w ∈ wsX2_bestEnd := by decide +kernel
theorem hk_X2_bestEnd_34 : Cond.fieldLink RX2 34 "PaperMarks$Match" "judges" "LPaperMarks$Judges;" ∈ wsX2_bestEnd := by decide +kernel
theorem hk_X2_bestEnd_65 : Cond.fieldLink RX2 65 "PaperMarks$Judges" "count" "I" ∈ wsX2_bestEnd := by decide +kernel
theorem hk_X2_bestEnd_18 : Cond.fieldLink RX2 18 "PaperMarks$Match" "loads" "[I" ∈ wsX2_bestEnd := by decide +kernel
theorem hk_X2_bestEnd_25 : Cond.fieldLink RX2 25 "PaperMarks$Match" "judgeGains" "[J" ∈ wsX2_bestEnd := by decide +kernel
def rm_fX2_bestEnd : Room := { frames := 0, cells := 0, slots := 0, locals := 0 }
set_option maxHeartbeats 4000000 in
set_option maxRecDepth 100000 in
theorem fX2_bestEnd_w56 {k : gK} {X : gX} (E : gE k X cX2_bestEnd RX2 wsX2_bestEnd 6 (some .int) rm_fX2_bestEnd) (rc10 : St → Int32 → Int32 → Int64 → Int32 → Option (Int32 × St)) (hrc10 : ∀ (σ : St) (x1 : Int32) (x2 : Int32) (x3 : Int64) (x5 : Int32) (r : Int32 × St), rc10 σ x1 x2 x3 x5 = some r → G k X 6 (some (.int r.1)) (cw k.2.2.2 r.2) (cw k.2.2.2 σ) [(0, .ref (k.2.2.2.1 7)), (1, .int x1), (2, .int x2), (3, .long x3), (5, .int x5)] [] 10) (σ : St) (x1 : Int32) (x2 : Int32) (x3 : Int64) (x5 : Int32) (r : Int32 × St) (hf : fX2_bestEnd_b56 rc10 σ x1 x2 x3 x5 = some r) : G k X 6 (some (.int r.1)) (cw k.2.2.2 r.2) (cw k.2.2.2 σ) [(0, .ref (k.2.2.2.1 7)), (1, .int x1), (2, .int x2), (3, .long x3), (5, .int x5)] [] 56 := by
  unfold fX2_bestEnd_b56 at hf
  refine g_iinc E 4 [(5, .int (x5 + (1 : Int32))), (0, .ref (k.2.2.2.1 7)), (1, .int x1), (2, .int x2), (3, .long x3)] (x5 + (1 : Int32)) dX2_bestEnd_56 rfl (by rfl) (by decide) rfl ?_
  refine g_goto (tgt := 10) E dX2_bestEnd_59 (by decide) ?_
  exact g_sub [1, 2, 3, 4, 0] rfl (hrc10 σ x1 x2 x3 (x5 + (1 : Int32)) r hf)
set_option maxHeartbeats 4000000 in
set_option maxRecDepth 100000 in
theorem fX2_bestEnd_w10 {k : gK} {X : gX} (E : gE k X cX2_bestEnd RX2 wsX2_bestEnd 6 (some .int) rm_fX2_bestEnd) (rc10 : St → Int32 → Int32 → Int64 → Int32 → Option (Int32 × St)) (hrc10 : ∀ (σ : St) (x1 : Int32) (x2 : Int32) (x3 : Int64) (x5 : Int32) (r : Int32 × St), rc10 σ x1 x2 x3 x5 = some r → G k X 6 (some (.int r.1)) (cw k.2.2.2 r.2) (cw k.2.2.2 σ) [(0, .ref (k.2.2.2.1 7)), (1, .int x1), (2, .int x2), (3, .long x3), (5, .int x5)] [] 10) (σ : St) (x1 : Int32) (x2 : Int32) (x3 : Int64) (x5 : Int32) (r : Int32 × St) (hf : fX2_bestEnd_b10 rc10 σ x1 x2 x3 x5 = some r) : G k X 6 (some (.int r.1)) (cw k.2.2.2 r.2) (cw k.2.2.2 σ) [(0, .ref (k.2.2.2.1 7)), (1, .int x1), (2, .int x2), (3, .long x3), (5, .int x5)] [] 10 := by
  unfold fX2_bestEnd_b10 at hf
  refine g_iload E 4 dX2_bestEnd_10 rfl ?_
  refine g_aload_n E 0 dX2_bestEnd_12 rfl rfl ?_
  refine g_get (C := RX2) (T := TX2) (N := 9) (ci := 2) E 7 0 (.ref (k.2.2.2.1 1)) hi_X2_bestEnd_X2 (cwG7 _ _) rfl (by decide) hk_X2_bestEnd_34 rfl dX2_bestEnd_13 ?_
  refine g_get (C := RX0) (T := TX0) (N := 5) (ci := 0) E 1 4 (.int (σ.2.1 0)) hi_X2_bestEnd_X0 (cwG1 _ _) rfl (by decide) hk_X2_bestEnd_65 rfl dX2_bestEnd_16 ?_
  refine g_icmp_ge (tgt := 62) E dX2_bestEnd_19 (by decide) (fun c1 => ?_) (fun c1 => ?_)
  · have hf := gp hf c1
    refine g_iload_n E 2 dX2_bestEnd_62 rfl rfl ?_
    have hf := Option.some.inj hf
    subst hf
    exact g_iret E dX2_bestEnd_63
  · have hf := gn hf c1
    refine g_aload_n E 0 dX2_bestEnd_22 rfl rfl ?_
    refine g_get (C := RX2) (T := TX2) (N := 9) (ci := 2) E 7 4 (.ref (k.2.2.2.1 29)) hi_X2_bestEnd_X2 (cwG7 _ _) rfl (by decide) hk_X2_bestEnd_18 rfl dX2_bestEnd_23 ?_
    refine g_iload E 4 dX2_bestEnd_26 rfl ?_
    obtain ⟨hi2, hf⟩ := gd hf
    refine g_iald E 29 (σ.1 29) (cwG29 _ _) hi2 dX2_bestEnd_28 ?_
    refine g_iload_n E 1 dX2_bestEnd_29 rfl rfl ?_
    refine g_icmp_ge (tgt := 56) E dX2_bestEnd_30 (by decide) (fun c3 => ?_) (fun c3 => ?_)
    · have hf := gp hf c3
      exact fX2_bestEnd_w56 E rc10 hrc10 σ x1 x2 x3 x5 r hf
    · have hf := gn hf c3
      refine g_aload_n E 0 dX2_bestEnd_33 rfl rfl ?_
      refine g_get (C := RX2) (T := TX2) (N := 9) (ci := 2) E 7 6 (.ref (k.2.2.2.1 31)) hi_X2_bestEnd_X2 (cwG7 _ _) rfl (by decide) hk_X2_bestEnd_25 rfl dX2_bestEnd_34 ?_
      refine g_iload E 4 dX2_bestEnd_37 rfl ?_
      obtain ⟨hi4, hf⟩ := gd hf
      refine g_lald E 31 (σ.2.2 31) (cwG31 _ _) hi4 dX2_bestEnd_39 ?_
      refine g_lload_n E 3 dX2_bestEnd_40 rfl rfl ?_
      refine g_lcmp E dX2_bestEnd_41 ?_
      refine g_if_le (tgt := 56) E dX2_bestEnd_42 (by decide) (fun c5 => ?_) (fun c5 => ?_)
      · have hf := gp hf c5
        exact fX2_bestEnd_w56 E rc10 hrc10 σ x1 x2 x3 x5 r hf
      · have hf := gn hf c5
        refine g_iload E 4 dX2_bestEnd_45 rfl ?_
        refine g_istore_n E [(2, .int x5), (0, .ref (k.2.2.2.1 7)), (1, .int x1), (3, .long x3), (5, .int x5)] dX2_bestEnd_47 rfl (by decide) rfl ?_
        refine g_aload_n E 1 dX2_bestEnd_48 rfl rfl ?_
        refine g_get (C := RX2) (T := TX2) (N := 9) (ci := 2) E 7 6 (.ref (k.2.2.2.1 31)) hi_X2_bestEnd_X2 (cwG7 _ _) rfl (by decide) hk_X2_bestEnd_25 rfl dX2_bestEnd_49 ?_
        refine g_iload E 4 dX2_bestEnd_52 rfl ?_
        obtain ⟨hi6, hf⟩ := gd hf
        refine g_lald E 31 (σ.2.2 31) (cwG31 _ _) hi6 dX2_bestEnd_54 ?_
        refine g_lstore_n E [(3, .long (σ.2.2 31 x5.toNatClampNeg)), (2, .int x5), (0, .ref (k.2.2.2.1 7)), (1, .int x1), (5, .int x5)] dX2_bestEnd_55 rfl (by decide) rfl ?_
        exact g_sub [2, 3, 1, 0, 4] rfl (fX2_bestEnd_w56 E rc10 hrc10 σ x1 x5 (σ.2.2 31 x5.toNatClampNeg) x5 r hf)
theorem fX2_bestEnd_v10 {k : gK} {X : gX} (E : gE k X cX2_bestEnd RX2 wsX2_bestEnd 6 (some .int) rm_fX2_bestEnd) : ∀ (n : Nat) (σ : St) (x1 : Int32) (x2 : Int32) (x3 : Int64) (x5 : Int32) (r : Int32 × St), fX2_bestEnd_l10 n σ x1 x2 x3 x5 = some r → G k X 6 (some (.int r.1)) (cw k.2.2.2 r.2) (cw k.2.2.2 σ) [(0, .ref (k.2.2.2.1 7)), (1, .int x1), (2, .int x2), (3, .long x3), (5, .int x5)] [] 10 := by
  intro n
  induction n with
  | zero => intro σ x1 x2 x3 x5 r hf; cases hf
  | succ n ih => intro σ x1 x2 x3 x5 r hf; exact fX2_bestEnd_w10 E (fX2_bestEnd_l10 n) ih σ x1 x2 x3 x5 r hf
set_option maxHeartbeats 4000000 in
set_option maxRecDepth 100000 in
theorem fX2_bestEnd_c (k : gK) (σ : St) (x1 : Int32) (r : Int32 × St) (hf : fX2_bestEnd σ x1 = some r) : MC k yX2_bestEnd wsX2_bestEnd rm_fX2_bestEnd [.ref (k.2.2.2.1 7), .int x1] (cw k.2.2.2 σ) (some (.int r.1)) (cw k.2.2.2 r.2) := by
  refine MC_of (cc := cX2_bestEnd) (maxL := 6) (ret := (some .int)) (own := RX2) (lvs := [(0, .ref (k.2.2.2.1 7)), (1, .int x1)]) (by decide) rfl rfl (Nat.le_of_ble_eq_true rfl) rfl (fun X E => ?_)
  unfold fX2_bestEnd at hf
  refine g_bipush (v := (-6 : Int32)) E dX2_bestEnd_0 (by decide) ?_
  refine g_istore_n E [(2, .int (-6 : Int32)), (0, .ref (k.2.2.2.1 7)), (1, .int x1)] dX2_bestEnd_2 rfl (by decide) rfl ?_
  refine g_ldc2 (v := (-1152921504606846976 : Int64)) E (by decide +kernel) dX2_bestEnd_3 ?_
  refine g_lstore_n E [(3, .long (-1152921504606846976 : Int64)), (2, .int (-6 : Int32)), (0, .ref (k.2.2.2.1 7)), (1, .int x1)] dX2_bestEnd_6 rfl (by decide) rfl ?_
  refine g_iconst (v := (0 : Int32)) E dX2_bestEnd_7 (by decide) ?_
  refine g_istore E [(5, .int (0 : Int32)), (3, .long (-1152921504606846976 : Int64)), (2, .int (-6 : Int32)), (0, .ref (k.2.2.2.1 7)), (1, .int x1)] dX2_bestEnd_8 (by decide) rfl ?_
  exact g_sub [3, 4, 2, 1, 0] rfl (fX2_bestEnd_v10 E gF σ x1 (-6 : Int32) (-1152921504606846976 : Int64) (0 : Int32) r hf)
theorem hi_X2_change_X2 : ∀ w ∈ wsX20, w ∈ wsX2_change := by decide +kernel
theorem hk_X2_change_31 : Cond.fieldLink RX2 31 "PaperMarks$Match" "gets" "[I" ∈ wsX2_change := by decide +kernel
theorem hk_X2_change_9 : Cond.fieldLink RX2 9 "PaperMarks$Match" "sets" "[I" ∈ wsX2_change := by decide +kernel
theorem hk_X2_change_28 : Cond.fieldLink RX2 28 "PaperMarks$Match" "givers" "[I" ∈ wsX2_change := by decide +kernel
theorem hk_X2_change_15 : Cond.fieldLink RX2 15 "PaperMarks$Match" "wants" "[I" ∈ wsX2_change := by decide +kernel
theorem hk_X2_change_18 : Cond.fieldLink RX2 18 "PaperMarks$Match" "loads" "[I" ∈ wsX2_change := by decide +kernel
def rm_fX2_change : Room := { frames := 0, cells := 0, slots := 0, locals := 0 }
set_option maxHeartbeats 4000000 in
set_option maxRecDepth 100000 in
theorem fX2_change_w98 {k : gK} {X : gX} (E : gE k X cX2_change RX2 wsX2_change 5 none rm_fX2_change) (rc14 : St → Int32 → Int32 → Option (Unit × St)) (hrc14 : ∀ (σ : St) (x2 : Int32) (x3 : Int32) (r : Unit × St), rc14 σ x2 x3 = some r → G k X 5 (none) (cw k.2.2.2 r.2) (cw k.2.2.2 σ) [(0, .ref (k.2.2.2.1 7)), (2, .int x2), (3, .int x3)] [] 14) (σ : St) (x2 : Int32) (x3 : Int32) (r : Unit × St) (hf : fX2_change_b98 rc14 σ x2 x3 = some r) : G k X 5 (none) (cw k.2.2.2 r.2) (cw k.2.2.2 σ) [(0, .ref (k.2.2.2.1 7)), (2, .int x2), (3, .int x3)] [] 98 := by
  unfold fX2_change_b98 at hf
  refine g_iinc E 2 [(3, .int (x3 + (1 : Int32))), (0, .ref (k.2.2.2.1 7)), (2, .int x2)] (x3 + (1 : Int32)) dX2_change_98 rfl (by rfl) (by decide) rfl ?_
  refine g_goto (tgt := 14) E dX2_change_101 (by decide) ?_
  exact g_sub [1, 2, 0] rfl (hrc14 σ x2 (x3 + (1 : Int32)) r hf)
set_option maxHeartbeats 4000000 in
set_option maxRecDepth 100000 in
theorem fX2_change_w14 {k : gK} {X : gX} (E : gE k X cX2_change RX2 wsX2_change 5 none rm_fX2_change) (rc14 : St → Int32 → Int32 → Option (Unit × St)) (hrc14 : ∀ (σ : St) (x2 : Int32) (x3 : Int32) (r : Unit × St), rc14 σ x2 x3 = some r → G k X 5 (none) (cw k.2.2.2 r.2) (cw k.2.2.2 σ) [(0, .ref (k.2.2.2.1 7)), (2, .int x2), (3, .int x3)] [] 14) (σ : St) (x2 : Int32) (x3 : Int32) (r : Unit × St) (hf : fX2_change_b14 rc14 σ x2 x3 = some r) : G k X 5 (none) (cw k.2.2.2 r.2) (cw k.2.2.2 σ) [(0, .ref (k.2.2.2.1 7)), (2, .int x2), (3, .int x3)] [] 14 := by
  unfold fX2_change_b14 at hf
  refine g_iload_n E 2 dX2_change_14 rfl rfl ?_
  refine g_bipush (v := (6 : Int32)) E dX2_change_15 (by decide) ?_
  refine g_icmp_ge (tgt := 104) E dX2_change_17 (by decide) (fun c1 => ?_) (fun c1 => ?_)
  · have hf := gp hf c1
    have hf := Option.some.inj hf
    subst hf
    exact g_vret E dX2_change_104
  · have hf := gn hf c1
    refine g_iload_n E 1 dX2_change_20 rfl rfl ?_
    refine g_bipush (v := (-6 : Int32)) E dX2_change_21 (by decide) ?_
    refine g_icmp_eq (tgt := 104) E dX2_change_23 (by decide) (fun c2 => ?_) (fun c2 => ?_)
    · have hf := gp hf c2
      have hf := Option.some.inj hf
      subst hf
      exact g_vret E dX2_change_104
    · have hf := gn hf c2
      refine g_aload_n E 0 dX2_change_26 rfl rfl ?_
      refine g_get (C := RX2) (T := TX2) (N := 9) (ci := 2) E 7 8 (.ref (k.2.2.2.1 33)) hi_X2_change_X2 (cwG7 _ _) rfl (by decide) hk_X2_change_31 rfl dX2_change_27 ?_
      refine g_iload_n E 1 dX2_change_30 rfl rfl ?_
      obtain ⟨hi3, hf⟩ := gd hf
      refine g_iald E 33 (σ.1 33) (cwG33 _ _) hi3 dX2_change_31 ?_
      refine g_istore E [(4, .int (σ.1 33 x2.toNatClampNeg)), (0, .ref (k.2.2.2.1 7)), (2, .int x2), (3, .int x3)] dX2_change_32 (by decide) rfl ?_
      refine g_iload E 0 dX2_change_34 rfl ?_
      refine g_bipush (v := (-6 : Int32)) E dX2_change_36 (by decide) ?_
      refine g_icmp_ne (tgt := 42) E dX2_change_38 (by decide) (fun c4 => ?_) (fun c4 => ?_)
      · have hf := gn hf c4
        refine g_aload_n E 1 dX2_change_42 rfl rfl ?_
        refine g_get (C := RX2) (T := TX2) (N := 9) (ci := 2) E 7 2 (.ref (k.2.2.2.1 27)) hi_X2_change_X2 (cwG7 _ _) rfl (by decide) hk_X2_change_9 rfl dX2_change_43 ?_
        refine g_iload E 0 dX2_change_46 rfl ?_
        refine g_dup2 E dX2_change_48 rfl rfl ?_
        obtain ⟨hi5, hf⟩ := gd hf
        refine g_iald E 27 (σ.1 27) (cwG27 _ _) hi5 dX2_change_49 ?_
        refine g_iconst (v := (1 : Int32)) E dX2_change_50 (by decide) ?_
        refine g_iload_n E 2 dX2_change_51 rfl rfl ?_
        refine g_ishl E dX2_change_52 ?_
        refine g_ior E dX2_change_53 ?_
        obtain ⟨hi6, hf⟩ := gd hf
        refine g_iast E 27 (cw k.2.2.2 (uA σ 27 (σ.1 33 x2.toNatClampNeg).toNatClampNeg ((((σ.1 27 (σ.1 33 x2.toNatClampNeg).toNatClampNeg)) ||| (((1 : Int32) <<< (x2 &&& 31))))))) (σ.1 27) (cwG27 _ _) hi6 (cwA27 _ _ _ _) dX2_change_54 ?_
        refine g_aload_n E 1 dX2_change_55 rfl rfl ?_
        refine g_get (C := RX2) (T := TX2) (N := 9) (ci := 2) E 7 7 (.ref (k.2.2.2.1 32)) hi_X2_change_X2 (cwG7 _ _) rfl (by decide) hk_X2_change_28 rfl dX2_change_56 ?_
        refine g_iload E 0 dX2_change_59 rfl ?_
        obtain ⟨hi7, hf⟩ := gd hf
        refine g_iald E 32 (((uA σ 27 (σ.1 33 x2.toNatClampNeg).toNatClampNeg ((((σ.1 27 (σ.1 33 x2.toNatClampNeg).toNatClampNeg)) ||| (((1 : Int32) <<< (x2 &&& 31))))))).1 32) (cwG32 _ _) hi7 dX2_change_61 ?_
        refine g_istore_n E [(2, .int (((uA σ 27 (σ.1 33 x2.toNatClampNeg).toNatClampNeg ((((σ.1 27 (σ.1 33 x2.toNatClampNeg).toNatClampNeg)) ||| (((1 : Int32) <<< (x2 &&& 31))))))).1 32 (σ.1 33 x2.toNatClampNeg).toNatClampNeg)), (4, .int (σ.1 33 x2.toNatClampNeg)), (0, .ref (k.2.2.2.1 7)), (3, .int x3)] dX2_change_62 rfl (by decide) rfl ?_
        refine g_iload_n E 0 dX2_change_63 rfl rfl ?_
        refine g_bipush (v := (-6 : Int32)) E dX2_change_64 (by decide) ?_
        refine g_icmp_ne (tgt := 83) E dX2_change_66 (by decide) (fun c8 => ?_) (fun c8 => ?_)
        · have hf := gn hf c8
          refine g_aload_n E 2 dX2_change_83 rfl rfl ?_
          refine g_get (C := RX2) (T := TX2) (N := 9) (ci := 2) E 7 2 (.ref (k.2.2.2.1 27)) hi_X2_change_X2 (cwG7 _ _) rfl (by decide) hk_X2_change_9 rfl dX2_change_84 ?_
          refine g_iload E 1 dX2_change_87 rfl ?_
          refine g_dup2 E dX2_change_89 rfl rfl ?_
          obtain ⟨hi9, hf⟩ := gd hf
          refine g_iald E 27 (((uA σ 27 (σ.1 33 x2.toNatClampNeg).toNatClampNeg ((((σ.1 27 (σ.1 33 x2.toNatClampNeg).toNatClampNeg)) ||| (((1 : Int32) <<< (x2 &&& 31))))))).1 27) (cwG27 _ _) hi9 dX2_change_90 ?_
          refine g_iconst (v := (1 : Int32)) E dX2_change_91 (by decide) ?_
          refine g_iload_n E 0 dX2_change_92 rfl rfl ?_
          refine g_ishl E dX2_change_93 ?_
          refine g_iconst (v := (-1 : Int32)) E dX2_change_94 (by decide) ?_
          refine g_ixor E dX2_change_95 ?_
          refine g_iand E dX2_change_96 ?_
          obtain ⟨hi10, hf⟩ := gd hf
          refine g_iast E 27 (cw k.2.2.2 (uA ((uA σ 27 (σ.1 33 x2.toNatClampNeg).toNatClampNeg ((((σ.1 27 (σ.1 33 x2.toNatClampNeg).toNatClampNeg)) ||| (((1 : Int32) <<< (x2 &&& 31))))))) 27 (σ.1 33 x2.toNatClampNeg).toNatClampNeg ((((((uA σ 27 (σ.1 33 x2.toNatClampNeg).toNatClampNeg ((((σ.1 27 (σ.1 33 x2.toNatClampNeg).toNatClampNeg)) ||| (((1 : Int32) <<< (x2 &&& 31))))))).1 27 (σ.1 33 x2.toNatClampNeg).toNatClampNeg)) &&& (((((1 : Int32) <<< (((((uA σ 27 (σ.1 33 x2.toNatClampNeg).toNatClampNeg ((((σ.1 27 (σ.1 33 x2.toNatClampNeg).toNatClampNeg)) ||| (((1 : Int32) <<< (x2 &&& 31))))))).1 32 (σ.1 33 x2.toNatClampNeg).toNatClampNeg)) &&& 31))) ^^^ (-1 : Int32))))))) (((uA σ 27 (σ.1 33 x2.toNatClampNeg).toNatClampNeg ((((σ.1 27 (σ.1 33 x2.toNatClampNeg).toNatClampNeg)) ||| (((1 : Int32) <<< (x2 &&& 31))))))).1 27) (cwG27 _ _) hi10 (cwA27 _ _ _ _) dX2_change_97 ?_
          exact g_sub [2, 0, 3] rfl (fX2_change_w98 E rc14 hrc14 (uA ((uA σ 27 (σ.1 33 x2.toNatClampNeg).toNatClampNeg ((((σ.1 27 (σ.1 33 x2.toNatClampNeg).toNatClampNeg)) ||| (((1 : Int32) <<< (x2 &&& 31))))))) 27 (σ.1 33 x2.toNatClampNeg).toNatClampNeg ((((((uA σ 27 (σ.1 33 x2.toNatClampNeg).toNatClampNeg ((((σ.1 27 (σ.1 33 x2.toNatClampNeg).toNatClampNeg)) ||| (((1 : Int32) <<< (x2 &&& 31))))))).1 27 (σ.1 33 x2.toNatClampNeg).toNatClampNeg)) &&& (((((1 : Int32) <<< (((((uA σ 27 (σ.1 33 x2.toNatClampNeg).toNatClampNeg ((((σ.1 27 (σ.1 33 x2.toNatClampNeg).toNatClampNeg)) ||| (((1 : Int32) <<< (x2 &&& 31))))))).1 32 (σ.1 33 x2.toNatClampNeg).toNatClampNeg)) &&& 31))) ^^^ (-1 : Int32)))))) (((uA σ 27 (σ.1 33 x2.toNatClampNeg).toNatClampNeg ((((σ.1 27 (σ.1 33 x2.toNatClampNeg).toNatClampNeg)) ||| (((1 : Int32) <<< (x2 &&& 31))))))).1 32 (σ.1 33 x2.toNatClampNeg).toNatClampNeg) x3 r hf)
        · have hf := gp hf c8
          refine g_aload_n E 2 dX2_change_69 rfl rfl ?_
          refine g_get (C := RX2) (T := TX2) (N := 9) (ci := 2) E 7 3 (.ref (k.2.2.2.1 28)) hi_X2_change_X2 (cwG7 _ _) rfl (by decide) hk_X2_change_15 rfl dX2_change_70 ?_
          refine g_iload E 1 dX2_change_73 rfl ?_
          refine g_dup2 E dX2_change_75 rfl rfl ?_
          obtain ⟨hi11, hf⟩ := gd hf
          refine g_iald E 28 (((uA σ 27 (σ.1 33 x2.toNatClampNeg).toNatClampNeg ((((σ.1 27 (σ.1 33 x2.toNatClampNeg).toNatClampNeg)) ||| (((1 : Int32) <<< (x2 &&& 31))))))).1 28) (cwG28 _ _) hi11 dX2_change_76 ?_
          refine g_iconst (v := (1 : Int32)) E dX2_change_77 (by decide) ?_
          refine g_isub E dX2_change_78 ?_
          obtain ⟨hi12, hf⟩ := gd hf
          refine g_iast E 28 (cw k.2.2.2 (uA ((uA σ 27 (σ.1 33 x2.toNatClampNeg).toNatClampNeg ((((σ.1 27 (σ.1 33 x2.toNatClampNeg).toNatClampNeg)) ||| (((1 : Int32) <<< (x2 &&& 31))))))) 28 (σ.1 33 x2.toNatClampNeg).toNatClampNeg ((((((uA σ 27 (σ.1 33 x2.toNatClampNeg).toNatClampNeg ((((σ.1 27 (σ.1 33 x2.toNatClampNeg).toNatClampNeg)) ||| (((1 : Int32) <<< (x2 &&& 31))))))).1 28 (σ.1 33 x2.toNatClampNeg).toNatClampNeg)) - (1 : Int32))))) (((uA σ 27 (σ.1 33 x2.toNatClampNeg).toNatClampNeg ((((σ.1 27 (σ.1 33 x2.toNatClampNeg).toNatClampNeg)) ||| (((1 : Int32) <<< (x2 &&& 31))))))).1 28) (cwG28 _ _) hi12 (cwA28 _ _ _ _) dX2_change_79 ?_
          refine g_goto (tgt := 98) E dX2_change_80 (by decide) ?_
          exact g_sub [2, 0, 3] rfl (fX2_change_w98 E rc14 hrc14 (uA ((uA σ 27 (σ.1 33 x2.toNatClampNeg).toNatClampNeg ((((σ.1 27 (σ.1 33 x2.toNatClampNeg).toNatClampNeg)) ||| (((1 : Int32) <<< (x2 &&& 31))))))) 28 (σ.1 33 x2.toNatClampNeg).toNatClampNeg ((((((uA σ 27 (σ.1 33 x2.toNatClampNeg).toNatClampNeg ((((σ.1 27 (σ.1 33 x2.toNatClampNeg).toNatClampNeg)) ||| (((1 : Int32) <<< (x2 &&& 31))))))).1 28 (σ.1 33 x2.toNatClampNeg).toNatClampNeg)) - (1 : Int32)))) (((uA σ 27 (σ.1 33 x2.toNatClampNeg).toNatClampNeg ((((σ.1 27 (σ.1 33 x2.toNatClampNeg).toNatClampNeg)) ||| (((1 : Int32) <<< (x2 &&& 31))))))).1 32 (σ.1 33 x2.toNatClampNeg).toNatClampNeg) x3 r hf)
      · have hf := gp hf c4
        have hf := Option.some.inj hf
        subst hf
        exact g_vret E dX2_change_41
theorem fX2_change_v14 {k : gK} {X : gX} (E : gE k X cX2_change RX2 wsX2_change 5 none rm_fX2_change) : ∀ (n : Nat) (σ : St) (x2 : Int32) (x3 : Int32) (r : Unit × St), fX2_change_l14 n σ x2 x3 = some r → G k X 5 (none) (cw k.2.2.2 r.2) (cw k.2.2.2 σ) [(0, .ref (k.2.2.2.1 7)), (2, .int x2), (3, .int x3)] [] 14 := by
  intro n
  induction n with
  | zero => intro σ x2 x3 r hf; cases hf
  | succ n ih => intro σ x2 x3 r hf; exact fX2_change_w14 E (fX2_change_l14 n) ih σ x2 x3 r hf
set_option maxHeartbeats 4000000 in
set_option maxRecDepth 100000 in
theorem fX2_change_c (k : gK) (σ : St) (x1 : Int32) (r : Unit × St) (hf : fX2_change σ x1 = some r) : MC k yX2_change wsX2_change rm_fX2_change [.ref (k.2.2.2.1 7), .int x1] (cw k.2.2.2 σ) (none) (cw k.2.2.2 r.2) := by
  refine MC_of (cc := cX2_change) (maxL := 5) (ret := none) (own := RX2) (lvs := [(0, .ref (k.2.2.2.1 7)), (1, .int x1)]) (by decide) rfl rfl (Nat.le_of_ble_eq_true rfl) rfl (fun X E => ?_)
  unfold fX2_change at hf
  refine g_aload_n E 0 dX2_change_0 rfl rfl ?_
  refine g_get (C := RX2) (T := TX2) (N := 9) (ci := 2) E 7 4 (.ref (k.2.2.2.1 29)) hi_X2_change_X2 (cwG7 _ _) rfl (by decide) hk_X2_change_18 rfl dX2_change_1 ?_
  refine g_iload_n E 1 dX2_change_4 rfl rfl ?_
  refine g_dup2 E dX2_change_5 rfl rfl ?_
  obtain ⟨hi1, hf⟩ := gd hf
  refine g_iald E 29 (σ.1 29) (cwG29 _ _) hi1 dX2_change_6 ?_
  refine g_iconst (v := (1 : Int32)) E dX2_change_7 (by decide) ?_
  refine g_iadd E dX2_change_8 ?_
  obtain ⟨hi2, hf⟩ := gd hf
  refine g_iast E 29 (cw k.2.2.2 (uA σ 29 x1.toNatClampNeg (((σ.1 29 x1.toNatClampNeg) + (1 : Int32))))) (σ.1 29) (cwG29 _ _) hi2 (cwA29 _ _ _ _) dX2_change_9 ?_
  refine g_iload_n E 1 dX2_change_10 rfl rfl ?_
  refine g_istore_n E [(2, .int x1), (0, .ref (k.2.2.2.1 7)), (1, .int x1)] dX2_change_11 rfl (by decide) rfl ?_
  refine g_iconst (v := (0 : Int32)) E dX2_change_12 (by decide) ?_
  refine g_istore_n E [(3, .int (0 : Int32)), (2, .int x1), (0, .ref (k.2.2.2.1 7)), (1, .int x1)] dX2_change_13 rfl (by decide) rfl ?_
  exact g_sub [2, 1, 0] rfl (fX2_change_v14 E gF (uA σ 29 x1.toNatClampNeg (((σ.1 29 x1.toNatClampNeg) + (1 : Int32)))) x1 (0 : Int32) r hf)
