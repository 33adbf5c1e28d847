theorem hi_X9_set_X9 : ∀ w ∈ wsX90, w ∈ wsX9_set := by decide +kernel
theorem hk_X9_set_31 : Cond.fieldLink RX9 31 "PaperMarksModel" "laters" "[I" ∈ wsX9_set := by decide +kernel
theorem hk_X9_set_28 : Cond.fieldLink RX9 28 "PaperMarksModel" "paperKeys" "[I" ∈ wsX9_set := by decide +kernel
theorem hk_X9_set_16 : Cond.fieldLink RX9 16 "PaperMarksModel" "judgeKeys" "[I" ∈ wsX9_set := by decide +kernel
def rm_fX9_set : Room := { frames := 2, cells := 0, slots := 0, locals := 46 }
set_option maxHeartbeats 4000000 in
set_option maxRecDepth 100000 in
theorem fX9_set_w110 {k : gK} {X : gX} (E : gE k X cX9_set RX9 wsX9_set 5 (some .int) rm_fX9_set) (σ : St) (x1 : Int32) (x2 : Int32) (x3 : Int32) (t0 : Int32) (r : Int32 × St) (hf : fX9_set_b110 σ x1 x2 x3 t0 = some r) : G k X 5 (some (.int r.1)) (mw k.2.2.2 r.2) (mw k.2.2.2 σ) [(0, .ref (k.2.2.2.1 0)), (1, .int x1), (2, .int x2), (3, .int x3)] [.int t0] 110 := by
  unfold fX9_set_b110 at hf
  refine g_istore E [(4, .int t0), (0, .ref (k.2.2.2.1 0)), (1, .int x1), (2, .int x2), (3, .int x3)] dX9_set_110 (by decide) rfl ?_
  refine g_iload_n E 2 dX9_set_112 rfl rfl ?_
  refine g_if_ne (tgt := 126) E dX9_set_113 (by decide) (fun c1 => ?_) (fun c1 => ?_)
  · have hf := gn hf c1
    refine g_iload_n E 2 dX9_set_126 rfl rfl ?_
    refine g_iconst (v := (1 : Int32)) E dX9_set_127 (by decide) ?_
    refine g_icmp_ne (tgt := 141) E dX9_set_128 (by decide) (fun c2 => ?_) (fun c2 => ?_)
    · have hf := gn hf c2
      refine g_aload_n E 1 dX9_set_141 rfl rfl ?_
      refine g_get (C := RX9) (T := TX9) (N := 20) (ci := 9) E 0 8 (.ref (k.2.2.2.1 8)) hi_X9_set_X9 (mwG0 _ _) rfl (by decide) hk_X9_set_31 rfl dX9_set_142 ?_
      refine g_iload_n E 3 dX9_set_145 rfl rfl ?_
      refine g_iload_n E 4 dX9_set_146 rfl rfl ?_
      refine g_if_ge (tgt := 155) E dX9_set_147 (by decide) (fun c3 => ?_) (fun c3 => ?_)
      · have hf := gp hf c3
        refine g_iload_n E 4 dX9_set_155 rfl rfl ?_
        obtain ⟨hi4, hf⟩ := gd hf
        refine g_iast E 8 (mw k.2.2.2 (uA σ 8 x2.toNatClampNeg x3)) (σ.1 8) (mwG8 _ _) hi4 (mwA8 _ _ _ _) dX9_set_156 ?_
        refine g_iload E 0 dX9_set_157 rfl ?_
        have hf := Option.some.inj hf
        subst hf
        exact g_iret E dX9_set_159
      · have hf := gn hf c3
        refine g_bipush (v := (-6 : Int32)) E dX9_set_150 (by decide) ?_
        refine g_goto (tgt := 156) E dX9_set_152 (by decide) ?_
        obtain ⟨hi5, hf⟩ := gd hf
        refine g_iast E 8 (mw k.2.2.2 (uA σ 8 x2.toNatClampNeg (-6 : Int32))) (σ.1 8) (mwG8 _ _) hi5 (mwA8 _ _ _ _) dX9_set_156 ?_
        refine g_iload E 0 dX9_set_157 rfl ?_
        have hf := Option.some.inj hf
        subst hf
        exact g_iret E dX9_set_159
    · have hf := gp hf c2
      refine g_aload_n E 1 dX9_set_131 rfl rfl ?_
      refine g_get (C := RX9) (T := TX9) (N := 20) (ci := 9) E 0 7 (.ref (k.2.2.2.1 7)) hi_X9_set_X9 (mwG0 _ _) rfl (by decide) hk_X9_set_28 rfl dX9_set_132 ?_
      refine g_iload_n E 3 dX9_set_135 rfl rfl ?_
      refine g_iload_n E 4 dX9_set_136 rfl rfl ?_
      obtain ⟨hi6, hf⟩ := gd hf
      refine g_iast E 7 (mw k.2.2.2 (uA σ 7 x2.toNatClampNeg x3)) (σ.1 7) (mwG7 _ _) hi6 (mwA7 _ _ _ _) dX9_set_137 ?_
      refine g_goto (tgt := 157) E dX9_set_138 (by decide) ?_
      refine g_iload E 0 dX9_set_157 rfl ?_
      have hf := Option.some.inj hf
      subst hf
      exact g_iret E dX9_set_159
  · have hf := gp hf c1
    refine g_aload_n E 1 dX9_set_116 rfl rfl ?_
    refine g_get (C := RX9) (T := TX9) (N := 20) (ci := 9) E 0 2 (.ref (k.2.2.2.1 3)) hi_X9_set_X9 (mwG0 _ _) rfl (by decide) hk_X9_set_16 rfl dX9_set_117 ?_
    refine g_iload_n E 3 dX9_set_120 rfl rfl ?_
    refine g_iload_n E 4 dX9_set_121 rfl rfl ?_
    obtain ⟨hi7, hf⟩ := gd hf
    refine g_iast E 3 (mw k.2.2.2 (uA σ 3 x2.toNatClampNeg x3)) (σ.1 3) (mwG3 _ _) hi7 (mwA3 _ _ _ _) dX9_set_122 ?_
    refine g_goto (tgt := 157) E dX9_set_123 (by decide) ?_
    refine g_iload E 0 dX9_set_157 rfl ?_
    have hf := Option.some.inj hf
    subst hf
    exact g_iret E dX9_set_159
set_option maxHeartbeats 4000000 in
set_option maxRecDepth 100000 in
theorem fX9_set_w68 {k : gK} {X : gX} (E : gE k X cX9_set RX9 wsX9_set 5 (some .int) rm_fX9_set) (σ : St) (x1 : Int32) (x2 : Int32) (x3 : Int32) (t0 : Int64) (t1 : Int64) (t2 : Int64) (r : Int32 × St) (hf : fX9_set_b68 σ x1 x2 x3 t0 t1 t2 = some r) : G k X 5 (some (.int r.1)) (mw k.2.2.2 r.2) (mw k.2.2.2 σ) [(0, .ref (k.2.2.2.1 0)), (1, .int x1), (2, .int x2), (3, .int x3)] [.long t2, .long t1, .long t0] 68 := by
  unfold fX9_set_b68 at hf
  obtain ⟨q1, hq2, hf⟩ := gb hf
  refine g_callS (As := [.long t0, .long t1, .long t2]) (rest := []) (n := 3) E (fX9_in_c k σ t0 t1 t2 q1 hq2) gX9_set_X9_in rfl rfl rfl (by decide +kernel) ⟨Nat.le_of_ble_eq_true rfl, Nat.le_of_ble_eq_true rfl⟩ rfl rfl (Nat.le_of_ble_eq_true rfl) dX9_set_68 ?_
  refine g_if_ne (tgt := 77) E dX9_set_71 (by decide) (fun c3 => ?_) (fun c3 => ?_)
  · have hf := gn hf c3
    refine g_iload_n E 1 dX9_set_77 rfl rfl ?_
    refine g_if_ne (tgt := 90) E dX9_set_78 (by decide) (fun c4 => ?_) (fun c4 => ?_)
    · have hf := gn hf c4
      refine g_iload_n E 1 dX9_set_90 rfl rfl ?_
      refine g_iconst (v := (1 : Int32)) E dX9_set_91 (by decide) ?_
      refine g_icmp_ne (tgt := 104) E dX9_set_92 (by decide) (fun c5 => ?_) (fun c5 => ?_)
      · have hf := gn hf c5
        refine g_aload_n E 0 dX9_set_104 rfl rfl ?_
        refine g_get (C := RX9) (T := TX9) (N := 20) (ci := 9) E 0 8 (.ref (k.2.2.2.1 8)) hi_X9_set_X9 (mwG0 _ _) rfl (by decide) hk_X9_set_31 rfl dX9_set_105 ?_
        refine g_iload_n E 2 dX9_set_108 rfl rfl ?_
        obtain ⟨hi6, hf⟩ := gd hf
        refine g_iald E 8 (q1.2.1 8) (mwG8 _ _) hi6 dX9_set_109 ?_
        exact fX9_set_w110 E q1.2 x1 x2 x3 (q1.2.1 8 x2.toNatClampNeg) r hf
      · have hf := gp hf c5
        refine g_aload_n E 0 dX9_set_95 rfl rfl ?_
        refine g_get (C := RX9) (T := TX9) (N := 20) (ci := 9) E 0 7 (.ref (k.2.2.2.1 7)) hi_X9_set_X9 (mwG0 _ _) rfl (by decide) hk_X9_set_28 rfl dX9_set_96 ?_
        refine g_iload_n E 2 dX9_set_99 rfl rfl ?_
        obtain ⟨hi7, hf⟩ := gd hf
        refine g_iald E 7 (q1.2.1 7) (mwG7 _ _) hi7 dX9_set_100 ?_
        refine g_goto (tgt := 110) E dX9_set_101 (by decide) ?_
        exact fX9_set_w110 E q1.2 x1 x2 x3 (q1.2.1 7 x2.toNatClampNeg) r hf
    · have hf := gp hf c4
      refine g_aload_n E 0 dX9_set_81 rfl rfl ?_
      refine g_get (C := RX9) (T := TX9) (N := 20) (ci := 9) E 0 2 (.ref (k.2.2.2.1 3)) hi_X9_set_X9 (mwG0 _ _) rfl (by decide) hk_X9_set_16 rfl dX9_set_82 ?_
      refine g_iload_n E 2 dX9_set_85 rfl rfl ?_
      obtain ⟨hi8, hf⟩ := gd hf
      refine g_iald E 3 (q1.2.1 3) (mwG3 _ _) hi8 dX9_set_86 ?_
      refine g_goto (tgt := 110) E dX9_set_87 (by decide) ?_
      exact fX9_set_w110 E q1.2 x1 x2 x3 (q1.2.1 3 x2.toNatClampNeg) r hf
  · have hf := gp hf c3
    refine g_bipush (v := (-2 : Int32)) E dX9_set_74 (by decide) ?_
    have hf := Option.some.inj hf
    subst hf
    exact g_iret E dX9_set_76
set_option maxHeartbeats 4000000 in
set_option maxRecDepth 100000 in
theorem fX9_set_w54 {k : gK} {X : gX} (E : gE k X cX9_set RX9 wsX9_set 5 (some .int) rm_fX9_set) (σ : St) (x1 : Int32) (x2 : Int32) (x3 : Int32) (t0 : Int64) (t1 : Int64) (r : Int32 × St) (hf : fX9_set_b54 σ x1 x2 x3 t0 t1 = some r) : G k X 5 (some (.int r.1)) (mw k.2.2.2 r.2) (mw k.2.2.2 σ) [(0, .ref (k.2.2.2.1 0)), (1, .int x1), (2, .int x2), (3, .int x3)] [.long t1, .long t0] 54 := by
  unfold fX9_set_b54 at hf
  refine g_iload_n E 1 dX9_set_54 rfl rfl ?_
  refine g_iconst (v := (2 : Int32)) E dX9_set_55 (by decide) ?_
  refine g_icmp_ne (tgt := 65) E dX9_set_56 (by decide) (fun c1 => ?_) (fun c1 => ?_)
  · have hf := gn hf c1
    refine g_ldc2 (v := (63 : Int64)) E (by decide +kernel) dX9_set_65 ?_
    exact fX9_set_w68 E σ x1 x2 x3 t0 t1 (63 : Int64) r hf
  · have hf := gp hf c1
    refine g_ldc2 (v := (9 : Int64)) E (by decide +kernel) dX9_set_59 ?_
    refine g_goto (tgt := 68) E dX9_set_62 (by decide) ?_
    exact fX9_set_w68 E σ x1 x2 x3 t0 t1 (9 : Int64) r hf
set_option maxHeartbeats 4000000 in
set_option maxRecDepth 100000 in
theorem fX9_set_w40 {k : gK} {X : gX} (E : gE k X cX9_set RX9 wsX9_set 5 (some .int) rm_fX9_set) (σ : St) (x1 : Int32) (x2 : Int32) (x3 : Int32) (r : Int32 × St) (hf : fX9_set_b40 σ x1 x2 x3 = some r) : G k X 5 (some (.int r.1)) (mw k.2.2.2 r.2) (mw k.2.2.2 σ) [(0, .ref (k.2.2.2.1 0)), (1, .int x1), (2, .int x2), (3, .int x3)] [] 40 := by
  unfold fX9_set_b40 at hf
  refine g_iload_n E 3 dX9_set_40 rfl rfl ?_
  refine g_i2l E dX9_set_41 ?_
  refine g_iload_n E 1 dX9_set_42 rfl rfl ?_
  refine g_iconst (v := (2 : Int32)) E dX9_set_43 (by decide) ?_
  refine g_icmp_ne (tgt := 53) E dX9_set_44 (by decide) (fun c1 => ?_) (fun c1 => ?_)
  · have hf := gn hf c1
    refine g_lconst (v := (0 : Int64)) E dX9_set_53 (by decide) ?_
    exact fX9_set_w54 E σ x1 x2 x3 x3.toInt64 (0 : Int64) r hf
  · have hf := gp hf c1
    refine g_ldc2 (v := (-1 : Int64)) E (by decide +kernel) dX9_set_47 ?_
    refine g_goto (tgt := 54) E dX9_set_50 (by decide) ?_
    exact fX9_set_w54 E σ x1 x2 x3 x3.toInt64 (-1 : Int64) r hf
set_option maxHeartbeats 4000000 in
set_option maxRecDepth 100000 in
theorem fX9_set_c (k : gK) (σ : St) (x1 : Int32) (x2 : Int32) (x3 : Int32) (r : Int32 × St) (hf : fX9_set σ x1 x2 x3 = some r) : MC k yX9_set wsX9_set rm_fX9_set [.ref (k.2.2.2.1 0), .int x1, .int x2, .int x3] (mw k.2.2.2 σ) (some (.int r.1)) (mw k.2.2.2 r.2) := by
  refine MC_of (cc := cX9_set) (maxL := 5) (ret := (some .int)) (own := RX9) (lvs := [(0, .ref (k.2.2.2.1 0)), (1, .int x1), (2, .int x2), (3, .int x3)]) (by decide) rfl rfl (Nat.le_of_ble_eq_true rfl) rfl (fun X E => ?_)
  unfold fX9_set at hf
  refine g_iload_n E 1 dX9_set_0 rfl rfl ?_
  refine g_i2l E dX9_set_1 ?_
  refine g_lconst (v := (0 : Int64)) E dX9_set_2 (by decide) ?_
  refine g_ldc2 (v := (2 : Int64)) E (by decide +kernel) dX9_set_3 ?_
  obtain ⟨q1, hq2, hf⟩ := gb hf
  refine g_callS (As := [.long x1.toInt64, .long (0 : Int64), .long (2 : Int64)]) (rest := []) (n := 3) E (fX9_in_c k σ x1.toInt64 (0 : Int64) (2 : Int64) q1 hq2) gX9_set_X9_in rfl rfl rfl (by decide +kernel) ⟨Nat.le_of_ble_eq_true rfl, Nat.le_of_ble_eq_true rfl⟩ rfl rfl (Nat.le_of_ble_eq_true rfl) dX9_set_6 ?_
  refine g_if_ne (tgt := 15) E dX9_set_9 (by decide) (fun c3 => ?_) (fun c3 => ?_)
  · have hf := gn hf c3
    refine g_iload_n E 1 dX9_set_15 rfl rfl ?_
    refine g_if_ne (tgt := 30) E dX9_set_16 (by decide) (fun c4 => ?_) (fun c4 => ?_)
    · have hf := gn hf c4
      refine g_aload_n E 0 dX9_set_30 rfl rfl ?_
      refine g_iload_n E 2 dX9_set_31 rfl rfl ?_
      obtain ⟨q5, hq6, hf⟩ := gb hf
      refine g_callV (C := RX9) (T := TX9) (N := 20) (ci := 9) (As := [.int x2]) (rest := []) (n := 1) E 0 (fX9_isPaper_c k q1.2 x2 q5 hq6) gX9_set_X9_isPaper rfl rfl rfl (by decide +kernel) ⟨Nat.le_of_ble_eq_true rfl, Nat.le_of_ble_eq_true rfl⟩ rfl rfl (Nat.le_of_ble_eq_true rfl) rfl (mwG0 _ _) dX9_set_32 ?_
      refine g_if_ne (tgt := 40) E dX9_set_35 (by decide) (fun c7 => ?_) (fun c7 => ?_)
      · have hf := gn hf c7
        exact fX9_set_w40 E q5.2 x1 x2 x3 r hf
      · have hf := gp hf c7
        refine g_iconst (v := (-1 : Int32)) E dX9_set_38 (by decide) ?_
        have hf := Option.some.inj hf
        subst hf
        exact g_iret E dX9_set_39
    · have hf := gp hf c4
      refine g_aload_n E 0 dX9_set_19 rfl rfl ?_
      refine g_iload_n E 2 dX9_set_20 rfl rfl ?_
      obtain ⟨q8, hq9, hf⟩ := gb hf
      refine g_callV (C := RX9) (T := TX9) (N := 20) (ci := 9) (As := [.int x2]) (rest := []) (n := 1) E 0 (fX9_isJudge_c k q1.2 x2 q8 hq9) gX9_set_X9_isJudge rfl rfl rfl (by decide +kernel) ⟨Nat.le_of_ble_eq_true rfl, Nat.le_of_ble_eq_true rfl⟩ rfl rfl (Nat.le_of_ble_eq_true rfl) rfl (mwG0 _ _) dX9_set_21 ?_
      refine g_if_ne (tgt := 40) E dX9_set_24 (by decide) (fun c10 => ?_) (fun c10 => ?_)
      · have hf := gn hf c10
        exact fX9_set_w40 E q8.2 x1 x2 x3 r hf
      · have hf := gp hf c10
        refine g_goto (tgt := 38) E dX9_set_27 (by decide) ?_
        refine g_iconst (v := (-1 : Int32)) E dX9_set_38 (by decide) ?_
        have hf := Option.some.inj hf
        subst hf
        exact g_iret E dX9_set_39
  · have hf := gp hf c3
    refine g_bipush (v := (-2 : Int32)) E dX9_set_12 (by decide) ?_
    have hf := Option.some.inj hf
    subst hf
    exact g_iret E dX9_set_14
theorem hi_X9_say_X9 : ∀ w ∈ wsX90, w ∈ wsX9_say := by decide +kernel
theorem hk_X9_say_97 : Cond.fieldLink RX9 97 "PaperMarksModel" "signMany" "I" ∈ wsX9_say := by decide +kernel
theorem hk_X9_say_40 : Cond.fieldLink RX9 40 "PaperMarksModel" "signs" "[I" ∈ wsX9_say := by decide +kernel
def rm_fX9_say : Room := { frames := 1, cells := 0, slots := 0, locals := 25 }
set_option maxHeartbeats 4000000 in
set_option maxRecDepth 100000 in
theorem fX9_say_c (k : gK) (σ : St) (x1 : Int32) (r : Int32 × St) (hf : fX9_say σ x1 = some r) : MC k yX9_say wsX9_say rm_fX9_say [.ref (k.2.2.2.1 0), .int x1] (mw k.2.2.2 σ) (some (.int r.1)) (mw k.2.2.2 r.2) := by
  refine MC_of (cc := cX9_say) (maxL := 2) (ret := (some .int)) (own := RX9) (lvs := [(0, .ref (k.2.2.2.1 0)), (1, .int x1)]) (by decide) rfl rfl (Nat.le_of_ble_eq_true rfl) rfl (fun X E => ?_)
  unfold fX9_say at hf
  refine g_iload_n E 1 dX9_say_0 rfl rfl ?_
  refine g_i2l E dX9_say_1 ?_
  refine g_ldc2 (v := (33 : Int64)) E (by decide +kernel) dX9_say_2 ?_
  refine g_ldc2 (v := (126 : Int64)) E (by decide +kernel) dX9_say_5 ?_
  obtain ⟨q1, hq2, hf⟩ := gb hf
  refine g_callS (As := [.long x1.toInt64, .long (33 : Int64), .long (126 : Int64)]) (rest := []) (n := 3) E (fX9_in_c k σ x1.toInt64 (33 : Int64) (126 : Int64) q1 hq2) gX9_say_X9_in rfl rfl rfl (by decide +kernel) ⟨Nat.le_of_ble_eq_true rfl, Nat.le_of_ble_eq_true rfl⟩ rfl rfl (Nat.le_of_ble_eq_true rfl) dX9_say_8 ?_
  refine g_if_ne (tgt := 17) E dX9_say_11 (by decide) (fun c3 => ?_) (fun c3 => ?_)
  · have hf := gn hf c3
    refine g_aload_n E 0 dX9_say_17 rfl rfl ?_
    refine g_get (C := RX9) (T := TX9) (N := 20) (ci := 9) E 0 13 (.int (q1.2.2.1 2)) hi_X9_say_X9 (mwG0 _ _) rfl (by decide) hk_X9_say_97 rfl dX9_say_18 ?_
    refine g_bipush (v := (40 : Int32)) E dX9_say_21 (by decide) ?_
    refine g_icmp_ne (tgt := 29) E dX9_say_23 (by decide) (fun c4 => ?_) (fun c4 => ?_)
    · have hf := gn hf c4
      refine g_aload_n E 0 dX9_say_29 rfl rfl ?_
      refine g_get (C := RX9) (T := TX9) (N := 20) (ci := 9) E 0 12 (.ref (k.2.2.2.1 11)) hi_X9_say_X9 (mwG0 _ _) rfl (by decide) hk_X9_say_40 rfl dX9_say_30 ?_
      refine g_aload_n E 0 dX9_say_33 rfl rfl ?_
      refine g_get (C := RX9) (T := TX9) (N := 20) (ci := 9) E 0 13 (.int (q1.2.2.1 2)) hi_X9_say_X9 (mwG0 _ _) rfl (by decide) hk_X9_say_97 rfl dX9_say_34 ?_
      refine g_iload_n E 1 dX9_say_37 rfl rfl ?_
      obtain ⟨hi5, hf⟩ := gd hf
      refine g_iast E 11 (mw k.2.2.2 (uA q1.2 11 (q1.2.2.1 2).toNatClampNeg x1)) (q1.2.1 11) (mwG11 _ _) hi5 (mwA11 _ _ _ _) dX9_say_38 ?_
      refine g_aload_n E 0 dX9_say_39 rfl rfl ?_
      refine g_dup E dX9_say_40 rfl ?_
      refine g_get (C := RX9) (T := TX9) (N := 20) (ci := 9) E 0 13 (.int (((uA q1.2 11 (q1.2.2.1 2).toNatClampNeg x1)).2.1 2)) hi_X9_say_X9 (mwG0 _ _) rfl (by decide) hk_X9_say_97 rfl dX9_say_41 ?_
      refine g_iconst (v := (1 : Int32)) E dX9_say_44 (by decide) ?_
      refine g_iadd E dX9_say_45 ?_
      refine g_put (C := RX9) (T := TX9) (N := 20) (ci := 9) E 0 13 (mw k.2.2.2 (uI ((uA q1.2 11 (q1.2.2.1 2).toNatClampNeg x1)) 2 ((((((uA q1.2 11 (q1.2.2.1 2).toNatClampNeg x1)).2.1 2)) + (1 : Int32))))) hi_X9_say_X9 tyX9 tyX9_ok nmX9 (mwG0 _ _) rfl (by decide) hk_X9_say_97 rfl (by decide +kernel) (Nat.le_of_ble_eq_true rfl) (mwI2 _ _ _) dX9_say_46 ?_
      refine g_aload_n E 0 dX9_say_49 rfl rfl ?_
      refine g_get (C := RX9) (T := TX9) (N := 20) (ci := 9) E 0 13 (.int (((uI ((uA q1.2 11 (q1.2.2.1 2).toNatClampNeg x1)) 2 ((((((uA q1.2 11 (q1.2.2.1 2).toNatClampNeg x1)).2.1 2)) + (1 : Int32))))).2.1 2)) hi_X9_say_X9 (mwG0 _ _) rfl (by decide) hk_X9_say_97 rfl dX9_say_50 ?_
      have hf := Option.some.inj hf
      subst hf
      exact g_iret E dX9_say_53
    · have hf := gp hf c4
      refine g_bipush (v := (-4 : Int32)) E dX9_say_26 (by decide) ?_
      have hf := Option.some.inj hf
      subst hf
      exact g_iret E dX9_say_28
  · have hf := gp hf c3
    refine g_bipush (v := (-2 : Int32)) E dX9_say_14 (by decide) ?_
    have hf := Option.some.inj hf
    subst hf
    exact g_iret E dX9_say_16
theorem hi_X9_wipe_X9 : ∀ w ∈ wsX90, w ∈ wsX9_wipe := by decide +kernel
theorem hk_X9_wipe_97 : Cond.fieldLink RX9 97 "PaperMarksModel" "signMany" "I" ∈ wsX9_wipe := by decide +kernel
def rm_fX9_wipe : Room := { frames := 0, cells := 0, slots := 0, locals := 0 }
set_option maxHeartbeats 4000000 in
set_option maxRecDepth 100000 in
theorem fX9_wipe_c (k : gK) (σ : St) (r : Int32 × St) (hf : fX9_wipe σ = some r) : MC k yX9_wipe wsX9_wipe rm_fX9_wipe [.ref (k.2.2.2.1 0)] (mw k.2.2.2 σ) (some (.int r.1)) (mw k.2.2.2 r.2) := by
  refine MC_of (cc := cX9_wipe) (maxL := 2) (ret := (some .int)) (own := RX9) (lvs := [(0, .ref (k.2.2.2.1 0))]) (by decide) rfl rfl (Nat.le_of_ble_eq_true rfl) rfl (fun X E => ?_)
  unfold fX9_wipe at hf
  refine g_aload_n E 0 dX9_wipe_0 rfl rfl ?_
  refine g_get (C := RX9) (T := TX9) (N := 20) (ci := 9) E 0 13 (.int (σ.2.1 2)) hi_X9_wipe_X9 (mwG0 _ _) rfl (by decide) hk_X9_wipe_97 rfl dX9_wipe_1 ?_
  refine g_istore_n E [(1, .int (σ.2.1 2)), (0, .ref (k.2.2.2.1 0))] dX9_wipe_4 rfl (by decide) rfl ?_
  refine g_aload_n E 1 dX9_wipe_5 rfl rfl ?_
  refine g_iconst (v := (0 : Int32)) E dX9_wipe_6 (by decide) ?_
  refine g_put (C := RX9) (T := TX9) (N := 20) (ci := 9) E 0 13 (mw k.2.2.2 (uI σ 2 (0 : Int32))) hi_X9_wipe_X9 tyX9 tyX9_ok nmX9 (mwG0 _ _) rfl (by decide) hk_X9_wipe_97 rfl (by decide +kernel) (Nat.le_of_ble_eq_true rfl) (mwI2 _ _ _) dX9_wipe_7 ?_
  refine g_iload_n E 0 dX9_wipe_10 rfl rfl ?_
  have hf := Option.some.inj hf
  subst hf
  exact g_iret E dX9_wipe_11
def rm_fX9_isJoin : Room := { frames := 0, cells := 0, slots := 0, locals := 0 }
set_option maxHeartbeats 4000000 in
set_option maxRecDepth 100000 in
theorem fX9_isJoin_w24 {k : gK} {X : gX} (E : gE k X cX9_isJoin RX9 wsX9_isJoin 1 (some .boolean) rm_fX9_isJoin) (σ : St) (r : Int32 × St) (hf : fX9_isJoin_b24 σ = some r) : G k X 1 (some (.int r.1)) (mw k.2.2.2 r.2) (mw k.2.2.2 σ) [] [] 24 := by
  unfold fX9_isJoin_b24 at hf
  refine g_iconst (v := (1 : Int32)) E dX9_isJoin_24 (by decide) ?_
  refine g_goto (tgt := 29) E dX9_isJoin_25 (by decide) ?_
  have hf := Option.some.inj hf
  subst hf
  exact g_zret E (Or.inr rfl) dX9_isJoin_29
set_option maxHeartbeats 4000000 in
set_option maxRecDepth 100000 in
theorem fX9_isJoin_c (k : gK) (σ : St) (x0 : Int32) (r : Int32 × St) (hf : fX9_isJoin σ x0 = some r) : MC k yX9_isJoin wsX9_isJoin rm_fX9_isJoin [.int x0] (mw k.2.2.2 σ) (some (.int r.1)) (mw k.2.2.2 r.2) := by
  refine MC_of (cc := cX9_isJoin) (maxL := 1) (ret := (some .boolean)) (own := RX9) (lvs := [(0, .int x0)]) (by decide) rfl rfl (Nat.le_of_ble_eq_true rfl) rfl (fun X E => ?_)
  unfold fX9_isJoin at hf
  refine g_iload_n E 0 dX9_isJoin_0 rfl rfl ?_
  refine g_bipush (v := (97 : Int32)) E dX9_isJoin_1 (by decide) ?_
  refine g_icmp_eq (tgt := 24) E dX9_isJoin_3 (by decide) (fun c1 => ?_) (fun c1 => ?_)
  · have hf := gp hf c1
    exact g_sub [] rfl (fX9_isJoin_w24 E σ r hf)
  · have hf := gn hf c1
    refine g_iload_n E 0 dX9_isJoin_6 rfl rfl ?_
    refine g_bipush (v := (109 : Int32)) E dX9_isJoin_7 (by decide) ?_
    refine g_icmp_eq (tgt := 24) E dX9_isJoin_9 (by decide) (fun c2 => ?_) (fun c2 => ?_)
    · have hf := gp hf c2
      exact g_sub [] rfl (fX9_isJoin_w24 E σ r hf)
    · have hf := gn hf c2
      refine g_iload_n E 0 dX9_isJoin_12 rfl rfl ?_
      refine g_bipush (v := (108 : Int32)) E dX9_isJoin_13 (by decide) ?_
      refine g_icmp_eq (tgt := 24) E dX9_isJoin_15 (by decide) (fun c3 => ?_) (fun c3 => ?_)
      · have hf := gp hf c3
        exact g_sub [] rfl (fX9_isJoin_w24 E σ r hf)
      · have hf := gn hf c3
        refine g_iload_n E 0 dX9_isJoin_18 rfl rfl ?_
        refine g_bipush (v := (103 : Int32)) E dX9_isJoin_19 (by decide) ?_
        refine g_icmp_ne (tgt := 28) E dX9_isJoin_21 (by decide) (fun c4 => ?_) (fun c4 => ?_)
        · have hf := gn hf c4
          refine g_iconst (v := (0 : Int32)) E dX9_isJoin_28 (by decide) ?_
          have hf := Option.some.inj hf
          subst hf
          exact g_zret E (Or.inl rfl) dX9_isJoin_29
        · have hf := gp hf c4
          exact g_sub [] rfl (fX9_isJoin_w24 E σ r hf)
