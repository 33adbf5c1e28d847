theorem hi_X9_fault_X9 : ∀ w ∈ wsX90, w ∈ wsX9_fault := by decide +kernel
theorem hk_X9_fault_97 : Cond.fieldLink RX9 97 "PaperMarksModel" "signMany" "I" ∈ wsX9_fault := by decide +kernel
theorem hk_X9_fault_40 : Cond.fieldLink RX9 40 "PaperMarksModel" "signs" "[I" ∈ wsX9_fault := by decide +kernel
def rm_fX9_fault : Room := { frames := 2, cells := 0, slots := 0, locals := 47 }
set_option maxHeartbeats 4000000 in
set_option maxRecDepth 100000 in
theorem fX9_fault_w51 {k : gK} {X : gX} (E : gE k X cX9_fault RX9 wsX9_fault 3 (some .int) rm_fX9_fault) (σ : St) (r : Int32 × St) (hf : fX9_fault_b51 σ = some r) : G k X 3 (some (.int r.1)) (mw k.2.2.2 r.2) (mw k.2.2.2 σ) [] [] 51 := by
  unfold fX9_fault_b51 at hf
  refine g_bipush (v := (-6 : Int32)) E dX9_fault_51 (by decide) ?_
  refine g_goto (tgt := 60) E dX9_fault_53 (by decide) ?_
  have hf := Option.some.inj hf
  subst hf
  exact g_iret E dX9_fault_60
set_option maxHeartbeats 4000000 in
set_option maxRecDepth 100000 in
theorem fX9_fault_w4 {k : gK} {X : gX} (E : gE k X cX9_fault RX9 wsX9_fault 3 (some .int) rm_fX9_fault) (rc4 : St → Int32 → Int32 → Option (Int32 × St)) (hrc4 : ∀ (σ : St) (x1 : Int32) (x2 : Int32) (r : Int32 × St), rc4 σ x1 x2 = some r → G k X 3 (some (.int r.1)) (mw k.2.2.2 r.2) (mw k.2.2.2 σ) [(0, .ref (k.2.2.2.1 0)), (1, .int x1), (2, .int x2)] [] 4) (σ : St) (x1 : Int32) (x2 : Int32) (r : Int32 × St) (hf : fX9_fault_b4 rc4 σ x1 x2 = some r) : G k X 3 (some (.int r.1)) (mw k.2.2.2 r.2) (mw k.2.2.2 σ) [(0, .ref (k.2.2.2.1 0)), (1, .int x1), (2, .int x2)] [] 4 := by
  unfold fX9_fault_b4 at hf
  refine g_iload_n E 2 dX9_fault_4 rfl rfl ?_
  refine g_aload_n E 0 dX9_fault_5 rfl rfl ?_
  refine g_get (C := RX9) (T := TX9) (N := 20) (ci := 9) E 0 13 (.int (σ.2.1 2)) hi_X9_fault_X9 (mwG0 _ _) rfl (by decide) hk_X9_fault_97 rfl dX9_fault_6 ?_
  refine g_icmp_ge (tgt := 35) E dX9_fault_9 (by decide) (fun c1 => ?_) (fun c1 => ?_)
  · have hf := gp hf c1
    refine g_iload_n E 1 dX9_fault_35 rfl rfl ?_
    refine g_iconst (v := (3 : Int32)) E dX9_fault_36 (by decide) ?_
    refine g_icmp_eq (tgt := 51) E dX9_fault_37 (by decide) (fun c2 => ?_) (fun c2 => ?_)
    · have hf := gp hf c2
      exact g_sub [] rfl (fX9_fault_w51 E σ r hf)
    · have hf := gn hf c2
      refine g_iload_n E 1 dX9_fault_40 rfl rfl ?_
      refine g_iconst (v := (4 : Int32)) E dX9_fault_41 (by decide) ?_
      refine g_icmp_eq (tgt := 51) E dX9_fault_42 (by decide) (fun c3 => ?_) (fun c3 => ?_)
      · have hf := gp hf c3
        exact g_sub [] rfl (fX9_fault_w51 E σ r hf)
      · have hf := gn hf c3
        refine g_iload_n E 1 dX9_fault_45 rfl rfl ?_
        refine g_bipush (v := (6 : Int32)) E dX9_fault_46 (by decide) ?_
        refine g_icmp_ne (tgt := 56) E dX9_fault_48 (by decide) (fun c4 => ?_) (fun c4 => ?_)
        · have hf := gn hf c4
          refine g_aload_n E 0 dX9_fault_56 rfl rfl ?_
          refine g_get (C := RX9) (T := TX9) (N := 20) (ci := 9) E 0 13 (.int (σ.2.1 2)) hi_X9_fault_X9 (mwG0 _ _) rfl (by decide) hk_X9_fault_97 rfl dX9_fault_57 ?_
          have hf := Option.some.inj hf
          subst hf
          exact g_iret E dX9_fault_60
        · have hf := gp hf c4
          exact g_sub [] rfl (fX9_fault_w51 E σ r hf)
  · have hf := gn hf c1
    refine g_iload_n E 1 dX9_fault_12 rfl rfl ?_
    refine g_aload_n E 0 dX9_fault_13 rfl rfl ?_
    refine g_get (C := RX9) (T := TX9) (N := 20) (ci := 9) E 0 12 (.ref (k.2.2.2.1 11)) hi_X9_fault_X9 (mwG0 _ _) rfl (by decide) hk_X9_fault_40 rfl dX9_fault_14 ?_
    refine g_iload_n E 2 dX9_fault_17 rfl rfl ?_
    obtain ⟨hi5, hf⟩ := gd hf
    refine g_iald E 11 (σ.1 11) (mwG11 _ _) hi5 dX9_fault_18 ?_
    obtain ⟨q6, hq7, hf⟩ := gb hf
    refine g_callS (As := [.int x1, .int (σ.1 11 x2.toNatClampNeg)]) (rest := []) (n := 2) E (fX9_stepOf_c k σ x1 (σ.1 11 x2.toNatClampNeg) q6 hq7) gX9_fault_X9_stepOf rfl rfl rfl (by decide +kernel) ⟨Nat.le_of_ble_eq_true rfl, Nat.le_of_ble_eq_true rfl⟩ rfl rfl (Nat.le_of_ble_eq_true rfl) dX9_fault_19 ?_
    refine g_istore_n E [(1, .int q6.1), (0, .ref (k.2.2.2.1 0)), (2, .int x2)] dX9_fault_22 rfl (by decide) rfl ?_
    refine g_iload_n E 0 dX9_fault_23 rfl rfl ?_
    refine g_if_ge (tgt := 29) E dX9_fault_24 (by decide) (fun c8 => ?_) (fun c8 => ?_)
    · have hf := gp hf c8
      refine g_iinc E 2 [(2, .int (x2 + (1 : Int32))), (1, .int q6.1), (0, .ref (k.2.2.2.1 0))] (x2 + (1 : Int32)) dX9_fault_29 rfl (by rfl) (by decide) rfl ?_
      refine g_goto (tgt := 4) E dX9_fault_32 (by decide) ?_
      exact g_sub [2, 1, 0] rfl (hrc4 q6.2 q6.1 (x2 + (1 : Int32)) r hf)
    · have hf := gn hf c8
      refine g_iload_n E 2 dX9_fault_27 rfl rfl ?_
      have hf := Option.some.inj hf
      subst hf
      exact g_iret E dX9_fault_28
theorem fX9_fault_v4 {k : gK} {X : gX} (E : gE k X cX9_fault RX9 wsX9_fault 3 (some .int) rm_fX9_fault) : ∀ (n : Nat) (σ : St) (x1 : Int32) (x2 : Int32) (r : Int32 × St), fX9_fault_l4 n σ x1 x2 = some r → G k X 3 (some (.int r.1)) (mw k.2.2.2 r.2) (mw k.2.2.2 σ) [(0, .ref (k.2.2.2.1 0)), (1, .int x1), (2, .int x2)] [] 4 := by
  intro n
  induction n with
  | zero => intro σ x1 x2 r hf; cases hf
  | succ n ih => intro σ x1 x2 r hf; exact fX9_fault_w4 E (fX9_fault_l4 n) ih σ x1 x2 r hf
set_option maxHeartbeats 4000000 in
set_option maxRecDepth 100000 in
theorem fX9_fault_c (k : gK) (σ : St) (r : Int32 × St) (hf : fX9_fault σ = some r) : MC k yX9_fault wsX9_fault rm_fX9_fault [.ref (k.2.2.2.1 0)] (mw k.2.2.2 σ) (some (.int r.1)) (mw k.2.2.2 r.2) := by
  refine MC_of (cc := cX9_fault) (maxL := 3) (ret := (some .int)) (own := RX9) (lvs := [(0, .ref (k.2.2.2.1 0))]) (by decide) rfl rfl (Nat.le_of_ble_eq_true rfl) rfl (fun X E => ?_)
  unfold fX9_fault at hf
  refine g_iconst (v := (0 : Int32)) E dX9_fault_0 (by decide) ?_
  refine g_istore_n E [(1, .int (0 : Int32)), (0, .ref (k.2.2.2.1 0))] dX9_fault_1 rfl (by decide) rfl ?_
  refine g_iconst (v := (0 : Int32)) E dX9_fault_2 (by decide) ?_
  refine g_istore_n E [(2, .int (0 : Int32)), (1, .int (0 : Int32)), (0, .ref (k.2.2.2.1 0))] dX9_fault_3 rfl (by decide) rfl ?_
  exact g_sub [2, 1, 0] rfl (fX9_fault_v4 E gF σ (0 : Int32) (0 : Int32) r hf)
