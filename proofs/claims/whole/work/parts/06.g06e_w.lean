def rm_fX9_stepOf : Room := { frames := 1, cells := 0, slots := 0, locals := 25 }
set_option maxHeartbeats 4000000 in
set_option maxRecDepth 100000 in
theorem fX9_stepOf_c (k : gK) (σ : St) (x0 : Int32) (x1 : Int32) (r : Int32 × St) (hf : fX9_stepOf σ x0 x1 = some r) : MC k yX9_stepOf wsX9_stepOf rm_fX9_stepOf [.int x0, .int x1] (mw k.2.2.2 σ) (some (.int r.1)) (mw k.2.2.2 r.2) := by
  refine MC_of (cc := cX9_stepOf) (maxL := 3) (ret := (some .int)) (own := RX9) (lvs := [(0, .int x0), (1, .int x1)]) (by decide) rfl rfl (Nat.le_of_ble_eq_true rfl) rfl (fun X E => ?_)
  unfold fX9_stepOf at hf
  refine g_iload_n E 1 dX9_stepOf_0 rfl rfl ?_
  refine g_i2l E dX9_stepOf_1 ?_
  refine g_ldc2 (v := (48 : Int64)) E (by decide +kernel) dX9_stepOf_2 ?_
  refine g_ldc2 (v := (57 : Int64)) E (by decide +kernel) dX9_stepOf_5 ?_
  obtain ⟨q1, hq2, hf⟩ := gb hf
  refine g_callS (As := [.long x1.toInt64, .long (48 : Int64), .long (57 : Int64)]) (rest := []) (n := 3) E (fX9_in_c k σ x1.toInt64 (48 : Int64) (57 : Int64) q1 hq2) gX9_stepOf_X9_in rfl rfl rfl (by decide +kernel) ⟨Nat.le_of_ble_eq_true rfl, Nat.le_of_ble_eq_true rfl⟩ rfl rfl (Nat.le_of_ble_eq_true rfl) dX9_stepOf_8 ?_
  refine g_istore_n E [(2, .int q1.1), (0, .int x0), (1, .int x1)] dX9_stepOf_11 rfl (by decide) rfl ?_
  refine g_iload_n E 1 dX9_stepOf_12 rfl rfl ?_
  by_cases c3 : x0 = (0 : Int32)
  · have hf := gp hf c3
    refine g_tabIn (tgt := 56) (off := 43) E (0 : Int32) c3 dX9_stepOf_13 (by decide) (by decide) (by decide) (by decide) ?_
    refine g_iload_n E 2 dX9_stepOf_56 rfl rfl ?_
    obtain ⟨q4, hq5, hf⟩ := gb hf
    refine g_callS (As := [.int x1]) (rest := []) (n := 1) E (fX9_isJoin_c k q1.2 x1 q4 hq5) gX9_stepOf_X9_isJoin rfl rfl rfl (by decide +kernel) ⟨Nat.le_of_ble_eq_true rfl, Nat.le_of_ble_eq_true rfl⟩ rfl rfl (Nat.le_of_ble_eq_true rfl) dX9_stepOf_57 ?_
    refine g_if_eq (tgt := 67) E dX9_stepOf_60 (by decide) (fun c6 => ?_) (fun c6 => ?_)
    · have hf := gp hf c6
      refine g_iconst (v := (-1 : Int32)) E dX9_stepOf_67 (by decide) ?_
      have hf := Option.some.inj hf
      subst hf
      exact g_iret E dX9_stepOf_68
    · have hf := gn hf c6
      refine g_iconst (v := (1 : Int32)) E dX9_stepOf_63 (by decide) ?_
      refine g_goto (tgt := 68) E dX9_stepOf_64 (by decide) ?_
      have hf := Option.some.inj hf
      subst hf
      exact g_iret E dX9_stepOf_68
  · have hf := gn hf c3
    by_cases c7 : x0 = (1 : Int32)
    · have hf := gp hf c7
      refine g_tabIn (tgt := 69) (off := 56) E (1 : Int32) c7 dX9_stepOf_13 (by decide) (by decide) (by decide) (by decide) ?_
      refine g_iload_n E 2 dX9_stepOf_69 rfl rfl ?_
      refine g_bipush (v := (62 : Int32)) E dX9_stepOf_70 (by decide) ?_
      refine g_icmp_ne (tgt := 79) E dX9_stepOf_72 (by decide) (fun c8 => ?_) (fun c8 => ?_)
      · have hf := gn hf c8
        refine g_iconst (v := (-1 : Int32)) E dX9_stepOf_79 (by decide) ?_
        have hf := Option.some.inj hf
        subst hf
        exact g_iret E dX9_stepOf_80
      · have hf := gp hf c8
        refine g_iconst (v := (2 : Int32)) E dX9_stepOf_75 (by decide) ?_
        refine g_goto (tgt := 80) E dX9_stepOf_76 (by decide) ?_
        have hf := Option.some.inj hf
        subst hf
        exact g_iret E dX9_stepOf_80
    · have hf := gn hf c7
      by_cases c9 : x0 = (2 : Int32)
      · have hf := gp hf c9
        refine g_tabIn (tgt := 81) (off := 68) E (2 : Int32) c9 dX9_stepOf_13 (by decide) (by decide) (by decide) (by decide) ?_
        refine g_iload_n E 0 dX9_stepOf_81 rfl rfl ?_
        refine g_if_eq (tgt := 89) E dX9_stepOf_82 (by decide) (fun c10 => ?_) (fun c10 => ?_)
        · have hf := gp hf c10
          refine g_iconst (v := (-1 : Int32)) E dX9_stepOf_89 (by decide) ?_
          have hf := Option.some.inj hf
          subst hf
          exact g_iret E dX9_stepOf_90
        · have hf := gn hf c10
          refine g_iconst (v := (3 : Int32)) E dX9_stepOf_85 (by decide) ?_
          refine g_goto (tgt := 90) E dX9_stepOf_86 (by decide) ?_
          have hf := Option.some.inj hf
          subst hf
          exact g_iret E dX9_stepOf_90
      · have hf := gn hf c9
        by_cases c11 : x0 = (3 : Int32)
        · have hf := gp hf c11
          refine g_tabIn (tgt := 124) (off := 111) E (3 : Int32) c11 dX9_stepOf_13 (by decide) (by decide) (by decide) (by decide) ?_
          refine g_iload_n E 2 dX9_stepOf_124 rfl rfl ?_
          refine g_bipush (v := (59 : Int32)) E dX9_stepOf_125 (by decide) ?_
          refine g_icmp_ne (tgt := 134) E dX9_stepOf_127 (by decide) (fun c12 => ?_) (fun c12 => ?_)
          · have hf := gn hf c12
            refine g_iload_n E 2 dX9_stepOf_134 rfl rfl ?_
            refine g_bipush (v := (63 : Int32)) E dX9_stepOf_135 (by decide) ?_
            refine g_icmp_ne (tgt := 144) E dX9_stepOf_137 (by decide) (fun c13 => ?_) (fun c13 => ?_)
            · have hf := gn hf c13
              refine g_iload_n E 0 dX9_stepOf_144 rfl rfl ?_
              refine g_if_eq (tgt := 157) E dX9_stepOf_145 (by decide) (fun c14 => ?_) (fun c14 => ?_)
              · have hf := gp hf c14
                refine g_iconst (v := (-1 : Int32)) E dX9_stepOf_157 (by decide) ?_
                have hf := Option.some.inj hf
                subst hf
                exact g_iret E dX9_stepOf_158
              · have hf := gn hf c14
                refine g_iload_n E 1 dX9_stepOf_148 rfl rfl ?_
                refine g_iconst (v := (3 : Int32)) E dX9_stepOf_149 (by decide) ?_
                refine g_icmp_ne (tgt := 157) E dX9_stepOf_150 (by decide) (fun c15 => ?_) (fun c15 => ?_)
                · have hf := gn hf c15
                  refine g_iconst (v := (-1 : Int32)) E dX9_stepOf_157 (by decide) ?_
                  have hf := Option.some.inj hf
                  subst hf
                  exact g_iret E dX9_stepOf_158
                · have hf := gp hf c15
                  refine g_iconst (v := (4 : Int32)) E dX9_stepOf_153 (by decide) ?_
                  refine g_goto (tgt := 158) E dX9_stepOf_154 (by decide) ?_
                  have hf := Option.some.inj hf
                  subst hf
                  exact g_iret E dX9_stepOf_158
            · have hf := gp hf c13
              refine g_iconst (v := (5 : Int32)) E dX9_stepOf_140 (by decide) ?_
              refine g_goto (tgt := 158) E dX9_stepOf_141 (by decide) ?_
              have hf := Option.some.inj hf
              subst hf
              exact g_iret E dX9_stepOf_158
          · have hf := gp hf c12
            refine g_iconst (v := (0 : Int32)) E dX9_stepOf_130 (by decide) ?_
            refine g_goto (tgt := 158) E dX9_stepOf_131 (by decide) ?_
            have hf := Option.some.inj hf
            subst hf
            exact g_iret E dX9_stepOf_158
        · have hf := gn hf c11
          by_cases c16 : x0 = (4 : Int32)
          · have hf := gp hf c16
            refine g_tabIn (tgt := 124) (off := 111) E (4 : Int32) c16 dX9_stepOf_13 (by decide) (by decide) (by decide) (by decide) ?_
            refine g_iload_n E 2 dX9_stepOf_124 rfl rfl ?_
            refine g_bipush (v := (59 : Int32)) E dX9_stepOf_125 (by decide) ?_
            refine g_icmp_ne (tgt := 134) E dX9_stepOf_127 (by decide) (fun c17 => ?_) (fun c17 => ?_)
            · have hf := gn hf c17
              refine g_iload_n E 2 dX9_stepOf_134 rfl rfl ?_
              refine g_bipush (v := (63 : Int32)) E dX9_stepOf_135 (by decide) ?_
              refine g_icmp_ne (tgt := 144) E dX9_stepOf_137 (by decide) (fun c18 => ?_) (fun c18 => ?_)
              · have hf := gn hf c18
                refine g_iload_n E 0 dX9_stepOf_144 rfl rfl ?_
                refine g_if_eq (tgt := 157) E dX9_stepOf_145 (by decide) (fun c19 => ?_) (fun c19 => ?_)
                · have hf := gp hf c19
                  refine g_iconst (v := (-1 : Int32)) E dX9_stepOf_157 (by decide) ?_
                  have hf := Option.some.inj hf
                  subst hf
                  exact g_iret E dX9_stepOf_158
                · have hf := gn hf c19
                  refine g_iload_n E 1 dX9_stepOf_148 rfl rfl ?_
                  refine g_iconst (v := (3 : Int32)) E dX9_stepOf_149 (by decide) ?_
                  refine g_icmp_ne (tgt := 157) E dX9_stepOf_150 (by decide) (fun c20 => ?_) (fun c20 => ?_)
                  · have hf := gn hf c20
                    refine g_iconst (v := (-1 : Int32)) E dX9_stepOf_157 (by decide) ?_
                    have hf := Option.some.inj hf
                    subst hf
                    exact g_iret E dX9_stepOf_158
                  · have hf := gp hf c20
                    refine g_iconst (v := (4 : Int32)) E dX9_stepOf_153 (by decide) ?_
                    refine g_goto (tgt := 158) E dX9_stepOf_154 (by decide) ?_
                    have hf := Option.some.inj hf
                    subst hf
                    exact g_iret E dX9_stepOf_158
              · have hf := gp hf c18
                refine g_iconst (v := (5 : Int32)) E dX9_stepOf_140 (by decide) ?_
                refine g_goto (tgt := 158) E dX9_stepOf_141 (by decide) ?_
                have hf := Option.some.inj hf
                subst hf
                exact g_iret E dX9_stepOf_158
            · have hf := gp hf c17
              refine g_iconst (v := (0 : Int32)) E dX9_stepOf_130 (by decide) ?_
              refine g_goto (tgt := 158) E dX9_stepOf_131 (by decide) ?_
              have hf := Option.some.inj hf
              subst hf
              exact g_iret E dX9_stepOf_158
          · have hf := gn hf c16
            by_cases c21 : x0 = (5 : Int32)
            · have hf := gp hf c21
              refine g_tabIn (tgt := 91) (off := 78) E (5 : Int32) c21 dX9_stepOf_13 (by decide) (by decide) (by decide) (by decide) ?_
              refine g_iload_n E 2 dX9_stepOf_91 rfl rfl ?_
              refine g_i2l E dX9_stepOf_92 ?_
              refine g_ldc2 (v := (49 : Int64)) E (by decide +kernel) dX9_stepOf_93 ?_
              refine g_ldc2 (v := (51 : Int64)) E (by decide +kernel) dX9_stepOf_96 ?_
              obtain ⟨q22, hq23, hf⟩ := gb hf
              refine g_callS (As := [.long x1.toInt64, .long (49 : Int64), .long (51 : Int64)]) (rest := []) (n := 3) E (fX9_in_c k q1.2 x1.toInt64 (49 : Int64) (51 : Int64) q22 hq23) gX9_stepOf_X9_in rfl rfl rfl (by decide +kernel) ⟨Nat.le_of_ble_eq_true rfl, Nat.le_of_ble_eq_true rfl⟩ rfl rfl (Nat.le_of_ble_eq_true rfl) dX9_stepOf_99 ?_
              refine g_if_eq (tgt := 110) E dX9_stepOf_102 (by decide) (fun c24 => ?_) (fun c24 => ?_)
              · have hf := gp hf c24
                refine g_iconst (v := (-1 : Int32)) E dX9_stepOf_110 (by decide) ?_
                have hf := Option.some.inj hf
                subst hf
                exact g_iret E dX9_stepOf_111
              · have hf := gn hf c24
                refine g_bipush (v := (6 : Int32)) E dX9_stepOf_105 (by decide) ?_
                refine g_goto (tgt := 111) E dX9_stepOf_107 (by decide) ?_
                have hf := Option.some.inj hf
                subst hf
                exact g_iret E dX9_stepOf_111
            · have hf := gn hf c21
              by_cases c25 : x0 = (6 : Int32)
              · have hf := gp hf c25
                refine g_tabIn (tgt := 112) (off := 99) E (6 : Int32) c25 dX9_stepOf_13 (by decide) (by decide) (by decide) (by decide) ?_
                refine g_iload_n E 2 dX9_stepOf_112 rfl rfl ?_
                refine g_bipush (v := (59 : Int32)) E dX9_stepOf_113 (by decide) ?_
                refine g_icmp_ne (tgt := 122) E dX9_stepOf_115 (by decide) (fun c26 => ?_) (fun c26 => ?_)
                · have hf := gn hf c26
                  refine g_iconst (v := (-1 : Int32)) E dX9_stepOf_122 (by decide) ?_
                  have hf := Option.some.inj hf
                  subst hf
                  exact g_iret E dX9_stepOf_123
                · have hf := gp hf c26
                  refine g_iconst (v := (0 : Int32)) E dX9_stepOf_118 (by decide) ?_
                  refine g_goto (tgt := 123) E dX9_stepOf_119 (by decide) ?_
                  have hf := Option.some.inj hf
                  subst hf
                  exact g_iret E dX9_stepOf_123
              · have hf := gn hf c25
                have hout : (x0).toInt < 0 ∨ 6 < (x0).toInt := by
                  have := lv_neT c3 (a := 0) rfl
                  have := lv_neT c7 (a := 1) rfl
                  have := lv_neT c9 (a := 2) rfl
                  have := lv_neT c11 (a := 3) rfl
                  have := lv_neT c16 (a := 4) rfl
                  have := lv_neT c21 (a := 5) rfl
                  have := lv_neT c25 (a := 6) rfl
                  omega
                refine g_tabOut (tgt := 124) E dX9_stepOf_13 hout (by decide) ?_
                refine g_iload_n E 2 dX9_stepOf_124 rfl rfl ?_
                refine g_bipush (v := (59 : Int32)) E dX9_stepOf_125 (by decide) ?_
                refine g_icmp_ne (tgt := 134) E dX9_stepOf_127 (by decide) (fun c27 => ?_) (fun c27 => ?_)
                · have hf := gn hf c27
                  refine g_iload_n E 2 dX9_stepOf_134 rfl rfl ?_
                  refine g_bipush (v := (63 : Int32)) E dX9_stepOf_135 (by decide) ?_
                  refine g_icmp_ne (tgt := 144) E dX9_stepOf_137 (by decide) (fun c28 => ?_) (fun c28 => ?_)
                  · have hf := gn hf c28
                    refine g_iload_n E 0 dX9_stepOf_144 rfl rfl ?_
                    refine g_if_eq (tgt := 157) E dX9_stepOf_145 (by decide) (fun c29 => ?_) (fun c29 => ?_)
                    · have hf := gp hf c29
                      refine g_iconst (v := (-1 : Int32)) E dX9_stepOf_157 (by decide) ?_
                      have hf := Option.some.inj hf
                      subst hf
                      exact g_iret E dX9_stepOf_158
                    · have hf := gn hf c29
                      refine g_iload_n E 1 dX9_stepOf_148 rfl rfl ?_
                      refine g_iconst (v := (3 : Int32)) E dX9_stepOf_149 (by decide) ?_
                      refine g_icmp_ne (tgt := 157) E dX9_stepOf_150 (by decide) (fun c30 => ?_) (fun c30 => ?_)
                      · have hf := gn hf c30
                        refine g_iconst (v := (-1 : Int32)) E dX9_stepOf_157 (by decide) ?_
                        have hf := Option.some.inj hf
                        subst hf
                        exact g_iret E dX9_stepOf_158
                      · have hf := gp hf c30
                        refine g_iconst (v := (4 : Int32)) E dX9_stepOf_153 (by decide) ?_
                        refine g_goto (tgt := 158) E dX9_stepOf_154 (by decide) ?_
                        have hf := Option.some.inj hf
                        subst hf
                        exact g_iret E dX9_stepOf_158
                  · have hf := gp hf c28
                    refine g_iconst (v := (5 : Int32)) E dX9_stepOf_140 (by decide) ?_
                    refine g_goto (tgt := 158) E dX9_stepOf_141 (by decide) ?_
                    have hf := Option.some.inj hf
                    subst hf
                    exact g_iret E dX9_stepOf_158
                · have hf := gp hf c27
                  refine g_iconst (v := (0 : Int32)) E dX9_stepOf_130 (by decide) ?_
                  refine g_goto (tgt := 158) E dX9_stepOf_131 (by decide) ?_
                  have hf := Option.some.inj hf
                  subst hf
                  exact g_iret E dX9_stepOf_158
