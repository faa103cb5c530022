/-! the class: what there is -/
section KQ
variable {P : kt_P} {N : Nat} {I : kt_I} {J : kt_J} {R : kt_R} {Q : Option Value → kt_I → kt_J → kt_R → Prop} {z np ty : Nat} {tx : Nat → Nat} {PX : Nat → kt_X} {X : kt_X}
theorem s_K_eventOf (hKS : kt_KS P N z np PX X ty tx I J R) (hW : kt_wf X) {a b : Int32} (kf : ¬ (vT (xn X) a ∧ vR 0 8 b) → Q (some (.int (-1))) I J R)
    (k : ∀ e f, a = nI e → b = nI f → e < xn X → f ≤ 8 → Q (some (.int (kt_cd f (xe X e f)))) I J R) : KW P i_K_eventOf N 0 [some (.ref z), some (.int a), some (.int b), none] [] N I J R Q := by
  obtain ⟨g, hK, hM0⟩ := hKS
  have hn := hW.2.2.1
  have hT5 := hW.2.1
  have hr3 := hW.1
  have hC := isK_C hK 0 (by decide)
  have hL := isK_L hK 0 (by decide)
  have hS := isK_S hK
  have hb0 := isK_b hK 0 (by decide)
  have hB := hM0.2.2.2.1
  have hV := hB.1
  have b2 := hB.2.1
  have b3 := hB.2.2.1
  have b9 := hB.2.2.2.1
  have b10 := hB.2.2.2.2.1
  have b13 := hB.2.2.2.2.2
  have o11 := hM0.2.2.2.2.1.2.1
  have o12 := hM0.2.2.2.2.1.2.2.1
  refine kw_ald_n x_K_eventOf_0 rfl ?_
  refine kw_gr x_K_eventOf_1 (by exact isK_k hK) (by exact isK_r0 hK) ?_
  refine kw_gr x_K_eventOf_4 (by exact isC_k hC) (by exact isC_r1 hC) ?_
  refine kw_ast_n x_K_eventOf_7 (by decide) ?_
  refine kw_ild_n x_K_eventOf_8 rfl ?_
  refine kw_ald_n x_K_eventOf_9 rfl ?_
  refine kw_gi_e x_K_eventOf_10 (by exact isE_k hC) (by first | exact hV.1 | exact hV.2 e 0 he (by decide) | exact hV.2 e 1 he (by decide) | exact hV.2 e 2 he (by decide) | exact hV.2 e 3 he (by decide) | exact hV.2 e 4 he (by decide) | exact hV.2 e 5 he (by decide) | exact hV.2 e 6 he (by decide) | exact rfl) ?_
  refine c_K_eventOf_13 (Nat.le_of_ble_eq_true rfl) ?_
  refine s_K_isBelow ?_
  first | refine kw_if_eq_b x_K_eventOf_16 (fun h16 => ?_) (fun h16 => ?_) | refine kw_if_eq_n x_K_eventOf_16 (by omega) (fun h16 => ?_) (fun h16 => ?_) | refine kw_if_eq x_K_eventOf_16 (fun h16 => ?_) (fun h16 => ?_)
  · first
    | exfalso; omega
    | skip
      refine kw_icon x_K_eventOf_28 ?_
      refine kw_iret x_K_eventOf_29 ?_
      exact kf (fun h => by first | exact kt_nT (by omega) h16 h.1 | exact kt_nT (by decide) h25 (vRT h.2))
  · first
    | exfalso; omega
    | skip
      obtain ⟨e, he, rfl⟩ := kt_yT (by omega) h16
      refine kw_ild_n x_K_eventOf_19 rfl ?_
      refine kw_bip x_K_eventOf_20 ?_
      refine c_K_eventOf_22 (Nat.le_of_ble_eq_true rfl) ?_
      refine s_K_isBelow ?_
      first | refine kw_if_ne_b x_K_eventOf_25 (fun h25 => ?_) (fun h25 => ?_) | refine kw_if_ne_s x_K_eventOf_25 ⟨by omega, by omega⟩ (fun h25 => ?_) (fun h25 => ?_) | refine kw_if_ne_n x_K_eventOf_25 (by omega) (fun h25 => ?_) (fun h25 => ?_) | refine kw_if_ne x_K_eventOf_25 (fun h25 => ?_) (fun h25 => ?_)
      · first
        | exfalso; omega
        | skip
          obtain ⟨f, hf1, hf2, rfl⟩ := vTR (kt_yT (T := 9) (by decide) h25)
          refine kw_ild_n x_K_eventOf_30 rfl ?_
          refine s_K_eventOf_31 ?_ ?_ ?_ ?_ ?_ ?_ ?_ ?_ ?_
          · intro h31
            obtain rfl : 0 = f := kt_inj h31 (by omega) (by decide)
            refine kw_ald_n x_K_eventOf_76 rfl ?_
            refine kw_gr x_K_eventOf_77 (by exact isE_k hC) (by exact isE_r1 hC) ?_
            refine kw_ild_n x_K_eventOf_80 rfl ?_
            refine kw_iald_n x_K_eventOf_81 (by first | exact isC_a5 hC | exact isC_a6 hC | exact isC_a7 hC | exact isC_a8 hC | exact isC_a9 hC | exact isC_a10 hC | exact isC_a11 hC | exact isC_a12 hC | exact isL_a1 hL | exact isL_a2 hL | exact isS_a1 hS | exact isS_a2 hS) (by omega) (by omega) (by first | exact hV.1 | exact hV.2 e 0 he (by decide) | exact hV.2 e 1 he (by decide) | exact hV.2 e 2 he (by decide) | exact hV.2 e 3 he (by decide) | exact hV.2 e 4 he (by decide) | exact hV.2 e 5 he (by decide) | exact hV.2 e 6 he (by decide) | exact rfl) ?_
            refine kw_iret x_K_eventOf_82 ?_
            exact k e 0 rfl rfl he (by decide)
          · intro h31
            obtain rfl : 1 = f := kt_inj h31 (by omega) (by decide)
            refine kw_ald_n x_K_eventOf_83 rfl ?_
            refine kw_gr x_K_eventOf_84 (by exact isE_k hC) (by exact isE_r2 hC) ?_
            refine kw_ild_n x_K_eventOf_87 rfl ?_
            refine kw_iald_n x_K_eventOf_88 (by first | exact isC_a5 hC | exact isC_a6 hC | exact isC_a7 hC | exact isC_a8 hC | exact isC_a9 hC | exact isC_a10 hC | exact isC_a11 hC | exact isC_a12 hC | exact isL_a1 hL | exact isL_a2 hL | exact isS_a1 hS | exact isS_a2 hS) (by omega) (by omega) (by first | exact hV.1 | exact hV.2 e 0 he (by decide) | exact hV.2 e 1 he (by decide) | exact hV.2 e 2 he (by decide) | exact hV.2 e 3 he (by decide) | exact hV.2 e 4 he (by decide) | exact hV.2 e 5 he (by decide) | exact hV.2 e 6 he (by decide) | exact rfl) ?_
            refine kw_iret x_K_eventOf_89 ?_
            exact k e 1 rfl rfl he (by decide)
          · intro h31
            obtain rfl : 2 = f := kt_inj h31 (by omega) (by decide)
            refine kw_ald_n x_K_eventOf_90 rfl ?_
            refine kw_gr x_K_eventOf_91 (by exact isE_k hC) (by exact isE_r3 hC) ?_
            refine kw_ild_n x_K_eventOf_94 rfl ?_
            refine kw_iald_n x_K_eventOf_95 (by first | exact isC_a5 hC | exact isC_a6 hC | exact isC_a7 hC | exact isC_a8 hC | exact isC_a9 hC | exact isC_a10 hC | exact isC_a11 hC | exact isC_a12 hC | exact isL_a1 hL | exact isL_a2 hL | exact isS_a1 hS | exact isS_a2 hS) (by omega) (by omega) (by first | exact hV.1 | exact hV.2 e 0 he (by decide) | exact hV.2 e 1 he (by decide) | exact hV.2 e 2 he (by decide) | exact hV.2 e 3 he (by decide) | exact hV.2 e 4 he (by decide) | exact hV.2 e 5 he (by decide) | exact hV.2 e 6 he (by decide) | exact rfl) ?_
            refine kw_iret x_K_eventOf_96 ?_
            exact k e 2 rfl rfl he (by decide)
          · intro h31
            obtain rfl : 3 = f := kt_inj h31 (by omega) (by decide)
            refine kw_ald_n x_K_eventOf_97 rfl ?_
            refine kw_gr x_K_eventOf_98 (by exact isE_k hC) (by exact isE_r4 hC) ?_
            refine kw_ild_n x_K_eventOf_101 rfl ?_
            refine kw_iald_n x_K_eventOf_102 (by first | exact isC_a5 hC | exact isC_a6 hC | exact isC_a7 hC | exact isC_a8 hC | exact isC_a9 hC | exact isC_a10 hC | exact isC_a11 hC | exact isC_a12 hC | exact isL_a1 hL | exact isL_a2 hL | exact isS_a1 hS | exact isS_a2 hS) (by omega) (by omega) (by first | exact hV.1 | exact hV.2 e 0 he (by decide) | exact hV.2 e 1 he (by decide) | exact hV.2 e 2 he (by decide) | exact hV.2 e 3 he (by decide) | exact hV.2 e 4 he (by decide) | exact hV.2 e 5 he (by decide) | exact hV.2 e 6 he (by decide) | exact rfl) ?_
            refine kw_iret x_K_eventOf_103 ?_
            exact k e 3 rfl rfl he (by decide)
          · intro h31
            obtain rfl : 4 = f := kt_inj h31 (by omega) (by decide)
            refine kw_ald_n x_K_eventOf_104 rfl ?_
            refine kw_gr x_K_eventOf_105 (by exact isE_k hC) (by exact isE_r5 hC) ?_
            refine kw_ild_n x_K_eventOf_108 rfl ?_
            refine kw_iald_n x_K_eventOf_109 (by first | exact isC_a5 hC | exact isC_a6 hC | exact isC_a7 hC | exact isC_a8 hC | exact isC_a9 hC | exact isC_a10 hC | exact isC_a11 hC | exact isC_a12 hC | exact isL_a1 hL | exact isL_a2 hL | exact isS_a1 hS | exact isS_a2 hS) (by omega) (by omega) (by first | exact hV.1 | exact hV.2 e 0 he (by decide) | exact hV.2 e 1 he (by decide) | exact hV.2 e 2 he (by decide) | exact hV.2 e 3 he (by decide) | exact hV.2 e 4 he (by decide) | exact hV.2 e 5 he (by decide) | exact hV.2 e 6 he (by decide) | exact rfl) ?_
            refine kw_iret x_K_eventOf_110 ?_
            exact k e 4 rfl rfl he (by decide)
          · intro h31
            obtain rfl : 5 = f := kt_inj h31 (by omega) (by decide)
            refine kw_ald_n x_K_eventOf_111 rfl ?_
            refine kw_gr x_K_eventOf_112 (by exact isE_k hC) (by exact isE_r6 hC) ?_
            refine kw_ild_n x_K_eventOf_115 rfl ?_
            refine kw_iald_n x_K_eventOf_116 (by first | exact isC_a5 hC | exact isC_a6 hC | exact isC_a7 hC | exact isC_a8 hC | exact isC_a9 hC | exact isC_a10 hC | exact isC_a11 hC | exact isC_a12 hC | exact isL_a1 hL | exact isL_a2 hL | exact isS_a1 hS | exact isS_a2 hS) (by omega) (by omega) (by first | exact hV.1 | exact hV.2 e 0 he (by decide) | exact hV.2 e 1 he (by decide) | exact hV.2 e 2 he (by decide) | exact hV.2 e 3 he (by decide) | exact hV.2 e 4 he (by decide) | exact hV.2 e 5 he (by decide) | exact hV.2 e 6 he (by decide) | exact rfl) ?_
            refine kw_iret x_K_eventOf_117 ?_
            exact k e 5 rfl rfl he (by decide)
          · intro h31
            obtain rfl : 6 = f := kt_inj h31 (by omega) (by decide)
            refine kw_ald_n x_K_eventOf_118 rfl ?_
            refine kw_gr x_K_eventOf_119 (by exact isE_k hC) (by exact isE_r7 hC) ?_
            refine kw_ild_n x_K_eventOf_122 rfl ?_
            refine kw_iald_n x_K_eventOf_123 (by first | exact isC_a5 hC | exact isC_a6 hC | exact isC_a7 hC | exact isC_a8 hC | exact isC_a9 hC | exact isC_a10 hC | exact isC_a11 hC | exact isC_a12 hC | exact isL_a1 hL | exact isL_a2 hL | exact isS_a1 hS | exact isS_a2 hS) (by omega) (by omega) (by first | exact hV.1 | exact hV.2 e 0 he (by decide) | exact hV.2 e 1 he (by decide) | exact hV.2 e 2 he (by decide) | exact hV.2 e 3 he (by decide) | exact hV.2 e 4 he (by decide) | exact hV.2 e 5 he (by decide) | exact hV.2 e 6 he (by decide) | exact rfl) ?_
            refine kw_iret x_K_eventOf_124 ?_
            exact k e 6 rfl rfl he (by decide)
          · intro h31
            obtain rfl : 7 = f := kt_inj h31 (by omega) (by decide)
            refine kw_ald_n x_K_eventOf_125 rfl ?_
            refine kw_gr x_K_eventOf_126 (by exact isK_k hK) (by exact isK_r0 hK) ?_
            refine kw_ald_n x_K_eventOf_129 rfl ?_
            refine kw_gr x_K_eventOf_130 (by exact isK_k hK) (by exact isK_r0 hK) ?_
            refine kw_gr x_K_eventOf_133 (by exact isC_k hC) (by exact isC_r5 hC) ?_
            refine kw_ild_n x_K_eventOf_136 rfl ?_
            refine c_K_eventOf_137 (by exact isC_k hC) (Nat.le_of_ble_eq_true rfl) ?_
            refine s_C_townsWith hC b2 hT5 (isC_a13 hC) b10 (by omega) ?_
            rw [nS_7 hW he]
            refine kw_iret x_K_eventOf_140 ?_
            exact k e 7 rfl rfl he (by decide)
          · intro h31_0 h31_1 h31_2 h31_3 h31_4 h31_5 h31_6 h31_7
            obtain rfl : f = 8 := (by
              have h0 : ∀ q, ¬ nI f = nI q → ¬ f = q := fun q hq e => hq (by rw [e])
              have := h0 _ h31_0
              have := h0 _ h31_1
              have := h0 _ h31_2
              have := h0 _ h31_3
              have := h0 _ h31_4
              have := h0 _ h31_5
              have := h0 _ h31_6
              have := h0 _ h31_7
              omega)
            refine kw_ald_n x_K_eventOf_141 rfl ?_
            refine kw_gr x_K_eventOf_142 (by exact isK_k hK) (by exact isK_r0 hK) ?_
            refine kw_ald_n x_K_eventOf_145 rfl ?_
            refine kw_gr x_K_eventOf_146 (by exact isK_k hK) (by exact isK_r0 hK) ?_
            refine kw_gr x_K_eventOf_149 (by exact isC_k hC) (by exact isC_r8 hC) ?_
            refine kw_ild_n x_K_eventOf_152 rfl ?_
            refine c_K_eventOf_153 (by exact isC_k hC) (Nat.le_of_ble_eq_true rfl) ?_
            refine s_C_townsWith hC b2 hT5 (isC_a16 hC) b13 (by omega) ?_
            rw [nS_8 hW he]
            refine kw_iret x_K_eventOf_156 ?_
            exact k e 8 rfl rfl he (by decide)
      · first
        | exfalso; omega
        | skip
          refine kw_icon x_K_eventOf_28 ?_
          refine kw_iret x_K_eventOf_29 ?_
          exact kf (fun h => by first | exact kt_nT (by omega) h16 h.1 | exact kt_nT (by decide) h25 (vRT h.2))
theorem s_K_thinks (hKS : kt_KS P N z np PX X ty tx I J R) (hW : kt_wf X) {a b : Int32} (kf : ¬ (vT (xT X) a ∧ vT (xn X) b) → Q (some (.int (-1))) I J R)
    (kp : ∀ t e, a = nI t → b = nI e → t < xT X → e < xn X → xe X e 0 ≠ 1 → Q (some (.int (-2))) I J R)
    (k : ∀ t e, a = nI t → b = nI e → t < xT X → e < xn X → xe X e 0 = 1 → Q (some (.int (kt_sc (xst X t e)))) I J R) : KW P i_K_thinks N 0 [some (.ref z), some (.int a), some (.int b)] [] N I J R Q := by
  obtain ⟨g, hK, hM0⟩ := hKS
  have hn := hW.2.2.1
  have hT5 := hW.2.1
  have hr3 := hW.1
  have hC := isK_C hK 0 (by decide)
  have hL := isK_L hK 0 (by decide)
  have hS := isK_S hK
  have hb0 := isK_b hK 0 (by decide)
  have hB := hM0.2.2.2.1
  have hV := hB.1
  have b2 := hB.2.1
  have b3 := hB.2.2.1
  have b9 := hB.2.2.2.1
  have b10 := hB.2.2.2.2.1
  have b13 := hB.2.2.2.2.2
  have o11 := hM0.2.2.2.2.1.2.1
  have o12 := hM0.2.2.2.2.1.2.2.1
  refine kw_ald_n x_K_thinks_0 rfl ?_
  refine kw_gr x_K_thinks_1 (by exact isK_k hK) (by exact isK_r0 hK) ?_
  refine kw_ild_n x_K_thinks_4 rfl ?_
  refine c_K_thinks_5 (by exact isC_k hC) (Nat.le_of_ble_eq_true rfl) ?_
  refine s_C_isTown hC b2 ?_
  first | refine kw_if_eq_b x_K_thinks_8 (fun h8 => ?_) (fun h8 => ?_) | refine kw_if_eq_n x_K_thinks_8 (by omega) (fun h8 => ?_) (fun h8 => ?_) | refine kw_if_eq x_K_thinks_8 (fun h8 => ?_) (fun h8 => ?_)
  · first
    | exfalso; omega
    | skip
      refine kw_icon x_K_thinks_28 ?_
      refine kw_iret x_K_thinks_29 ?_
      exact kf (fun h => by first | exact kt_nT (by omega) h8 h.1 | exact kt_nT (by omega) h25 h.2)
  · first
    | exfalso; omega
    | skip
      obtain ⟨t, ht, rfl⟩ := kt_yT (by omega) h8
      refine kw_ild_n x_K_thinks_11 rfl ?_
      refine kw_ald_n x_K_thinks_12 rfl ?_
      refine kw_gr x_K_thinks_13 (by exact isK_k hK) (by exact isK_r0 hK) ?_
      refine kw_gr x_K_thinks_16 (by exact isC_k hC) (by exact isC_r1 hC) ?_
      refine kw_gi_e x_K_thinks_19 (by exact isE_k hC) (by first | exact hV.1 | exact k0 | exact b10 _ (by omega) | exact o11 _ (by omega) | exact o12 _ (by omega) | exact rfl) ?_
      refine c_K_thinks_22 (Nat.le_of_ble_eq_true rfl) ?_
      refine s_K_isBelow ?_
      first | refine kw_if_ne_b x_K_thinks_25 (fun h25 => ?_) (fun h25 => ?_) | refine kw_if_ne_s x_K_thinks_25 ⟨by omega, by omega⟩ (fun h25 => ?_) (fun h25 => ?_) | refine kw_if_ne_n x_K_thinks_25 (by omega) (fun h25 => ?_) (fun h25 => ?_) | refine kw_if_ne x_K_thinks_25 (fun h25 => ?_) (fun h25 => ?_)
      · first
        | exfalso; omega
        | skip
          obtain ⟨e, he, rfl⟩ := kt_yT (by omega) h25
          have hx0 := (hW.2.2.2.2.2.1 e he).1
          have k0 : I (g 0 + 5) e = nI (xe X e 0) := hV.2 e 0 he (by decide)
          refine kw_ald_n x_K_thinks_30 rfl ?_
          refine kw_gr x_K_thinks_31 (by exact isK_k hK) (by exact isK_r0 hK) ?_
          refine kw_gr x_K_thinks_34 (by exact isC_k hC) (by exact isC_r1 hC) ?_
          refine kw_gr x_K_thinks_37 (by exact isE_k hC) (by exact isE_r1 hC) ?_
          refine kw_ild_n x_K_thinks_40 rfl ?_
          refine kw_iald_n x_K_thinks_41 (by first | exact isC_a5 hC | exact isC_a6 hC | exact isC_a7 hC | exact isC_a8 hC | exact isC_a9 hC | exact isC_a10 hC | exact isC_a11 hC | exact isC_a12 hC | exact isL_a1 hL | exact isL_a2 hL | exact isS_a1 hS | exact isS_a2 hS) (by omega) (by omega) (by first | exact hV.1 | exact k0 | exact b10 _ (by omega) | exact o11 _ (by omega) | exact o12 _ (by omega) | exact rfl) ?_
          refine kw_icon x_K_thinks_42 ?_
          first | refine kw_ic_eq_n x_K_thinks_43 ⟨by omega, by omega⟩ (fun h43 => ?_) (fun h43 => ?_) | refine kw_ic_eq x_K_thinks_43 (fun h43 => ?_) (fun h43 => ?_)
          · first
            | exfalso; omega
            | skip
              refine kw_ald_n x_K_thinks_49 rfl ?_
              refine kw_gr x_K_thinks_50 (by exact isK_k hK) (by exact isK_r0 hK) ?_
              refine kw_gr x_K_thinks_53 (by exact isC_k hC) (by exact isC_r5 hC) ?_
              refine kw_ild_n x_K_thinks_56 rfl ?_
              refine kw_lald_n x_K_thinks_57 (by first | exact isC_a13 hC | exact isC_a14 hC | exact isC_a15 hC | exact isC_a16 hC | exact isC_a17 hC) (by omega) (by omega) (by first | exact hV.1 | exact k0 | exact b10 _ (by omega) | exact o11 _ (by omega) | exact o12 _ (by omega) | exact rfl) ?_
              refine kw_ild_n x_K_thinks_58 rfl ?_
              refine c_K_thinks_59 (Nat.le_of_ble_eq_true rfl) ?_
              refine s_K_has (by omega) ?_
              first | refine kw_if_ne_b x_K_thinks_62 (fun h62 => ?_) (fun h62 => ?_) | refine kw_if_ne_s x_K_thinks_62 ⟨by omega, by omega⟩ (fun h62 => ?_) (fun h62 => ?_) | refine kw_if_ne_n x_K_thinks_62 (by omega) (fun h62 => ?_) (fun h62 => ?_) | refine kw_if_ne x_K_thinks_62 (fun h62 => ?_) (fun h62 => ?_)
              · first
                | exfalso; omega
                | skip
                  refine kw_ald_n x_K_thinks_68 rfl ?_
                  refine kw_gr x_K_thinks_69 (by exact isK_k hK) (by exact isK_r0 hK) ?_
                  refine kw_gr x_K_thinks_72 (by exact isC_k hC) (by exact isC_r6 hC) ?_
                  refine kw_ild_n x_K_thinks_75 rfl ?_
                  refine kw_lald_n x_K_thinks_76 (by first | exact isC_a13 hC | exact isC_a14 hC | exact isC_a15 hC | exact isC_a16 hC | exact isC_a17 hC) (by omega) (by omega) (by first | exact hV.1 | exact k0 | exact b10 _ (by omega) | exact o11 _ (by omega) | exact o12 _ (by omega) | exact rfl) ?_
                  refine kw_ild_n x_K_thinks_77 rfl ?_
                  refine c_K_thinks_78 (Nat.le_of_ble_eq_true rfl) ?_
                  refine s_K_has (by omega) ?_
                  first | refine kw_if_eq_b x_K_thinks_81 (fun h81 => ?_) (fun h81 => ?_) | refine kw_if_eq_n x_K_thinks_81 (by omega) (fun h81 => ?_) (fun h81 => ?_) | refine kw_if_eq x_K_thinks_81 (fun h81 => ?_) (fun h81 => ?_)
                  · first
                    | exfalso; omega
                    | skip
                      refine kw_ald_n x_K_thinks_86 rfl ?_
                      refine kw_gr x_K_thinks_87 (by exact isK_k hK) (by exact isK_r0 hK) ?_
                      refine kw_gr x_K_thinks_90 (by exact isC_k hC) (by exact isC_r7 hC) ?_
                      refine kw_ild_n x_K_thinks_93 rfl ?_
                      refine kw_lald_n x_K_thinks_94 (by first | exact isC_a13 hC | exact isC_a14 hC | exact isC_a15 hC | exact isC_a16 hC | exact isC_a17 hC) (by omega) (by omega) (by first | exact hV.1 | exact k0 | exact b10 _ (by omega) | exact o11 _ (by omega) | exact o12 _ (by omega) | exact rfl) ?_
                      refine kw_ild_n x_K_thinks_95 rfl ?_
                      refine c_K_thinks_96 (Nat.le_of_ble_eq_true rfl) ?_
                      refine s_K_has (by omega) ?_
                      first | refine kw_if_eq_b x_K_thinks_99 (fun h99 => ?_) (fun h99 => ?_) | refine kw_if_eq_n x_K_thinks_99 (by omega) (fun h99 => ?_) (fun h99 => ?_) | refine kw_if_eq x_K_thinks_99 (fun h99 => ?_) (fun h99 => ?_)
                      · first
                        | exfalso; omega
                        | skip
                          refine kw_icon x_K_thinks_106 ?_
                          refine kw_iret x_K_thinks_107 ?_
                          have hkk := k t e rfl rfl ht he h43
                          unfold xac at h81
                          unfold xRf at h99
                          rw [decide_eq_true he, Bool.true_and] at h81 h99
                          have hs0 := of_decide_eq_false h81
                          first
                            | (rw [of_decide_eq_true h99] at hkk; exact hkk)
                            | (have hs1 := of_decide_eq_false h99
                               unfold xK at h62
                               rw [decide_eq_true he, Bool.true_and] at h62
                               have hs3 := xst_d hW he h43 h62
                               have hs4 := xst_4 X t e
                               rw [show xst X t e = 2 by omega] at hkk
                               exact hkk)
                      · first
                        | exfalso; omega
                        | skip
                          refine kw_icon x_K_thinks_102 ?_
                          refine kw_goto x_K_thinks_103 ?_
                          refine kw_iret x_K_thinks_107 ?_
                          have hkk := k t e rfl rfl ht he h43
                          unfold xac at h81
                          unfold xRf at h99
                          rw [decide_eq_true he, Bool.true_and] at h81 h99
                          have hs0 := of_decide_eq_false h81
                          first
                            | (rw [of_decide_eq_true h99] at hkk; exact hkk)
                            | (have hs1 := of_decide_eq_false h99
                               unfold xK at h62
                               rw [decide_eq_true he, Bool.true_and] at h62
                               have hs3 := xst_d hW he h43 h62
                               have hs4 := xst_4 X t e
                               rw [show xst X t e = 2 by omega] at hkk
                               exact hkk)
                  · first
                    | exfalso; omega
                    | skip
                      refine kw_icon x_K_thinks_84 ?_
                      refine kw_iret x_K_thinks_85 ?_
                      have hkk := k t e rfl rfl ht he h43
                      unfold xac at h81
                      rw [decide_eq_true he, Bool.true_and] at h81
                      rw [of_decide_eq_true h81] at hkk
                      exact hkk
              · first
                | exfalso; omega
                | skip
                  refine kw_bip x_K_thinks_65 ?_
                  refine kw_iret x_K_thinks_67 ?_
                  have hkk := k t e rfl rfl ht he h43
                  unfold xK at h62
                  rw [decide_eq_true he, Bool.true_and] at h62
                  rw [xst_u h62] at hkk
                  exact hkk
          · first
            | exfalso; omega
            | skip
              refine kw_bip x_K_thinks_46 ?_
              refine kw_iret x_K_thinks_48 ?_
              exact kp t e rfl rfl ht he h43
      · first
        | exfalso; omega
        | skip
          refine kw_icon x_K_thinks_28 ?_
          refine kw_iret x_K_thinks_29 ?_
          exact kf (fun h => by first | exact kt_nT (by omega) h8 h.1 | exact kt_nT (by omega) h25 h.2)
theorem s_K_townOf (hKS : kt_KS P N z np PX X ty tx I J R) (hW : kt_wf X) {a b : Int32} (kf : ¬ (vT (xT X) a ∧ vR 0 7 b) → Q (some (.int (-1))) I J R)
    (k : ∀ t f, a = nI t → b = nI f → t < xT X → f ≤ 7 → Q (some (.int (nI (xto X t f)))) I J R) : KW P i_K_townOf N 0 [some (.ref z), some (.int a), some (.int b)] [] N I J R Q := by
  obtain ⟨g, hK, hM0⟩ := hKS
  have hn := hW.2.2.1
  have hT5 := hW.2.1
  have hr3 := hW.1
  have hC := isK_C hK 0 (by decide)
  have hL := isK_L hK 0 (by decide)
  have hS := isK_S hK
  have hb0 := isK_b hK 0 (by decide)
  have hB := hM0.2.2.2.1
  have hV := hB.1
  have b2 := hB.2.1
  have b3 := hB.2.2.1
  have b9 := hB.2.2.2.1
  have b10 := hB.2.2.2.2.1
  have b13 := hB.2.2.2.2.2
  have o11 := hM0.2.2.2.2.1.2.1
  have o12 := hM0.2.2.2.2.1.2.2.1
  refine kw_ald_n x_K_townOf_0 rfl ?_
  refine kw_gr x_K_townOf_1 (by exact isK_k hK) (by exact isK_r0 hK) ?_
  refine kw_ild_n x_K_townOf_4 rfl ?_
  refine c_K_townOf_5 (by exact isC_k hC) (Nat.le_of_ble_eq_true rfl) ?_
  refine s_C_isTown hC b2 ?_
  first | refine kw_if_eq_b x_K_townOf_8 (fun h8 => ?_) (fun h8 => ?_) | refine kw_if_eq_n x_K_townOf_8 (by omega) (fun h8 => ?_) (fun h8 => ?_) | refine kw_if_eq x_K_townOf_8 (fun h8 => ?_) (fun h8 => ?_)
  · first
    | exfalso; omega
    | skip
      refine kw_icon x_K_townOf_20 ?_
      refine kw_iret x_K_townOf_21 ?_
      exact kf (fun h => by first | exact kt_nT (by omega) h8 h.1 | exact kt_nT (by decide) h17 (vRT h.2))
  · first
    | exfalso; omega
    | skip
      obtain ⟨t, ht, rfl⟩ := kt_yT (by omega) h8
      refine kw_ild_n x_K_townOf_11 rfl ?_
      refine kw_bip x_K_townOf_12 ?_
      refine c_K_townOf_14 (Nat.le_of_ble_eq_true rfl) ?_
      refine s_K_isBelow ?_
      first | refine kw_if_ne_b x_K_townOf_17 (fun h17 => ?_) (fun h17 => ?_) | refine kw_if_ne_s x_K_townOf_17 ⟨by omega, by omega⟩ (fun h17 => ?_) (fun h17 => ?_) | refine kw_if_ne_n x_K_townOf_17 (by omega) (fun h17 => ?_) (fun h17 => ?_) | refine kw_if_ne x_K_townOf_17 (fun h17 => ?_) (fun h17 => ?_)
      · first
        | exfalso; omega
        | skip
          obtain ⟨f, hf1, hf2, rfl⟩ := vTR (kt_yT (T := 8) (by decide) h17)
          refine kw_ild_n x_K_townOf_22 rfl ?_
          refine s_K_townOf_23 ?_ ?_ ?_ ?_ ?_ ?_ ?_ ?_
          · intro h23
            obtain rfl : 0 = f := kt_inj h23 (by omega) (by decide)
            refine kw_ald_n x_K_townOf_64 rfl ?_
            refine kw_gr x_K_townOf_65 (by exact isK_k hK) (by exact isK_r0 hK) ?_
            refine kw_gr x_K_townOf_68 (by exact isC_k hC) (by exact isC_r4 hC) ?_
            refine kw_ild_n x_K_townOf_71 rfl ?_
            refine kw_iald_n x_K_townOf_72 (by first | exact isC_a5 hC | exact isC_a6 hC | exact isC_a7 hC | exact isC_a8 hC | exact isC_a9 hC | exact isC_a10 hC | exact isC_a11 hC | exact isC_a12 hC | exact isL_a1 hL | exact isL_a2 hL | exact isS_a1 hS | exact isS_a2 hS) (by omega) (by omega) (by first | exact hV.1 | exact b9 _ (by omega) | exact b10 _ (by omega) | exact o11 _ (by omega) | exact o12 _ (by omega) | exact b13 _ (by omega) | exact rfl) ?_
            refine kw_iret x_K_townOf_73 ?_
            exact k t 0 rfl rfl ht (by decide)
          · intro h23
            obtain rfl : 1 = f := kt_inj h23 (by omega) (by decide)
            refine kw_ald_n x_K_townOf_74 rfl ?_
            refine kw_gr x_K_townOf_75 (by exact isK_k hK) (by exact isK_r0 hK) ?_
            refine kw_gr x_K_townOf_78 (by exact isC_k hC) (by exact isC_r5 hC) ?_
            refine kw_ild_n x_K_townOf_81 rfl ?_
            refine kw_lald_n x_K_townOf_82 (by first | exact isC_a13 hC | exact isC_a14 hC | exact isC_a15 hC | exact isC_a16 hC | exact isC_a17 hC) (by omega) (by omega) (by first | exact hV.1 | exact b9 _ (by omega) | exact b10 _ (by omega) | exact o11 _ (by omega) | exact o12 _ (by omega) | exact b13 _ (by omega) | exact rfl) ?_
            refine c_K_townOf_83 (Nat.le_of_ble_eq_true rfl) ?_
            refine s_J_bitCount ?_
            refine kw_iret x_K_townOf_86 ?_
            rw [xct_kt hn]
            exact k t 1 rfl rfl ht (by decide)
          · intro h23
            obtain rfl : 2 = f := kt_inj h23 (by omega) (by decide)
            refine kw_ald_n x_K_townOf_87 rfl ?_
            refine kw_gr x_K_townOf_88 (by exact isK_k hK) (by exact isK_r0 hK) ?_
            refine kw_gr x_K_townOf_91 (by exact isC_k hC) (by exact isC_r6 hC) ?_
            refine kw_ild_n x_K_townOf_94 rfl ?_
            refine kw_lald_n x_K_townOf_95 (by first | exact isC_a13 hC | exact isC_a14 hC | exact isC_a15 hC | exact isC_a16 hC | exact isC_a17 hC) (by omega) (by omega) (by first | exact hV.1 | exact b9 _ (by omega) | exact b10 _ (by omega) | exact o11 _ (by omega) | exact o12 _ (by omega) | exact b13 _ (by omega) | exact rfl) ?_
            refine c_K_townOf_96 (Nat.le_of_ble_eq_true rfl) ?_
            refine s_J_bitCount ?_
            refine kw_iret x_K_townOf_99 ?_
            rw [xct_ac hn]
            exact k t 2 rfl rfl ht (by decide)
          · intro h23
            obtain rfl : 3 = f := kt_inj h23 (by omega) (by decide)
            refine kw_ald_n x_K_townOf_100 rfl ?_
            refine kw_gr x_K_townOf_101 (by exact isK_k hK) (by exact isK_r0 hK) ?_
            refine kw_gr x_K_townOf_104 (by exact isC_k hC) (by exact isC_r7 hC) ?_
            refine kw_ild_n x_K_townOf_107 rfl ?_
            refine kw_lald_n x_K_townOf_108 (by first | exact isC_a13 hC | exact isC_a14 hC | exact isC_a15 hC | exact isC_a16 hC | exact isC_a17 hC) (by omega) (by omega) (by first | exact hV.1 | exact b9 _ (by omega) | exact b10 _ (by omega) | exact o11 _ (by omega) | exact o12 _ (by omega) | exact b13 _ (by omega) | exact rfl) ?_
            refine c_K_townOf_109 (Nat.le_of_ble_eq_true rfl) ?_
            refine s_J_bitCount ?_
            refine kw_iret x_K_townOf_112 ?_
            rw [xct_rf hn]
            exact k t 3 rfl rfl ht (by decide)
          · intro h23
            obtain rfl : 4 = f := kt_inj h23 (by omega) (by decide)
            refine kw_ald_n x_K_townOf_113 rfl ?_
            refine kw_gr x_K_townOf_114 (by exact isK_k hK) (by exact isK_r0 hK) ?_
            refine kw_gr x_K_townOf_117 (by exact isC_k hC) (by exact isC_r1 hC) ?_
            refine kw_ald_n x_K_townOf_120 rfl ?_
            refine kw_gr x_K_townOf_121 (by exact isK_k hK) (by exact isK_r0 hK) ?_
            refine kw_gr x_K_townOf_124 (by exact isC_k hC) (by exact isC_r5 hC) ?_
            refine kw_ild_n x_K_townOf_127 rfl ?_
            refine kw_lald_n x_K_townOf_128 (by first | exact isC_a13 hC | exact isC_a14 hC | exact isC_a15 hC | exact isC_a16 hC | exact isC_a17 hC) (by omega) (by omega) (by first | exact hV.1 | exact b9 _ (by omega) | exact b10 _ (by omega) | exact o11 _ (by omega) | exact o12 _ (by omega) | exact b13 _ (by omega) | exact rfl) ?_
            refine c_K_townOf_129 (by exact isE_k hC) (Nat.le_of_ble_eq_true rfl) ?_
            refine s_E_cancelledIn hC hV hW ?_
            refine c_K_townOf_132 (Nat.le_of_ble_eq_true rfl) ?_
            refine s_J_bitCount ?_
            refine kw_iret x_K_townOf_135 ?_
            rw [xcs_2 hW (by omega)]
            exact k t 4 rfl rfl ht (by decide)
          · intro h23
            obtain rfl : 5 = f := kt_inj h23 (by omega) (by decide)
            refine kw_ald_n x_K_townOf_136 rfl ?_
            refine kw_gr x_K_townOf_137 (by exact isK_k hK) (by exact isK_r0 hK) ?_
            refine kw_gr x_K_townOf_140 (by exact isC_k hC) (by exact isC_r8 hC) ?_
            refine kw_ild_n x_K_townOf_143 rfl ?_
            refine kw_lald_n x_K_townOf_144 (by first | exact isC_a13 hC | exact isC_a14 hC | exact isC_a15 hC | exact isC_a16 hC | exact isC_a17 hC) (by omega) (by omega) (by first | exact hV.1 | exact b9 _ (by omega) | exact b10 _ (by omega) | exact o11 _ (by omega) | exact o12 _ (by omega) | exact b13 _ (by omega) | exact rfl) ?_
            refine c_K_townOf_145 (Nat.le_of_ble_eq_true rfl) ?_
            refine s_J_bitCount ?_
            refine kw_iret x_K_townOf_148 ?_
            rw [xct_sy hn]
            exact k t 5 rfl rfl ht (by decide)
          · intro h23
            obtain rfl : 6 = f := kt_inj h23 (by omega) (by decide)
            refine kw_ald_n x_K_townOf_149 rfl ?_
            refine kw_gr x_K_townOf_150 (by exact isK_k hK) (by exact isK_r0 hK) ?_
            refine kw_gr x_K_townOf_153 (by exact isC_k hC) (by exact isC_r1 hC) ?_
            refine kw_ald_n x_K_townOf_156 rfl ?_
            refine kw_gr x_K_townOf_157 (by exact isK_k hK) (by exact isK_r0 hK) ?_
            refine kw_gr x_K_townOf_160 (by exact isC_k hC) (by exact isC_r1 hC) ?_
            refine kw_gr x_K_townOf_163 (by exact isE_k hC) (by exact isE_r2 hC) ?_
            refine kw_ild_n x_K_townOf_166 rfl ?_
            refine c_K_townOf_167 (by exact isE_k hC) (Nat.le_of_ble_eq_true rfl) ?_
            refine s_E_having hC hV hW (f := 1) (by decide) ?_
            refine c_K_townOf_170 (Nat.le_of_ble_eq_true rfl) ?_
            refine s_J_bitCount ?_
            refine kw_iret x_K_townOf_173 ?_
            rw [xct_hav hW (Or.inr rfl) (by omega)]
            exact k t 6 rfl rfl ht (by decide)
          · intro h23_0 h23_1 h23_2 h23_3 h23_4 h23_5 h23_6
            obtain rfl : f = 7 := (by
              have h0 : ∀ q, ¬ nI f = nI q → ¬ f = q := fun q hq e => hq (by rw [e])
              have := h0 _ h23_0
              have := h0 _ h23_1
              have := h0 _ h23_2
              have := h0 _ h23_3
              have := h0 _ h23_4
              have := h0 _ h23_5
              have := h0 _ h23_6
              omega)
            refine kw_ald_n x_K_townOf_174 rfl ?_
            refine kw_gr x_K_townOf_175 (by exact isK_k hK) (by exact isK_r0 hK) ?_
            refine kw_ald_n x_K_townOf_178 rfl ?_
            refine kw_gr x_K_townOf_179 (by exact isK_k hK) (by exact isK_r0 hK) ?_
            refine kw_gr x_K_townOf_182 (by exact isC_k hC) (by exact isC_r5 hC) ?_
            refine kw_ild_n x_K_townOf_185 rfl ?_
            refine kw_lald_n x_K_townOf_186 (by first | exact isC_a13 hC | exact isC_a14 hC | exact isC_a15 hC | exact isC_a16 hC | exact isC_a17 hC) (by omega) (by omega) (by first | exact hV.1 | exact b9 _ (by omega) | exact b10 _ (by omega) | exact o11 _ (by omega) | exact o12 _ (by omega) | exact b13 _ (by omega) | exact rfl) ?_
            refine c_K_townOf_187 (by exact isC_k hC) (Nat.le_of_ble_eq_true rfl) ?_
            refine s_C_townsThatKnow hC hB hW ?_
            refine kw_iret x_K_townOf_190 ?_
            exact k t 7 rfl rfl ht (by decide)
      · first
        | exfalso; omega
        | skip
          refine kw_icon x_K_townOf_20 ?_
          refine kw_iret x_K_townOf_21 ?_
          exact kf (fun h => by first | exact kt_nT (by omega) h8 h.1 | exact kt_nT (by decide) h17 (vRT h.2))
theorem s_K_goodOf (hKS : kt_KS P N z np PX X ty tx I J R) (hW : kt_wf X) {a b c : Int32} (kf : ¬ (vT (xT X) a ∧ vR 0 5 b ∧ vR 0 3 c) → Q (some (.int (-1))) I J R)
    (k : ∀ t gd w, a = nI t → b = nI gd → c = nI w → t < xT X → gd ≤ 5 → w ≤ 3 → Q (some (.int (xgo X t gd w))) I J R) : KW P i_K_goodOf N 0 [some (.ref z), some (.int a), some (.int b), some (.int c), none, none, none, none, none] [] N I J R Q := by
  obtain ⟨g, hK, hM0⟩ := hKS
  have hn := hW.2.2.1
  have hT5 := hW.2.1
  have hr3 := hW.1
  have hC := isK_C hK 0 (by decide)
  have hL := isK_L hK 0 (by decide)
  have hS := isK_S hK
  have hb0 := isK_b hK 0 (by decide)
  have hB := hM0.2.2.2.1
  have hV := hB.1
  have b2 := hB.2.1
  have b3 := hB.2.2.1
  have b9 := hB.2.2.2.1
  have b10 := hB.2.2.2.2.1
  have b13 := hB.2.2.2.2.2
  have o11 := hM0.2.2.2.2.1.2.1
  have o12 := hM0.2.2.2.2.1.2.2.1
  refine kw_ald_n x_K_goodOf_0 rfl ?_
  refine kw_gr x_K_goodOf_1 (by exact isK_k hK) (by exact isK_r0 hK) ?_
  refine kw_ild_n x_K_goodOf_4 rfl ?_
  refine c_K_goodOf_5 (by exact isC_k hC) (Nat.le_of_ble_eq_true rfl) ?_
  refine s_C_isTown hC b2 ?_
  first | refine kw_if_eq_b x_K_goodOf_8 (fun h8 => ?_) (fun h8 => ?_) | refine kw_if_eq_n x_K_goodOf_8 (by omega) (fun h8 => ?_) (fun h8 => ?_) | refine kw_if_eq x_K_goodOf_8 (fun h8 => ?_) (fun h8 => ?_)
  · first
    | exfalso; omega
    | skip
      refine kw_icon x_K_goodOf_28 ?_
      refine kw_iret x_K_goodOf_29 ?_
      exact kf (fun h => by first | exact kt_nT (by omega) h8 h.1 | exact kt_nT (by decide) h17 (vRT h.2.1) | exact kt_nT (by decide) h25 (vRT h.2.2))
  · first
    | exfalso; omega
    | skip
      obtain ⟨t, ht, rfl⟩ := kt_yT (by omega) h8
      refine kw_ild_n x_K_goodOf_11 rfl ?_
      refine kw_bip x_K_goodOf_12 ?_
      refine c_K_goodOf_14 (Nat.le_of_ble_eq_true rfl) ?_
      refine s_K_isBelow ?_
      first | refine kw_if_eq_b x_K_goodOf_17 (fun h17 => ?_) (fun h17 => ?_) | refine kw_if_eq_n x_K_goodOf_17 (by omega) (fun h17 => ?_) (fun h17 => ?_) | refine kw_if_eq x_K_goodOf_17 (fun h17 => ?_) (fun h17 => ?_)
      · first
        | exfalso; omega
        | skip
          refine kw_icon x_K_goodOf_28 ?_
          refine kw_iret x_K_goodOf_29 ?_
          exact kf (fun h => by first | exact kt_nT (by omega) h8 h.1 | exact kt_nT (by decide) h17 (vRT h.2.1) | exact kt_nT (by decide) h25 (vRT h.2.2))
      · first
        | exfalso; omega
        | skip
          obtain ⟨gd, hg1, hg2, rfl⟩ := vTR (kt_yT (T := 6) (by decide) h17)
          refine kw_ild_n x_K_goodOf_20 rfl ?_
          refine kw_icon x_K_goodOf_21 ?_
          refine c_K_goodOf_22 (Nat.le_of_ble_eq_true rfl) ?_
          refine s_K_isBelow ?_
          first | refine kw_if_ne_b x_K_goodOf_25 (fun h25 => ?_) (fun h25 => ?_) | refine kw_if_ne_s x_K_goodOf_25 ⟨by omega, by omega⟩ (fun h25 => ?_) (fun h25 => ?_) | refine kw_if_ne_n x_K_goodOf_25 (by omega) (fun h25 => ?_) (fun h25 => ?_) | refine kw_if_ne x_K_goodOf_25 (fun h25 => ?_) (fun h25 => ?_)
          · first
            | exfalso; omega
            | skip
              obtain ⟨w, hw1, hw2, rfl⟩ := vTR (kt_yT (T := 4) (by decide) h25)
              refine kw_ald_n x_K_goodOf_30 rfl ?_
              refine kw_gr x_K_goodOf_31 (by exact isK_k hK) (by exact isK_r0 hK) ?_
              refine kw_gr x_K_goodOf_34 (by exact isC_k hC) (by exact isC_r1 hC) ?_
              refine kw_ast x_K_goodOf_37 (by decide) ?_
              refine kw_ald x_K_goodOf_39 rfl ?_
              refine kw_ald x_K_goodOf_41 rfl ?_
              refine kw_gr x_K_goodOf_43 (by exact isE_k hC) (by exact isE_r4 hC) ?_
              refine kw_ild_n x_K_goodOf_46 rfl ?_
              refine c_K_goodOf_47 (by exact isE_k hC) (Nat.le_of_ble_eq_true rfl) ?_
              refine s_E_having hC hV hW (f := 3) (by decide) ?_
              refine kw_lst x_K_goodOf_50 (by decide) ?_
              refine kw_ald x_K_goodOf_52 rfl ?_
              refine kw_ald_n x_K_goodOf_54 rfl ?_
              refine kw_gr x_K_goodOf_55 (by exact isK_k hK) (by exact isK_r0 hK) ?_
              refine kw_gr x_K_goodOf_58 (by exact isC_k hC) (by exact isC_r5 hC) ?_
              refine kw_ild_n x_K_goodOf_61 rfl ?_
              refine kw_lald_n x_K_goodOf_62 (by first | exact isC_a13 hC | exact isC_a14 hC | exact isC_a15 hC | exact isC_a16 hC | exact isC_a17 hC) (by omega) (by omega) (by first | exact hV.1 | exact b9 _ (by omega) | exact b10 _ (by omega) | exact o11 _ (by omega) | exact o12 _ (by omega) | exact b13 _ (by omega) | exact rfl) ?_
              refine kw_lld x_K_goodOf_63 rfl ?_
              refine kw_land x_K_goodOf_65 ?_
              rw [kS_and]
              refine kw_ald x_K_goodOf_66 rfl ?_
              refine kw_ald x_K_goodOf_68 rfl ?_
              refine kw_gr x_K_goodOf_70 (by exact isE_k hC) (by exact isE_r1 hC) ?_
              refine kw_icon x_K_goodOf_73 ?_
              refine c_K_goodOf_74 (by exact isE_k hC) (Nat.le_of_ble_eq_true rfl) ?_
              refine s_E_having hC hV hW (f := 0) (by decide) ?_
              refine kw_land x_K_goodOf_77 ?_
              rw [kS_and]
              refine c_K_goodOf_78 (by exact isE_k hC) (Nat.le_of_ble_eq_true rfl) ?_
              refine s_E_piecesOf hC hV hW ?_
              rw [xgo_0 hW (by omega)]
              refine kw_ist x_K_goodOf_81 (by decide) ?_
              refine kw_ald x_K_goodOf_83 rfl ?_
              refine kw_ald_n x_K_goodOf_85 rfl ?_
              refine kw_gr x_K_goodOf_86 (by exact isK_k hK) (by exact isK_r0 hK) ?_
              refine kw_gr x_K_goodOf_89 (by exact isC_k hC) (by exact isC_r6 hC) ?_
              refine kw_ild_n x_K_goodOf_92 rfl ?_
              refine kw_lald_n x_K_goodOf_93 (by first | exact isC_a13 hC | exact isC_a14 hC | exact isC_a15 hC | exact isC_a16 hC | exact isC_a17 hC) (by omega) (by omega) (by first | exact hV.1 | exact b9 _ (by omega) | exact b10 _ (by omega) | exact o11 _ (by omega) | exact o12 _ (by omega) | exact b13 _ (by omega) | exact rfl) ?_
              refine kw_lld x_K_goodOf_94 rfl ?_
              refine kw_land x_K_goodOf_96 ?_
              rw [kS_and]
              refine c_K_goodOf_97 (by exact isE_k hC) (Nat.le_of_ble_eq_true rfl) ?_
              refine s_E_piecesOf hC hV hW ?_
              rw [xgo_1 hW (by omega)]
              refine kw_ist x_K_goodOf_100 (by decide) ?_
              refine kw_ild_n x_K_goodOf_102 rfl ?_
              refine s_K_goodOf_103 ?_ ?_ ?_ ?_
              · intro h103
                obtain rfl : 0 = w := kt_inj h103 (by omega) (by decide)
                refine kw_ild x_K_goodOf_128 rfl ?_
                refine kw_iret x_K_goodOf_130 ?_
                exact k t gd 0 rfl rfl rfl ht hg2 (by decide)
              · intro h103
                obtain rfl : 1 = w := kt_inj h103 (by omega) (by decide)
                refine kw_ild x_K_goodOf_131 rfl ?_
                refine kw_iret x_K_goodOf_133 ?_
                exact k t gd 1 rfl rfl rfl ht hg2 (by decide)
              · intro h103
                obtain rfl : 2 = w := kt_inj h103 (by omega) (by decide)
                refine kw_ild x_K_goodOf_134 rfl ?_
                refine kw_ild x_K_goodOf_136 rfl ?_
                refine kw_isub x_K_goodOf_138 ?_
                refine kw_iret x_K_goodOf_139 ?_
                exact k t gd 2 rfl rfl rfl ht hg2 (by decide)
              · intro h103_0 h103_1 h103_2
                obtain rfl : w = 3 := (by
                  have h0 : ∀ q, ¬ nI w = nI q → ¬ w = q := fun q hq e => hq (by rw [e])
                  have := h0 _ h103_0
                  have := h0 _ h103_1
                  have := h0 _ h103_2
                  omega)
                refine kw_ald x_K_goodOf_140 rfl ?_
                refine kw_ald_n x_K_goodOf_142 rfl ?_
                refine kw_gr x_K_goodOf_143 (by exact isK_k hK) (by exact isK_r0 hK) ?_
                refine kw_gr x_K_goodOf_146 (by exact isC_k hC) (by exact isC_r7 hC) ?_
                refine kw_ild_n x_K_goodOf_149 rfl ?_
                refine kw_lald_n x_K_goodOf_150 (by first | exact isC_a13 hC | exact isC_a14 hC | exact isC_a15 hC | exact isC_a16 hC | exact isC_a17 hC) (by omega) (by omega) (by first | exact hV.1 | exact b9 _ (by omega) | exact b10 _ (by omega) | exact o11 _ (by omega) | exact o12 _ (by omega) | exact b13 _ (by omega) | exact rfl) ?_
                refine kw_lld x_K_goodOf_151 rfl ?_
                refine kw_land x_K_goodOf_153 ?_
                rw [kS_and]
                refine c_K_goodOf_154 (by exact isE_k hC) (Nat.le_of_ble_eq_true rfl) ?_
                refine s_E_piecesOf hC hV hW ?_
                rw [xgo_3 hW (by omega)]
                refine kw_iret x_K_goodOf_157 ?_
                exact k t gd 3 rfl rfl rfl ht hg2 (by decide)
          · first
            | exfalso; omega
            | skip
              refine kw_icon x_K_goodOf_28 ?_
              refine kw_iret x_K_goodOf_29 ?_
              exact kf (fun h => by first | exact kt_nT (by omega) h8 h.1 | exact kt_nT (by decide) h17 (vRT h.2.1) | exact kt_nT (by decide) h25 (vRT h.2.2))
theorem s_K_personOf (hKS : kt_KS P N z np PX X ty tx I J R) (hW : kt_wf X) {a b c : Int32} (kf : ¬ (vT (xT X) a ∧ vR 0 9 b ∧ vR 0 3 c) → Q (some (.int (-1))) I J R)
    (k : ∀ t p w, a = nI t → b = nI p → c = nI w → t < xT X → p ≤ 9 → w ≤ 3 → Q (some (.int (nI (xsm (xpo X t p w) (xn X))))) I J R) : KW P i_K_personOf N 0 [some (.ref z), some (.int a), some (.int b), some (.int c), none, none, none] [] N I J R Q := by
  obtain ⟨g, hK, hM0⟩ := hKS
  have hn := hW.2.2.1
  have hT5 := hW.2.1
  have hr3 := hW.1
  have hC := isK_C hK 0 (by decide)
  have hL := isK_L hK 0 (by decide)
  have hS := isK_S hK
  have hb0 := isK_b hK 0 (by decide)
  have hB := hM0.2.2.2.1
  have hV := hB.1
  have b2 := hB.2.1
  have b3 := hB.2.2.1
  have b9 := hB.2.2.2.1
  have b10 := hB.2.2.2.2.1
  have b13 := hB.2.2.2.2.2
  have o11 := hM0.2.2.2.2.1.2.1
  have o12 := hM0.2.2.2.2.1.2.2.1
  refine kw_ald_n x_K_personOf_0 rfl ?_
  refine kw_gr x_K_personOf_1 (by exact isK_k hK) (by exact isK_r0 hK) ?_
  refine kw_ild_n x_K_personOf_4 rfl ?_
  refine c_K_personOf_5 (by exact isC_k hC) (Nat.le_of_ble_eq_true rfl) ?_
  refine s_C_isTown hC b2 ?_
  first | refine kw_if_eq_b x_K_personOf_8 (fun h8 => ?_) (fun h8 => ?_) | refine kw_if_eq_n x_K_personOf_8 (by omega) (fun h8 => ?_) (fun h8 => ?_) | refine kw_if_eq x_K_personOf_8 (fun h8 => ?_) (fun h8 => ?_)
  · first
    | exfalso; omega
    | skip
      refine kw_icon x_K_personOf_28 ?_
      refine kw_iret x_K_personOf_29 ?_
      exact kf (fun h => by first | exact kt_nT (by omega) h8 h.1 | exact kt_nT (by decide) h17 (vRT h.2.1) | exact kt_nT (by decide) h25 (vRT h.2.2))
  · first
    | exfalso; omega
    | skip
      obtain ⟨t, ht, rfl⟩ := kt_yT (by omega) h8
      refine kw_ild_n x_K_personOf_11 rfl ?_
      refine kw_bip x_K_personOf_12 ?_
      refine c_K_personOf_14 (Nat.le_of_ble_eq_true rfl) ?_
      refine s_K_isBelow ?_
      first | refine kw_if_eq_b x_K_personOf_17 (fun h17 => ?_) (fun h17 => ?_) | refine kw_if_eq_n x_K_personOf_17 (by omega) (fun h17 => ?_) (fun h17 => ?_) | refine kw_if_eq x_K_personOf_17 (fun h17 => ?_) (fun h17 => ?_)
      · first
        | exfalso; omega
        | skip
          refine kw_icon x_K_personOf_28 ?_
          refine kw_iret x_K_personOf_29 ?_
          exact kf (fun h => by first | exact kt_nT (by omega) h8 h.1 | exact kt_nT (by decide) h17 (vRT h.2.1) | exact kt_nT (by decide) h25 (vRT h.2.2))
      · first
        | exfalso; omega
        | skip
          obtain ⟨p, hp1, hp2, rfl⟩ := vTR (kt_yT (T := 10) (by decide) h17)
          refine kw_ild_n x_K_personOf_20 rfl ?_
          refine kw_icon x_K_personOf_21 ?_
          refine c_K_personOf_22 (Nat.le_of_ble_eq_true rfl) ?_
          refine s_K_isBelow ?_
          first | refine kw_if_ne_b x_K_personOf_25 (fun h25 => ?_) (fun h25 => ?_) | refine kw_if_ne_s x_K_personOf_25 ⟨by omega, by omega⟩ (fun h25 => ?_) (fun h25 => ?_) | refine kw_if_ne_n x_K_personOf_25 (by omega) (fun h25 => ?_) (fun h25 => ?_) | refine kw_if_ne x_K_personOf_25 (fun h25 => ?_) (fun h25 => ?_)
          · first
            | exfalso; omega
            | skip
              obtain ⟨w, hw1, hw2, rfl⟩ := vTR (kt_yT (T := 4) (by decide) h25)
              refine kw_ald_n x_K_personOf_30 rfl ?_
              refine kw_gr x_K_personOf_31 (by exact isK_k hK) (by exact isK_r0 hK) ?_
              refine kw_gr x_K_personOf_34 (by exact isC_k hC) (by exact isC_r1 hC) ?_
              refine kw_ast x_K_personOf_37 (by decide) ?_
              refine kw_ald x_K_personOf_39 rfl ?_
              refine kw_ald x_K_personOf_41 rfl ?_
              refine kw_gr x_K_personOf_43 (by exact isE_k hC) (by exact isE_r6 hC) ?_
              refine kw_ild_n x_K_personOf_46 rfl ?_
              refine c_K_personOf_47 (by exact isE_k hC) (Nat.le_of_ble_eq_true rfl) ?_
              refine s_E_having hC hV hW (f := 5) (by decide) ?_
              refine kw_ald x_K_personOf_50 rfl ?_
              refine kw_ald x_K_personOf_52 rfl ?_
              refine kw_gr x_K_personOf_54 (by exact isE_k hC) (by exact isE_r1 hC) ?_
              refine kw_icon x_K_personOf_57 ?_
              refine c_K_personOf_58 (by exact isE_k hC) (Nat.le_of_ble_eq_true rfl) ?_
              refine s_E_having hC hV hW (f := 0) (by decide) ?_
              refine kw_land x_K_personOf_61 ?_
              rw [kS_and]
              rw [show kS (fun e => (decide (e < xn X) && decide (kt_cd 5 (xe X e 5) = nI p)) && (decide (e < xn X) && decide (kt_cd 0 (xe X e 0) = nI 1))) = kS (xop5 X p) from rfl]
              refine kw_lst x_K_personOf_62 (by decide) ?_
              refine kw_ild_n x_K_personOf_64 rfl ?_
              refine s_K_personOf_65 ?_ ?_ ?_ ?_
              · intro h65
                obtain rfl : 0 = w := kt_inj h65 (by omega) (by decide)
                refine kw_ald_n x_K_personOf_92 rfl ?_
                refine kw_gr x_K_personOf_93 (by exact isK_k hK) (by exact isK_r0 hK) ?_
                refine kw_gr x_K_personOf_96 (by exact isC_k hC) (by exact isC_r5 hC) ?_
                refine kw_ild_n x_K_personOf_99 rfl ?_
                refine kw_lald_n x_K_personOf_100 (by first | exact isC_a13 hC | exact isC_a14 hC | exact isC_a15 hC | exact isC_a16 hC | exact isC_a17 hC) (by omega) (by omega) (by first | exact hV.1 | exact b9 _ (by omega) | exact b10 _ (by omega) | exact o11 _ (by omega) | exact o12 _ (by omega) | exact b13 _ (by omega) | exact rfl) ?_
                refine kw_lld x_K_personOf_101 rfl ?_
                refine kw_land x_K_personOf_103 ?_
                rw [kS_and]
                refine c_K_personOf_104 (Nat.le_of_ble_eq_true rfl) ?_
                refine s_J_bitCount ?_
                refine kw_iret x_K_personOf_107 ?_
                rw [xpo_0 hW (by omega)]
                exact k t p 0 rfl rfl rfl ht hp2 (by decide)
              · intro h65
                obtain rfl : 1 = w := kt_inj h65 (by omega) (by decide)
                refine kw_ald_n x_K_personOf_108 rfl ?_
                refine kw_gr x_K_personOf_109 (by exact isK_k hK) (by exact isK_r0 hK) ?_
                refine kw_gr x_K_personOf_112 (by exact isC_k hC) (by exact isC_r6 hC) ?_
                refine kw_ild_n x_K_personOf_115 rfl ?_
                refine kw_lald_n x_K_personOf_116 (by first | exact isC_a13 hC | exact isC_a14 hC | exact isC_a15 hC | exact isC_a16 hC | exact isC_a17 hC) (by omega) (by omega) (by first | exact hV.1 | exact b9 _ (by omega) | exact b10 _ (by omega) | exact o11 _ (by omega) | exact o12 _ (by omega) | exact b13 _ (by omega) | exact rfl) ?_
                refine kw_lld x_K_personOf_117 rfl ?_
                refine kw_land x_K_personOf_119 ?_
                rw [kS_and]
                refine c_K_personOf_120 (Nat.le_of_ble_eq_true rfl) ?_
                refine s_J_bitCount ?_
                refine kw_iret x_K_personOf_123 ?_
                rw [xpo_1 hW (by omega)]
                exact k t p 1 rfl rfl rfl ht hp2 (by decide)
              · intro h65
                obtain rfl : 2 = w := kt_inj h65 (by omega) (by decide)
                refine kw_ald x_K_personOf_124 rfl ?_
                refine kw_ald_n x_K_personOf_126 rfl ?_
                refine kw_gr x_K_personOf_127 (by exact isK_k hK) (by exact isK_r0 hK) ?_
                refine kw_gr x_K_personOf_130 (by exact isC_k hC) (by exact isC_r6 hC) ?_
                refine kw_ild_n x_K_personOf_133 rfl ?_
                refine kw_lald_n x_K_personOf_134 (by first | exact isC_a13 hC | exact isC_a14 hC | exact isC_a15 hC | exact isC_a16 hC | exact isC_a17 hC) (by omega) (by omega) (by first | exact hV.1 | exact b9 _ (by omega) | exact b10 _ (by omega) | exact o11 _ (by omega) | exact o12 _ (by omega) | exact b13 _ (by omega) | exact rfl) ?_
                refine kw_lld x_K_personOf_135 rfl ?_
                refine kw_land x_K_personOf_137 ?_
                rw [kS_and]
                refine c_K_personOf_138 (by exact isE_k hC) (Nat.le_of_ble_eq_true rfl) ?_
                refine s_E_piecesOf hC hV hW ?_
                rw [xpo_2 hW (by omega)]
                refine kw_iret x_K_personOf_141 ?_
                exact k t p 2 rfl rfl rfl ht hp2 (by decide)
              · intro h65_0 h65_1 h65_2
                obtain rfl : w = 3 := (by
                  have h0 : ∀ q, ¬ nI w = nI q → ¬ w = q := fun q hq e => hq (by rw [e])
                  have := h0 _ h65_0
                  have := h0 _ h65_1
                  have := h0 _ h65_2
                  omega)
                refine kw_ald_n x_K_personOf_142 rfl ?_
                refine kw_gr x_K_personOf_143 (by exact isK_k hK) (by exact isK_r0 hK) ?_
                refine kw_lld x_K_personOf_146 rfl ?_
                refine c_K_personOf_148 (by exact isC_k hC) (Nat.le_of_ble_eq_true rfl) ?_
                refine s_C_apologiesFor hC b2 hT5 b13 ?_
                rw [xpo_3 hW (by omega) (t := t)]
                refine kw_iret x_K_personOf_151 ?_
                exact k t p 3 rfl rfl rfl ht hp2 (by decide)
          · first
            | exfalso; omega
            | skip
              refine kw_icon x_K_personOf_28 ?_
              refine kw_iret x_K_personOf_29 ?_
              exact kf (fun h => by first | exact kt_nT (by omega) h8 h.1 | exact kt_nT (by decide) h17 (vRT h.2.1) | exact kt_nT (by decide) h25 (vRT h.2.2))
theorem s_K_unheard (hKS : kt_KS P N z np PX X ty tx I J R) (hW : kt_wf X) {a b : Int32} (kf : ¬ (vT (xT X) a ∧ vT (xT X) b) → Q (some (.int (-1))) I J R)
    (k : ∀ t u, a = nI t → b = nI u → t < xT X → u < xT X → Q (some (.int (nI (xct (fun e => xk X t e && !xk X u e) (xn X))))) I J R) : KW P i_K_unheard N 0 [some (.ref z), some (.int a), some (.int b)] [] N I J R Q := by
  obtain ⟨g, hK, hM0⟩ := hKS
  have hn := hW.2.2.1
  have hT5 := hW.2.1
  have hr3 := hW.1
  have hC := isK_C hK 0 (by decide)
  have hL := isK_L hK 0 (by decide)
  have hS := isK_S hK
  have hb0 := isK_b hK 0 (by decide)
  have hB := hM0.2.2.2.1
  have hV := hB.1
  have b2 := hB.2.1
  have b3 := hB.2.2.1
  have b9 := hB.2.2.2.1
  have b10 := hB.2.2.2.2.1
  have b13 := hB.2.2.2.2.2
  have o11 := hM0.2.2.2.2.1.2.1
  have o12 := hM0.2.2.2.2.1.2.2.1
  refine kw_ald_n x_K_unheard_0 rfl ?_
  refine kw_gr x_K_unheard_1 (by exact isK_k hK) (by exact isK_r0 hK) ?_
  refine kw_ild_n x_K_unheard_4 rfl ?_
  refine c_K_unheard_5 (by exact isC_k hC) (Nat.le_of_ble_eq_true rfl) ?_
  refine s_C_isTown hC b2 ?_
  first | refine kw_if_eq_b x_K_unheard_8 (fun h8 => ?_) (fun h8 => ?_) | refine kw_if_eq_n x_K_unheard_8 (by omega) (fun h8 => ?_) (fun h8 => ?_) | refine kw_if_eq x_K_unheard_8 (fun h8 => ?_) (fun h8 => ?_)
  · first
    | exfalso; omega
    | skip
      refine kw_icon x_K_unheard_22 ?_
      refine kw_iret x_K_unheard_23 ?_
      exact kf (fun h => by first | exact kt_nT (by omega) h8 h.1 | exact kt_nT (by omega) h19 h.2)
  · first
    | exfalso; omega
    | skip
      obtain ⟨t, ht, rfl⟩ := kt_yT (by omega) h8
      refine kw_ald_n x_K_unheard_11 rfl ?_
      refine kw_gr x_K_unheard_12 (by exact isK_k hK) (by exact isK_r0 hK) ?_
      refine kw_ild_n x_K_unheard_15 rfl ?_
      refine c_K_unheard_16 (by exact isC_k hC) (Nat.le_of_ble_eq_true rfl) ?_
      refine s_C_isTown hC b2 ?_
      first | refine kw_if_ne_b x_K_unheard_19 (fun h19 => ?_) (fun h19 => ?_) | refine kw_if_ne_s x_K_unheard_19 ⟨by omega, by omega⟩ (fun h19 => ?_) (fun h19 => ?_) | refine kw_if_ne_n x_K_unheard_19 (by omega) (fun h19 => ?_) (fun h19 => ?_) | refine kw_if_ne x_K_unheard_19 (fun h19 => ?_) (fun h19 => ?_)
      · first
        | exfalso; omega
        | skip
          obtain ⟨u, hu, rfl⟩ := kt_yT (by omega) h19
          refine kw_ald_n x_K_unheard_24 rfl ?_
          refine kw_gr x_K_unheard_25 (by exact isK_k hK) (by exact isK_r0 hK) ?_
          refine kw_ild_n x_K_unheard_28 rfl ?_
          refine kw_ald_n x_K_unheard_29 rfl ?_
          refine kw_gr x_K_unheard_30 (by exact isK_k hK) (by exact isK_r0 hK) ?_
          refine kw_gr x_K_unheard_33 (by exact isC_k hC) (by exact isC_r5 hC) ?_
          refine kw_ild_n x_K_unheard_36 rfl ?_
          refine kw_lald_n x_K_unheard_37 (by first | exact isC_a13 hC | exact isC_a14 hC | exact isC_a15 hC | exact isC_a16 hC | exact isC_a17 hC) (by omega) (by omega) (by first | exact hV.1 | exact b9 _ (by omega) | exact b10 _ (by omega) | exact o11 _ (by omega) | exact o12 _ (by omega) | exact b13 _ (by omega) | exact rfl) ?_
          refine c_K_unheard_38 (by exact isC_k hC) (Nat.le_of_ble_eq_true rfl) ?_
          refine s_C_newsFor hC b10 (by omega) ?_
          rw [xct_un hn]
          refine kw_iret x_K_unheard_41 ?_
          exact k t u rfl rfl ht hu
      · first
        | exfalso; omega
        | skip
          refine kw_icon x_K_unheard_22 ?_
          refine kw_iret x_K_unheard_23 ?_
          exact kf (fun h => by first | exact kt_nT (by omega) h8 h.1 | exact kt_nT (by omega) h19 h.2)
theorem s_K_count (hKS : kt_KS P N z np PX X ty tx I J R) (hW : kt_wf X) {b : Int32} (kf : ¬ vR 0 10 b → Q (some (.int (-1))) I J R)
    (k : ∀ f, b = nI f → f ≤ 10 → Q (some (.int (nI (xcu X np ty f)))) I J R) : KW P i_K_count N 0 [some (.ref z), some (.int b), none] [] N I J R Q := by
  obtain ⟨g, hK, hM0⟩ := hKS
  have hn := hW.2.2.1
  have hT5 := hW.2.1
  have hr3 := hW.1
  have hC := isK_C hK 0 (by decide)
  have hL := isK_L hK 0 (by decide)
  have hS := isK_S hK
  have hb0 := isK_b hK 0 (by decide)
  have hB := hM0.2.2.2.1
  have hV := hB.1
  have b2 := hB.2.1
  have b3 := hB.2.2.1
  have b9 := hB.2.2.2.1
  have b10 := hB.2.2.2.2.1
  have b13 := hB.2.2.2.2.2
  have o11 := hM0.2.2.2.2.1.2.1
  have o12 := hM0.2.2.2.2.1.2.2.1
  refine kw_ald_n x_K_count_0 rfl ?_
  refine kw_gr x_K_count_1 (by exact isK_k hK) (by exact isK_r0 hK) ?_
  refine kw_gr x_K_count_4 (by exact isC_k hC) (by exact isC_r1 hC) ?_
  refine kw_ast_n x_K_count_7 (by decide) ?_
  refine kw_ild_n x_K_count_8 rfl ?_
  refine s_K_count_9 ?_ ?_ ?_ ?_ ?_ ?_ ?_ ?_ ?_ ?_ ?_ ?_
  · intro h9
    subst h9
    refine kw_ald_n x_K_count_68 rfl ?_
    refine kw_gr x_K_count_69 (by exact isK_k hK) (by exact isK_r0 hK) ?_
    refine kw_gi_e x_K_count_72 (by exact isC_k hC) (by first | exact hV.1 | exact b2 | exact b3 | exact hM0.1 | exact hM0.2.2.1.1 | exact rfl) ?_
    refine kw_iret x_K_count_75 ?_
    exact k 0 rfl (by decide)
  · intro h9
    subst h9
    refine kw_ald_n x_K_count_76 rfl ?_
    refine kw_gi_e x_K_count_77 (by exact isE_k hC) (by first | exact hV.1 | exact b2 | exact b3 | exact hM0.1 | exact hM0.2.2.1.1 | exact rfl) ?_
    refine kw_iret x_K_count_80 ?_
    exact k 1 rfl (by decide)
  · intro h9
    subst h9
    refine kw_ald_n x_K_count_81 rfl ?_
    refine kw_ald_n x_K_count_82 rfl ?_
    refine kw_gr x_K_count_83 (by exact isE_k hC) (by exact isE_r1 hC) ?_
    refine kw_icon x_K_count_86 ?_
    refine c_K_count_87 (by exact isE_k hC) (Nat.le_of_ble_eq_true rfl) ?_
    refine s_E_having hC hV hW (f := 0) (by decide) ?_
    refine c_K_count_90 (Nat.le_of_ble_eq_true rfl) ?_
    refine s_J_bitCount ?_
    refine kw_iret x_K_count_93 ?_
    rw [xct_hav hW (Or.inl rfl) (by decide)]
    exact k 2 rfl (by decide)
  · intro h9
    subst h9
    refine kw_ald_n x_K_count_94 rfl ?_
    refine kw_ald_n x_K_count_95 rfl ?_
    refine kw_gr x_K_count_96 (by exact isE_k hC) (by exact isE_r1 hC) ?_
    refine kw_icon x_K_count_99 ?_
    refine c_K_count_100 (by exact isE_k hC) (Nat.le_of_ble_eq_true rfl) ?_
    refine s_E_having hC hV hW (f := 0) (by decide) ?_
    refine c_K_count_103 (Nat.le_of_ble_eq_true rfl) ?_
    refine s_J_bitCount ?_
    refine kw_iret x_K_count_106 ?_
    rw [xct_hav hW (Or.inl rfl) (by decide)]
    exact k 3 rfl (by decide)
  · intro h9
    subst h9
    refine kw_ald_n x_K_count_107 rfl ?_
    refine kw_ald_n x_K_count_108 rfl ?_
    refine kw_gr x_K_count_109 (by exact isE_k hC) (by exact isE_r1 hC) ?_
    refine kw_icon x_K_count_112 ?_
    refine c_K_count_113 (by exact isE_k hC) (Nat.le_of_ble_eq_true rfl) ?_
    refine s_E_having hC hV hW (f := 0) (by decide) ?_
    refine c_K_count_116 (Nat.le_of_ble_eq_true rfl) ?_
    refine s_J_bitCount ?_
    refine kw_iret x_K_count_119 ?_
    rw [xct_hav hW (Or.inl rfl) (by decide)]
    exact k 4 rfl (by decide)
  · intro h9
    subst h9
    refine kw_ald_n x_K_count_120 rfl ?_
    refine kw_gr x_K_count_121 (by exact isK_k hK) (by exact isK_r0 hK) ?_
    refine kw_gi_e x_K_count_124 (by exact isC_k hC) (by first | exact hV.1 | exact b2 | exact b3 | exact hM0.1 | exact hM0.2.2.1.1 | exact rfl) ?_
    refine kw_iret x_K_count_127 ?_
    exact k 5 rfl (by decide)
  · intro h9
    subst h9
    refine kw_ald_n x_K_count_128 rfl ?_
    refine kw_gr x_K_count_129 (by exact isK_k hK) (by exact isK_r0 hK) ?_
    refine kw_ald_n x_K_count_132 rfl ?_
    refine c_K_count_133 (by exact isE_k hC) (Nat.le_of_ble_eq_true rfl) ?_
    refine s_E_all hC hV hW ?_
    refine c_K_count_136 (by exact isC_k hC) (Nat.le_of_ble_eq_true rfl) ?_
    refine s_C_apologiesFor hC b2 hT5 b13 ?_
    rw [xap_all hW]
    refine kw_iret x_K_count_139 ?_
    exact k 6 rfl (by decide)
  · intro h9
    subst h9
    refine kw_ald_n x_K_count_140 rfl ?_
    refine kw_gr x_K_count_141 (by exact isK_k hK) (by exact isK_r0 hK) ?_
    refine c_K_count_144 (by exact isC_k hC) (Nat.le_of_ble_eq_true rfl) ?_
    refine s_C_knownByAll hC hB hW ?_
    refine c_K_count_147 (Nat.le_of_ble_eq_true rfl) ?_
    refine s_J_bitCount ?_
    refine kw_iret x_K_count_150 ?_
    rw [xka_7 hW]
    exact k 7 rfl (by decide)
  · intro h9
    subst h9
    refine kw_ald_n x_K_count_151 rfl ?_
    refine kw_gr x_K_count_152 (by exact isK_k hK) (by exact isK_r0 hK) ?_
    refine c_K_count_155 (by exact isC_k hC) (Nat.le_of_ble_eq_true rfl) ?_
    refine s_C_allKnow hC b2 hT5 b10 (b := decide (xall X = xn X)) (by rw [decide_eq_true_eq]; exact xall_iff hW) ?_
    first | refine kw_if_eq_b x_K_count_158 (fun h158 => ?_) (fun h158 => ?_) | refine kw_if_eq_n x_K_count_158 (by omega) (fun h158 => ?_) (fun h158 => ?_) | refine kw_if_eq x_K_count_158 (fun h158 => ?_) (fun h158 => ?_)
    · first
      | exfalso; omega
      | skip
        refine kw_icon x_K_count_165 ?_
        refine kw_iret x_K_count_166 ?_
        have hkk := k 8 rfl (by decide)
        unfold xcu at hkk
        first
          | (rw [if_pos (show xct (fun e => decide (xe X e 7 = 2 ^ xT X - 1)) (xn X) = xn X from of_decide_eq_true h158)] at hkk; exact hkk)
          | (rw [if_neg (show ¬ xct (fun e => decide (xe X e 7 = 2 ^ xT X - 1)) (xn X) = xn X from of_decide_eq_false h158)] at hkk; exact hkk)
    · first
      | exfalso; omega
      | skip
        refine kw_icon x_K_count_161 ?_
        refine kw_goto x_K_count_162 ?_
        refine kw_iret x_K_count_166 ?_
        have hkk := k 8 rfl (by decide)
        unfold xcu at hkk
        first
          | (rw [if_pos (show xct (fun e => decide (xe X e 7 = 2 ^ xT X - 1)) (xn X) = xn X from of_decide_eq_true h158)] at hkk; exact hkk)
          | (rw [if_neg (show ¬ xct (fun e => decide (xe X e 7 = 2 ^ xT X - 1)) (xn X) = xn X from of_decide_eq_false h158)] at hkk; exact hkk)
  · intro h9
    subst h9
    refine kw_ald_n x_K_count_167 rfl ?_
    refine kw_gi_e x_K_count_168 (by exact isK_k hK) (by first | exact hV.1 | exact b2 | exact b3 | exact hM0.1 | exact hM0.2.2.1.1 | exact rfl) ?_
    refine kw_iret x_K_count_171 ?_
    exact k 9 rfl (by decide)
  · intro h9
    subst h9
    refine kw_ald_n x_K_count_172 rfl ?_
    refine kw_gr x_K_count_173 (by exact isK_k hK) (by exact isK_r4 hK) ?_
    refine kw_gi_e x_K_count_176 (by exact isS_k hS) (by first | exact hV.1 | exact b2 | exact b3 | exact hM0.1 | exact hM0.2.2.1.1 | exact rfl) ?_
    refine kw_iret x_K_count_179 ?_
    exact k 10 rfl (by decide)
  · intro h9_0 h9_1 h9_2 h9_3 h9_4 h9_5 h9_6 h9_7 h9_8 h9_9 h9_10
    refine kw_icon x_K_count_180 ?_
    refine kw_iret x_K_count_181 ?_
    exact kf (fun h => by
      obtain ⟨f, _, hf, rfl⟩ := h
      have h0 : ∀ q, ¬ nI f = nI q → ¬ f = q := fun q hq e => hq (by rw [e])
      have := h0 _ h9_0
      have := h0 _ h9_1
      have := h0 _ h9_2
      have := h0 _ h9_3
      have := h0 _ h9_4
      have := h0 _ h9_5
      have := h0 _ h9_6
      have := h0 _ h9_7
      have := h0 _ h9_8
      have := h0 _ h9_9
      have := h0 _ h9_10
      omega)
end KQ
