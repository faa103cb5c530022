/-! the class: lookedAt, kindest -/
section KL
variable {P : kt_P} {N : Nat} {I : kt_I} {J : kt_J} {R : kt_R} {Q : Option Value → kt_I → kt_J → kt_R → Prop} {z np ty : Nat} {tx : Nat → Nat} {PX : Nat → kt_X} {X : kt_X}
/-- the looking of the country now has changed, nothing else -/
theorem kt_KM.f3 {g : Nat → Nat} {I2 : kt_I} {J2 : kt_J} (hK : kt_isK P N R z g) (hM : kt_KM z g np PX X ty tx I J) (h1 : kt_f3 (g 0 + 1) I I2) (h2 : kt_f3 (g 0 + 1) J J2) : kt_KM z g np PX X ty tx I2 J2 := by
  obtain ⟨m1, m2, m3, m4, m5, m6⟩ := hM
  have hb := isK_b hK 0 (by decide)
  have key : ∀ j, j < 6 → ∀ a, (a = g j ∨ g j + 4 ≤ a) → a ≤ g j + 17 → I2 a = I a ∧ J2 a = J a := fun j hj a q1 q2 => by
    have hbj := isK_b hK j hj
    by_cases hne : j = 0
    · subst hne
      exact ⟨h1 a (by omega), h2 a (by omega)⟩
    · have hd := isK_d hK j 0 hj (by decide) hne
      exact ⟨h1 a (by omega), h2 a (by omega)⟩
  exact ⟨by rw [h1 z (by omega)]; exact m1, m2, m3.same (by rw [h1 _ (by omega)]) (h1 _ (by omega)), m4.ext (key 0 (by decide)), m5.ext (key 0 (by decide)), fun j hj => ⟨(m6 j hj).1.ext (key (2 + j) (by omega)), (m6 j hj).2.ext (key (2 + j) (by omega))⟩⟩
theorem s_K_lookedAt (hKS : kt_KS P N z np PX X ty tx I J R) (hW : kt_wf X) {a b c : Int32} (kf : ¬ (vT (xT X) a ∧ vR 0 5 b ∧ ¬ c < 0) → Q (some (.int (-1))) I J R)
    (k : ∀ t g j, a = nI t → b = nI g → c = nI j → t < xT X → g ≤ 5 → j < 2147483648 → ∀ I' J' R', kt_ok P N z np PX X ty tx I J R I' J' R' → Q (some (.int (if j < (xlk0 X t g).2.2.2.1 then nI ((xlk0 X t g).2.2.2.2 j) else -4))) I' J' R') : KW P i_K_lookedAt N 0 [some (.ref z), some (.int a), some (.int b), some (.int c), none] [] N I J R Q := by
  obtain ⟨g, hK, hM0⟩ := hKS
  have hn := hW.2.2.1
  have hT5 := hW.2.1
  have hr3 := hW.1
  have hC := isK_C hK 0 (by decide)
  have hL := isK_L hK 0 (by decide)
  have hb0 := isK_b hK 0 (by decide)
  have hb1 := isK_b hK 1 (by decide)
  have hB := hM0.2.2.2.1
  have hV := hB.1
  have b2 := hB.2.1
  have b3 := hB.2.2.1
  have b10 := hB.2.2.2.2.1
  have hKM : ∀ I2 J2, kt_f3 (g 0 + 1) I I2 → kt_f3 (g 0 + 1) J J2 → kt_ok P N z np PX X ty tx I J R I2 J2 R := fun I2 J2 h1 h2 => ⟨⟨g, hK, hM0.f3 hK h1 h2⟩, (fun a ha => h1 a (by omega)), (fun a ha => h2 a (by omega)), kt_up.rf⟩
  refine kw_ald_n x_K_lookedAt_0 rfl ?_
  refine kw_gr x_K_lookedAt_1 (by exact isK_k hK) (by exact isK_r0 hK) ?_
  refine kw_ild_n x_K_lookedAt_4 rfl ?_
  refine c_K_lookedAt_5 (by exact isC_k hC) (Nat.le_of_ble_eq_true rfl) ?_
  refine s_C_isTown hC b2 ?_
  first | refine kw_if_eq_b x_K_lookedAt_8 (fun h8 => ?_) (fun h8 => ?_) | refine kw_if_eq_n x_K_lookedAt_8 (by omega) (fun h8 => ?_) (fun h8 => ?_) | refine kw_if_eq x_K_lookedAt_8 (fun h8 => ?_) (fun h8 => ?_)
  · skip
    refine kw_icon x_K_lookedAt_24 ?_
    refine kw_iret x_K_lookedAt_25 ?_
    exact kf (fun h => by first | exact kt_nT (by omega) h8 h.1 | exact kt_nT (by decide) h17 (vRT h.2.1) | exact h21 (Int32.not_lt.mp h.2.2))
  · skip
    obtain ⟨t, ht, rfl⟩ := kt_yT (by omega) h8
    refine kw_ild_n x_K_lookedAt_11 rfl ?_
    refine kw_bip x_K_lookedAt_12 ?_
    refine c_K_lookedAt_14 (Nat.le_of_ble_eq_true rfl) ?_
    refine s_K_isBelow ?_
    first | refine kw_if_eq_b x_K_lookedAt_17 (fun h17 => ?_) (fun h17 => ?_) | refine kw_if_eq_n x_K_lookedAt_17 (by omega) (fun h17 => ?_) (fun h17 => ?_) | refine kw_if_eq x_K_lookedAt_17 (fun h17 => ?_) (fun h17 => ?_)
    · skip
      refine kw_icon x_K_lookedAt_24 ?_
      refine kw_iret x_K_lookedAt_25 ?_
      exact kf (fun h => by first | exact kt_nT (by omega) h8 h.1 | exact kt_nT (by decide) h17 (vRT h.2.1) | exact h21 (Int32.not_lt.mp h.2.2))
    · skip
      obtain ⟨gd, hg1, hg2, rfl⟩ := vTR (kt_yT (T := 6) (by decide) h17)
      refine kw_ild_n x_K_lookedAt_20 rfl ?_
      first | refine kw_if_ge_n x_K_lookedAt_21 (by omega) (fun h21 => ?_) (fun h21 => ?_) | refine kw_if_ge x_K_lookedAt_21 (fun h21 => ?_) (fun h21 => ?_)
      · skip
        obtain ⟨j, hj, rfl⟩ := nI_of (Int32.not_lt.mpr h21)
        have hj : j < 2147483648 := hj
        refine kw_ald_n x_K_lookedAt_26 rfl ?_
        refine kw_gr x_K_lookedAt_27 (by exact isK_k hK) (by exact isK_r0 hK) ?_
        refine kw_gr x_K_lookedAt_30 (by exact isC_k hC) (by exact isC_r0 hC) ?_
        refine kw_ast x_K_lookedAt_33 (by decide) ?_
        refine kw_ald x_K_lookedAt_35 rfl ?_
        refine kw_ald_n x_K_lookedAt_37 rfl ?_
        refine kw_gr x_K_lookedAt_38 (by exact isK_k hK) (by exact isK_r0 hK) ?_
        refine kw_gr x_K_lookedAt_41 (by exact isC_k hC) (by exact isC_r1 hC) ?_
        refine kw_ald_n x_K_lookedAt_44 rfl ?_
        refine kw_gr x_K_lookedAt_45 (by exact isK_k hK) (by exact isK_r0 hK) ?_
        refine kw_gr x_K_lookedAt_48 (by exact isC_k hC) (by exact isC_r1 hC) ?_
        refine kw_ald_n x_K_lookedAt_51 rfl ?_
        refine kw_gr x_K_lookedAt_52 (by exact isK_k hK) (by exact isK_r0 hK) ?_
        refine kw_gr x_K_lookedAt_55 (by exact isC_k hC) (by exact isC_r5 hC) ?_
        refine kw_ild_n x_K_lookedAt_58 rfl ?_
        refine kw_lald_n x_K_lookedAt_59 (by first | exact isC_a13 hC | exact isC_a14 hC | exact isC_a15 hC | exact isC_a16 hC | exact isC_a17 hC) (by omega) (by omega) (by first | exact hV.1 | exact b3 | exact b10 _ (by omega) | exact z3 | exact z4 j hlt | exact rfl) ?_
        refine c_K_lookedAt_60 (by exact isE_k hC) (Nat.le_of_ble_eq_true rfl) ?_
        refine s_E_stand hC hV hW ?_
        refine kw_ald_n x_K_lookedAt_63 rfl ?_
        refine kw_gr x_K_lookedAt_64 (by exact isK_k hK) (by exact isK_r0 hK) ?_
        refine kw_gi_e x_K_lookedAt_67 (by exact isC_k hC) (by first | exact hV.1 | exact b3 | exact b10 _ (by omega) | exact z3 | exact z4 j hlt | exact rfl) ?_
        refine kw_ild_n x_K_lookedAt_70 rfl ?_
        refine c_K_lookedAt_71 (by exact isL_k hL) (Nat.le_of_ble_eq_true rfl) ?_
        refine s_L_lookAtGood hC hL hV hW (by omega) (t := t) (g := gd) (by omega) (xs0_4 X t) (fun _ _ _ => rfl) (fun I2 J2 sf hsf z1 z2 z3 z4 z5 z6 => ?_)
        have hsf0 : sf = xlk0 X t gd := hsf
        subst hsf0
        have hb3 : (xlk0 X t gd).2.2.2.1 ≤ 60 := xlk0_60 hW t gd
        have hkk := k t gd j rfl rfl rfl ht hg2 hj I2 J2 R (hKM I2 J2 z1 z2)
        refine kw_ild_n x_K_lookedAt_74 rfl ?_
        refine kw_ald x_K_lookedAt_75 rfl ?_
        refine kw_gi_e x_K_lookedAt_77 (by exact isL_k hL) (by first | exact hV.1 | exact b3 | exact b10 _ (by omega) | exact z3 | exact z4 j hlt | exact rfl) ?_
        refine c_K_lookedAt_80 (Nat.le_of_ble_eq_true rfl) ?_
        refine s_K_isBelow ?_
        first | refine kw_if_eq_b x_K_lookedAt_83 (fun h83 => ?_) (fun h83 => ?_) | refine kw_if_eq_n x_K_lookedAt_83 (by omega) (fun h83 => ?_) (fun h83 => ?_) | refine kw_if_eq x_K_lookedAt_83 (fun h83 => ?_) (fun h83 => ?_)
        · skip
          refine kw_bip x_K_lookedAt_96 ?_
          refine kw_iret x_K_lookedAt_98 ?_
          first
            | (rw [if_pos hlt] at hkk; exact hkk)
            | (rw [if_neg (fun q => kt_nT (by omega) h83 ⟨j, q, rfl⟩)] at hkk; exact hkk)
        · skip
          have hlt : j < (xlk0 X t gd).2.2.2.1 := (by
            obtain ⟨e, he, hq⟩ := kt_yT (by omega) h83
            have := kt_inj hq (by omega) (by omega)
            omega)
          refine kw_ald x_K_lookedAt_86 rfl ?_
          refine kw_gr x_K_lookedAt_88 (by exact isL_k hL) (by exact isL_r0 hL) ?_
          refine kw_ild_n x_K_lookedAt_91 rfl ?_
          refine kw_iald_n x_K_lookedAt_92 (by first | exact isC_a5 hC | exact isC_a6 hC | exact isC_a7 hC | exact isC_a8 hC | exact isC_a9 hC | exact isC_a10 hC | exact isC_a11 hC | exact isC_a12 hC | exact isL_a1 hL | exact isL_a2 hL | exact isS_a1 hS | exact isS_a2 hS) (by omega) (by omega) (by first | exact hV.1 | exact b3 | exact b10 _ (by omega) | exact z3 | exact z4 j hlt | exact rfl) ?_
          refine kw_goto x_K_lookedAt_93 ?_
          refine kw_iret x_K_lookedAt_98 ?_
          first
            | (rw [if_pos hlt] at hkk; exact hkk)
            | (rw [if_neg (fun q => kt_nT (by omega) h83 ⟨j, q, rfl⟩)] at hkk; exact hkk)
      · skip
        refine kw_icon x_K_lookedAt_24 ?_
        refine kw_iret x_K_lookedAt_25 ?_
        exact kf (fun h => by first | exact kt_nT (by omega) h8 h.1 | exact kt_nT (by decide) h17 (vRT h.2.1) | exact h21 (Int32.not_lt.mp h.2.2))
theorem s_K_kindest (hKS : kt_KS P N z np PX X ty tx I J R) (hW : kt_wf X) {a : Int32} (kf : ¬ vR 0 1 a → Q (some (.int (-1))) I J R)
    (k : ∀ w, a = nI w → w ≤ 1 → ∀ I' J' R', kt_ok P N z np PX X ty tx I J R I' J' R' → Q (some (.int (nI (if w = 0 then (xkb X 2).1 else (xkb X 2).2)))) I' J' R') : KW P i_K_kindest N 0 [some (.ref z), some (.int a), none, none, none, none, none] [] N I J R Q := by
  obtain ⟨g, hK, hM0⟩ := hKS
  have hn := hW.2.2.1
  have hT5 := hW.2.1
  have hr3 := hW.1
  have hC := isK_C hK 0 (by decide)
  have hL := isK_L hK 0 (by decide)
  have hb0 := isK_b hK 0 (by decide)
  have hb1 := isK_b hK 1 (by decide)
  have hB := hM0.2.2.2.1
  have hV := hB.1
  have b2 := hB.2.1
  have b3 := hB.2.2.1
  have b10 := hB.2.2.2.2.1
  have hKM : ∀ I2 J2, kt_f3 (g 0 + 1) I I2 → kt_f3 (g 0 + 1) J J2 → kt_ok P N z np PX X ty tx I J R I2 J2 R := fun I2 J2 h1 h2 => ⟨⟨g, hK, hM0.f3 hK h1 h2⟩, (fun a ha => h1 a (by omega)), (fun a ha => h2 a (by omega)), kt_up.rf⟩
  have hkk := xkb_le X
  have hal : ∀ r, kS (fun e => decide (e < xn X)) = kS (xK (xrul X r) 5) := fun r => kS_cg (fun e _ => by
    show decide (e < xn X) = (decide (e < xn X) && true)
    rw [Bool.and_true])
  have loop : ∀ w, w ≤ 1 → a = nI w → ∀ (d q : Nat) (I1 : kt_I) (J1 : kt_J) (v5 : Option Value), d + q = 2 → kt_f3 (g 0 + 1) I I1 → kt_f3 (g 0 + 1) J J1 → KW P i_K_kindest N 26 [some (.ref z), some (.int (nI w)), some (.ref (g 0 + 1)), some (.int (nI (xkb X q).1)), some (.int (nI (xkb X q).2)), some (.int (nI (q + 1))), v5] [] N I1 J1 R Q := by
    intro w hw ha d
    induction d with
    | zero =>
      intro q I1 J1 v5 h1 hf hfJ
      have h4 : q = 2 := by omega
      subst h4
      refine kw_ild x_K_kindest_26 rfl ?_
      refine kw_icon x_K_kindest_28 ?_
      first | refine kw_ic_ge_n x_K_kindest_29 ⟨by omega, by omega⟩ (fun h29 => ?_) (fun h29 => ?_) | refine kw_ic_ge x_K_kindest_29 (fun h29 => ?_) (fun h29 => ?_)
      · first
        | exfalso; omega
        | skip
          refine kw_ild_n x_K_kindest_91 rfl ?_
          first | refine kw_if_ne_b x_K_kindest_92 (fun h92 => ?_) (fun h92 => ?_) | refine kw_if_ne_s x_K_kindest_92 ⟨by omega, by omega⟩ (fun h92 => ?_) (fun h92 => ?_) | refine kw_if_ne_n x_K_kindest_92 (by omega) (fun h92 => ?_) (fun h92 => ?_) | refine kw_if_ne x_K_kindest_92 (fun h92 => ?_) (fun h92 => ?_)
          · first
            | exfalso; omega
            | skip
              refine kw_ild x_K_kindest_99 rfl ?_
              refine kw_iret x_K_kindest_101 ?_
              have h9 := k w ha hw I1 J1 R (hKM I1 J1 hf hfJ)
              first
                | (rw [if_pos (by omega)] at h9; exact h9)
                | (rw [if_neg (by omega)] at h9; exact h9)
          · first
            | exfalso; omega
            | skip
              refine kw_ild_n x_K_kindest_95 rfl ?_
              refine kw_goto x_K_kindest_96 ?_
              refine kw_iret x_K_kindest_101 ?_
              have h9 := k w ha hw I1 J1 R (hKM I1 J1 hf hfJ)
              first
                | (rw [if_pos (by omega)] at h9; exact h9)
                | (rw [if_neg (by omega)] at h9; exact h9)
      · first
        | exfalso; omega
        | skip
          skip
    | succ d ih =>
      intro q I1 J1 v5 h1 hf hfJ
      have hkr := hkk q
      have hhp : xhp (xrul X (q + 1)) ≤ 10 := xct_le _ _
      have hV1 : kt_V (g 0) X I1 := hV.ext (fun a g1 g2 => hf a (by omega))
      refine kw_ild x_K_kindest_26 rfl ?_
      refine kw_icon x_K_kindest_28 ?_
      first | refine kw_ic_ge_n x_K_kindest_29 ⟨by omega, by omega⟩ (fun h29 => ?_) (fun h29 => ?_) | refine kw_ic_ge x_K_kindest_29 (fun h29 => ?_) (fun h29 => ?_)
      · first
        | exfalso; omega
        | skip
          skip
      · first
        | exfalso; omega
        | skip
          refine kw_ald_n x_K_kindest_32 rfl ?_
          refine kw_ald_n x_K_kindest_33 rfl ?_
          refine kw_gr x_K_kindest_34 (by exact isK_k hK) (by exact isK_r0 hK) ?_
          refine kw_gr x_K_kindest_37 (by exact isC_k hC) (by exact isC_r1 hC) ?_
          refine kw_ald_n x_K_kindest_40 rfl ?_
          refine kw_gr x_K_kindest_41 (by exact isK_k hK) (by exact isK_r0 hK) ?_
          refine kw_gr x_K_kindest_44 (by exact isC_k hC) (by exact isC_r1 hC) ?_
          refine c_K_kindest_47 (by exact isE_k hC) (Nat.le_of_ble_eq_true rfl) ?_
          refine s_E_all hC hV1 hW ?_
          refine kw_ild x_K_kindest_50 rfl ?_
          rw [hal (q + 1)]
          refine c_K_kindest_52 (by exact isL_k hL) (Nat.le_of_ble_eq_true rfl) ?_
          refine s_L_lookAtAll hC hL (X := xrul X (q + 1)) hV1 (kt_wf_rule hW (by omega)) (by omega) (t := 5) (fun I2 J2 z1 z2 z4 z5 => ?_)
          have hV2 : kt_V (g 0) (xrul X (q + 1)) I2 := hV1.ext (fun a g1 g2 => z1 a (by omega))
          refine kw_ald_n x_K_kindest_55 rfl ?_
          refine kw_gr x_K_kindest_56 (by exact isK_k hK) (by exact isK_r0 hK) ?_
          refine kw_gr x_K_kindest_59 (by exact isC_k hC) (by exact isC_r1 hC) ?_
          refine kw_ald_n x_K_kindest_62 rfl ?_
          refine kw_gl_e x_K_kindest_63 (by exact isL_k hL) (by first | exact z4 | exact rfl) ?_
          refine c_K_kindest_66 (by exact isE_k hC) (Nat.le_of_ble_eq_true rfl) ?_
          refine s_E_personsIn hC hV2 (kt_wf_rule hW (by omega)) ?_
          rw [xpin_h (kt_wf_rule hW (by omega))]
          refine kw_ist x_K_kindest_69 (by decide) ?_
          refine kw_ild x_K_kindest_71 rfl ?_
          refine kw_ild x_K_kindest_73 rfl ?_
          first | refine kw_ic_le_n x_K_kindest_75 ⟨by omega, by omega⟩ (fun h75 => ?_) (fun h75 => ?_) | refine kw_ic_le x_K_kindest_75 (fun h75 => ?_) (fun h75 => ?_)
          · first
            | exfalso; omega
            | skip
              first | refine kw_iinc_n x_K_kindest_85 (by decide) rfl ?_ | refine kw_iinc x_K_kindest_85 (by decide) rfl ?_
              refine kw_goto x_K_kindest_88 ?_
              have h9 := ih (q + 1) I2 J2 (some (.int (nI (xhp (xrul X (q + 1)))))) (by omega) (hf.tr z1) (hfJ.tr z2)
              unfold xkb at h9
              first
                | (rw [if_pos (by omega)] at h9; exact h9)
                | (rw [if_neg (by omega)] at h9; exact h9)
          · first
            | exfalso; omega
            | skip
              refine kw_ild x_K_kindest_78 rfl ?_
              refine kw_ist x_K_kindest_80 (by decide) ?_
              refine kw_ild x_K_kindest_82 rfl ?_
              refine kw_ist_n x_K_kindest_84 (by decide) ?_
              first | refine kw_iinc_n x_K_kindest_85 (by decide) rfl ?_ | refine kw_iinc x_K_kindest_85 (by decide) rfl ?_
              refine kw_goto x_K_kindest_88 ?_
              have h9 := ih (q + 1) I2 J2 (some (.int (nI (xhp (xrul X (q + 1)))))) (by omega) (hf.tr z1) (hfJ.tr z2)
              unfold xkb at h9
              first
                | (rw [if_pos (by omega)] at h9; exact h9)
                | (rw [if_neg (by omega)] at h9; exact h9)
  have hhp : xhp (xrul X 0) ≤ 10 := xct_le _ _
  have hV1 := hV
  refine kw_ild_n x_K_kindest_0 rfl ?_
  refine kw_icon x_K_kindest_1 ?_
  refine c_K_kindest_2 (Nat.le_of_ble_eq_true rfl) ?_
  refine s_K_isBelow ?_
  first | refine kw_if_ne_b x_K_kindest_5 (fun h5 => ?_) (fun h5 => ?_) | refine kw_if_ne_s x_K_kindest_5 ⟨by omega, by omega⟩ (fun h5 => ?_) (fun h5 => ?_) | refine kw_if_ne_n x_K_kindest_5 (by omega) (fun h5 => ?_) (fun h5 => ?_) | refine kw_if_ne x_K_kindest_5 (fun h5 => ?_) (fun h5 => ?_)
  · first
    | exfalso; omega
    | skip
      obtain ⟨w, hw1, hw2, rfl⟩ := vTR (kt_yT (T := 2) (by decide) h5)
      refine kw_ald_n x_K_kindest_10 rfl ?_
      refine kw_gr x_K_kindest_11 (by exact isK_k hK) (by exact isK_r0 hK) ?_
      refine kw_gr x_K_kindest_14 (by exact isC_k hC) (by exact isC_r0 hC) ?_
      refine kw_ast_n x_K_kindest_17 (by decide) ?_
      refine kw_icon x_K_kindest_18 ?_
      refine kw_ist_n x_K_kindest_19 (by decide) ?_
      refine kw_icon x_K_kindest_20 ?_
      refine kw_ist x_K_kindest_21 (by decide) ?_
      refine kw_icon x_K_kindest_23 ?_
      refine kw_ist x_K_kindest_24 (by decide) ?_
      refine kw_ild x_K_kindest_26 rfl ?_
      refine kw_icon x_K_kindest_28 ?_
      first | refine kw_ic_ge_n x_K_kindest_29 ⟨by omega, by omega⟩ (fun h29 => ?_) (fun h29 => ?_) | refine kw_ic_ge x_K_kindest_29 (fun h29 => ?_) (fun h29 => ?_)
      · first
        | exfalso; omega
        | skip
          skip
      · first
        | exfalso; omega
        | skip
          refine kw_ald_n x_K_kindest_32 rfl ?_
          refine kw_ald_n x_K_kindest_33 rfl ?_
          refine kw_gr x_K_kindest_34 (by exact isK_k hK) (by exact isK_r0 hK) ?_
          refine kw_gr x_K_kindest_37 (by exact isC_k hC) (by exact isC_r1 hC) ?_
          refine kw_ald_n x_K_kindest_40 rfl ?_
          refine kw_gr x_K_kindest_41 (by exact isK_k hK) (by exact isK_r0 hK) ?_
          refine kw_gr x_K_kindest_44 (by exact isC_k hC) (by exact isC_r1 hC) ?_
          refine c_K_kindest_47 (by exact isE_k hC) (Nat.le_of_ble_eq_true rfl) ?_
          refine s_E_all hC hV1 hW ?_
          refine kw_ild x_K_kindest_50 rfl ?_
          rw [hal (0)]
          refine c_K_kindest_52 (by exact isL_k hL) (Nat.le_of_ble_eq_true rfl) ?_
          refine s_L_lookAtAll hC hL (X := xrul X (0)) hV1 (kt_wf_rule hW (by omega)) (by omega) (t := 5) (fun I2 J2 z1 z2 z4 z5 => ?_)
          have hV2 : kt_V (g 0) (xrul X (0)) I2 := hV1.ext (fun a g1 g2 => z1 a (by omega))
          refine kw_ald_n x_K_kindest_55 rfl ?_
          refine kw_gr x_K_kindest_56 (by exact isK_k hK) (by exact isK_r0 hK) ?_
          refine kw_gr x_K_kindest_59 (by exact isC_k hC) (by exact isC_r1 hC) ?_
          refine kw_ald_n x_K_kindest_62 rfl ?_
          refine kw_gl_e x_K_kindest_63 (by exact isL_k hL) (by first | exact z4 | exact rfl) ?_
          refine c_K_kindest_66 (by exact isE_k hC) (Nat.le_of_ble_eq_true rfl) ?_
          refine s_E_personsIn hC hV2 (kt_wf_rule hW (by omega)) ?_
          rw [xpin_h (kt_wf_rule hW (by omega))]
          refine kw_ist x_K_kindest_69 (by decide) ?_
          refine kw_ild x_K_kindest_71 rfl ?_
          refine kw_ild x_K_kindest_73 rfl ?_
          first | refine kw_ic_le_n x_K_kindest_75 ⟨by omega, by omega⟩ (fun h75 => ?_) (fun h75 => ?_) | refine kw_ic_le x_K_kindest_75 (fun h75 => ?_) (fun h75 => ?_)
          · exfalso; first | exact kt_nm1 (x := xhp (xrul X 0)) (by omega) (by assumption) | omega | contradiction | exact absurd (by decide) h75 | exact absurd h75 (by decide)
          · skip
            refine kw_ild x_K_kindest_78 rfl ?_
            refine kw_ist x_K_kindest_80 (by decide) ?_
            refine kw_ild x_K_kindest_82 rfl ?_
            refine kw_ist_n x_K_kindest_84 (by decide) ?_
            first | refine kw_iinc_n x_K_kindest_85 (by decide) rfl ?_ | refine kw_iinc x_K_kindest_85 (by decide) rfl ?_
            refine kw_goto x_K_kindest_88 ?_
            exact loop w hw2 rfl 2 0 I2 J2 _ (by omega) z1 z2
  · first
    | exfalso; omega
    | skip
      refine kw_icon x_K_kindest_8 ?_
      refine kw_iret x_K_kindest_9 ?_
      exact kf (fun h => kt_nT (by decide) h5 (vRT h))
end KL
