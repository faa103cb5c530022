/-! the class: what would be -/
theorem xsm_add {f g h : Nat → Nat} : ∀ n, (∀ t, t < n → h t = f t + g t) → xsm f n + xsm g n = xsm h n
  | 0, _ => rfl
  | n + 1, hh => by
    have ih := xsm_add (f := f) (g := g) (h := h) n (fun t ht => hh t (by omega))
    have h1 := hh n (by omega)
    unfold xsm
    omega
theorem xsm_cg {f g : Nat → Nat} : ∀ n, (∀ t, t < n → f t = g t) → xsm f n = xsm g n
  | 0, _ => rfl
  | n + 1, h => by
    unfold xsm
    rw [xsm_cg n (fun t ht => h t (by omega)), h n (by omega)]
theorem xae_cnt {a s : Nat → Bool} {t : Nat} {X : kt_X} : ∀ k, (xae a s t k X).2 = xct (fun e => a e && s e && !(xe X e 8).testBit t) k
  | 0 => rfl
  | k + 1 => by
    have ih := xae_cnt (a := a) (s := s) (t := t) (X := X) k
    have hb : (xe (xae a s t k X).1 k 8).testBit t = (xe X k 8).testBit t := by rw [xae_bit]; simp
    unfold xae xct
    rw [hb]
    by_cases hc : a k = true ∧ s k = true ∧ (xe X k 8).testBit t = false
    · rw [if_pos hc, hc.1, hc.2.1, hc.2.2]
      show (xae a s t k X).2 + 1 = _
      rw [ih]; rfl
    · rw [if_neg hc, ih, if_neg]
      · rfl
      · intro q
        apply hc
        simp only [Bool.and_eq_true, Bool.not_eq_true'] at q
        exact ⟨q.1.1, q.1.2, q.2⟩
theorem xat_cnt {ac : Nat → Nat → Bool} {Y : kt_X} : ∀ T, (xat ac T Y).2 = xsm (fun t => xct (fun e => ac t e && decide (xst Y t e = 1) && !(xe Y e 8).testBit t) (xn Y)) T
  | 0 => rfl
  | T + 1 => by
    show (xat ac T Y).2 + (xae (ac T) (fun e => decide (xst Y T e = 1)) T (xn Y) (xat ac T Y).1).2 = _
    rw [xae_cnt, xat_cnt T]
    show _ = xsm _ T + xct (fun e => ac T e && decide (xst Y T e = 1) && !(xe Y e 8).testBit T) (xn Y)
    congr 1
    refine xct_cg _ (fun e he => ?_)
    rw [xat_bit]
    simp
/-- how many apologies there are -/
def xap (X : kt_X) : Nat := xsm (fun t => xct (fun e => xSy X t e && decide (e < xn X)) 60) (xT X)
theorem xap_t {X : kt_X} (hn : xn X ≤ 60) (t : Nat) : xct (fun e => xSy X t e && decide (e < xn X)) 60 = xct (fun e => (xe X e 8).testBit t) (xn X) := by
  rw [← xct_60 hn]
  refine xct_cg _ (fun e _ => ?_)
  unfold xSy
  cases decide (e < xn X) <;> simp
theorem xap_more {X Y : kt_X} (hn : xn X ≤ 60) (hnY : xn Y = xn X) (hT : xT Y = xT X) (h8 : ∀ e, xe Y e 8 = xe X e 8) : xap (xapo X Y) = xap X + (xat (xac X) (xT Y) Y).2 := by
  have h7 := kt_apo7 X Y
  unfold xap
  rw [xat_cnt, h7.2.1, hT]
  refine (xsm_add _ (fun t ht => ?_)).symm
  rw [xap_t hn, xap_t (by rw [h7.2.2.1]; omega), h7.2.2.1, hnY]
  refine (xct_two _ (fun e he => ?_)).symm
  show (xe (xat (xac X) (xT Y) Y).1 e 8).testBit t = _ ∧ _
  rw [xat_bit, h8, hT, hnY, decide_eq_true ht, decide_eq_true he, Bool.true_and, Bool.true_and]
  cases (xe X e 8).testBit t <;> cases xac X t e <;> cases decide (xst Y t e = 1) <;> simp
theorem xgs_or {X : kt_X} {K1 K2 : Nat → Bool} : ∀ k, xgs X (fun e => K1 e || K2 e) k = xgs X K1 k ||| xgs X K2 k
  | 0 => by simp [xgs]
  | k + 1 => by
    have ih := xgs_or (X := X) (K1 := K1) (K2 := K2) k
    unfold xgs
    rw [ih]
    apply Nat.eq_of_testBit_eq
    intro i
    cases K1 k <;> cases K2 k <;> simp [Nat.testBit_or] <;> cases (xgs X K1 k).testBit i <;> cases (xgs X K2 k).testBit i <;> simp
theorem xoe_gs {X Y : kt_X} {b s : Nat → Nat} {K : Nat → Bool} {m0 n : Nat} (h3 : ∀ e, e < n → xe Y e 3 = xe X e 3) (hK : ∀ e, e < n → (K e = true ↔ s e ≠ b e ∧ (s e ≤ 1 ∨ b e ≤ 1))) : ∀ k, k ≤ n → xoe Y b s m0 k = m0 ||| xgs X K k
  | 0, _ => (Nat.or_zero _).symm
  | k + 1, hk => by
    have ih := xoe_gs (m0 := m0) h3 hK k (by omega)
    unfold xoe xgs
    rw [ih, h3 k (by omega)]
    have hh := hK k (by omega)
    by_cases hc : K k = true
    · rw [if_pos hc, if_pos (hh.mp hc), Nat.or_assoc]
    · rw [if_neg hc, if_neg (fun q => hc (hh.mpr q)), Nat.or_assoc]
/-- of which orders a town thinks otherwise -/
def xot (X Y : kt_X) (t e : Nat) : Bool := (xac X t e ^^ xac Y t e) || (xRf X t e ^^ xRf Y t e)
theorem xot_e {X Y : kt_X} {t e : Nat} (hn : xn Y = xn X) (he : e < xn X) : xot X Y t e = true ↔ xst Y t e ≠ xst X t e ∧ (xst Y t e ≤ 1 ∨ xst X t e ≤ 1) := by
  unfold xot xac xRf
  rw [hn, decide_eq_true he]
  by_cases h1 : xst X t e = 0
  · by_cases h2 : xst Y t e = 0
    · simp [h1, h2]
    · have : ¬ 0 = xst Y t e := fun q => h2 q.symm
      simp [h1, h2]
  · by_cases h2 : xst Y t e = 0
    · have : ¬ 0 = xst X t e := fun q => h1 q.symm
      simp [h1, h2, this]
    · by_cases h3 : xst X t e = 1
      · by_cases h4 : xst Y t e = 1
        · simp [h3, h4]
        · simp [h3, h4, h2]
      · by_cases h4 : xst Y t e = 1
        · have : ¬ 1 = xst X t e := fun q => h3 q.symm
          simp [h3, h4, h1, this]
        · simp [h1, h2, h3, h4]
          omega
theorem xoth_K {X Y : kt_X} {t u : Nat} (hn : xn Y = xn X) (h3 : ∀ e, e < xn X → xe Y e 3 = xe X e 3) : xgs X (fun e => xot X Y t e || xot X Y u e) (xn X) = xoth X Y t u := by
  unfold xoth
  rw [hn, xoe_gs h3 (fun e he => xot_e hn he) (xn X) (Nat.le_refl _), xoe_gs h3 (fun e he => xot_e hn he) (xn X) (Nat.le_refl _), xgs_or, Nat.zero_or]
theorem kt_wl0 {P : kt_P} {NM : Nat} {L : List (Option Value)} {st : List Value} {N : Nat} {I : kt_I} {J : kt_J} {R : kt_R} {Q : Option Value → kt_I → kt_J → kt_R → Prop} (k : KW P i_K_would NM 72 L st N I J R Q) : KW P i_K_would NM 45 L (.int (nI 0) :: st) N I J R Q := kw_lsw x_K_would_45 (by decide) (off := 27) (by decide) (by decide) k
theorem kt_wl1 {P : kt_P} {NM : Nat} {L : List (Option Value)} {st : List Value} {N : Nat} {I : kt_I} {J : kt_J} {R : kt_R} {Q : Option Value → kt_I → kt_J → kt_R → Prop} (k : KW P i_K_would NM 77 L st N I J R Q) : KW P i_K_would NM 45 L (.int (nI 1) :: st) N I J R Q := kw_lsw x_K_would_45 (by decide) (off := 32) (by decide) (by decide) k
theorem kt_wl2 {P : kt_P} {NM : Nat} {L : List (Option Value)} {st : List Value} {N : Nat} {I : kt_I} {J : kt_J} {R : kt_R} {Q : Option Value → kt_I → kt_J → kt_R → Prop} (k : KW P i_K_would NM 80 L st N I J R Q) : KW P i_K_would NM 45 L (.int (nI 2) :: st) N I J R Q := kw_lsw x_K_would_45 (by decide) (off := 35) (by decide) (by decide) k
section KW2
variable {P : kt_P} {N : Nat} {I : kt_I} {J : kt_J} {R : kt_R} {Q : Option Value → kt_I → kt_J → kt_R → Prop} {z np ty : Nat} {g tx : Nat → Nat} {PX : Nat → kt_X} {X Z : kt_X}
theorem s_K_newApologies (hK : kt_isK P N R z g) (hB0 : kt_B (g 0) X I J) (hB1 : kt_B (g 1) Z I J) (hW : kt_wf X) (hWZ : kt_wf Z) {d : Nat} (hd : xap Z = xap X + d) (k : Q (some (.int (nI d))) I J R) : KW P i_K_newApologies N 0 [some (.ref z)] [] N I J R Q := by
  have hC := isK_C hK 0 (by decide)
  have hD := isK_C hK 1 (by decide)
  refine kw_ald_n x_K_newApologies_0 rfl ?_
  refine kw_gr x_K_newApologies_1 (by exact isK_k hK) (by exact isK_r1 hK) ?_
  refine kw_ald_n x_K_newApologies_4 rfl ?_
  refine kw_gr x_K_newApologies_5 (by exact isK_k hK) (by exact isK_r1 hK) ?_
  refine kw_gr x_K_newApologies_8 (by first | exact isC_k hC | exact isC_k hD) (by first | exact isC_r1 hC | exact isC_r1 hD) ?_
  refine c_K_newApologies_11 (by first | exact isE_k hC | exact isE_k hD) (Nat.le_of_ble_eq_true rfl) ?_
  refine s_E_all hD hB1.1 hWZ ?_
  refine c_K_newApologies_14 (by first | exact isC_k hC | exact isC_k hD) (Nat.le_of_ble_eq_true rfl) ?_
  refine s_C_apologiesFor hD hB1.2.1 hWZ.2.1 hB1.2.2.2.2.2 ?_
  refine kw_ald_n x_K_newApologies_17 rfl ?_
  refine kw_gr x_K_newApologies_18 (by exact isK_k hK) (by exact isK_r0 hK) ?_
  refine kw_ald_n x_K_newApologies_21 rfl ?_
  refine kw_gr x_K_newApologies_22 (by exact isK_k hK) (by exact isK_r0 hK) ?_
  refine kw_gr x_K_newApologies_25 (by first | exact isC_k hC | exact isC_k hD) (by first | exact isC_r1 hC | exact isC_r1 hD) ?_
  refine c_K_newApologies_28 (by first | exact isE_k hC | exact isE_k hD) (Nat.le_of_ble_eq_true rfl) ?_
  refine s_E_all hC hB0.1 hW ?_
  refine c_K_newApologies_31 (by first | exact isC_k hC | exact isC_k hD) (Nat.le_of_ble_eq_true rfl) ?_
  refine s_C_apologiesFor hC hB0.2.1 hW.2.1 hB0.2.2.2.2.2 ?_
  rw [show xsm (fun t => xct (fun e => xSy Z t e && decide (e < xn Z)) 60) (xT Z) = xap X + d from hd, show xsm (fun t => xct (fun e => xSy X t e && decide (e < xn X)) 60) (xT X) = xap X from rfl]
  first | refine kw_isub_n x_K_newApologies_34 (by omega) ?_ | refine kw_isub x_K_newApologies_34 ?_
  rw [Nat.add_sub_cancel_left]
  refine kw_iret x_K_newApologies_35 ?_
  exact k
theorem s_K_otherThoughts (hK : kt_isK P N R z g) (hB0 : kt_B (g 0) X I J) (hT0 : kt_T (g 0) X I J) (hT1 : kt_T (g 1) Z I J) (hW : kt_wf X) {t : Nat} (ht : t < xT X) (k : Q (some (.long (kS (xot X Z t)))) I J R) : KW P i_K_otherThoughts N 0 [some (.ref z), some (.int (nI t))] [] N I J R Q := by
  have hT5 := hW.2.1
  have hC := isK_C hK 0 (by decide)
  have hD := isK_C hK 1 (by decide)
  refine kw_ald_n x_K_otherThoughts_0 rfl ?_
  refine kw_gr x_K_otherThoughts_1 (by exact isK_k hK) (by exact isK_r0 hK) ?_
  refine kw_ild_n x_K_otherThoughts_4 rfl ?_
  refine c_K_otherThoughts_5 (by first | exact isC_k hC | exact isC_k hD) (Nat.le_of_ble_eq_true rfl) ?_
  refine s_C_isTown hC hB0.2.1 ?_
  first | refine kw_if_ne_b x_K_otherThoughts_8 (fun h8 => ?_) (fun h8 => ?_) | refine kw_if_ne_s x_K_otherThoughts_8 ⟨by omega, by omega⟩ (fun h8 => ?_) (fun h8 => ?_) | refine kw_if_ne_n x_K_otherThoughts_8 (by omega) (fun h8 => ?_) (fun h8 => ?_) | refine kw_if_ne x_K_otherThoughts_8 (fun h8 => ?_) (fun h8 => ?_)
  · skip
    refine kw_ald_n x_K_otherThoughts_13 rfl ?_
    refine kw_gr x_K_otherThoughts_14 (by exact isK_k hK) (by exact isK_r0 hK) ?_
    refine kw_gr x_K_otherThoughts_17 (by first | exact isC_k hC | exact isC_k hD) (by first | exact isC_r6 hC | exact isC_r6 hD) ?_
    refine kw_ild_n x_K_otherThoughts_20 rfl ?_
    refine kw_lald_n x_K_otherThoughts_21 (by first | exact isC_a13 hC | exact isC_a14 hC | exact isC_a15 hC | exact isC_a16 hC | exact isC_a17 hC | exact isC_a13 hD | exact isC_a14 hD | exact isC_a15 hD | exact isC_a16 hD | exact isC_a17 hD) (by omega) (by omega) (by first | exact hT0.2.1 _ (by omega) | exact hT1.2.1 _ (by omega) | exact hT0.2.2.1 _ (by omega) | exact hT1.2.2.1 _ (by omega) | exact rfl) ?_
    refine kw_ald_n x_K_otherThoughts_22 rfl ?_
    refine kw_gr x_K_otherThoughts_23 (by exact isK_k hK) (by exact isK_r1 hK) ?_
    refine kw_gr x_K_otherThoughts_26 (by first | exact isC_k hC | exact isC_k hD) (by first | exact isC_r6 hC | exact isC_r6 hD) ?_
    refine kw_ild_n x_K_otherThoughts_29 rfl ?_
    refine kw_lald_n x_K_otherThoughts_30 (by first | exact isC_a13 hC | exact isC_a14 hC | exact isC_a15 hC | exact isC_a16 hC | exact isC_a17 hC | exact isC_a13 hD | exact isC_a14 hD | exact isC_a15 hD | exact isC_a16 hD | exact isC_a17 hD) (by omega) (by omega) (by first | exact hT0.2.1 _ (by omega) | exact hT1.2.1 _ (by omega) | exact hT0.2.2.1 _ (by omega) | exact hT1.2.2.1 _ (by omega) | exact rfl) ?_
    refine kw_lxor x_K_otherThoughts_31 ?_
    refine kw_ald_n x_K_otherThoughts_32 rfl ?_
    refine kw_gr x_K_otherThoughts_33 (by exact isK_k hK) (by exact isK_r0 hK) ?_
    refine kw_gr x_K_otherThoughts_36 (by first | exact isC_k hC | exact isC_k hD) (by first | exact isC_r7 hC | exact isC_r7 hD) ?_
    refine kw_ild_n x_K_otherThoughts_39 rfl ?_
    refine kw_lald_n x_K_otherThoughts_40 (by first | exact isC_a13 hC | exact isC_a14 hC | exact isC_a15 hC | exact isC_a16 hC | exact isC_a17 hC | exact isC_a13 hD | exact isC_a14 hD | exact isC_a15 hD | exact isC_a16 hD | exact isC_a17 hD) (by omega) (by omega) (by first | exact hT0.2.1 _ (by omega) | exact hT1.2.1 _ (by omega) | exact hT0.2.2.1 _ (by omega) | exact hT1.2.2.1 _ (by omega) | exact rfl) ?_
    refine kw_ald_n x_K_otherThoughts_41 rfl ?_
    refine kw_gr x_K_otherThoughts_42 (by exact isK_k hK) (by exact isK_r1 hK) ?_
    refine kw_gr x_K_otherThoughts_45 (by first | exact isC_k hC | exact isC_k hD) (by first | exact isC_r7 hC | exact isC_r7 hD) ?_
    refine kw_ild_n x_K_otherThoughts_48 rfl ?_
    refine kw_lald_n x_K_otherThoughts_49 (by first | exact isC_a13 hC | exact isC_a14 hC | exact isC_a15 hC | exact isC_a16 hC | exact isC_a17 hC | exact isC_a13 hD | exact isC_a14 hD | exact isC_a15 hD | exact isC_a16 hD | exact isC_a17 hD) (by omega) (by omega) (by first | exact hT0.2.1 _ (by omega) | exact hT1.2.1 _ (by omega) | exact hT0.2.2.1 _ (by omega) | exact hT1.2.2.1 _ (by omega) | exact rfl) ?_
    refine kw_lxor x_K_otherThoughts_50 ?_
    refine kw_lor x_K_otherThoughts_51 ?_
    rw [kS_xor, kS_xor, kS_or]
    refine kw_lret x_K_otherThoughts_52 ?_
    exact k
  · exfalso; first | exact kt_nT (by omega) h8 ⟨t, ht, rfl⟩ | omega | contradiction | exact absurd (by decide) h8 | exact absurd h8 (by decide)
theorem kt_KM.fx {I1 I2 : kt_I} {J1 J2 : kt_J} (hK : kt_isK P N R z g) (hM : kt_KM z g np PX X ty tx I1 J1) (h1 : kt_fx (g 1 + 1) (g 1) I1 I2) (h2 : kt_fx (g 1 + 1) (g 1) J1 J2) : kt_KM z g np PX X ty tx I2 J2 := by
  have hb1 := isK_b hK 1 (by decide)
  exact hM.fs hK (h1.s (sc := z + 2) (by omega) (by omega)) h2
theorem s_K_would (hKS : kt_KS P N z np PX X ty tx I J R) (hW : kt_wf X) {a b c : Int32} (kf : ¬ (vT (xT X) a ∧ vT (xT X) b ∧ a ≠ b ∧ vR 0 2 c) → ∀ I' J' R', kt_ok P N z np PX X ty tx I J R I' J' R' → Q (some (.int (-1))) I' J' R')
    (k : ∀ t u w, a = nI t → b = nI u → c = nI w → t < xT X → u < xT X → t ≠ u → w ≤ 2 → ∀ I' J' R', kt_ok P N z np PX X ty tx I J R I' J' R' → Q (some (.int (nI (xwo X t u w)))) I' J' R') : KW P i_K_would N 0 [some (.ref z), some (.int a), some (.int b), some (.int c), none] [] N I J R Q := by
  obtain ⟨g, hK, hM0⟩ := hKS
  have hn := hW.2.2.1
  have hT5 := hW.2.1
  have hC := isK_C hK 0 (by decide)
  have hD := isK_C hK 1 (by decide)
  have hL := isK_L hK 1 (by decide)
  have hb0 := isK_b hK 0 (by decide)
  have hb1 := isK_b hK 1 (by decide)
  have hd01 := isK_d hK 0 1 (by decide) (by decide) (by decide)
  refine kw_ald_n x_K_would_0 rfl ?_
  refine kw_gr x_K_would_1 (by exact isK_k hK) (by exact isK_r1 hK) ?_
  refine kw_ald_n x_K_would_4 rfl ?_
  refine kw_gr x_K_would_5 (by exact isK_k hK) (by exact isK_r0 hK) ?_
  refine c_K_would_8 (by first | exact isC_k hC | exact isC_k hD) (Nat.le_of_ble_eq_true rfl) ?_
  refine s_C_copyFrom hC hD hM0.2.2.2.1 hM0.2.2.2.2.1 hn (by omega) (fun I1 J1 u1 u2 u3 u4 => ?_)
  refine kw_ald_n x_K_would_11 rfl ?_
  refine kw_gr x_K_would_12 (by exact isK_k hK) (by exact isK_r1 hK) ?_
  refine kw_ild_n x_K_would_15 rfl ?_
  refine kw_ild_n x_K_would_16 rfl ?_
  refine c_K_would_17 (by first | exact isC_k hC | exact isC_k hD) (Nat.le_of_ble_eq_true rfl) ?_
  refine s_C_letMeet hD u3 hW (fun hf => ?_) (fun t u e1 e2 h1 h2 h4 I2 J2 hc => ?_)
  · refine kw_ist x_K_would_20 (by decide) ?_
    refine kw_ild x_K_would_22 rfl ?_
    first | refine kw_if_lt_s x_K_would_24 ⟨by omega, by omega⟩ (fun h24 => ?_) (fun h24 => ?_) | refine kw_if_lt_n x_K_would_24 (by omega) (fun h24 => ?_) (fun h24 => ?_) | refine kw_if_lt x_K_would_24 (fun h24 => ?_) (fun h24 => ?_)
    · skip
      refine kw_icon x_K_would_35 ?_
      refine kw_iret x_K_would_36 ?_
      exact kf (fun h => hf ⟨h.1, h.2.1, h.2.2.1⟩) I1 J1 R ⟨⟨g, hK, hM0.cp hK u1 u2⟩, kt_up.fd hK (by decide) u1, kt_up.fd hK (by decide) u2, kt_up.rf⟩
    · exfalso; first | omega | contradiction | exact absurd (by decide) h24 | exact absurd h24 (by decide)
  subst e1; subst e2
  have hxb : xhn true t u X ≤ xn X := xct_le _ _
  have hf1 := u1.tr hc.1
  have hf2 := u2.tr hc.2.1
  refine kw_ist x_K_would_20 (by decide) ?_
  refine kw_ild x_K_would_22 rfl ?_
  first | refine kw_if_lt_s x_K_would_24 ⟨by omega, by omega⟩ (fun h24 => ?_) (fun h24 => ?_) | refine kw_if_lt_n x_K_would_24 (by omega) (fun h24 => ?_) (fun h24 => ?_) | refine kw_if_lt x_K_would_24 (fun h24 => ?_) (fun h24 => ?_)
  · exfalso; first | omega | contradiction | exact absurd (by decide) h24 | exact absurd h24 (by decide)
  · skip
    refine kw_ild_n x_K_would_27 rfl ?_
    refine kw_icon x_K_would_28 ?_
    refine c_K_would_29 (Nat.le_of_ble_eq_true rfl) ?_
    refine s_K_isBelow (b := 3) ?_
    first | refine kw_if_ne_b x_K_would_32 (fun h32 => ?_) (fun h32 => ?_) | refine kw_if_ne_s x_K_would_32 ⟨by omega, by omega⟩ (fun h32 => ?_) (fun h32 => ?_) | refine kw_if_ne_n x_K_would_32 (by omega) (fun h32 => ?_) (fun h32 => ?_) | refine kw_if_ne x_K_would_32 (fun h32 => ?_) (fun h32 => ?_)
    · first
      | exfalso; omega
      | skip
        obtain ⟨w, hw1, hw2, rfl⟩ := vTR (kt_yT (T := 3) (by decide) h32)
        refine kw_ald_n x_K_would_37 rfl ?_
        refine kw_gr x_K_would_38 (by exact isK_k hK) (by exact isK_r1 hK) ?_
        refine c_K_would_41 (by first | exact isC_k hC | exact isC_k hD) (Nat.le_of_ble_eq_true rfl) ?_
        refine s_C_thinkAnew hD hL (by omega) hc.2.2.1 (hc.T u4) hW (kt_wf_hear hW true h1 h2) kt_ev_hear (fun I3 J3 w1 w2 w3 w4 => ?_)
        have hM3 := (hM0.cp hK hf1 hf2).fx hK w1 w2
        have hok : kt_ok P N z np PX X ty tx I J R I3 J3 R := ⟨⟨g, hK, hM3⟩, (kt_up.fd hK (by decide) hf1).tr (kt_up.fx hK (by decide) w1), (kt_up.fd hK (by decide) hf2).tr (kt_up.fx hK (by decide) w2), kt_up.rf⟩
        have hWA : kt_wf (xapo X (xhear true t u X)) := kt_wf_apo (kt_wf_hear hW true h1 h2)
        have e7 := kt_apo7 X (xhear true t u X)
        refine kw_ild_n x_K_would_44 rfl ?_
        rcases (by omega : w = 0 ∨ w = 1 ∨ w = 2) with rfl | rfl | rfl
        · refine kt_wl0 ?_
          refine kw_ald_n x_K_would_72 rfl ?_
          refine c_K_would_73 (by exact isK_k hK) (Nat.le_of_ble_eq_true rfl) ?_
          refine s_K_newApologies hK hM3.2.2.2.1 w3 hW hWA (xap_more hn rfl rfl (fun e => by rw [xhear_e, if_neg (fun q => absurd q.1 (by decide))])) ?_
          refine kw_iret x_K_would_76 ?_
          exact k t u 0 rfl rfl rfl h1 h2 h4 (by decide) I3 J3 R hok
        · refine kt_wl1 ?_
          refine kw_ild x_K_would_77 rfl ?_
          refine kw_iret x_K_would_79 ?_
          exact k t u 1 rfl rfl rfl h1 h2 h4 (by decide) I3 J3 R hok
        · refine kt_wl2 ?_
          refine kw_ald_n x_K_would_80 rfl ?_
          refine kw_gr x_K_would_81 (by exact isK_k hK) (by exact isK_r0 hK) ?_
          refine kw_gr x_K_would_84 (by first | exact isC_k hC | exact isC_k hD) (by first | exact isC_r1 hC | exact isC_r1 hD) ?_
          refine kw_ald_n x_K_would_87 rfl ?_
          refine kw_ild_n x_K_would_88 rfl ?_
          refine c_K_would_89 (by exact isK_k hK) (Nat.le_of_ble_eq_true rfl) ?_
          refine s_K_otherThoughts hK hM3.2.2.2.1 hM3.2.2.2.2.1 w4 hW h1 ?_
          refine kw_ald_n x_K_would_92 rfl ?_
          refine kw_ild_n x_K_would_93 rfl ?_
          refine c_K_would_94 (by exact isK_k hK) (Nat.le_of_ble_eq_true rfl) ?_
          refine s_K_otherThoughts hK hM3.2.2.2.1 hM3.2.2.2.2.1 w4 hW h2 ?_
          refine kw_lor x_K_would_97 ?_
          rw [kS_or]
          refine c_K_would_98 (by first | exact isE_k hC | exact isE_k hD) (Nat.le_of_ble_eq_true rfl) ?_
          refine s_E_goodsOf hC hM3.2.2.2.1.1 hW ?_
          refine kw_iret x_K_would_101 ?_
          have hkk := k t u 2 rfl rfl rfl h1 h2 h4 (by decide) I3 J3 R hok
          have hoe : xgs X (fun e => xot X (xapo X (xhear true t u X)) t e || xot X (xapo X (xhear true t u X)) u e) (xn X) = xwo X t u 2 := (by
            rw [xoth_K (X := X) (show xn (xapo X (xhear true t u X)) = xn X from e7.2.2.1) (fun e he => by rw [e7.2.2.2.2 e 3 (by decide), xhear_e, if_neg (fun q => absurd q.1 (by decide))])]
            show xoth X (xapo X (xhear true t u X)) t u = xoth X (xhear true t u X) t u
            unfold xoth
            rw [xst_7 e7, xst_7 e7, e7.2.2.1]
            have hoo : ∀ b s m0 n, xoe (xapo X (xhear true t u X)) b s m0 n = xoe (xhear true t u X) b s m0 n := fun b s m0 n => by
              induction n with
              | zero => rfl
              | succ n ih => unfold xoe; rw [ih, e7.2.2.2.2 n 3 (by decide)]
            rw [hoo, hoo])
          rw [hoe]
          exact hkk
    · first
      | exfalso; omega
      | skip
        refine kw_icon x_K_would_35 ?_
        refine kw_iret x_K_would_36 ?_
        exact kf (fun h => kt_nT (by decide) h32 (vRT h.2.2.2)) I2 J2 R ⟨⟨g, hK, hM0.cp hK hf1 hf2⟩, kt_up.fd hK (by decide) hf1, kt_up.fd hK (by decide) hf2, kt_up.rf⟩
theorem s_K_wouldRule (hKS : kt_KS P N z np PX X ty tx I J R) (hW : kt_wf X) {a : Int32} (kf : ¬ vR 0 2 a → ∀ I' J' R', kt_ok P N z np PX X ty tx I J R I' J' R' → Q (some (.int (-1))) I' J' R')
    (k : ∀ r, a = nI r → r ≤ 2 → ∀ I' J' R', kt_ok P N z np PX X ty tx I J R I' J' R' → Q (some (.int (nI (xat (xac X) (xT X) (xrul X r)).2))) I' J' R') : KW P i_K_wouldRule N 0 [some (.ref z), some (.int a)] [] N I J R Q := by
  obtain ⟨g, hK, hM0⟩ := hKS
  have hn := hW.2.2.1
  have hT5 := hW.2.1
  have hC := isK_C hK 0 (by decide)
  have hD := isK_C hK 1 (by decide)
  have hL := isK_L hK 1 (by decide)
  have hb0 := isK_b hK 0 (by decide)
  have hb1 := isK_b hK 1 (by decide)
  have hd01 := isK_d hK 0 1 (by decide) (by decide) (by decide)
  have hr3 := hW.1
  refine kw_ald_n x_K_wouldRule_0 rfl ?_
  refine kw_gr x_K_wouldRule_1 (by exact isK_k hK) (by exact isK_r1 hK) ?_
  refine kw_ald_n x_K_wouldRule_4 rfl ?_
  refine kw_gr x_K_wouldRule_5 (by exact isK_k hK) (by exact isK_r0 hK) ?_
  refine c_K_wouldRule_8 (by first | exact isC_k hC | exact isC_k hD) (Nat.le_of_ble_eq_true rfl) ?_
  refine s_C_copyFrom hC hD hM0.2.2.2.1 hM0.2.2.2.2.1 hn (by omega) (fun I1 J1 u1 u2 u3 u4 => ?_)
  refine kw_ald_n x_K_wouldRule_11 rfl ?_
  refine kw_gr x_K_wouldRule_12 (by exact isK_k hK) (by exact isK_r1 hK) ?_
  refine kw_ild_n x_K_wouldRule_15 rfl ?_
  refine c_K_wouldRule_16 (by first | exact isC_k hC | exact isC_k hD) (Nat.le_of_ble_eq_true rfl) ?_
  refine s_C_setRule hD u3 hW (fun hf => ?_) (fun r e1 h1 I2 hc => ?_)
  · first | refine kw_if_ge_n x_K_wouldRule_19 (by omega) (fun h19 => ?_) (fun h19 => ?_) | refine kw_if_ge x_K_wouldRule_19 (fun h19 => ?_) (fun h19 => ?_)
    · exfalso; first | exact absurd (nI_pos' (kt_p31 (by omega))) h19 | omega | contradiction | exact absurd (by decide) h19 | exact absurd h19 (by decide)
    · skip
      refine kw_icon x_K_wouldRule_22 ?_
      refine kw_iret x_K_wouldRule_23 ?_
      exact kf hf I1 J1 R ⟨⟨g, hK, hM0.cp hK u1 u2⟩, kt_up.fd hK (by decide) u1, kt_up.fd hK (by decide) u2, kt_up.rf⟩
  have hf1 := u1.tr hc.1
  have hf2 := u2.tr hc.2.1
  first | refine kw_if_ge_n x_K_wouldRule_19 (by omega) (fun h19 => ?_) (fun h19 => ?_) | refine kw_if_ge x_K_wouldRule_19 (fun h19 => ?_) (fun h19 => ?_)
  · skip
    refine kw_ald_n x_K_wouldRule_24 rfl ?_
    refine kw_gr x_K_wouldRule_25 (by exact isK_k hK) (by exact isK_r1 hK) ?_
    refine c_K_wouldRule_28 (by first | exact isC_k hC | exact isC_k hD) (Nat.le_of_ble_eq_true rfl) ?_
    refine s_C_thinkAnew hD hL (by omega) hc.2.2.1 (hc.T u4) hW (kt_wf_rule hW (by omega)) kt_ev_rul (fun I3 J3 w1 w2 w3 w4 => ?_)
    have hM3 := (hM0.cp hK hf1 hf2).fx hK w1 w2
    have hok : kt_ok P N z np PX X ty tx I J R I3 J3 R := ⟨⟨g, hK, hM3⟩, (kt_up.fd hK (by decide) hf1).tr (kt_up.fx hK (by decide) w1), (kt_up.fd hK (by decide) hf2).tr (kt_up.fx hK (by decide) w2), kt_up.rf⟩
    have hWA : kt_wf (xapo X (xrul X r)) := kt_wf_apo (kt_wf_rule hW (by omega))
    refine kw_ald_n x_K_wouldRule_31 rfl ?_
    refine c_K_wouldRule_32 (by exact isK_k hK) (Nat.le_of_ble_eq_true rfl) ?_
    refine s_K_newApologies hK hM3.2.2.2.1 w3 hW hWA (xap_more hn rfl rfl (fun e => rfl)) ?_
    refine kw_iret x_K_wouldRule_35 ?_
    exact k r e1 h1 I3 J3 R hok
  · exfalso; first | exact absurd (nI_pos' (kt_p31 (by omega))) h19 | omega | contradiction | exact absurd (by decide) h19 | exact absurd h19 (by decide)
end KW2
