/-! the class: rounds -/
theorem xct_full {f : Nat → Bool} : ∀ n, xct f n = n → ∀ e, e < n → f e = true
  | 0, _, e, he => absurd he (Nat.not_lt_zero e)
  | n + 1, h, e, he => by
    have hl := xct_le f n
    unfold xct at h
    have hf : f n = true := by
      cases hq : f n with
      | true => rfl
      | false => rw [hq, if_neg (by decide)] at h; omega
    rw [hf, if_pos rfl] at h
    by_cases hen : e = n
    · rw [hen]; exact hf
    · exact xct_full n (by omega) e (by omega)
def kt_alb (M T : Nat) : Bool := (List.range T).all fun t => M.testBit t == M.testBit 0
theorem kt_full0 : ∀ T, T < 6 → ∀ M, M < 32 → M < 2 ^ T → 1 ≤ M → kt_alb M T = true → M = 2 ^ T - 1 := by decide +kernel
theorem kt_full (T : Nat) (hT : T < 6) (M : Nat) (hM : M < 32) (h1 : M < 2 ^ T) (h2 : 1 ≤ M) (h3 : ∀ t, t < T → M.testBit t = M.testBit 0) : M = 2 ^ T - 1 :=
  kt_full0 T hT M hM h1 h2 (List.all_eq_true.mpr fun t ht => beq_iff_eq.mpr (h3 t (List.mem_range.mp ht)))
theorem xall_iff {X : kt_X} (hW : kt_wf X) : xall X = xn X ↔ ∀ t, t < xT X → kS (xK X t) = kS (xK X 0) := by
  have hn := hW.2.2.1
  have hT := hW.2.1
  constructor
  · intro h t ht
    have hf := xct_full _ h
    refine kS_cg (fun e _ => ?_)
    unfold xK
    by_cases he : e < xn X
    · have hM := of_decide_eq_true (hf e he)
      rw [kt_xkb (by omega), kt_xkb (by omega), hM, Nat.testBit_two_pow_sub_one, Nat.testBit_two_pow_sub_one, decide_eq_true ht, decide_eq_true (show 0 < xT X by omega)]
    · rw [decide_eq_false he]; rfl
  · intro h
    refine xct_all _ (fun e he => decide_eq_true ?_)
    have hx := (hW.2.2.2.2.2.1 e he).2.2.2.2.2.2.2.1
    have h32 := (kt_m32 hW he).1
    refine kt_full (xT X) (by omega) _ h32 hx.2 hx.1 (fun t ht => ?_)
    have h1 := (kS_eq _ _).mp (h t ht) e (by omega)
    unfold xK at h1
    rw [kt_xkb (by omega), kt_xkb (by omega), decide_eq_true he, Bool.true_and, Bool.true_and] at h1
    exact h1
section KD
variable {P : kt_P} {N : Nat} {I : kt_I} {J : kt_J} {R : kt_R} {Q : Option Value → kt_I → kt_J → kt_R → Prop} {lo c z np ty : Nat} {tx : Nat → Nat} {PX : Nat → kt_X} {X : kt_X}
theorem s_C_meetInTurn (hC : kt_isC P N R lo c) {T : Nat} (hT : I c 2 = nI T) (hT5 : T ≤ 5) (hkn : ∀ t, t < 5 → J (c + 13) t = kS (xK X t))
    (k : ∀ J', (∀ a, a ≠ c + 13 → J' a = J a) → (∀ t, t < 5 → J' (c + 13) t = kS (xK (xcv X (T - 1)) t)) → Q none I J' R) : KW P i_C_meetInTurn N 0 [some (.ref c), none, none, none] [] N I J R Q := by
  have loop : ∀ (d j : Nat) (J1 : kt_J) (v2 : Option Value), j + d = T - 1 → (∀ a, a ≠ c + 13 → J1 a = J a) → (∀ t, t < 5 → J1 (c + 13) t = kS (xK (xcv X j) t)) → KW P i_C_meetInTurn N 2 [some (.ref c), some (.int (nI (j + 1))), v2, none] [] N I J1 R Q := by
    intro d
    induction d with
    | zero =>
      intro j J1 v2 h1 h2 h3
      have h4 : j = T - 1 := by omega
      subst h4
      refine kw_ild_n x_C_meetInTurn_2 rfl ?_
      refine kw_ald_n x_C_meetInTurn_3 rfl ?_
      refine kw_gi_e x_C_meetInTurn_4 (by first | exact isC_k hC | exact isC_k hD) (by first | exact hT | exact h3 _ (by omega) | exact rfl) ?_
      first | refine kw_ic_ge_n x_C_meetInTurn_7 ⟨by omega, by omega⟩ (fun h7 => ?_) (fun h7 => ?_) | refine kw_ic_ge x_C_meetInTurn_7 (fun h7 => ?_) (fun h7 => ?_)
      · first
        | exfalso; omega
        | skip
          refine kw_vret x_C_meetInTurn_48 ?_
          exact k J1 h2 h3
      · first
        | exfalso; omega
        | skip
          skip
    | succ d ih =>
      intro j J1 v2 h1 h2 h3
      refine kw_ild_n x_C_meetInTurn_2 rfl ?_
      refine kw_ald_n x_C_meetInTurn_3 rfl ?_
      refine kw_gi_e x_C_meetInTurn_4 (by first | exact isC_k hC | exact isC_k hD) (by first | exact hT | exact h3 _ (by omega) | exact rfl) ?_
      first | refine kw_ic_ge_n x_C_meetInTurn_7 ⟨by omega, by omega⟩ (fun h7 => ?_) (fun h7 => ?_) | refine kw_ic_ge x_C_meetInTurn_7 (fun h7 => ?_) (fun h7 => ?_)
      · first
        | exfalso; omega
        | skip
          skip
      · first
        | exfalso; omega
        | skip
          refine kw_ald_n x_C_meetInTurn_10 rfl ?_
          refine kw_gr x_C_meetInTurn_11 (by first | exact isC_k hC | exact isC_k hD) (by first | exact isC_r5 hC | exact isC_r5 hD) ?_
          refine kw_ild_n x_C_meetInTurn_14 rfl ?_
          refine kw_icon x_C_meetInTurn_15 ?_
          first | refine kw_isub_n x_C_meetInTurn_16 (by omega) ?_ | refine kw_isub x_C_meetInTurn_16 ?_
          refine kw_lald_n x_C_meetInTurn_17 (by first | exact isC_a13 hC | exact isC_a14 hC | exact isC_a15 hC | exact isC_a16 hC | exact isC_a17 hC | exact isC_a13 hD | exact isC_a14 hD | exact isC_a15 hD | exact isC_a16 hD | exact isC_a17 hD) (by omega) (by omega) (by first | exact hT | exact h3 _ (by omega) | exact rfl) ?_
          refine kw_ald_n x_C_meetInTurn_18 rfl ?_
          refine kw_gr x_C_meetInTurn_19 (by first | exact isC_k hC | exact isC_k hD) (by first | exact isC_r5 hC | exact isC_r5 hD) ?_
          refine kw_ild_n x_C_meetInTurn_22 rfl ?_
          refine kw_lald_n x_C_meetInTurn_23 (by first | exact isC_a13 hC | exact isC_a14 hC | exact isC_a15 hC | exact isC_a16 hC | exact isC_a17 hC | exact isC_a13 hD | exact isC_a14 hD | exact isC_a15 hD | exact isC_a16 hD | exact isC_a17 hD) (by omega) (by omega) (by first | exact hT | exact h3 _ (by omega) | exact rfl) ?_
          refine kw_lor x_C_meetInTurn_24 ?_
          rw [kS_or]
          refine kw_lst_n x_C_meetInTurn_25 (by decide) ?_
          refine kw_ald_n x_C_meetInTurn_26 rfl ?_
          refine kw_gr x_C_meetInTurn_27 (by first | exact isC_k hC | exact isC_k hD) (by first | exact isC_r5 hC | exact isC_r5 hD) ?_
          refine kw_ild_n x_C_meetInTurn_30 rfl ?_
          refine kw_icon x_C_meetInTurn_31 ?_
          first | refine kw_isub_n x_C_meetInTurn_32 (by omega) ?_ | refine kw_isub x_C_meetInTurn_32 ?_
          refine kw_lld_n x_C_meetInTurn_33 rfl ?_
          refine kw_last_n x_C_meetInTurn_34 (by first | exact isC_a13 hC | exact isC_a14 hC | exact isC_a15 hC | exact isC_a16 hC | exact isC_a17 hC | exact isC_a13 hD | exact isC_a14 hD | exact isC_a15 hD | exact isC_a16 hD | exact isC_a17 hD) (by omega) (by omega) ?_
          refine kw_ald_n x_C_meetInTurn_35 rfl ?_
          refine kw_gr x_C_meetInTurn_36 (by first | exact isC_k hC | exact isC_k hD) (by first | exact isC_r5 hC | exact isC_r5 hD) ?_
          refine kw_ild_n x_C_meetInTurn_39 rfl ?_
          refine kw_lld_n x_C_meetInTurn_40 rfl ?_
          refine kw_last_n x_C_meetInTurn_41 (by first | exact isC_a13 hC | exact isC_a14 hC | exact isC_a15 hC | exact isC_a16 hC | exact isC_a17 hC | exact isC_a13 hD | exact isC_a14 hD | exact isC_a15 hD | exact isC_a16 hD | exact isC_a17 hD) (by omega) (by omega) ?_
          first | refine kw_iinc_n x_C_meetInTurn_42 (by decide) rfl ?_ | refine kw_iinc x_C_meetInTurn_42 (by decide) rfl ?_
          refine kw_goto x_C_meetInTurn_45 ?_
          refine ih (j + 1) _ _ (by omega) (fun a ha => by rw [kt_uL_ne _ _ _ ha, kt_uL_ne _ _ _ ha]; exact h2 a ha) (fun t ht => ?_)
          have hj : j + 1 - 1 = j := (by omega)
          have hkh := fun e => xK_hear (X := xcv X j) (bo := true) (a := j) (b := j + 1) (t := t) (by omega) (by omega) ht e
          by_cases h4 : t = j + 1
          · subst h4
            rw [kt_uL_eq, hj]
            refine kS_cg (fun e _ => ?_)
            refine Eq.trans ?_ (hkh e).symm
            rw [decide_eq_false (show ¬ j = j + 1 by omega), decide_eq_true rfl]
            cases xK (xcv X j) (j + 1) e <;> cases xK (xcv X j) j e <;> rfl
          · refine kt_uL_nj h4 ?_
            rw [hj]
            by_cases h5 : t = j
            · subst h5
              rw [kt_uL_eq]
              refine kS_cg (fun e _ => ?_)
              refine Eq.trans ?_ (hkh e).symm
              rw [decide_eq_true rfl, decide_eq_false (show ¬ t + 1 = t by omega)]
              cases xK (xcv X t) (t + 1) e <;> cases xK (xcv X t) t e <;> rfl
            · refine kt_uL_nj h5 ((h3 t ht).trans (kS_cg (fun e _ => ?_)))
              refine Eq.trans ?_ (hkh e).symm
              rw [decide_eq_false (show ¬ j = t by omega), decide_eq_false (show ¬ j + 1 = t by omega)]
              cases xK (xcv X j) t e <;> rfl
  refine kw_icon x_C_meetInTurn_0 ?_
  refine kw_ist_n x_C_meetInTurn_1 (by decide) ?_
  exact loop (T - 1) 0 J _ (by omega) (fun _ _ => rfl) hkn
theorem s_K_rounds (hKS : kt_KS P N z np PX X ty tx I J R) (hW : kt_wf X) (k : ∀ I' J' R', kt_ok P N z np PX X ty tx I J R I' J' R' → Q (some (.int (nI (xrn 5 X)))) I' J' R') : KW P i_K_rounds N 0 [some (.ref z), none] [] N I J R Q := by
  obtain ⟨g, hK, hM0⟩ := hKS
  have hn := hW.2.2.1
  have hT5 := hW.2.1
  have hC := isK_C hK 0 (by decide)
  have hD := isK_C hK 1 (by decide)
  have hb0 := isK_b hK 0 (by decide)
  have hb1 := isK_b hK 1 (by decide)
  have hd01 := isK_d hK 0 1 (by decide) (by decide) (by decide)
  have loop : ∀ (f q : Nat) (X' : kt_X) (I1 : kt_I) (J1 : kt_J), f + q = 5 → kt_wf X' → xT X' = xT X → kt_fd (g 1) I I1 → kt_fd (g 1) J J1 → I1 (g 1) 2 = nI (xT X) → (∀ t, t < 5 → J1 (g 1 + 13) t = kS (xK X' t)) → q + xrn f X' = xrn 5 X → KW P i_K_rounds N 13 [some (.ref z), some (.int (nI q))] [] N I1 J1 R Q := by
    intro f
    induction f with
    | zero =>
      intro q X' I1 J1 h1 hW' hTe hf hfJ b2 b10 hq
      have hq2 : q = xrn 5 X := hq
      have hq5 : q = 5 := by omega
      refine kw_ild_n x_K_rounds_13 rfl ?_
      refine kw_icon x_K_rounds_14 ?_
      first | refine kw_ic_ge_n x_K_rounds_15 ⟨by omega, by omega⟩ (fun h15 => ?_) (fun h15 => ?_) | refine kw_ic_ge x_K_rounds_15 (fun h15 => ?_) (fun h15 => ?_)
      · first
        | exfalso; omega
        | skip
          refine kw_ild_n x_K_rounds_41 rfl ?_
          refine kw_iret x_K_rounds_42 ?_
          rw [hq2]
          exact k I1 J1 R ⟨⟨g, hK, hM0.cp hK hf hfJ⟩, kt_up.fd hK (by decide) hf, kt_up.fd hK (by decide) hfJ, kt_up.rf⟩
      · first
        | exfalso; omega
        | skip
          skip
    | succ f ih =>
      intro q X' I1 J1 h1 hW' hTe hf hfJ b2 b10 hq
      have hai := xall_iff hW'
      rw [hTe] at hai
      refine kw_ild_n x_K_rounds_13 rfl ?_
      refine kw_icon x_K_rounds_14 ?_
      first | refine kw_ic_ge_n x_K_rounds_15 ⟨by omega, by omega⟩ (fun h15 => ?_) (fun h15 => ?_) | refine kw_ic_ge x_K_rounds_15 (fun h15 => ?_) (fun h15 => ?_)
      · first
        | exfalso; omega
        | skip
          refine kw_ild_n x_K_rounds_41 rfl ?_
          refine kw_iret x_K_rounds_42 ?_
          have hya := of_decide_eq_true h25
          have hr : xrn (f + 1) X' = 0 := (by unfold xrn; rw [if_pos hya])
          have hq2 : q = xrn 5 X := by omega
          rw [hq2]
          exact k I1 J1 R ⟨⟨g, hK, hM0.cp hK hf hfJ⟩, kt_up.fd hK (by decide) hf, kt_up.fd hK (by decide) hfJ, kt_up.rf⟩
      · first
        | exfalso; omega
        | skip
          refine kw_ald_n x_K_rounds_18 rfl ?_
          refine kw_gr x_K_rounds_19 (by exact isK_k hK) (by exact isK_r1 hK) ?_
          refine c_K_rounds_22 (by first | exact isC_k hC | exact isC_k hD) (Nat.le_of_ble_eq_true rfl) ?_
          refine s_C_allKnow hD b2 hT5 b10 (b := decide (xall X' = xn X')) (by rw [decide_eq_true_eq]; exact hai) ?_
          first | refine kw_if_ne_b x_K_rounds_25 (fun h25 => ?_) (fun h25 => ?_) | refine kw_if_ne_s x_K_rounds_25 ⟨by omega, by omega⟩ (fun h25 => ?_) (fun h25 => ?_) | refine kw_if_ne_n x_K_rounds_25 (by omega) (fun h25 => ?_) (fun h25 => ?_) | refine kw_if_ne x_K_rounds_25 (fun h25 => ?_) (fun h25 => ?_)
          · first
            | exfalso; omega
            | skip
              refine kw_ild_n x_K_rounds_41 rfl ?_
              refine kw_iret x_K_rounds_42 ?_
              have hya := of_decide_eq_true h25
              have hr : xrn (f + 1) X' = 0 := (by unfold xrn; rw [if_pos hya])
              have hq2 : q = xrn 5 X := by omega
              rw [hq2]
              exact k I1 J1 R ⟨⟨g, hK, hM0.cp hK hf hfJ⟩, kt_up.fd hK (by decide) hf, kt_up.fd hK (by decide) hfJ, kt_up.rf⟩
          · first
            | exfalso; omega
            | skip
              refine kw_ald_n x_K_rounds_28 rfl ?_
              refine kw_gr x_K_rounds_29 (by exact isK_k hK) (by exact isK_r1 hK) ?_
              refine c_K_rounds_32 (by first | exact isC_k hC | exact isC_k hD) (Nat.le_of_ble_eq_true rfl) ?_
              refine s_C_meetInTurn hD b2 hT5 b10 (fun J2 w1 w2 => ?_)
              first | refine kw_iinc_n x_K_rounds_35 (by decide) rfl ?_ | refine kw_iinc x_K_rounds_35 (by decide) rfl ?_
              refine kw_goto x_K_rounds_38 ?_
              have hna := of_decide_eq_false h25
              have hkk := xcv_k X' (xT X - 1)
              exact ih (q + 1) (xcv X' (xT X - 1)) I1 J2 (by omega) (xcv_wf hW' _ (by omega)) (by rw [hkk.2.1, hTe]) hf (hfJ.tr (fun a ha => w1 a (by omega))) b2 w2 (by
                have hr : xrn (f + 1) X' = xrn f (xcv X' (xT X' - 1)) + 1 := (by rw [xrn, if_neg hna])
                rw [hTe] at hr
                omega)
  refine kw_ald_n x_K_rounds_0 rfl ?_
  refine kw_gr x_K_rounds_1 (by exact isK_k hK) (by exact isK_r1 hK) ?_
  refine kw_ald_n x_K_rounds_4 rfl ?_
  refine kw_gr x_K_rounds_5 (by exact isK_k hK) (by exact isK_r0 hK) ?_
  refine c_K_rounds_8 (by first | exact isC_k hC | exact isC_k hD) (Nat.le_of_ble_eq_true rfl) ?_
  refine s_C_copyFrom hC hD hM0.2.2.2.1 hM0.2.2.2.2.1 hn (by omega) (fun I1 J1 u1 u2 u3 u4 => ?_)
  refine kw_icon x_K_rounds_11 ?_
  refine kw_ist_n x_K_rounds_12 (by decide) ?_
  exact loop 5 0 X I1 J1 (by omega) hW rfl u1 u2 u3.2.1 u3.2.2.2.2.1 (Nat.zero_add _)
end KD
