/-! the class: a town hears, two towns meet -/
theorem xct_two {f g h : Nat → Bool} : ∀ n, (∀ e, e < n → h e = (f e || g e) ∧ (f e && g e) = false) → xct f n + xct g n = xct h n
  | 0, _ => rfl
  | n + 1, hh => by
    have ih := xct_two (f := f) (g := g) (h := h) n (fun e he => hh e (by omega))
    have h1 := hh n (by omega)
    unfold xct
    cases hf : f n <;> cases hg : g n <;> rw [hf, hg] at h1 <;> simp at h1 <;> rw [h1] <;> simp <;> omega
theorem xK_hear {X : kt_X} {bo : Bool} {a b t : Nat} (ha : a < 5) (hb : b < 5) (ht : t < 5) (e : Nat) : xK (xhear bo a b X) t e = (xK X t e || (decide (a = t) && xK X b e) || (bo && decide (b = t) && xK X a e)) := by
  unfold xK
  rw [show xn (xhear bo a b X) = xn X from rfl, kt_xkb ht, kt_xkb ht, kt_xkb ha, kt_xkb hb, xhear_e]
  by_cases he : e < xn X
  · rw [if_pos ⟨rfl, he⟩, xhm_bit, decide_eq_true he]
    simp
  · rw [decide_eq_false he]
    simp
theorem xSy_hear {X : kt_X} {bo : Bool} {a b t : Nat} (e : Nat) : xSy (xhear bo a b X) t e = xSy X t e := by
  unfold xSy
  rw [show xn (xhear bo a b X) = xn X from rfl, xhear_e, if_neg (fun q => absurd q.1 (by decide))]
theorem kt_mx2 {x y : Nat} (hx : x < 2147483648) (hy : y < 2147483648) : (if nI x < nI y then nI y else nI x) = nI (if y < x then x else y) := by
  by_cases h : x < y
  · rw [if_pos ((nI_ltI (kt_p31 hx) (kt_p31 hy)).mpr h), if_neg (by omega)]
  · rw [if_neg (fun q => h ((nI_ltI (kt_p31 hx) (kt_p31 hy)).mp q))]
    by_cases h2 : y < x
    · rw [if_pos h2]
    · rw [if_neg h2, show x = y by omega]
theorem xhn_K {X : kt_X} (hW : kt_wf X) {t u : Nat} (ht : t < 5) (hu : u < 5) : xct (fun e => xK X u e && !xK X t e) 60 = xhn false t u X := by
  unfold xhn
  rw [← xct_60 hW.2.2.1]
  refine xct_cg 60 (fun e _ => ?_)
  unfold xK xhc
  rw [kt_xkb ht, kt_xkb hu]
  by_cases he : e < xn X
  · simp [he]
  · simp [he]
theorem xhm_two {t u : Nat} (htu : t ≠ u) (M : Nat) : xhm false u t (xhm false t u M) = xhm true t u M := by
  apply Nat.eq_of_testBit_eq
  intro i
  simp only [xhm_bit]
  by_cases h1 : t = i
  · subst h1
    rw [decide_eq_false (show ¬ u = t from fun q => htu q.symm)]
    cases M.testBit t <;> cases M.testBit u <;> simp
  · rw [decide_eq_false h1]
    by_cases h2 : u = i
    · subst h2
      cases M.testBit t <;> cases M.testBit u <;> simp
    · rw [decide_eq_false h2]
      simp
theorem xhear_two {X : kt_X} {t u : Nat} (htu : t ≠ u) : xhear false u t (xhear false t u X) = xhear true t u X := by
  have hc : xc (xhear false u t (xhear false t u X)) = xc (xhear true t u X) := by
    funext i
    have e1 : xc (xhear false t u X) t = if xc X u < xc X t then xc X t else xc X u := by rw [xhear_c, xup_ne _ _ htu, xup_eq]
    have e2 : xc (xhear false t u X) u = xc X u := by rw [xhear_c, xup_eq]; rfl
    rw [xhear_c false u t (xhear false t u X) i, xhear_c true t u X i, e1, e2]
    by_cases h1 : i = t
    · subst h1
      rw [xup_eq, xup_ne _ _ htu, xup_eq]
      rfl
    · rw [xup_ne _ _ h1]
      by_cases h2 : i = u
      · subst h2
        rw [xup_eq, xup_eq]
        show _ = (if true = true then _ else _)
        rw [if_pos rfl]
        split <;> split <;> omega
      · rw [xup_ne _ _ h2, xup_ne _ _ h2, xup_ne _ _ h1, xhear_c, xup_ne _ _ h2, xup_ne _ _ h1]
  have he : xe (xhear false u t (xhear false t u X)) = xe (xhear true t u X) := by
    funext e f
    rw [xhear_e false u t (xhear false t u X) e f, xhear_e true t u X e f, show xn (xhear false t u X) = xn X from rfl]
    by_cases h : f = 7 ∧ e < xn X
    · rw [if_pos h, if_pos h, xhear_e, if_pos ⟨rfl, h.2⟩, xhm_two htu]
    · rw [if_neg h, if_neg h, xhear_e, if_neg h]
  show (xr X, xT X, xn X, xc (xhear false u t (xhear false t u X)), xe (xhear false u t (xhear false t u X))) = (xr X, xT X, xn X, xc (xhear true t u X), xe (xhear true t u X))
  rw [hc, he]
theorem xhn_two {X : kt_X} {t u : Nat} (htu : t ≠ u) : xhn false t u X + xhn false u t (xhear false t u X) = xhn true t u X := by
  unfold xhn
  rw [show xn (xhear false t u X) = xn X from rfl]
  refine xct_two (xn X) (fun e he => ?_)
  rw [xhear_e, if_pos ⟨rfl, he⟩]
  unfold xhc
  simp only [xhm_bit]
  have hut : ¬ u = t := fun q => htu q.symm
  cases (xe X e 7).testBit t <;> cases (xe X e 7).testBit u <;> simp [htu, hut]
theorem kt_cg.tr {c : Nat} {Y Z : kt_X} {I I1 I2 : kt_I} {J J1 J2 : kt_J} (h : kt_cg c Y I J I1 J1) (h' : kt_cg c Z I1 J1 I2 J2) : kt_cg c Z I J I2 J2 :=
  ⟨h.1.tr h'.1, h.2.1.tr h'.2.1, h'.2.2.1, h'.2.2.2.1.trans h.2.2.2.1, h'.2.2.2.2.1.trans h.2.2.2.2.1, h'.2.2.2.2.2.1.trans h.2.2.2.2.2.1, h'.2.2.2.2.2.2.trans h.2.2.2.2.2.2⟩
section CH
variable {P : kt_P} {N : Nat} {I : kt_I} {J : kt_J} {R : kt_R} {Q : Option Value → kt_I → kt_J → kt_R → Prop} {lo c : Nat} {X : kt_X}
theorem s_C_letHear (hC : kt_isC P N R lo c) (hB : kt_B c X I J) (hW : kt_wf X) {a b : Int32} (kf : ¬ (vT (xT X) a ∧ vT (xT X) b ∧ a ≠ b) → Q (some (.int (-1))) I J R)
    (k : ∀ t u, a = nI t → b = nI u → t < xT X → u < xT X → t ≠ u → ∀ I' J', kt_cg c (xhear false t u X) I J I' J' → Q (some (.int (nI (xhn false t u X)))) I' J' R) : KW P i_C_letHear N 0 [some (.ref c), some (.int a), some (.int b), none] [] N I J R Q := by
  have hn := hW.2.2.1
  have hT5 := hW.2.1
  obtain ⟨hV, b2, b3, b9, b10, b13⟩ := id hB
  have hcl := hW.2.2.2.1
  refine kw_ald_n x_C_letHear_0 rfl ?_
  refine kw_ild_n x_C_letHear_1 rfl ?_
  refine c_C_letHear_2 (by exact isC_k hC) (Nat.le_of_ble_eq_true rfl) ?_
  refine s_C_isTown hC b2 ?_
  first | refine kw_if_eq_b x_C_letHear_5 (fun h5 => ?_) (fun h5 => ?_) | refine kw_if_eq_n x_C_letHear_5 (by omega) (fun h5 => ?_) (fun h5 => ?_) | refine kw_if_eq x_C_letHear_5 (fun h5 => ?_) (fun h5 => ?_)
  · first
    | exfalso; omega
    | skip
      refine kw_icon x_C_letHear_21 ?_
      refine kw_iret x_C_letHear_22 ?_
      exact kf (fun h => by first | exact kt_nT (by omega) h5 h.1 | exact kt_nT (by omega) h13 h.2.1 | exact h.2.2 (by rw [h18]))
  · first
    | exfalso; omega
    | skip
      obtain ⟨t, ht, rfl⟩ := kt_yT (by omega) h5
      have hct := hcl t
      refine kw_ald_n x_C_letHear_8 rfl ?_
      refine kw_ild_n x_C_letHear_9 rfl ?_
      refine c_C_letHear_10 (by exact isC_k hC) (Nat.le_of_ble_eq_true rfl) ?_
      refine s_C_isTown hC b2 ?_
      first | refine kw_if_eq_b x_C_letHear_13 (fun h13 => ?_) (fun h13 => ?_) | refine kw_if_eq_n x_C_letHear_13 (by omega) (fun h13 => ?_) (fun h13 => ?_) | refine kw_if_eq x_C_letHear_13 (fun h13 => ?_) (fun h13 => ?_)
      · first
        | exfalso; omega
        | skip
          refine kw_icon x_C_letHear_21 ?_
          refine kw_iret x_C_letHear_22 ?_
          exact kf (fun h => by first | exact kt_nT (by omega) h5 h.1 | exact kt_nT (by omega) h13 h.2.1 | exact h.2.2 (by rw [h18]))
      · first
        | exfalso; omega
        | skip
          obtain ⟨u, hu, rfl⟩ := kt_yT (by omega) h13
          have hcu := hcl u
          refine kw_ild_n x_C_letHear_16 rfl ?_
          refine kw_ild_n x_C_letHear_17 rfl ?_
          first | refine kw_ic_ne_n x_C_letHear_18 ⟨by omega, by omega⟩ (fun h18 => ?_) (fun h18 => ?_) | refine kw_ic_ne x_C_letHear_18 (fun h18 => ?_) (fun h18 => ?_)
          · first
            | exfalso; omega
            | skip
              refine kw_ald_n x_C_letHear_23 rfl ?_
              refine kw_ild_n x_C_letHear_24 rfl ?_
              refine kw_ald_n x_C_letHear_25 rfl ?_
              refine kw_gr x_C_letHear_26 (by exact isC_k hC) (by exact isC_r5 hC) ?_
              refine kw_ild_n x_C_letHear_29 rfl ?_
              refine kw_lald_n x_C_letHear_30 (by first | exact isC_a13 hC | exact isC_a14 hC | exact isC_a15 hC | exact isC_a16 hC | exact isC_a17 hC) (by omega) (by omega) (by first | exact b2 | exact b9 _ (by omega) | exact b10 _ (by omega) | exact rfl) ?_
              refine c_C_letHear_31 (by exact isC_k hC) (Nat.le_of_ble_eq_true rfl) ?_
              refine s_C_newsFor hC b10 (by omega) ?_
              rw [xhn_K hW (by omega) (by omega)]
              refine kw_ist_n x_C_letHear_34 (by decide) ?_
              refine kw_ald_n x_C_letHear_35 rfl ?_
              refine kw_gr x_C_letHear_36 (by exact isC_k hC) (by exact isC_r5 hC) ?_
              refine kw_ild_n x_C_letHear_39 rfl ?_
              refine kw_dup2 x_C_letHear_40 rfl rfl ?_
              refine kw_lald_n x_C_letHear_41 (by first | exact isC_a13 hC | exact isC_a14 hC | exact isC_a15 hC | exact isC_a16 hC | exact isC_a17 hC) (by omega) (by omega) (by first | exact b2 | exact b9 _ (by omega) | exact b10 _ (by omega) | exact rfl) ?_
              refine kw_ald_n x_C_letHear_42 rfl ?_
              refine kw_gr x_C_letHear_43 (by exact isC_k hC) (by exact isC_r5 hC) ?_
              refine kw_ild_n x_C_letHear_46 rfl ?_
              refine kw_lald_n x_C_letHear_47 (by first | exact isC_a13 hC | exact isC_a14 hC | exact isC_a15 hC | exact isC_a16 hC | exact isC_a17 hC) (by omega) (by omega) (by first | exact b2 | exact b9 _ (by omega) | exact b10 _ (by omega) | exact rfl) ?_
              refine kw_lor x_C_letHear_48 ?_
              refine kw_last_n x_C_letHear_49 (by first | exact isC_a13 hC | exact isC_a14 hC | exact isC_a15 hC | exact isC_a16 hC | exact isC_a17 hC) (by omega) (by omega) ?_
              refine kw_ald_n x_C_letHear_50 rfl ?_
              refine kw_gr x_C_letHear_51 (by exact isC_k hC) (by exact isC_r4 hC) ?_
              refine kw_ild_n x_C_letHear_54 rfl ?_
              refine kw_ald_n x_C_letHear_55 rfl ?_
              refine kw_gr x_C_letHear_56 (by exact isC_k hC) (by exact isC_r4 hC) ?_
              refine kw_ild_n x_C_letHear_59 rfl ?_
              refine kw_iald_n x_C_letHear_60 (by first | exact isC_a5 hC | exact isC_a6 hC | exact isC_a7 hC | exact isC_a8 hC | exact isC_a9 hC | exact isC_a10 hC | exact isC_a11 hC | exact isC_a12 hC | exact isL_a1 hL | exact isL_a2 hL) (by omega) (by omega) (by first | exact b2 | exact b9 _ (by omega) | exact b10 _ (by omega) | exact rfl) ?_
              refine kw_ald_n x_C_letHear_61 rfl ?_
              refine kw_gr x_C_letHear_62 (by exact isC_k hC) (by exact isC_r4 hC) ?_
              refine kw_ild_n x_C_letHear_65 rfl ?_
              refine kw_iald_n x_C_letHear_66 (by first | exact isC_a5 hC | exact isC_a6 hC | exact isC_a7 hC | exact isC_a8 hC | exact isC_a9 hC | exact isC_a10 hC | exact isC_a11 hC | exact isC_a12 hC | exact isL_a1 hL | exact isL_a2 hL) (by omega) (by omega) (by first | exact b2 | exact b9 _ (by omega) | exact b10 _ (by omega) | exact rfl) ?_
              refine kw_max x_C_letHear_67 (Nat.le_of_ble_eq_true rfl) ?_
              rw [kt_mx2 (by omega) (by omega)]
              refine kw_iast_n x_C_letHear_70 (by first | exact isC_a5 hC | exact isC_a6 hC | exact isC_a7 hC | exact isC_a8 hC | exact isC_a9 hC | exact isC_a10 hC | exact isC_a11 hC | exact isC_a12 hC | exact isL_a1 hL | exact isL_a2 hL) (by omega) (by omega) ?_
              refine kw_ild_n x_C_letHear_71 rfl ?_
              refine kw_iret x_C_letHear_72 ?_
              refine k t u rfl rfl ht hu h18 _ _ ⟨fun a ha => kt_u1_ne _ _ _ (by omega), fun a ha => kt_uL_ne _ _ _ (by omega), ⟨⟨kt_u1_na (by omega) hV.1, fun e f he hf => kt_u1_na (by omega) ?_⟩, kt_u1_na (by omega) b2, kt_u1_na (by omega) b3, fun t' ht' => ?_, fun t' ht' => ?_, fun t' ht' => kt_uL_na (by omega) ((b13 t' ht').trans (kS_cg (fun e _ => (xSy_hear e).symm)))⟩, kt_u1_na (by omega) rfl, kt_uL_ne _ _ _ (by omega), kt_uL_ne _ _ _ (by omega), kt_uL_ne _ _ _ (by omega)⟩
              · rw [xhear_e, if_neg (by omega)]
                exact hV.2 e f he hf
              · rw [xhear_c]
                by_cases h2 : t' = u
                · subst h2
                  rw [xup_eq]
                  exact kt_u1_nj (by omega) (b9 t' ht')
                · rw [xup_ne _ _ h2]
                  by_cases h1 : t' = t
                  · subst h1; rw [xup_eq]; exact kt_u1_eq
                  · rw [xup_ne _ _ h1]
                    exact kt_u1_nj h1 (b9 t' ht')
              · by_cases h1 : t' = t
                · subst h1
                  rw [kt_uL_eq, kS_or]
                  refine kS_cg (fun e _ => ?_)
                  rw [xK_hear (by omega) (by omega) ht', decide_eq_true rfl]
                  simp
                · refine kt_uL_nj h1 ((b10 t' ht').trans (kS_cg (fun e _ => ?_)))
                  rw [xK_hear (by omega) (by omega) ht', decide_eq_false (fun q => h1 q.symm)]
                  simp
          · first
            | exfalso; omega
            | skip
              refine kw_icon x_C_letHear_21 ?_
              refine kw_iret x_C_letHear_22 ?_
              exact kf (fun h => by first | exact kt_nT (by omega) h5 h.1 | exact kt_nT (by omega) h13 h.2.1 | exact h.2.2 (by rw [h18]))
theorem s_C_letMeet (hC : kt_isC P N R lo c) (hB : kt_B c X I J) (hW : kt_wf X) {a b : Int32} (kf : ¬ (vT (xT X) a ∧ vT (xT X) b ∧ a ≠ b) → Q (some (.int (-1))) I J R)
    (k : ∀ t u, a = nI t → b = nI u → t < xT X → u < xT X → t ≠ u → ∀ I' J', kt_cg c (xhear true t u X) I J I' J' → Q (some (.int (nI (xhn true t u X)))) I' J' R) : KW P i_C_letMeet N 0 [some (.ref c), some (.int a), some (.int b), none] [] N I J R Q := by
  have hn := hW.2.2.1
  have hT5 := hW.2.1
  obtain ⟨hV, b2, b3, b9, b10, b13⟩ := id hB
  refine kw_ald_n x_C_letMeet_0 rfl ?_
  refine kw_ild_n x_C_letMeet_1 rfl ?_
  refine kw_ild_n x_C_letMeet_2 rfl ?_
  refine c_C_letMeet_3 (by exact isC_k hC) (Nat.le_of_ble_eq_true rfl) ?_
  refine s_C_letHear hC hB hW (fun hf => ?_) (fun t u e1 e2 ht hu htu I2 J2 hc => ?_)
  · refine kw_ist_n x_C_letMeet_6 (by decide) ?_
    refine kw_ild_n x_C_letMeet_7 rfl ?_
    first | refine kw_if_ge_n x_C_letMeet_8 (by omega) (fun h8 => ?_) (fun h8 => ?_) | refine kw_if_ge x_C_letMeet_8 (fun h8 => ?_) (fun h8 => ?_)
    · exfalso; first | exact absurd (nI_pos' (kt_p31 (by omega))) h8 | omega | contradiction | exact absurd (by decide) h8 | exact absurd h8 (by decide)
    · skip
      refine kw_ild_n x_C_letMeet_11 rfl ?_
      refine kw_goto x_C_letMeet_12 ?_
      refine kw_iret x_C_letMeet_23 ?_
      exact kf hf
  subst e1; subst e2
  have hxb : xhn false t u X ≤ xn X := xct_le _ _
  refine kw_ist_n x_C_letMeet_6 (by decide) ?_
  refine kw_ild_n x_C_letMeet_7 rfl ?_
  first | refine kw_if_ge_n x_C_letMeet_8 (by omega) (fun h8 => ?_) (fun h8 => ?_) | refine kw_if_ge x_C_letMeet_8 (fun h8 => ?_) (fun h8 => ?_)
  · skip
    refine kw_ild_n x_C_letMeet_15 rfl ?_
    refine kw_ald_n x_C_letMeet_16 rfl ?_
    refine kw_ild_n x_C_letMeet_17 rfl ?_
    refine kw_ild_n x_C_letMeet_18 rfl ?_
    refine c_C_letMeet_19 (by exact isC_k hC) (Nat.le_of_ble_eq_true rfl) ?_
    refine s_C_letHear hC hc.2.2.1 (kt_wf_hear hW false ht hu) (fun hf => absurd ⟨⟨u, hu, rfl⟩, ⟨t, ht, rfl⟩, fun q => htu (kt_inj q (by omega) (by omega))⟩ hf) (fun u' t' e1 e2 hu' ht' hut I3 J3 hc3 => ?_)
    have hTq : xT (xhear false t u X) = xT X := rfl
    obtain rfl : u = u' := (kt_inj e1 (by omega) (by omega)).symm
    obtain rfl : t = t' := (kt_inj e2 (by omega) (by omega)).symm
    first | refine kw_iadd_n x_C_letMeet_22 ?_ | refine kw_iadd x_C_letMeet_22 ?_
    refine kw_iret x_C_letMeet_23 ?_
    rw [xhn_two htu]
    rw [xhear_two htu] at hc3
    exact k t u rfl rfl ht hu htu I3 J3 (hc.tr hc3)
  · exfalso; first | exact absurd (nI_pos' (kt_p31 (by omega))) h8 | omega | contradiction | exact absurd (by decide) h8 | exact absurd h8 (by decide)
end CH
