section MA
variable {P : kt_P} {N : Nat} {I : kt_I} {J : kt_J} {R : kt_R} {Q : Option Value → kt_I → kt_J → kt_R → Prop} {m : Nat} {X : kt_X}

theorem s_M_apologizes (hM : kt_isM P N R m) (hE : kt_enc (I (m + 1)) X) (hW : kt_wf X) {ac : Nat → Nat → Bool} (hA : ∀ t e, t < xT X → e < 60 → I (m + 9) (60 * t + e) = kt_bo (ac t e))
    (k : ∀ I', kt_l3 m I I' → kt_enc (I' (m + 1)) (xat ac (xT X) X).1 → Q (some (.int (nI (xat ac (xT X) X).2))) I' J R) : KW P i_M_apologizes N 0 [some (.ref m), some (.int (nI (xT X))), none, none, none] [] N I J R Q := by
  have hn := hW.2.2.1
  have hT := hW.2.1
  have outer : ∀ (d t : Nat) (I1 : kt_I) (v : Option Value), t + d = xT X → kt_l3 m I I1 → kt_enc (I1 (m + 1)) (xat ac t X).1 → KW P i_M_apologizes N 4 [some (.ref m), some (.int (nI (xT X))), some (.int (nI (xat ac t X).2)), some (.int (nI t)), v] [] N I1 J R Q := by
    intro d
    induction d with
    | zero =>
      intro t I1 v h1 hl hE
      have h3 : t = xT X := by omega
      subst h3
      refine kw_ild_n x_M_apologizes_4 rfl ?_
      refine kw_ild_n x_M_apologizes_5 rfl ?_
      first | refine kw_ic_ge_n x_M_apologizes_6 ⟨by omega, by omega⟩ (fun h6 => ?_) (fun h6 => ?_) | refine kw_ic_ge x_M_apologizes_6 (fun h6 => ?_) (fun h6 => ?_)
      · first
        | exfalso; omega
        | skip
          refine kw_ild_n x_M_apologizes_104 rfl ?_
          refine kw_iret x_M_apologizes_105 ?_
          exact k I1 hl hE
      · first
        | exfalso; omega
        | skip
          skip
    | succ d ih =>
      intro t I1 v h1 hl hE
      have h7 := xat_7 (ac := ac) (X := X) t
      have hW1 := xat_wf (ac := ac) hW (t := t) (by omega)
      have hn1 := hW1.2.2.1
      have inner : ∀ (d' e : Nat) (I3 : kt_I), e + d' = xn X → kt_l3 m I1 I3 → (∀ e, e < xn X → I3 (m + 6) e = kt_sc (xst X t e)) → kt_enc (I3 (m + 1)) (xae (ac t) (fun e => decide (xst X t e = 1)) t e (xat ac t X).1).1 →
          KW P i_M_apologizes N 17 [some (.ref m), some (.int (nI (xT X))), some (.int (nI ((xat ac t X).2 + (xae (ac t) (fun e => decide (xst X t e = 1)) t e (xat ac t X).1).2))), some (.int (nI t)), some (.int (nI e))] [] N I3 J R Q := by
        intro d'
        induction d' with
        | zero =>
          intro e I3 h4 hl3 hS hE
          have h5 : e = xn X := by omega
          subst h5
          have h8 := (xae_7 (a := ac t) (s := fun e => decide (xst X t e = 1)) (t := t) (X := (xat ac t X).1) (xn X)).2.2.1
          have h9 := h7.2.2.1
          refine kw_ild x_M_apologizes_17 rfl ?_
          refine kw_ald_n x_M_apologizes_19 rfl ?_
          refine kw_gr x_M_apologizes_20 (by exact isM_k hM) (by exact isM_r0 hM) ?_
          refine kw_icon x_M_apologizes_23 ?_
          refine kw_iald_n x_M_apologizes_24 (by first | exact isM_a1 hM | exact isM_a2 hM | exact isM_a3 hM | exact isM_a4 hM | exact isM_a5 hM | exact isM_a6 hM | exact isM_a7 hM | exact isM_a8 hM | exact isM_a10 hM | exact isM_a11 hM) (by omega) (by omega) (by first | exact hE.1 | exact hE.2.1 | exact hE.2.2.1 | exact hS _ (by omega) | exact hAe | exact rfl) ?_
          first | refine kw_ic_ge_n x_M_apologizes_25 ⟨by omega, by omega⟩ (fun h25 => ?_) (fun h25 => ?_) | refine kw_ic_ge x_M_apologizes_25 (fun h25 => ?_) (fun h25 => ?_)
          · first
            | exfalso; omega
            | skip
              first | refine kw_iinc_n x_M_apologizes_98 (by decide) rfl ?_ | refine kw_iinc x_M_apologizes_98 (by decide) rfl ?_
              refine kw_goto x_M_apologizes_101 ?_
              exact ih (t + 1) I3 _ (by omega) (hl.tr hl3) hE
          · first
            | exfalso; omega
            | skip
              skip
        | succ d' ih' =>
          intro e I3 h4 hl3 hS hE
          have h8 := (xae_7 (a := ac t) (s := fun e => decide (xst X t e = 1)) (t := t) (X := (xat ac t X).1) e).2.2.1
          have h9 := h7.2.2.1
          have hAe : I3 (m + 9) (60 * t + e) = kt_bo (ac t e) := by
            rw [hl3.1 _ (by omega) (by omega) (by omega) (by omega) (by omega), hl.1 _ (by omega) (by omega) (by omega) (by omega) (by omega)]
            exact hA t e (by omega) (by omega)
          have hWe := xae_wf (a := ac t) (s := fun e => decide (xst X t e = 1)) hW1 (t := t) (by rw [h7.2.1]; omega) e
          have hn1 := hWe.2.2.1
          have hM8 : xe (xae (ac t) (fun e => decide (xst X t e = 1)) t e (xat ac t X).1).1 e 8 < 32 := (kt_m32 hWe (by omega)).2
          refine kw_ild x_M_apologizes_17 rfl ?_
          refine kw_ald_n x_M_apologizes_19 rfl ?_
          refine kw_gr x_M_apologizes_20 (by exact isM_k hM) (by exact isM_r0 hM) ?_
          refine kw_icon x_M_apologizes_23 ?_
          refine kw_iald_n x_M_apologizes_24 (by first | exact isM_a1 hM | exact isM_a2 hM | exact isM_a3 hM | exact isM_a4 hM | exact isM_a5 hM | exact isM_a6 hM | exact isM_a7 hM | exact isM_a8 hM | exact isM_a10 hM | exact isM_a11 hM) (by omega) (by omega) (by first | exact hE.1 | exact hE.2.1 | exact hE.2.2.1 | exact hS _ (by omega) | exact hAe | exact rfl) ?_
          first | refine kw_ic_ge_n x_M_apologizes_25 ⟨by omega, by omega⟩ (fun h25 => ?_) (fun h25 => ?_) | refine kw_ic_ge x_M_apologizes_25 (fun h25 => ?_) (fun h25 => ?_)
          · first
            | exfalso; omega
            | skip
              skip
          · first
            | exfalso; omega
            | skip
              refine kw_ald_n x_M_apologizes_28 rfl ?_
              refine kw_gr x_M_apologizes_29 (by exact isM_k hM) (by exact isM_r12 hM) ?_
              refine kw_bip x_M_apologizes_32 ?_
              refine kw_ild_n x_M_apologizes_34 rfl ?_
              first | refine kw_imul_n x_M_apologizes_35 ?_ | refine kw_imul x_M_apologizes_35 ?_
              refine kw_ild x_M_apologizes_36 rfl ?_
              first | refine kw_iadd_n x_M_apologizes_38 ?_ | refine kw_iadd x_M_apologizes_38 ?_
              refine kw_zald_n x_M_apologizes_39 (by exact isM_a9 hM) (by omega) (by omega) (by first | exact hE.1 | exact hE.2.1 | exact hE.2.2.1 | exact hS _ (by omega) | exact hAe | exact rfl) ?_
              first | refine kw_if_eq_b x_M_apologizes_40 (fun h40 => ?_) (fun h40 => ?_) | refine kw_if_eq_n x_M_apologizes_40 (by omega) (fun h40 => ?_) (fun h40 => ?_) | refine kw_if_eq x_M_apologizes_40 (fun h40 => ?_) (fun h40 => ?_)
              · first
                | exfalso; omega
                | skip
                  first | refine kw_iinc_n x_M_apologizes_92 (by decide) rfl ?_ | refine kw_iinc x_M_apologizes_92 (by decide) rfl ?_
                  refine kw_goto x_M_apologizes_95 ?_
                  first
                    | (have h10 : xae (ac t) (fun e => decide (xst X t e = 1)) t (e + 1) (xat ac t X).1 = xae (ac t) (fun e => decide (xst X t e = 1)) t e (xat ac t X).1 := (by
                        rw [xae, if_neg]
                        simp [*])
                       refine h10 ▸ ih' (e + 1) _ (by omega) hl3 hS ?_
                       rw [h10]
                       exact hE)
                    | (have h10 : xae (ac t) (fun e => decide (xst X t e = 1)) t (e + 1) (xat ac t X).1 = (xso (xae (ac t) (fun e => decide (xst X t e = 1)) t e (xat ac t X).1).1 e (xe (xae (ac t) (fun e => decide (xst X t e = 1)) t e (xat ac t X).1).1 e 8 ||| 2 ^ t), (xae (ac t) (fun e => decide (xst X t e = 1)) t e (xat ac t X).1).2 + 1) := (by
                        rw [xae, if_pos]
                        simp [*])
                       have h11 := ih' (e + 1) (kt_u1 I3 (m + 1) (8 + 9 * e + 8) (nI (xe (xae (ac t) (fun e => decide (xst X t e = 1)) t e (xat ac t X).1).1 e 8 ||| 2 ^ t))) (by omega) (hl3.tr ⟨fun a g1 g2 g3 g4 g5 => kt_u1_ne _ _ _ g2, fun j _ => by simp [kt_u1]⟩) (fun e' he' => by rw [kt_u1_ne _ _ _ (by omega)]; exact hS e' he')
                       rw [h10] at h11
                       exact h11 (kt_enc_so hE))
              · first
                | exfalso; omega
                | skip
                  refine kw_ald_n x_M_apologizes_43 rfl ?_
                  refine kw_gr x_M_apologizes_44 (by exact isM_k hM) (by exact isM_r8 hM) ?_
                  refine kw_ild x_M_apologizes_47 rfl ?_
                  refine kw_iald_n x_M_apologizes_49 (by first | exact isM_a1 hM | exact isM_a2 hM | exact isM_a3 hM | exact isM_a4 hM | exact isM_a5 hM | exact isM_a6 hM | exact isM_a7 hM | exact isM_a8 hM | exact isM_a10 hM | exact isM_a11 hM) (by omega) (by omega) (by first | exact hE.1 | exact hE.2.1 | exact hE.2.2.1 | exact hS _ (by omega) | exact hAe | exact rfl) ?_
                  refine kw_icon x_M_apologizes_50 ?_
                  first | refine kw_ic_ne_c x_M_apologizes_51 (xst_4 _ _ _) (fun h51 => ?_) (fun h51 => ?_) | refine kw_ic_ne_d x_M_apologizes_51 (xst_4 _ _ _) (by decide) (fun h51 => ?_) (fun h51 => ?_) | refine kw_ic_ne_n x_M_apologizes_51 ⟨by omega, by omega⟩ (fun h51 => ?_) (fun h51 => ?_) | refine kw_ic_ne x_M_apologizes_51 (fun h51 => ?_) (fun h51 => ?_)
                  · first
                    | exfalso; omega
                    | skip
                      first | refine kw_iinc_n x_M_apologizes_92 (by decide) rfl ?_ | refine kw_iinc x_M_apologizes_92 (by decide) rfl ?_
                      refine kw_goto x_M_apologizes_95 ?_
                      first
                        | (have h10 : xae (ac t) (fun e => decide (xst X t e = 1)) t (e + 1) (xat ac t X).1 = xae (ac t) (fun e => decide (xst X t e = 1)) t e (xat ac t X).1 := (by
                            rw [xae, if_neg]
                            simp [*])
                           refine h10 ▸ ih' (e + 1) _ (by omega) hl3 hS ?_
                           rw [h10]
                           exact hE)
                        | (have h10 : xae (ac t) (fun e => decide (xst X t e = 1)) t (e + 1) (xat ac t X).1 = (xso (xae (ac t) (fun e => decide (xst X t e = 1)) t e (xat ac t X).1).1 e (xe (xae (ac t) (fun e => decide (xst X t e = 1)) t e (xat ac t X).1).1 e 8 ||| 2 ^ t), (xae (ac t) (fun e => decide (xst X t e = 1)) t e (xat ac t X).1).2 + 1) := (by
                            rw [xae, if_pos]
                            simp [*])
                           have h11 := ih' (e + 1) (kt_u1 I3 (m + 1) (8 + 9 * e + 8) (nI (xe (xae (ac t) (fun e => decide (xst X t e = 1)) t e (xat ac t X).1).1 e 8 ||| 2 ^ t))) (by omega) (hl3.tr ⟨fun a g1 g2 g3 g4 g5 => kt_u1_ne _ _ _ g2, fun j _ => by simp [kt_u1]⟩) (fun e' he' => by rw [kt_u1_ne _ _ _ (by omega)]; exact hS e' he')
                           rw [h10] at h11
                           exact h11 (kt_enc_so hE))
                  · first
                    | exfalso; omega
                    | skip
                      refine kw_ald_n x_M_apologizes_54 rfl ?_
                      refine kw_ild x_M_apologizes_55 rfl ?_
                      refine kw_bip x_M_apologizes_57 ?_
                      refine c_M_apologizes_59 (by exact isM_k hM) (Nat.le_of_ble_eq_true rfl) ?_
                      refine s_M_ofn hM hE hn1 (by omega) (by decide) ?_
                      refine kw_ild_n x_M_apologizes_62 rfl ?_
                      refine kw_ishr x_M_apologizes_63 ?_
                      refine kw_icon x_M_apologizes_64 ?_
                      refine kw_iand x_M_apologizes_65 ?_
                      rw [kt_bit _ hM8 t (by omega)]
                      first | refine kw_if_ne_c x_M_apologizes_66 (xst_4 _ _ _) (fun h66 => ?_) (fun h66 => ?_) | refine kw_if_ne_b x_M_apologizes_66 (fun h66 => ?_) (fun h66 => ?_) | refine kw_if_ne_s x_M_apologizes_66 ⟨by omega, by omega⟩ (fun h66 => ?_) (fun h66 => ?_) | refine kw_if_ne_n x_M_apologizes_66 (by omega) (fun h66 => ?_) (fun h66 => ?_) | refine kw_if_ne x_M_apologizes_66 (fun h66 => ?_) (fun h66 => ?_)
                      · first
                        | exfalso; omega
                        | skip
                          first | refine kw_iinc_n x_M_apologizes_92 (by decide) rfl ?_ | refine kw_iinc x_M_apologizes_92 (by decide) rfl ?_
                          refine kw_goto x_M_apologizes_95 ?_
                          first
                            | (have h10 : xae (ac t) (fun e => decide (xst X t e = 1)) t (e + 1) (xat ac t X).1 = xae (ac t) (fun e => decide (xst X t e = 1)) t e (xat ac t X).1 := (by
                                rw [xae, if_neg]
                                simp [*])
                               refine h10 ▸ ih' (e + 1) _ (by omega) hl3 hS ?_
                               rw [h10]
                               exact hE)
                            | (have h10 : xae (ac t) (fun e => decide (xst X t e = 1)) t (e + 1) (xat ac t X).1 = (xso (xae (ac t) (fun e => decide (xst X t e = 1)) t e (xat ac t X).1).1 e (xe (xae (ac t) (fun e => decide (xst X t e = 1)) t e (xat ac t X).1).1 e 8 ||| 2 ^ t), (xae (ac t) (fun e => decide (xst X t e = 1)) t e (xat ac t X).1).2 + 1) := (by
                                rw [xae, if_pos]
                                simp [*])
                               have h11 := ih' (e + 1) (kt_u1 I3 (m + 1) (8 + 9 * e + 8) (nI (xe (xae (ac t) (fun e => decide (xst X t e = 1)) t e (xat ac t X).1).1 e 8 ||| 2 ^ t))) (by omega) (hl3.tr ⟨fun a g1 g2 g3 g4 g5 => kt_u1_ne _ _ _ g2, fun j _ => by simp [kt_u1]⟩) (fun e' he' => by rw [kt_u1_ne _ _ _ (by omega)]; exact hS e' he')
                               rw [h10] at h11
                               exact h11 (kt_enc_so hE))
                      · first
                        | exfalso; omega
                        | skip
                          refine kw_ald_n x_M_apologizes_69 rfl ?_
                          refine kw_ild x_M_apologizes_70 rfl ?_
                          refine kw_bip x_M_apologizes_72 ?_
                          refine kw_ald_n x_M_apologizes_74 rfl ?_
                          refine kw_ild x_M_apologizes_75 rfl ?_
                          refine kw_bip x_M_apologizes_77 ?_
                          refine c_M_apologizes_79 (by exact isM_k hM) (Nat.le_of_ble_eq_true rfl) ?_
                          refine s_M_ofn hM hE hn1 (by omega) (by decide) ?_
                          refine kw_icon x_M_apologizes_82 ?_
                          refine kw_ild_n x_M_apologizes_83 rfl ?_
                          refine kw_ishl x_M_apologizes_84 ?_
                          refine kw_ior x_M_apologizes_85 ?_
                          rw [kt_or _ hM8 t (by omega)]
                          refine c_M_apologizes_86 (by exact isM_k hM) (Nat.le_of_ble_eq_true rfl) ?_
                          refine s_M_puts hM (by omega) (by decide) ?_
                          first | refine kw_iinc_n x_M_apologizes_89 (by decide) rfl ?_ | refine kw_iinc x_M_apologizes_89 (by decide) rfl ?_
                          first | refine kw_iinc_n x_M_apologizes_92 (by decide) rfl ?_ | refine kw_iinc x_M_apologizes_92 (by decide) rfl ?_
                          refine kw_goto x_M_apologizes_95 ?_
                          first
                            | (have h10 : xae (ac t) (fun e => decide (xst X t e = 1)) t (e + 1) (xat ac t X).1 = xae (ac t) (fun e => decide (xst X t e = 1)) t e (xat ac t X).1 := (by
                                rw [xae, if_neg]
                                simp [*])
                               refine h10 ▸ ih' (e + 1) _ (by omega) hl3 hS ?_
                               rw [h10]
                               exact hE)
                            | (have h10 : xae (ac t) (fun e => decide (xst X t e = 1)) t (e + 1) (xat ac t X).1 = (xso (xae (ac t) (fun e => decide (xst X t e = 1)) t e (xat ac t X).1).1 e (xe (xae (ac t) (fun e => decide (xst X t e = 1)) t e (xat ac t X).1).1 e 8 ||| 2 ^ t), (xae (ac t) (fun e => decide (xst X t e = 1)) t e (xat ac t X).1).2 + 1) := (by
                                rw [xae, if_pos]
                                simp [*])
                               have h11 := ih' (e + 1) (kt_u1 I3 (m + 1) (8 + 9 * e + 8) (nI (xe (xae (ac t) (fun e => decide (xst X t e = 1)) t e (xat ac t X).1).1 e 8 ||| 2 ^ t))) (by omega) (hl3.tr ⟨fun a g1 g2 g3 g4 g5 => kt_u1_ne _ _ _ g2, fun j _ => by simp [kt_u1]⟩) (fun e' he' => by rw [kt_u1_ne _ _ _ (by omega)]; exact hS e' he')
                               rw [h10] at h11
                               exact h11 (kt_enc_so hE))
      refine kw_ild_n x_M_apologizes_4 rfl ?_
      refine kw_ild_n x_M_apologizes_5 rfl ?_
      first | refine kw_ic_ge_n x_M_apologizes_6 ⟨by omega, by omega⟩ (fun h6 => ?_) (fun h6 => ?_) | refine kw_ic_ge x_M_apologizes_6 (fun h6 => ?_) (fun h6 => ?_)
      · first
        | exfalso; omega
        | skip
          skip
      · first
        | exfalso; omega
        | skip
          refine kw_ald_n x_M_apologizes_9 rfl ?_
          refine kw_ild_n x_M_apologizes_10 rfl ?_
          refine c_M_apologizes_11 (by exact isM_k hM) (Nat.le_of_ble_eq_true rfl) ?_
          refine s_M_thinksAll hM hE hW1 (by omega) (fun I2 hl2 hS2 => ?_)
          refine kw_icon x_M_apologizes_14 ?_
          refine kw_ist x_M_apologizes_15 (by decide) ?_
          rw [xst_7 h7, h7.2.2.1] at hS2
          exact inner (xn X) 0 I2 (by omega) hl2.l3 hS2 (hl2.enc hE)
  refine kw_icon x_M_apologizes_0 ?_
  refine kw_ist_n x_M_apologizes_1 (by decide) ?_
  refine kw_icon x_M_apologizes_2 ?_
  refine kw_ist_n x_M_apologizes_3 (by decide) ?_
  exact outer (xT X) 0 I _ (by omega) kt_l3.rf hE
end MA
