/-! the reference: meeting, hearing, the rule; answers about an event -/
theorem kt_enc_rul {I : kt_I} {X : kt_X} {a0 r : Nat} (hE : kt_enc (I a0) X) : kt_enc (kt_u1 I a0 0 (nI r) a0) (xrul X r) := by
  obtain ⟨h1, h2, h3, h4, h5⟩ := hE
  have key : ∀ j, j ≠ 0 → kt_u1 I a0 0 (nI r) a0 j = I a0 j := fun j hj => by simp [kt_u1, hj]
  exact ⟨by simp [kt_u1, xrul], by rw [key 1 (by omega)]; exact h2, by rw [key 2 (by omega)]; exact h3, fun t ht => by rw [key _ (by omega)]; exact h4 t ht, fun e f he hf => by rw [key _ (by omega)]; exact h5 e f he hf⟩
/-- what a town answers about itself -/
def xto (X : kt_X) (t : Nat) : Nat → Nat
  | 0 => xc X t
  | 1 => xct (fun e => xk X t e) (xn X)
  | 2 => xct (fun e => decide (xst X t e = 0)) (xn X)
  | 3 => xct (fun e => decide (xst X t e = 1)) (xn X)
  | 4 => xct (fun e => decide (xst X t e = 2)) (xn X)
  | 5 => xct (fun e => (xe X e 8).testBit t) (xn X)
  | 6 => xct (fun e => decide (xe X e 1 = t)) (xn X)
  | _ => xlike X t (xT X)
def xcu (X : kt_X) (np ty : Nat) : Nat → Nat
  | 0 => xT X
  | 1 => xn X
  | 2 => xct (fun e => decide (xe X e 0 = 0)) (xn X)
  | 3 => xct (fun e => decide (xe X e 0 = 1)) (xn X)
  | 4 => xct (fun e => decide (xe X e 0 = 2)) (xn X)
  | 5 => xr X
  | 6 => xsm (fun e => xbits (xe X e 8)) (xn X)
  | 7 => xct (fun e => decide (xe X e 7 = 2 ^ xT X - 1)) (xn X)
  | 8 => if xct (fun e => decide (xe X e 7 = 2 ^ xT X - 1)) (xn X) = xn X then 1 else 0
  | 9 => np
  | _ => ty
section MO
variable {P : kt_P} {N : Nat} {I : kt_I} {J : kt_J} {R : kt_R} {Q : Option Value → kt_I → kt_J → kt_R → Prop} {m : Nat} {X : kt_X}
theorem s_M_meet (hM : kt_isM P N R m) (hE : kt_enc (I (m + 1)) X) (hW : kt_wf X) {np : Nat} {PX : Nat → kt_X} {bo : Bool} (hpa : kt_pa m np PX I) (hbo : I m 5 = kt_bo bo) {a b : Int32} (kf : ¬ (vT (xT X) a ∧ vT (xT X) b ∧ a ≠ b) → Q (some (.int (-1))) I J R)
    (k : ∀ t u, a = nI t → b = nI u → t < xT X → u < xT X → t ≠ u → ∀ I', kt_ch m np PX bo X (xapo X (xhear true t u X)) I I' → Q (some (.int (nI (xhn true t u X)))) I' J R) : KW P i_M_meet N 0 [some (.ref m), some (.int a), some (.int b), none] [] N I J R Q := by
  have hn := hW.2.2.1
  have hT := hW.2.1
  refine kw_ald_n x_M_meet_0 rfl ?_
  refine kw_ild_n x_M_meet_1 rfl ?_
  refine c_M_meet_2 (by exact isM_k hM) (Nat.le_of_ble_eq_true rfl) ?_
  refine s_M_isTown hM hE ?_
  first | refine kw_if_eq_b x_M_meet_5 (fun h5 => ?_) (fun h5 => ?_) | refine kw_if_eq_n x_M_meet_5 (by omega) (fun h5 => ?_) (fun h5 => ?_) | refine kw_if_eq x_M_meet_5 (fun h5 => ?_) (fun h5 => ?_)
  · first
    | exfalso; omega
    | skip
      refine kw_icon x_M_meet_21 ?_
      refine kw_iret x_M_meet_22 ?_
      exact kf (fun h => by first | exact kt_nT (by omega) h5 h.1 | exact kt_nT (by omega) h13 h.2.1 | exact h.2.2 (by rw [h18]))
  · first
    | exfalso; omega
    | skip
      obtain ⟨t, ht, rfl⟩ := kt_yT (by omega) h5
      refine kw_ald_n x_M_meet_8 rfl ?_
      refine kw_ild_n x_M_meet_9 rfl ?_
      refine c_M_meet_10 (by exact isM_k hM) (Nat.le_of_ble_eq_true rfl) ?_
      refine s_M_isTown hM hE ?_
      first | refine kw_if_eq_b x_M_meet_13 (fun h13 => ?_) (fun h13 => ?_) | refine kw_if_eq_n x_M_meet_13 (by omega) (fun h13 => ?_) (fun h13 => ?_) | refine kw_if_eq x_M_meet_13 (fun h13 => ?_) (fun h13 => ?_)
      · first
        | exfalso; omega
        | skip
          refine kw_icon x_M_meet_21 ?_
          refine kw_iret x_M_meet_22 ?_
          exact kf (fun h => by first | exact kt_nT (by omega) h5 h.1 | exact kt_nT (by omega) h13 h.2.1 | exact h.2.2 (by rw [h18]))
      · first
        | exfalso; omega
        | skip
          obtain ⟨u, hu, rfl⟩ := kt_yT (by omega) h13
          refine kw_ild_n x_M_meet_16 rfl ?_
          refine kw_ild_n x_M_meet_17 rfl ?_
          first | refine kw_ic_ne_n x_M_meet_18 ⟨by omega, by omega⟩ (fun h18 => ?_) (fun h18 => ?_) | refine kw_ic_ne x_M_meet_18 (fun h18 => ?_) (fun h18 => ?_)
          · first
            | exfalso; omega
            | skip
              refine kw_ald_n x_M_meet_23 rfl ?_
              refine c_M_meet_24 (by exact isM_k hM) (Nat.le_of_ble_eq_true rfl) ?_
              refine s_M_changes hM hE hW hpa hbo (fun I2 hl2 hE hpa2 hA => ?_)
              refine kw_ald_n x_M_meet_27 rfl ?_
              refine kw_ild_n x_M_meet_28 rfl ?_
              refine kw_ild_n x_M_meet_29 rfl ?_
              refine kw_icon x_M_meet_30 ?_
              refine c_M_meet_31 (by exact isM_k hM) (Nat.le_of_ble_eq_true rfl) ?_
              refine s_M_hears hM hE hW (bo := true) (by omega) (by omega) h18 (fun I3 hl3 h30 h32 h39 hE3 => ?_)
              refine kw_ist_n x_M_meet_34 (by decide) ?_
              refine kw_ald_n x_M_meet_35 rfl ?_
              refine kw_ald_n x_M_meet_36 rfl ?_
              refine kw_gr x_M_meet_37 (by exact isM_k hM) (by exact isM_r0 hM) ?_
              refine kw_icon x_M_meet_40 ?_
              refine kw_iald_n x_M_meet_41 (by first | exact isM_a1 hM | exact isM_a2 hM | exact isM_a3 hM | exact isM_a4 hM | exact isM_a5 hM | exact isM_a6 hM | exact isM_a7 hM | exact isM_a8 hM | exact isM_a10 hM | exact isM_a11 hM) (by omega) (by omega) (by first | exact hE.1 | exact hE.2.1 | exact hE.2.2.1 | exact hE3.2.1 | exact rfl) ?_
              refine c_M_meet_42 (by exact isM_k hM) (Nat.le_of_ble_eq_true rfl) ?_
              refine s_M_apologizes hM hE3 (kt_wf_hear hW true ht hu) (ac := xac X) (fun t' e ht' he => by rw [h39]; exact hA t' e ht' he) (fun I4 hl4 hE4 => ?_)
              refine kw_pop x_M_meet_45 rfl ?_
              refine kw_ild_n x_M_meet_46 rfl ?_
              refine kw_iret x_M_meet_47 ?_
              exact k t u rfl rfl ht hu h18 I4 ⟨(hl2.tr hl3).tr hl4.lc, hE4, hpa2.same (by rw [hl4.2 4 (by decide), h30]) (by rw [hl4.1 _ (by omega) (by omega) (by omega) (by omega) (by omega), h32])⟩
          · first
            | exfalso; omega
            | skip
              refine kw_icon x_M_meet_21 ?_
              refine kw_iret x_M_meet_22 ?_
              exact kf (fun h => by first | exact kt_nT (by omega) h5 h.1 | exact kt_nT (by omega) h13 h.2.1 | exact h.2.2 (by rw [h18]))
theorem s_M_hear (hM : kt_isM P N R m) (hE : kt_enc (I (m + 1)) X) (hW : kt_wf X) {np : Nat} {PX : Nat → kt_X} {bo : Bool} (hpa : kt_pa m np PX I) (hbo : I m 5 = kt_bo bo) {a b : Int32} (kf : ¬ (vT (xT X) a ∧ vT (xT X) b ∧ a ≠ b) → Q (some (.int (-1))) I J R)
    (k : ∀ t u, a = nI t → b = nI u → t < xT X → u < xT X → t ≠ u → ∀ I', kt_ch m np PX bo X (xapo X (xhear false t u X)) I I' → Q (some (.int (nI (xhn false t u X)))) I' J R) : KW P i_M_hear N 0 [some (.ref m), some (.int a), some (.int b), none] [] N I J R Q := by
  have hn := hW.2.2.1
  have hT := hW.2.1
  refine kw_ald_n x_M_hear_0 rfl ?_
  refine kw_ild_n x_M_hear_1 rfl ?_
  refine c_M_hear_2 (by exact isM_k hM) (Nat.le_of_ble_eq_true rfl) ?_
  refine s_M_isTown hM hE ?_
  first | refine kw_if_eq_b x_M_hear_5 (fun h5 => ?_) (fun h5 => ?_) | refine kw_if_eq_n x_M_hear_5 (by omega) (fun h5 => ?_) (fun h5 => ?_) | refine kw_if_eq x_M_hear_5 (fun h5 => ?_) (fun h5 => ?_)
  · first
    | exfalso; omega
    | skip
      refine kw_icon x_M_hear_21 ?_
      refine kw_iret x_M_hear_22 ?_
      exact kf (fun h => by first | exact kt_nT (by omega) h5 h.1 | exact kt_nT (by omega) h13 h.2.1 | exact h.2.2 (by rw [h18]))
  · first
    | exfalso; omega
    | skip
      obtain ⟨t, ht, rfl⟩ := kt_yT (by omega) h5
      refine kw_ald_n x_M_hear_8 rfl ?_
      refine kw_ild_n x_M_hear_9 rfl ?_
      refine c_M_hear_10 (by exact isM_k hM) (Nat.le_of_ble_eq_true rfl) ?_
      refine s_M_isTown hM hE ?_
      first | refine kw_if_eq_b x_M_hear_13 (fun h13 => ?_) (fun h13 => ?_) | refine kw_if_eq_n x_M_hear_13 (by omega) (fun h13 => ?_) (fun h13 => ?_) | refine kw_if_eq x_M_hear_13 (fun h13 => ?_) (fun h13 => ?_)
      · first
        | exfalso; omega
        | skip
          refine kw_icon x_M_hear_21 ?_
          refine kw_iret x_M_hear_22 ?_
          exact kf (fun h => by first | exact kt_nT (by omega) h5 h.1 | exact kt_nT (by omega) h13 h.2.1 | exact h.2.2 (by rw [h18]))
      · first
        | exfalso; omega
        | skip
          obtain ⟨u, hu, rfl⟩ := kt_yT (by omega) h13
          refine kw_ild_n x_M_hear_16 rfl ?_
          refine kw_ild_n x_M_hear_17 rfl ?_
          first | refine kw_ic_ne_n x_M_hear_18 ⟨by omega, by omega⟩ (fun h18 => ?_) (fun h18 => ?_) | refine kw_ic_ne x_M_hear_18 (fun h18 => ?_) (fun h18 => ?_)
          · first
            | exfalso; omega
            | skip
              refine kw_ald_n x_M_hear_23 rfl ?_
              refine c_M_hear_24 (by exact isM_k hM) (Nat.le_of_ble_eq_true rfl) ?_
              refine s_M_changes hM hE hW hpa hbo (fun I2 hl2 hE hpa2 hA => ?_)
              refine kw_ald_n x_M_hear_27 rfl ?_
              refine kw_ild_n x_M_hear_28 rfl ?_
              refine kw_ild_n x_M_hear_29 rfl ?_
              refine kw_icon x_M_hear_30 ?_
              refine c_M_hear_31 (by exact isM_k hM) (Nat.le_of_ble_eq_true rfl) ?_
              refine s_M_hears hM hE hW (bo := false) (by omega) (by omega) h18 (fun I3 hl3 h30 h32 h39 hE3 => ?_)
              refine kw_ist_n x_M_hear_34 (by decide) ?_
              refine kw_ald_n x_M_hear_35 rfl ?_
              refine kw_ald_n x_M_hear_36 rfl ?_
              refine kw_gr x_M_hear_37 (by exact isM_k hM) (by exact isM_r0 hM) ?_
              refine kw_icon x_M_hear_40 ?_
              refine kw_iald_n x_M_hear_41 (by first | exact isM_a1 hM | exact isM_a2 hM | exact isM_a3 hM | exact isM_a4 hM | exact isM_a5 hM | exact isM_a6 hM | exact isM_a7 hM | exact isM_a8 hM | exact isM_a10 hM | exact isM_a11 hM) (by omega) (by omega) (by first | exact hE.1 | exact hE.2.1 | exact hE.2.2.1 | exact hE3.2.1 | exact rfl) ?_
              refine c_M_hear_42 (by exact isM_k hM) (Nat.le_of_ble_eq_true rfl) ?_
              refine s_M_apologizes hM hE3 (kt_wf_hear hW false ht hu) (ac := xac X) (fun t' e ht' he => by rw [h39]; exact hA t' e ht' he) (fun I4 hl4 hE4 => ?_)
              refine kw_pop x_M_hear_45 rfl ?_
              refine kw_ild_n x_M_hear_46 rfl ?_
              refine kw_iret x_M_hear_47 ?_
              exact k t u rfl rfl ht hu h18 I4 ⟨(hl2.tr hl3).tr hl4.lc, hE4, hpa2.same (by rw [hl4.2 4 (by decide), h30]) (by rw [hl4.1 _ (by omega) (by omega) (by omega) (by omega) (by omega), h32])⟩
          · first
            | exfalso; omega
            | skip
              refine kw_icon x_M_hear_21 ?_
              refine kw_iret x_M_hear_22 ?_
              exact kf (fun h => by first | exact kt_nT (by omega) h5 h.1 | exact kt_nT (by omega) h13 h.2.1 | exact h.2.2 (by rw [h18]))
theorem s_M_rule (hM : kt_isM P N R m) (hE : kt_enc (I (m + 1)) X) (hW : kt_wf X) {np : Nat} {PX : Nat → kt_X} {bo : Bool} (hpa : kt_pa m np PX I) (hbo : I m 5 = kt_bo bo) {a : Int32} (kf : ¬ vR 0 2 a → Q (some (.int (-1))) I J R)
    (k : ∀ r, a = nI r → r ≤ 2 → ∀ I', kt_ch m np PX bo X (xapo X (xrul X r)) I I' → Q (some (.int (nI (xr X)))) I' J R) : KW P i_M_rule N 0 [some (.ref m), some (.int a), none] [] N I J R Q := by
  have hn := hW.2.2.1
  have hT := hW.2.1
  refine kw_ild_n x_M_rule_0 rfl ?_
  refine kw_icon x_M_rule_1 ?_
  refine kw_icon x_M_rule_2 ?_
  refine c_M_rule_3 (Nat.le_of_ble_eq_true rfl) ?_
  refine s_M_in ?_
  first | refine kw_if_ne_b x_M_rule_6 (fun h6 => ?_) (fun h6 => ?_) | refine kw_if_ne_s x_M_rule_6 ⟨by omega, by omega⟩ (fun h6 => ?_) (fun h6 => ?_) | refine kw_if_ne_n x_M_rule_6 (by omega) (fun h6 => ?_) (fun h6 => ?_) | refine kw_if_ne x_M_rule_6 (fun h6 => ?_) (fun h6 => ?_)
  · first
    | exfalso; omega
    | skip
      obtain ⟨r, hr1, hr2, rfl⟩ := kt_yR (by omega) h6
      refine kw_ald_n x_M_rule_11 rfl ?_
      refine c_M_rule_12 (by exact isM_k hM) (Nat.le_of_ble_eq_true rfl) ?_
      refine s_M_changes hM hE hW hpa hbo (fun I2 hl2 hE hpa2 hA => ?_)
      have hE3 := kt_enc_rul (r := r) hE
      refine kw_ald_n x_M_rule_15 rfl ?_
      refine kw_gr x_M_rule_16 (by exact isM_k hM) (by exact isM_r0 hM) ?_
      refine kw_icon x_M_rule_19 ?_
      refine kw_iald_n x_M_rule_20 (by first | exact isM_a1 hM | exact isM_a2 hM | exact isM_a3 hM | exact isM_a4 hM | exact isM_a5 hM | exact isM_a6 hM | exact isM_a7 hM | exact isM_a8 hM | exact isM_a10 hM | exact isM_a11 hM) (by omega) (by omega) (by first | exact hE.1 | exact hE.2.1 | exact hE.2.2.1 | exact hE3.2.1 | exact rfl) ?_
      refine kw_ist_n x_M_rule_21 (by decide) ?_
      refine kw_ald_n x_M_rule_22 rfl ?_
      refine kw_gr x_M_rule_23 (by exact isM_k hM) (by exact isM_r0 hM) ?_
      refine kw_icon x_M_rule_26 ?_
      refine kw_ild_n x_M_rule_27 rfl ?_
      refine kw_iast_n x_M_rule_28 (by first | exact isM_a1 hM | exact isM_a2 hM | exact isM_a3 hM | exact isM_a4 hM | exact isM_a5 hM | exact isM_a6 hM | exact isM_a7 hM | exact isM_a8 hM | exact isM_a10 hM | exact isM_a11 hM) (by omega) (by omega) ?_
      refine kw_ald_n x_M_rule_29 rfl ?_
      refine kw_ald_n x_M_rule_30 rfl ?_
      refine kw_gr x_M_rule_31 (by exact isM_k hM) (by exact isM_r0 hM) ?_
      refine kw_icon x_M_rule_34 ?_
      refine kw_iald_n x_M_rule_35 (by first | exact isM_a1 hM | exact isM_a2 hM | exact isM_a3 hM | exact isM_a4 hM | exact isM_a5 hM | exact isM_a6 hM | exact isM_a7 hM | exact isM_a8 hM | exact isM_a10 hM | exact isM_a11 hM) (by omega) (by omega) (by first | exact hE.1 | exact hE.2.1 | exact hE.2.2.1 | exact hE3.2.1 | exact rfl) ?_
      refine c_M_rule_36 (by exact isM_k hM) (Nat.le_of_ble_eq_true rfl) ?_
      refine s_M_apologizes hM hE3 (kt_wf_rule hW (by omega)) (ac := xac X) (fun t' e ht' he => by rw [kt_u1_ne _ _ _ (show m + 9 ≠ m + 1 by omega)]; exact hA t' e ht' he) (fun I4 hl4 hE4 => ?_)
      refine kw_pop x_M_rule_39 rfl ?_
      refine kw_ild_n x_M_rule_40 rfl ?_
      refine kw_iret x_M_rule_41 ?_
      exact k r rfl hr2 I4 ⟨(hl2.tr kt_lc.u1).tr hl4.lc, hE4, hpa2.same (by rw [hl4.2 4 (by decide), kt_u1_ne _ _ _ (show m ≠ m + 1 by omega)]) (by rw [hl4.1 _ (by omega) (by omega) (by omega) (by omega) (by omega), kt_u1_ne _ _ _ (show m + 2 ≠ m + 1 by omega)])⟩
  · first
    | exfalso; omega
    | skip
      refine kw_icon x_M_rule_9 ?_
      refine kw_iret x_M_rule_10 ?_
      exact kf (fun h => kt_nR (by omega) h6 h)
theorem s_M_eventOf (hM : kt_isM P N R m) (hE : kt_enc (I (m + 1)) X) (hW : kt_wf X) {a b : Int32} (kf : ¬ (vT (xn X) a ∧ vR 0 8 b) → Q (some (.int (-1))) I J R)
    (k : ∀ e f, a = nI e → b = nI f → e < xn X → f ≤ 8 → Q (some (.int (kt_cd f (xe X e f)))) I J R) : KW P i_M_eventOf N 0 [some (.ref m), some (.int a), some (.int b)] [] N I J R Q := by
  have hn := hW.2.2.1
  have hT := hW.2.1
  refine kw_ald_n x_M_eventOf_0 rfl ?_
  refine kw_ild_n x_M_eventOf_1 rfl ?_
  refine c_M_eventOf_2 (by exact isM_k hM) (Nat.le_of_ble_eq_true rfl) ?_
  refine s_M_isEvent hM hE ?_
  first | refine kw_if_eq_b x_M_eventOf_5 (fun h5 => ?_) (fun h5 => ?_) | refine kw_if_eq_n x_M_eventOf_5 (by omega) (fun h5 => ?_) (fun h5 => ?_) | refine kw_if_eq x_M_eventOf_5 (fun h5 => ?_) (fun h5 => ?_)
  · first
    | exfalso; omega
    | skip
      refine kw_icon x_M_eventOf_18 ?_
      refine kw_iret x_M_eventOf_19 ?_
      exact kf (fun h => by first | exact kt_nT (by omega) h5 h.1 | exact kt_nR (by omega) h15 h.2)
  · first
    | exfalso; omega
    | skip
      obtain ⟨e, he, rfl⟩ := kt_yT (by omega) h5
      refine kw_ild_n x_M_eventOf_8 rfl ?_
      refine kw_icon x_M_eventOf_9 ?_
      refine kw_bip x_M_eventOf_10 ?_
      refine c_M_eventOf_12 (Nat.le_of_ble_eq_true rfl) ?_
      refine s_M_in ?_
      first | refine kw_if_ne_b x_M_eventOf_15 (fun h15 => ?_) (fun h15 => ?_) | refine kw_if_ne_s x_M_eventOf_15 ⟨by omega, by omega⟩ (fun h15 => ?_) (fun h15 => ?_) | refine kw_if_ne_n x_M_eventOf_15 (by omega) (fun h15 => ?_) (fun h15 => ?_) | refine kw_if_ne x_M_eventOf_15 (fun h15 => ?_) (fun h15 => ?_)
      · first
        | exfalso; omega
        | skip
          obtain ⟨f, hf1, hf2, rfl⟩ := kt_yR (by omega) h15
          refine kw_ald_n x_M_eventOf_20 rfl ?_
          refine kw_ild_n x_M_eventOf_21 rfl ?_
          refine kw_ild_n x_M_eventOf_22 rfl ?_
          refine c_M_eventOf_23 (by exact isM_k hM) (Nat.le_of_ble_eq_true rfl) ?_
          refine s_M_ofc hM hE hn (by omega) (by omega) ?_
          refine kw_iret x_M_eventOf_26 ?_
          exact k e f rfl rfl he hf2
      · first
        | exfalso; omega
        | skip
          refine kw_icon x_M_eventOf_18 ?_
          refine kw_iret x_M_eventOf_19 ?_
          exact kf (fun h => by first | exact kt_nT (by omega) h5 h.1 | exact kt_nR (by omega) h15 h.2)
theorem s_M_thinks (hM : kt_isM P N R m) (hE : kt_enc (I (m + 1)) X) (hW : kt_wf X) {a b : Int32} (kf : ¬ (vT (xT X) a ∧ vT (xn X) b) → Q (some (.int (-1))) I J R)
    (kp : ∀ t e, a = nI t → b = nI e → t < xT X → e < xn X → xe X e 0 ≠ 1 → Q (some (.int (-2))) I J R)
    (k : ∀ t e, a = nI t → b = nI e → t < xT X → e < xn X → xe X e 0 = 1 → ∀ I', kt_lm m I I' → Q (some (.int (kt_sc (xst X t e)))) I' J R) : KW P i_M_thinks N 0 [some (.ref m), some (.int a), some (.int b)] [] N I J R Q := by
  have hn := hW.2.2.1
  have hT := hW.2.1
  refine kw_ald_n x_M_thinks_0 rfl ?_
  refine kw_ild_n x_M_thinks_1 rfl ?_
  refine c_M_thinks_2 (by exact isM_k hM) (Nat.le_of_ble_eq_true rfl) ?_
  refine s_M_isTown hM hE ?_
  first | refine kw_if_eq_b x_M_thinks_5 (fun h5 => ?_) (fun h5 => ?_) | refine kw_if_eq_n x_M_thinks_5 (by omega) (fun h5 => ?_) (fun h5 => ?_) | refine kw_if_eq x_M_thinks_5 (fun h5 => ?_) (fun h5 => ?_)
  · first
    | exfalso; omega
    | skip
      refine kw_icon x_M_thinks_16 ?_
      refine kw_iret x_M_thinks_17 ?_
      exact kf (fun h => by first | exact kt_nT (by omega) h5 h.1 | exact kt_nT (by omega) h13 h.2)
  · first
    | exfalso; omega
    | skip
      obtain ⟨t, ht, rfl⟩ := kt_yT (by omega) h5
      refine kw_ald_n x_M_thinks_8 rfl ?_
      refine kw_ild_n x_M_thinks_9 rfl ?_
      refine c_M_thinks_10 (by exact isM_k hM) (Nat.le_of_ble_eq_true rfl) ?_
      refine s_M_isEvent hM hE ?_
      first | refine kw_if_ne_b x_M_thinks_13 (fun h13 => ?_) (fun h13 => ?_) | refine kw_if_ne_s x_M_thinks_13 ⟨by omega, by omega⟩ (fun h13 => ?_) (fun h13 => ?_) | refine kw_if_ne_n x_M_thinks_13 (by omega) (fun h13 => ?_) (fun h13 => ?_) | refine kw_if_ne x_M_thinks_13 (fun h13 => ?_) (fun h13 => ?_)
      · first
        | exfalso; omega
        | skip
          obtain ⟨e, he, rfl⟩ := kt_yT (by omega) h13
          have hx := hW.2.2.2.2.2.1 e he
          have hx0 := hx.1
          refine kw_ald_n x_M_thinks_18 rfl ?_
          refine kw_ild_n x_M_thinks_19 rfl ?_
          refine kw_icon x_M_thinks_20 ?_
          refine c_M_thinks_21 (by exact isM_k hM) (Nat.le_of_ble_eq_true rfl) ?_
          refine s_M_ofn hM hE hn (by omega) (by decide) ?_
          refine kw_icon x_M_thinks_24 ?_
          first | refine kw_ic_eq_n x_M_thinks_25 ⟨by omega, by omega⟩ (fun h25 => ?_) (fun h25 => ?_) | refine kw_ic_eq x_M_thinks_25 (fun h25 => ?_) (fun h25 => ?_)
          · first
            | exfalso; omega
            | skip
              refine kw_ald_n x_M_thinks_31 rfl ?_
              refine kw_ild_n x_M_thinks_32 rfl ?_
              refine c_M_thinks_33 (by exact isM_k hM) (Nat.le_of_ble_eq_true rfl) ?_
              refine s_M_thinksAll hM hE hW (by omega) (fun I2 hl2 hS2 => ?_)
              refine kw_ald_n x_M_thinks_36 rfl ?_
              refine kw_gr x_M_thinks_37 (by exact isM_k hM) (by exact isM_r8 hM) ?_
              refine kw_ild_n x_M_thinks_40 rfl ?_
              refine kw_iald_n x_M_thinks_41 (by first | exact isM_a1 hM | exact isM_a2 hM | exact isM_a3 hM | exact isM_a4 hM | exact isM_a5 hM | exact isM_a6 hM | exact isM_a7 hM | exact isM_a8 hM | exact isM_a10 hM | exact isM_a11 hM) (by omega) (by omega) (by first | exact hE.1 | exact hE.2.1 | exact hE.2.2.1 | exact hS2 _ he | exact rfl) ?_
              refine kw_iret x_M_thinks_42 ?_
              exact k t e rfl rfl ht he h25 I2 hl2
          · first
            | exfalso; omega
            | skip
              refine kw_bip x_M_thinks_28 ?_
              refine kw_iret x_M_thinks_30 ?_
              exact kp t e rfl rfl ht he h25
      · first
        | exfalso; omega
        | skip
          refine kw_icon x_M_thinks_16 ?_
          refine kw_iret x_M_thinks_17 ?_
          exact kf (fun h => by first | exact kt_nT (by omega) h5 h.1 | exact kt_nT (by omega) h13 h.2)
theorem s_M_townOf (hM : kt_isM P N R m) (hE : kt_enc (I (m + 1)) X) (hW : kt_wf X) {a b : Int32} (kf : ¬ (vT (xT X) a ∧ vR 0 7 b) → Q (some (.int (-1))) I J R)
    (k : ∀ t f, a = nI t → b = nI f → t < xT X → f ≤ 7 → ∀ I', kt_lm m I I' → Q (some (.int (nI (xto X t f)))) I' J R) : KW P i_M_townOf N 0 [some (.ref m), some (.int a), some (.int b)] [] N I J R Q := by
  have hn := hW.2.2.1
  have hT := hW.2.1
  refine kw_ald_n x_M_townOf_0 rfl ?_
  refine kw_ild_n x_M_townOf_1 rfl ?_
  refine c_M_townOf_2 (by exact isM_k hM) (Nat.le_of_ble_eq_true rfl) ?_
  refine s_M_isTown hM hE ?_
  first | refine kw_if_ne_b x_M_townOf_5 (fun h5 => ?_) (fun h5 => ?_) | refine kw_if_ne_s x_M_townOf_5 ⟨by omega, by omega⟩ (fun h5 => ?_) (fun h5 => ?_) | refine kw_if_ne_n x_M_townOf_5 (by omega) (fun h5 => ?_) (fun h5 => ?_) | refine kw_if_ne x_M_townOf_5 (fun h5 => ?_) (fun h5 => ?_)
  · first
    | exfalso; omega
    | skip
      obtain ⟨t, ht, rfl⟩ := kt_yT (by omega) h5
      refine kw_ild_n x_M_townOf_10 rfl ?_
      refine s_M_townOf_11 ?_ ?_ ?_ ?_ ?_ ?_ ?_ ?_ ?_
      · intro h11
        subst h11
        refine kw_ald_n x_M_townOf_56 rfl ?_
        refine kw_gr x_M_townOf_57 (by exact isM_k hM) (by exact isM_r0 hM) ?_
        refine kw_icon x_M_townOf_60 ?_
        refine kw_ild_n x_M_townOf_61 rfl ?_
        first | refine kw_iadd_n x_M_townOf_62 ?_ | refine kw_iadd x_M_townOf_62 ?_
        refine kw_iald_n x_M_townOf_63 (by first | exact isM_a1 hM | exact isM_a2 hM | exact isM_a3 hM | exact isM_a4 hM | exact isM_a5 hM | exact isM_a6 hM | exact isM_a7 hM | exact isM_a8 hM | exact isM_a10 hM | exact isM_a11 hM) (by omega) (by omega) (by first | exact hE.1 | exact hE.2.1 | exact hE.2.2.1 | exact hE.2.2.2.1 _ (by omega) | exact rfl) ?_
        refine kw_iret x_M_townOf_64 ?_
        exact k t 0 rfl rfl ht (by decide) _ kt_lm.rf
      · intro h11
        subst h11
        refine kw_ald_n x_M_townOf_65 rfl ?_
        refine kw_ild_n x_M_townOf_66 rfl ?_
        refine c_M_townOf_67 (by exact isM_k hM) (Nat.le_of_ble_eq_true rfl) ?_
        refine s_M_knownBy hM hE hW (by omega) ?_
        refine kw_iret x_M_townOf_70 ?_
        exact k t 1 rfl rfl ht (by decide) _ kt_lm.rf
      · intro h11
        subst h11
        refine kw_ald_n x_M_townOf_71 rfl ?_
        refine kw_ild_n x_M_townOf_72 rfl ?_
        refine kw_ild_n x_M_townOf_73 rfl ?_
        refine kw_icon x_M_townOf_74 ?_
        first | refine kw_isub_n x_M_townOf_75 (by omega) ?_ | refine kw_isub x_M_townOf_75 ?_
        refine c_M_townOf_76 (by exact isM_k hM) (Nat.le_of_ble_eq_true rfl) ?_
        refine s_M_withStatus hM hE hW (by omega) (by decide) (fun I2 hl2 => ?_)
        refine kw_iret x_M_townOf_79 ?_
        first | exact k t 2 rfl rfl ht (by decide) _ hl2 | exact k t 3 rfl rfl ht (by decide) _ hl2 | exact k t 4 rfl rfl ht (by decide) _ hl2
      · intro h11
        subst h11
        refine kw_ald_n x_M_townOf_71 rfl ?_
        refine kw_ild_n x_M_townOf_72 rfl ?_
        refine kw_ild_n x_M_townOf_73 rfl ?_
        refine kw_icon x_M_townOf_74 ?_
        first | refine kw_isub_n x_M_townOf_75 (by omega) ?_ | refine kw_isub x_M_townOf_75 ?_
        refine c_M_townOf_76 (by exact isM_k hM) (Nat.le_of_ble_eq_true rfl) ?_
        refine s_M_withStatus hM hE hW (by omega) (by decide) (fun I2 hl2 => ?_)
        refine kw_iret x_M_townOf_79 ?_
        first | exact k t 2 rfl rfl ht (by decide) _ hl2 | exact k t 3 rfl rfl ht (by decide) _ hl2 | exact k t 4 rfl rfl ht (by decide) _ hl2
      · intro h11
        subst h11
        refine kw_ald_n x_M_townOf_71 rfl ?_
        refine kw_ild_n x_M_townOf_72 rfl ?_
        refine kw_ild_n x_M_townOf_73 rfl ?_
        refine kw_icon x_M_townOf_74 ?_
        first | refine kw_isub_n x_M_townOf_75 (by omega) ?_ | refine kw_isub x_M_townOf_75 ?_
        refine c_M_townOf_76 (by exact isM_k hM) (Nat.le_of_ble_eq_true rfl) ?_
        refine s_M_withStatus hM hE hW (by omega) (by decide) (fun I2 hl2 => ?_)
        refine kw_iret x_M_townOf_79 ?_
        first | exact k t 2 rfl rfl ht (by decide) _ hl2 | exact k t 3 rfl rfl ht (by decide) _ hl2 | exact k t 4 rfl rfl ht (by decide) _ hl2
      · intro h11
        subst h11
        refine kw_ald_n x_M_townOf_80 rfl ?_
        refine kw_ild_n x_M_townOf_81 rfl ?_
        refine c_M_townOf_82 (by exact isM_k hM) (Nat.le_of_ble_eq_true rfl) ?_
        refine s_M_sorry hM hE hW (by omega) ?_
        refine kw_iret x_M_townOf_85 ?_
        exact k t 5 rfl rfl ht (by decide) _ kt_lm.rf
      · intro h11
        subst h11
        refine kw_ald_n x_M_townOf_86 rfl ?_
        refine kw_ild_n x_M_townOf_87 rfl ?_
        refine c_M_townOf_88 (by exact isM_k hM) (Nat.le_of_ble_eq_true rfl) ?_
        refine s_M_madeIn hM hE hW (by omega) ?_
        refine kw_iret x_M_townOf_91 ?_
        exact k t 6 rfl rfl ht (by decide) _ kt_lm.rf
      · intro h11
        subst h11
        refine kw_ald_n x_M_townOf_92 rfl ?_
        refine kw_ild_n x_M_townOf_93 rfl ?_
        refine c_M_townOf_94 (by exact isM_k hM) (Nat.le_of_ble_eq_true rfl) ?_
        refine s_M_likes hM hE hW (by omega) ?_
        refine kw_iret x_M_townOf_97 ?_
        exact k t 7 rfl rfl ht (by decide) _ kt_lm.rf
      · intro h11_0 h11_1 h11_2 h11_3 h11_4 h11_5 h11_6 h11_7
        refine kw_icon x_M_townOf_98 ?_
        refine kw_iret x_M_townOf_99 ?_
        exact kf (fun h => by
          obtain ⟨f, _, hf, rfl⟩ := h.2
          have h0 : ∀ q, ¬ nI f = nI q → ¬ f = q := fun q hq e => hq (by rw [e])
          have := h0 _ h11_0
          have := h0 _ h11_1
          have := h0 _ h11_2
          have := h0 _ h11_3
          have := h0 _ h11_4
          have := h0 _ h11_5
          have := h0 _ h11_6
          have := h0 _ h11_7
          omega)
  · first
    | exfalso; omega
    | skip
      refine kw_icon x_M_townOf_8 ?_
      refine kw_iret x_M_townOf_9 ?_
      exact kf (fun h => kt_nT (by omega) h5 h.1)
theorem s_M_count (hM : kt_isM P N R m) (hE : kt_enc (I (m + 1)) X) (hW : kt_wf X) {np ty : Nat} (hnp : I m 4 = nI np) (hty : I m 7 = nI ty) {b : Int32} (kf : ¬ vR 0 10 b → Q (some (.int (-1))) I J R)
    (k : ∀ f, b = nI f → f ≤ 10 → Q (some (.int (nI (xcu X np ty f)))) I J R) : KW P i_M_count N 0 [some (.ref m), some (.int b)] [] N I J R Q := by
  have hn := hW.2.2.1
  have hT := hW.2.1
  have hp5 : (2 : Nat) ^ xT X ≤ 2 ^ 5 := Nat.pow_le_pow_right (by decide) hT
  have hkl := xct_le (fun e => decide (xe X e 7 = 2 ^ xT X - 1)) (xn X)
  refine kw_ild_n x_M_count_0 rfl ?_
  refine s_M_count_1 ?_ ?_ ?_ ?_ ?_ ?_ ?_ ?_ ?_ ?_ ?_ ?_
  · intro h1
    subst h1
    refine kw_ald_n x_M_count_60 rfl ?_
    refine kw_gr x_M_count_61 (by exact isM_k hM) (by exact isM_r0 hM) ?_
    refine kw_icon x_M_count_64 ?_
    refine kw_iald_n x_M_count_65 (by first | exact isM_a1 hM | exact isM_a2 hM | exact isM_a3 hM | exact isM_a4 hM | exact isM_a5 hM | exact isM_a6 hM | exact isM_a7 hM | exact isM_a8 hM | exact isM_a10 hM | exact isM_a11 hM) (by omega) (by omega) (by first | exact hE.1 | exact hE.2.1 | exact hE.2.2.1 | exact hnp | exact hty | exact rfl) ?_
    refine kw_iret x_M_count_66 ?_
    exact k 0 rfl (by decide)
  · intro h1
    subst h1
    refine kw_ald_n x_M_count_67 rfl ?_
    refine kw_gr x_M_count_68 (by exact isM_k hM) (by exact isM_r0 hM) ?_
    refine kw_icon x_M_count_71 ?_
    refine kw_iald_n x_M_count_72 (by first | exact isM_a1 hM | exact isM_a2 hM | exact isM_a3 hM | exact isM_a4 hM | exact isM_a5 hM | exact isM_a6 hM | exact isM_a7 hM | exact isM_a8 hM | exact isM_a10 hM | exact isM_a11 hM) (by omega) (by omega) (by first | exact hE.1 | exact hE.2.1 | exact hE.2.2.1 | exact hnp | exact hty | exact rfl) ?_
    refine kw_iret x_M_count_73 ?_
    exact k 1 rfl (by decide)
  · intro h1
    subst h1
    refine kw_ald_n x_M_count_74 rfl ?_
    refine kw_ild_n x_M_count_75 rfl ?_
    refine kw_icon x_M_count_76 ?_
    first | refine kw_isub_n x_M_count_77 (by omega) ?_ | refine kw_isub x_M_count_77 ?_
    refine c_M_count_78 (by exact isM_k hM) (Nat.le_of_ble_eq_true rfl) ?_
    refine s_M_ofKind hM hE hW (by decide) ?_
    refine kw_iret x_M_count_81 ?_
    first | exact k 2 rfl (by decide) | exact k 3 rfl (by decide) | exact k 4 rfl (by decide)
  · intro h1
    subst h1
    refine kw_ald_n x_M_count_74 rfl ?_
    refine kw_ild_n x_M_count_75 rfl ?_
    refine kw_icon x_M_count_76 ?_
    first | refine kw_isub_n x_M_count_77 (by omega) ?_ | refine kw_isub x_M_count_77 ?_
    refine c_M_count_78 (by exact isM_k hM) (Nat.le_of_ble_eq_true rfl) ?_
    refine s_M_ofKind hM hE hW (by decide) ?_
    refine kw_iret x_M_count_81 ?_
    first | exact k 2 rfl (by decide) | exact k 3 rfl (by decide) | exact k 4 rfl (by decide)
  · intro h1
    subst h1
    refine kw_ald_n x_M_count_74 rfl ?_
    refine kw_ild_n x_M_count_75 rfl ?_
    refine kw_icon x_M_count_76 ?_
    first | refine kw_isub_n x_M_count_77 (by omega) ?_ | refine kw_isub x_M_count_77 ?_
    refine c_M_count_78 (by exact isM_k hM) (Nat.le_of_ble_eq_true rfl) ?_
    refine s_M_ofKind hM hE hW (by decide) ?_
    refine kw_iret x_M_count_81 ?_
    first | exact k 2 rfl (by decide) | exact k 3 rfl (by decide) | exact k 4 rfl (by decide)
  · intro h1
    subst h1
    refine kw_ald_n x_M_count_82 rfl ?_
    refine kw_gr x_M_count_83 (by exact isM_k hM) (by exact isM_r0 hM) ?_
    refine kw_icon x_M_count_86 ?_
    refine kw_iald_n x_M_count_87 (by first | exact isM_a1 hM | exact isM_a2 hM | exact isM_a3 hM | exact isM_a4 hM | exact isM_a5 hM | exact isM_a6 hM | exact isM_a7 hM | exact isM_a8 hM | exact isM_a10 hM | exact isM_a11 hM) (by omega) (by omega) (by first | exact hE.1 | exact hE.2.1 | exact hE.2.2.1 | exact hnp | exact hty | exact rfl) ?_
    refine kw_iret x_M_count_88 ?_
    exact k 5 rfl (by decide)
  · intro h1
    subst h1
    refine kw_ald_n x_M_count_89 rfl ?_
    refine c_M_count_90 (by exact isM_k hM) (Nat.le_of_ble_eq_true rfl) ?_
    refine s_M_sorries hM hE hW ?_
    refine kw_iret x_M_count_93 ?_
    exact k 6 rfl (by decide)
  · intro h1
    subst h1
    refine kw_ald_n x_M_count_94 rfl ?_
    refine kw_ald_n x_M_count_95 rfl ?_
    refine c_M_count_96 (by exact isM_k hM) (Nat.le_of_ble_eq_true rfl) ?_
    refine s_M_everyone hM hE hW ?_
    refine c_M_count_99 (by exact isM_k hM) (Nat.le_of_ble_eq_true rfl) ?_
    refine s_M_known hM hE hW (by omega) ?_
    refine kw_iret x_M_count_102 ?_
    exact k 7 rfl (by decide)
  · intro h1
    subst h1
    refine kw_ald_n x_M_count_103 rfl ?_
    refine kw_ald_n x_M_count_104 rfl ?_
    refine c_M_count_105 (by exact isM_k hM) (Nat.le_of_ble_eq_true rfl) ?_
    refine s_M_everyone hM hE hW ?_
    refine c_M_count_108 (by exact isM_k hM) (Nat.le_of_ble_eq_true rfl) ?_
    refine s_M_known hM hE hW (by omega) ?_
    refine kw_ald_n x_M_count_111 rfl ?_
    refine kw_gr x_M_count_112 (by exact isM_k hM) (by exact isM_r0 hM) ?_
    refine kw_icon x_M_count_115 ?_
    refine kw_iald_n x_M_count_116 (by first | exact isM_a1 hM | exact isM_a2 hM | exact isM_a3 hM | exact isM_a4 hM | exact isM_a5 hM | exact isM_a6 hM | exact isM_a7 hM | exact isM_a8 hM | exact isM_a10 hM | exact isM_a11 hM) (by omega) (by omega) (by first | exact hE.1 | exact hE.2.1 | exact hE.2.2.1 | exact hnp | exact hty | exact rfl) ?_
    first | refine kw_ic_ne_n x_M_count_117 ⟨by omega, by omega⟩ (fun h117 => ?_) (fun h117 => ?_) | refine kw_ic_ne x_M_count_117 (fun h117 => ?_) (fun h117 => ?_)
    · first
      | exfalso; omega
      | skip
        refine kw_icon x_M_count_124 ?_
        refine kw_iret x_M_count_125 ?_
        have h9 := k 8 rfl (by decide)
        unfold xcu at h9
        first
          | (rw [if_pos h117] at h9; exact h9)
          | (rw [if_neg h117] at h9; exact h9)
    · first
      | exfalso; omega
      | skip
        refine kw_icon x_M_count_120 ?_
        refine kw_goto x_M_count_121 ?_
        refine kw_iret x_M_count_125 ?_
        have h9 := k 8 rfl (by decide)
        unfold xcu at h9
        first
          | (rw [if_pos h117] at h9; exact h9)
          | (rw [if_neg h117] at h9; exact h9)
  · intro h1
    subst h1
    refine kw_ald_n x_M_count_126 rfl ?_
    refine kw_gi_e x_M_count_127 (by exact isM_k hM) (by first | exact hE.1 | exact hE.2.1 | exact hE.2.2.1 | exact hnp | exact hty | exact rfl) ?_
    refine kw_iret x_M_count_130 ?_
    exact k 9 rfl (by decide)
  · intro h1
    subst h1
    refine kw_ald_n x_M_count_131 rfl ?_
    refine kw_gi_e x_M_count_132 (by exact isM_k hM) (by first | exact hE.1 | exact hE.2.1 | exact hE.2.2.1 | exact hnp | exact hty | exact rfl) ?_
    refine kw_iret x_M_count_135 ?_
    exact k 10 rfl (by decide)
  · intro h1_0 h1_1 h1_2 h1_3 h1_4 h1_5 h1_6 h1_7 h1_8 h1_9 h1_10
    refine kw_icon x_M_count_136 ?_
    refine kw_iret x_M_count_137 ?_
    exact kf (fun h => by
      obtain ⟨f, _, hf, rfl⟩ := h
      have h0 : ∀ q, ¬ nI f = nI q → ¬ f = q := fun q hq e => hq (by rw [e])
      have := h0 _ h1_0
      have := h0 _ h1_1
      have := h0 _ h1_2
      have := h0 _ h1_3
      have := h0 _ h1_4
      have := h0 _ h1_5
      have := h0 _ h1_6
      have := h0 _ h1_7
      have := h0 _ h1_8
      have := h0 _ h1_9
      have := h0 _ h1_10
      omega)
theorem s_M_unheard (hM : kt_isM P N R m) (hE : kt_enc (I (m + 1)) X) (hW : kt_wf X) {a b : Int32} (kf : ¬ (vT (xT X) a ∧ vT (xT X) b) → Q (some (.int (-1))) I J R)
    (k : ∀ t u, a = nI t → b = nI u → t < xT X → u < xT X → Q (some (.int (nI (xct (fun e => xk X t e && !xk X u e) (xn X))))) I J R) : KW P i_M_unheard N 0 [some (.ref m), some (.int a), some (.int b), none, none] [] N I J R Q := by
  have hn := hW.2.2.1
  have hT := hW.2.1
  have loop : ∀ t u, t < xT X → u < xT X → a = nI t → b = nI u → ∀ (d e s : Nat), e + d = xn X → s = xct (fun e => xk X t e && !xk X u e) e → KW P i_M_unheard N 23 [some (.ref m), some (.int (nI t)), some (.int (nI u)), some (.int (nI s)), some (.int (nI e))] [] N I J R Q := by
    intro t u ht hu ha hb d
    induction d with
    | zero =>
      intro e s h1 h2
      refine kw_ild x_M_unheard_23 rfl ?_
      refine kw_ald_n x_M_unheard_25 rfl ?_
      refine kw_gr x_M_unheard_26 (by exact isM_k hM) (by exact isM_r0 hM) ?_
      refine kw_icon x_M_unheard_29 ?_
      refine kw_iald_n x_M_unheard_30 (by first | exact isM_a1 hM | exact isM_a2 hM | exact isM_a3 hM | exact isM_a4 hM | exact isM_a5 hM | exact isM_a6 hM | exact isM_a7 hM | exact isM_a8 hM | exact isM_a10 hM | exact isM_a11 hM) (by omega) (by omega) (by first | exact hE.1 | exact hE.2.1 | exact hE.2.2.1 | exact rfl) ?_
      first | refine kw_ic_ge_n x_M_unheard_31 ⟨by omega, by omega⟩ (fun h31 => ?_) (fun h31 => ?_) | refine kw_ic_ge x_M_unheard_31 (fun h31 => ?_) (fun h31 => ?_)
      · first
        | exfalso; omega
        | skip
          refine kw_ild_n x_M_unheard_68 rfl ?_
          refine kw_iret x_M_unheard_69 ?_
          have h3 : e = xn X := by omega
          subst h3; subst h2; exact k t u ha hb ht hu
      · first
        | exfalso; omega
        | skip
          skip
    | succ d ih =>
      intro e s h1 h2
      refine kw_ild x_M_unheard_23 rfl ?_
      refine kw_ald_n x_M_unheard_25 rfl ?_
      refine kw_gr x_M_unheard_26 (by exact isM_k hM) (by exact isM_r0 hM) ?_
      refine kw_icon x_M_unheard_29 ?_
      refine kw_iald_n x_M_unheard_30 (by first | exact isM_a1 hM | exact isM_a2 hM | exact isM_a3 hM | exact isM_a4 hM | exact isM_a5 hM | exact isM_a6 hM | exact isM_a7 hM | exact isM_a8 hM | exact isM_a10 hM | exact isM_a11 hM) (by omega) (by omega) (by first | exact hE.1 | exact hE.2.1 | exact hE.2.2.1 | exact rfl) ?_
      first | refine kw_ic_ge_n x_M_unheard_31 ⟨by omega, by omega⟩ (fun h31 => ?_) (fun h31 => ?_) | refine kw_ic_ge x_M_unheard_31 (fun h31 => ?_) (fun h31 => ?_)
      · first
        | exfalso; omega
        | skip
          skip
      · first
        | exfalso; omega
        | skip
          refine kw_ild_n x_M_unheard_34 rfl ?_
          refine kw_ald_n x_M_unheard_35 rfl ?_
          refine kw_ild_n x_M_unheard_36 rfl ?_
          refine kw_ild x_M_unheard_37 rfl ?_
          refine c_M_unheard_39 (by exact isM_k hM) (Nat.le_of_ble_eq_true rfl) ?_
          refine s_M_knows hM hE hW (by omega) (by omega) ?_
          first | refine kw_if_eq_b x_M_unheard_42 (fun h42 => ?_) (fun h42 => ?_) | refine kw_if_eq_n x_M_unheard_42 (by omega) (fun h42 => ?_) (fun h42 => ?_) | refine kw_if_eq x_M_unheard_42 (fun h42 => ?_) (fun h42 => ?_)
          · first
            | exfalso; omega
            | skip
              refine kw_icon x_M_unheard_59 ?_
              first | refine kw_iadd_n x_M_unheard_60 ?_ | refine kw_iadd x_M_unheard_60 ?_
              refine kw_ist_n x_M_unheard_61 (by decide) ?_
              first | refine kw_iinc_n x_M_unheard_62 (by decide) rfl ?_ | refine kw_iinc x_M_unheard_62 (by decide) rfl ?_
              refine kw_goto x_M_unheard_65 ?_
              exact ih (e + 1) _ (by omega) (by rw [h2]; simp [xct, *])
          · first
            | exfalso; omega
            | skip
              refine kw_ald_n x_M_unheard_45 rfl ?_
              refine kw_ild_n x_M_unheard_46 rfl ?_
              refine kw_ild x_M_unheard_47 rfl ?_
              refine c_M_unheard_49 (by exact isM_k hM) (Nat.le_of_ble_eq_true rfl) ?_
              refine s_M_knows hM hE hW (by omega) (by omega) ?_
              first | refine kw_if_ne_b x_M_unheard_52 (fun h52 => ?_) (fun h52 => ?_) | refine kw_if_ne_s x_M_unheard_52 ⟨by omega, by omega⟩ (fun h52 => ?_) (fun h52 => ?_) | refine kw_if_ne_n x_M_unheard_52 (by omega) (fun h52 => ?_) (fun h52 => ?_) | refine kw_if_ne x_M_unheard_52 (fun h52 => ?_) (fun h52 => ?_)
              · first
                | exfalso; omega
                | skip
                  refine kw_icon x_M_unheard_59 ?_
                  first | refine kw_iadd_n x_M_unheard_60 ?_ | refine kw_iadd x_M_unheard_60 ?_
                  refine kw_ist_n x_M_unheard_61 (by decide) ?_
                  first | refine kw_iinc_n x_M_unheard_62 (by decide) rfl ?_ | refine kw_iinc x_M_unheard_62 (by decide) rfl ?_
                  refine kw_goto x_M_unheard_65 ?_
                  exact ih (e + 1) _ (by omega) (by rw [h2]; simp [xct, *])
              · first
                | exfalso; omega
                | skip
                  refine kw_icon x_M_unheard_55 ?_
                  refine kw_goto x_M_unheard_56 ?_
                  first | refine kw_iadd_n x_M_unheard_60 ?_ | refine kw_iadd x_M_unheard_60 ?_
                  refine kw_ist_n x_M_unheard_61 (by decide) ?_
                  first | refine kw_iinc_n x_M_unheard_62 (by decide) rfl ?_ | refine kw_iinc x_M_unheard_62 (by decide) rfl ?_
                  refine kw_goto x_M_unheard_65 ?_
                  exact ih (e + 1) _ (by omega) (by rw [h2]; simp [xct, *])
  refine kw_ald_n x_M_unheard_0 rfl ?_
  refine kw_ild_n x_M_unheard_1 rfl ?_
  refine c_M_unheard_2 (by exact isM_k hM) (Nat.le_of_ble_eq_true rfl) ?_
  refine s_M_isTown hM hE ?_
  first | refine kw_if_eq_b x_M_unheard_5 (fun h5 => ?_) (fun h5 => ?_) | refine kw_if_eq_n x_M_unheard_5 (by omega) (fun h5 => ?_) (fun h5 => ?_) | refine kw_if_eq x_M_unheard_5 (fun h5 => ?_) (fun h5 => ?_)
  · first
    | exfalso; omega
    | skip
      refine kw_icon x_M_unheard_16 ?_
      refine kw_iret x_M_unheard_17 ?_
      exact kf (fun h => by first | exact kt_nT (by omega) h5 h.1 | exact kt_nT (by omega) h13 h.2)
  · first
    | exfalso; omega
    | skip
      obtain ⟨t, ht, rfl⟩ := kt_yT (by omega) h5
      refine kw_ald_n x_M_unheard_8 rfl ?_
      refine kw_ild_n x_M_unheard_9 rfl ?_
      refine c_M_unheard_10 (by exact isM_k hM) (Nat.le_of_ble_eq_true rfl) ?_
      refine s_M_isTown hM hE ?_
      first | refine kw_if_ne_b x_M_unheard_13 (fun h13 => ?_) (fun h13 => ?_) | refine kw_if_ne_s x_M_unheard_13 ⟨by omega, by omega⟩ (fun h13 => ?_) (fun h13 => ?_) | refine kw_if_ne_n x_M_unheard_13 (by omega) (fun h13 => ?_) (fun h13 => ?_) | refine kw_if_ne x_M_unheard_13 (fun h13 => ?_) (fun h13 => ?_)
      · first
        | exfalso; omega
        | skip
          obtain ⟨u, hu, rfl⟩ := kt_yT (by omega) h13
          refine kw_icon x_M_unheard_18 ?_
          refine kw_ist_n x_M_unheard_19 (by decide) ?_
          refine kw_icon x_M_unheard_20 ?_
          refine kw_ist x_M_unheard_21 (by decide) ?_
          exact loop t u ht hu rfl rfl (xn X) 0 0 (by omega) rfl
      · first
        | exfalso; omega
        | skip
          refine kw_icon x_M_unheard_16 ?_
          refine kw_iret x_M_unheard_17 ?_
          exact kf (fun h => by first | exact kt_nT (by omega) h5 h.1 | exact kt_nT (by omega) h13 h.2)
end MO
