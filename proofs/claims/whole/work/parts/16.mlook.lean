/-! the reference: what is cancelled, which order is ahead -/
/-- the lower, the earlier an order is looked at -/
def xky (X : kt_X) (G : Nat → Nat) (e : Nat) : Nat := (if xr X = 0 then 0 else if xr X = 1 then xe X e 4 else G (xe X e 5 - 1)) * 305 + (xe X e 2 * 5 + xe X e 1)
theorem kt_el5 {X : kt_X} (h : kt_wf X) {e : Nat} (he : e < xn X) : xe X e 2 * 5 + xe X e 1 < 305 := by
  have h1 := h.2.2.2.2.2.1 e he
  have h2 := h.2.2.2.1 (xe X e 1)
  have h3 := h1.2.1
  have h4 := h1.2.2.1.2
  have h5 := h.2.1
  have h6 := h.2.2.1
  omega
section MM
variable {P : kt_P} {N : Nat} {I : kt_I} {J : kt_J} {R : kt_R} {Q : Option Value → kt_I → kt_J → kt_R → Prop} {m : Nat} {X : kt_X}

theorem s_M_of6 (hM : kt_isM P N R m) (hE : kt_enc (I (m + 1)) X) (hn : xn X ≤ 60) {e : Nat} (he : e < xn X) (hp : 1 ≤ xe X e 6) (k : Q (some (.int (nI (xe X e 6 - 1)))) I J R) : KW P i_M_of N 0 [some (.ref m), some (.int (nI e)), some (.int (nI 6))] [] N I J R Q :=
  s_M_ofc hM hE hn he (by decide) (by unfold kt_cd; rw [if_pos (Or.inr rfl), if_neg (by omega)]; exact k)
theorem s_M_isCancelled (hM : kt_isM P N R m) (hE : kt_enc (I (m + 1)) X) (hW : kt_wf X) {t o : Nat} (ht : t ≤ 5) (ho : o < xn X) (k : Q (some (.int (kt_bo (xcn X t o (xn X))))) I J R) : KW P i_M_isCancelled N 0 [some (.ref m), some (.int (nI t)), some (.int (nI o)), none, none] [] N I J R Q := by
  have hn := hW.2.2.1
  have loop : ∀ (d e : Nat) (v : Int32), e + d = xn X → o < e → v = kt_bo (xcn X t o e) → KW P i_M_isCancelled N 7 [some (.ref m), some (.int (nI t)), some (.int (nI o)), some (.int v), some (.int (nI e))] [] N I J R Q := by
    intro d
    induction d with
    | zero =>
      intro e v h1 h0 h2
      have h3 : e = xn X := by omega
      subst h3; subst h2
      refine kw_ild x_M_isCancelled_7 rfl ?_
      refine kw_ald_n x_M_isCancelled_9 rfl ?_
      refine kw_gr x_M_isCancelled_10 (by exact isM_k hM) (by exact isM_r0 hM) ?_
      refine kw_icon x_M_isCancelled_13 ?_
      refine kw_iald_n x_M_isCancelled_14 (by first | exact isM_a1 hM | exact isM_a2 hM | exact isM_a3 hM | exact isM_a4 hM | exact isM_a5 hM | exact isM_a6 hM | exact isM_a7 hM | exact isM_a8 hM | exact isM_a10 hM | exact isM_a11 hM) (by omega) (by omega) (by first | exact hE.1 | exact hE.2.1 | exact hE.2.2.1 | exact rfl) ?_
      first | refine kw_ic_ge_n x_M_isCancelled_15 ⟨by omega, by omega⟩ (fun h15 => ?_) (fun h15 => ?_) | refine kw_ic_ge x_M_isCancelled_15 (fun h15 => ?_) (fun h15 => ?_)
      · first
        | exfalso; omega
        | skip
          refine kw_ild_n x_M_isCancelled_67 rfl ?_
          first | refine kw_zret_b x_M_isCancelled_68 ?_ | refine kw_zret_b (b := true) x_M_isCancelled_68 ?_ | refine kw_zret_b (b := false) x_M_isCancelled_68 ?_
          exact k
      · first
        | exfalso; omega
        | skip
          skip
    | succ d ih =>
      intro e v h1 h0 h2
      subst h2
      have hx := (hW.2.2.2.2.2.1 e (by omega))
      have hx0 := hx.1
      have hx6 : xe X e 0 = 2 → 1 ≤ xe X e 6 ∧ xe X e 6 ≤ e := fun q => ⟨(hx.2.2.2.2.2.2.1.2 q).1, (hx.2.2.2.2.2.2.1.2 q).2.1⟩
      refine kw_ild x_M_isCancelled_7 rfl ?_
      refine kw_ald_n x_M_isCancelled_9 rfl ?_
      refine kw_gr x_M_isCancelled_10 (by exact isM_k hM) (by exact isM_r0 hM) ?_
      refine kw_icon x_M_isCancelled_13 ?_
      refine kw_iald_n x_M_isCancelled_14 (by first | exact isM_a1 hM | exact isM_a2 hM | exact isM_a3 hM | exact isM_a4 hM | exact isM_a5 hM | exact isM_a6 hM | exact isM_a7 hM | exact isM_a8 hM | exact isM_a10 hM | exact isM_a11 hM) (by omega) (by omega) (by first | exact hE.1 | exact hE.2.1 | exact hE.2.2.1 | exact rfl) ?_
      first | refine kw_ic_ge_n x_M_isCancelled_15 ⟨by omega, by omega⟩ (fun h15 => ?_) (fun h15 => ?_) | refine kw_ic_ge x_M_isCancelled_15 (fun h15 => ?_) (fun h15 => ?_)
      · first
        | exfalso; omega
        | skip
          refine kw_ild_n x_M_isCancelled_67 rfl ?_
          first | refine kw_zret_b x_M_isCancelled_68 ?_ | refine kw_zret_b (b := true) x_M_isCancelled_68 ?_ | refine kw_zret_b (b := false) x_M_isCancelled_68 ?_
          exact k
      · first
        | exfalso; omega
        | skip
          refine kw_ild_n x_M_isCancelled_18 rfl ?_
          first | refine kw_if_ne_b x_M_isCancelled_19 (fun h19 => ?_) (fun h19 => ?_) | refine kw_if_ne_s x_M_isCancelled_19 ⟨by omega, by omega⟩ (fun h19 => ?_) (fun h19 => ?_) | refine kw_if_ne_n x_M_isCancelled_19 (by omega) (fun h19 => ?_) (fun h19 => ?_) | refine kw_if_ne x_M_isCancelled_19 (fun h19 => ?_) (fun h19 => ?_)
          · first
            | exfalso; omega
            | skip
              refine kw_icon x_M_isCancelled_55 ?_
              refine kw_goto x_M_isCancelled_56 ?_
              refine kw_ist_n x_M_isCancelled_60 (by decide) ?_
              first | refine kw_iinc_n x_M_isCancelled_61 (by decide) rfl ?_ | refine kw_iinc x_M_isCancelled_61 (by decide) rfl ?_
              refine kw_goto x_M_isCancelled_64 ?_
              refine ih (e + 1) _ (by omega) (by omega) ?_
              first
                | (rw [show xcn X t o (e + 1) = true from (by first | (simp [xcn, *]; done) | (have q : xe X e 6 = o + 1 := (by omega); simp [xcn, *]; done))]; rfl)
                | (rw [show xcn X t o (e + 1) = false from (by first | (simp [xcn, *]; done) | (have q : ¬ xe X e 6 = o + 1 := (by omega); simp [xcn, *]; done))]; rfl)
          · first
            | exfalso; omega
            | skip
              refine kw_ald_n x_M_isCancelled_22 rfl ?_
              refine kw_ild x_M_isCancelled_23 rfl ?_
              refine kw_icon x_M_isCancelled_25 ?_
              refine c_M_isCancelled_26 (by exact isM_k hM) (Nat.le_of_ble_eq_true rfl) ?_
              first | refine s_M_ofn hM hE hn (by omega) (by decide) ?_ | refine s_M_of5 hM hE hn (by omega) (by omega) ?_ | refine s_M_of6 hM hE hn (by omega) (by omega) ?_
              refine kw_icon x_M_isCancelled_29 ?_
              first | refine kw_ic_ne_n x_M_isCancelled_30 ⟨by omega, by omega⟩ (fun h30 => ?_) (fun h30 => ?_) | refine kw_ic_ne x_M_isCancelled_30 (fun h30 => ?_) (fun h30 => ?_)
              · first
                | exfalso; omega
                | skip
                  refine kw_icon x_M_isCancelled_59 ?_
                  refine kw_ist_n x_M_isCancelled_60 (by decide) ?_
                  first | refine kw_iinc_n x_M_isCancelled_61 (by decide) rfl ?_ | refine kw_iinc x_M_isCancelled_61 (by decide) rfl ?_
                  refine kw_goto x_M_isCancelled_64 ?_
                  refine ih (e + 1) _ (by omega) (by omega) ?_
                  first
                    | (rw [show xcn X t o (e + 1) = true from (by first | (simp [xcn, *]; done) | (have q : xe X e 6 = o + 1 := (by omega); simp [xcn, *]; done))]; rfl)
                    | (rw [show xcn X t o (e + 1) = false from (by first | (simp [xcn, *]; done) | (have q : ¬ xe X e 6 = o + 1 := (by omega); simp [xcn, *]; done))]; rfl)
              · first
                | exfalso; omega
                | skip
                  have h33 := hx6 (by omega)
                  refine kw_ald_n x_M_isCancelled_33 rfl ?_
                  refine kw_ild x_M_isCancelled_34 rfl ?_
                  refine kw_bip x_M_isCancelled_36 ?_
                  refine c_M_isCancelled_38 (by exact isM_k hM) (Nat.le_of_ble_eq_true rfl) ?_
                  first | refine s_M_ofn hM hE hn (by omega) (by decide) ?_ | refine s_M_of5 hM hE hn (by omega) (by omega) ?_ | refine s_M_of6 hM hE hn (by omega) (by omega) ?_
                  refine kw_ild_n x_M_isCancelled_41 rfl ?_
                  first | refine kw_ic_ne_n x_M_isCancelled_42 ⟨by omega, by omega⟩ (fun h42 => ?_) (fun h42 => ?_) | refine kw_ic_ne x_M_isCancelled_42 (fun h42 => ?_) (fun h42 => ?_)
                  · first
                    | exfalso; omega
                    | skip
                      refine kw_icon x_M_isCancelled_59 ?_
                      refine kw_ist_n x_M_isCancelled_60 (by decide) ?_
                      first | refine kw_iinc_n x_M_isCancelled_61 (by decide) rfl ?_ | refine kw_iinc x_M_isCancelled_61 (by decide) rfl ?_
                      refine kw_goto x_M_isCancelled_64 ?_
                      refine ih (e + 1) _ (by omega) (by omega) ?_
                      first
                        | (rw [show xcn X t o (e + 1) = true from (by first | (simp [xcn, *]; done) | (have q : xe X e 6 = o + 1 := (by omega); simp [xcn, *]; done))]; rfl)
                        | (rw [show xcn X t o (e + 1) = false from (by first | (simp [xcn, *]; done) | (have q : ¬ xe X e 6 = o + 1 := (by omega); simp [xcn, *]; done))]; rfl)
                  · first
                    | exfalso; omega
                    | skip
                      refine kw_ald_n x_M_isCancelled_45 rfl ?_
                      refine kw_ild_n x_M_isCancelled_46 rfl ?_
                      refine kw_ild x_M_isCancelled_47 rfl ?_
                      refine c_M_isCancelled_49 (by exact isM_k hM) (Nat.le_of_ble_eq_true rfl) ?_
                      refine s_M_knows hM hE hW (by omega) (by omega) ?_
                      first | refine kw_if_eq_b x_M_isCancelled_52 (fun h52 => ?_) (fun h52 => ?_) | refine kw_if_eq_n x_M_isCancelled_52 (by omega) (fun h52 => ?_) (fun h52 => ?_) | refine kw_if_eq x_M_isCancelled_52 (fun h52 => ?_) (fun h52 => ?_)
                      · first
                        | exfalso; omega
                        | skip
                          refine kw_icon x_M_isCancelled_59 ?_
                          refine kw_ist_n x_M_isCancelled_60 (by decide) ?_
                          first | refine kw_iinc_n x_M_isCancelled_61 (by decide) rfl ?_ | refine kw_iinc x_M_isCancelled_61 (by decide) rfl ?_
                          refine kw_goto x_M_isCancelled_64 ?_
                          refine ih (e + 1) _ (by omega) (by omega) ?_
                          first
                            | (rw [show xcn X t o (e + 1) = true from (by first | (simp [xcn, *]; done) | (have q : xe X e 6 = o + 1 := (by omega); simp [xcn, *]; done))]; rfl)
                            | (rw [show xcn X t o (e + 1) = false from (by first | (simp [xcn, *]; done) | (have q : ¬ xe X e 6 = o + 1 := (by omega); simp [xcn, *]; done))]; rfl)
                      · first
                        | exfalso; omega
                        | skip
                          refine kw_icon x_M_isCancelled_55 ?_
                          refine kw_goto x_M_isCancelled_56 ?_
                          refine kw_ist_n x_M_isCancelled_60 (by decide) ?_
                          first | refine kw_iinc_n x_M_isCancelled_61 (by decide) rfl ?_ | refine kw_iinc x_M_isCancelled_61 (by decide) rfl ?_
                          refine kw_goto x_M_isCancelled_64 ?_
                          refine ih (e + 1) _ (by omega) (by omega) ?_
                          first
                            | (rw [show xcn X t o (e + 1) = true from (by first | (simp [xcn, *]; done) | (have q : xe X e 6 = o + 1 := (by omega); simp [xcn, *]; done))]; rfl)
                            | (rw [show xcn X t o (e + 1) = false from (by first | (simp [xcn, *]; done) | (have q : ¬ xe X e 6 = o + 1 := (by omega); simp [xcn, *]; done))]; rfl)
  refine kw_icon x_M_isCancelled_0 ?_
  refine kw_ist_n x_M_isCancelled_1 (by decide) ?_
  refine kw_ild_n x_M_isCancelled_2 rfl ?_
  refine kw_icon x_M_isCancelled_3 ?_
  first | refine kw_iadd_n x_M_isCancelled_4 ?_ | refine kw_iadd x_M_isCancelled_4 ?_
  refine kw_ist x_M_isCancelled_5 (by decide) ?_
  exact loop (xn X - (o + 1)) (o + 1) _ (by omega) (by omega) (by rw [xcn_lo X t o _ (Nat.le_refl _)]; rfl)
theorem s_M_isEarlier (hM : kt_isM P N R m) (hE : kt_enc (I (m + 1)) X) (hW : kt_wf X) {a b : Nat} (ha : a < xn X) (hb : b < xn X) (k : Q (some (.int (kt_bo (decide (xe X a 2 * 5 + xe X a 1 < xe X b 2 * 5 + xe X b 1))))) I J R) : KW P i_M_isEarlier N 0 [some (.ref m), some (.int (nI a)), some (.int (nI b)), none] [] N I J R Q := by
  have hn := hW.2.2.1
  have ha5 := kt_el5 hW ha
  have hb5 := kt_el5 hW hb
  have ha1 := (hW.2.2.2.2.2.1 a ha).2.1
  have hb1 := (hW.2.2.2.2.2.1 b hb).2.1
  have hT := hW.2.1
  refine kw_ald_n x_M_isEarlier_0 rfl ?_
  refine kw_ild_n x_M_isEarlier_1 rfl ?_
  refine kw_icon x_M_isEarlier_2 ?_
  refine c_M_isEarlier_3 (by exact isM_k hM) (Nat.le_of_ble_eq_true rfl) ?_
  first | refine s_M_ofn hM hE hn (by omega) (by decide) ?_ | refine s_M_of5 hM hE hn (by omega) (by omega) ?_ | refine s_M_of6 hM hE hn (by omega) (by omega) ?_
  refine kw_ald_n x_M_isEarlier_6 rfl ?_
  refine kw_ild_n x_M_isEarlier_7 rfl ?_
  refine kw_icon x_M_isEarlier_8 ?_
  refine c_M_isEarlier_9 (by exact isM_k hM) (Nat.le_of_ble_eq_true rfl) ?_
  first | refine s_M_ofn hM hE hn (by omega) (by decide) ?_ | refine s_M_of5 hM hE hn (by omega) (by omega) ?_ | refine s_M_of6 hM hE hn (by omega) (by omega) ?_
  first | refine kw_isub_n x_M_isEarlier_12 (by omega) ?_ | refine kw_isub x_M_isEarlier_12 ?_
  refine kw_ist_n x_M_isEarlier_13 (by decide) ?_
  refine kw_ild_n x_M_isEarlier_14 rfl ?_
  first | refine kw_if_lt_s x_M_isEarlier_15 ⟨by omega, by omega⟩ (fun h15 => ?_) (fun h15 => ?_) | refine kw_if_lt_n x_M_isEarlier_15 (by omega) (fun h15 => ?_) (fun h15 => ?_) | refine kw_if_lt x_M_isEarlier_15 (fun h15 => ?_) (fun h15 => ?_)
  · first
    | exfalso; omega
    | skip
      refine kw_icon x_M_isEarlier_37 ?_
      refine kw_goto x_M_isEarlier_38 ?_
      first | refine kw_zret_b x_M_isEarlier_42 ?_ | refine kw_zret_b (b := true) x_M_isEarlier_42 ?_ | refine kw_zret_b (b := false) x_M_isEarlier_42 ?_
      exact kt_kb k (by first | exact decide_eq_true (by omega) | exact decide_eq_false (by omega))
  · first
    | exfalso; omega
    | skip
      refine kw_ild_n x_M_isEarlier_18 rfl ?_
      first | refine kw_if_ne_b x_M_isEarlier_19 (fun h19 => ?_) (fun h19 => ?_) | refine kw_if_ne_s x_M_isEarlier_19 ⟨by omega, by omega⟩ (fun h19 => ?_) (fun h19 => ?_) | refine kw_if_ne_n x_M_isEarlier_19 (by omega) (fun h19 => ?_) (fun h19 => ?_) | refine kw_if_ne x_M_isEarlier_19 (fun h19 => ?_) (fun h19 => ?_)
      · first
        | exfalso; omega
        | skip
          refine kw_icon x_M_isEarlier_41 ?_
          first | refine kw_zret_b x_M_isEarlier_42 ?_ | refine kw_zret_b (b := true) x_M_isEarlier_42 ?_ | refine kw_zret_b (b := false) x_M_isEarlier_42 ?_
          exact kt_kb k (by first | exact decide_eq_true (by omega) | exact decide_eq_false (by omega))
      · first
        | exfalso; omega
        | skip
          refine kw_ald_n x_M_isEarlier_22 rfl ?_
          refine kw_ild_n x_M_isEarlier_23 rfl ?_
          refine kw_icon x_M_isEarlier_24 ?_
          refine c_M_isEarlier_25 (by exact isM_k hM) (Nat.le_of_ble_eq_true rfl) ?_
          first | refine s_M_ofn hM hE hn (by omega) (by decide) ?_ | refine s_M_of5 hM hE hn (by omega) (by omega) ?_ | refine s_M_of6 hM hE hn (by omega) (by omega) ?_
          refine kw_ald_n x_M_isEarlier_28 rfl ?_
          refine kw_ild_n x_M_isEarlier_29 rfl ?_
          refine kw_icon x_M_isEarlier_30 ?_
          refine c_M_isEarlier_31 (by exact isM_k hM) (Nat.le_of_ble_eq_true rfl) ?_
          first | refine s_M_ofn hM hE hn (by omega) (by decide) ?_ | refine s_M_of5 hM hE hn (by omega) (by omega) ?_ | refine s_M_of6 hM hE hn (by omega) (by omega) ?_
          first | refine kw_ic_ge_n x_M_isEarlier_34 ⟨by omega, by omega⟩ (fun h34 => ?_) (fun h34 => ?_) | refine kw_ic_ge x_M_isEarlier_34 (fun h34 => ?_) (fun h34 => ?_)
          · first
            | exfalso; omega
            | skip
              refine kw_icon x_M_isEarlier_41 ?_
              first | refine kw_zret_b x_M_isEarlier_42 ?_ | refine kw_zret_b (b := true) x_M_isEarlier_42 ?_ | refine kw_zret_b (b := false) x_M_isEarlier_42 ?_
              exact kt_kb k (by first | exact decide_eq_true (by omega) | exact decide_eq_false (by omega))
          · first
            | exfalso; omega
            | skip
              refine kw_icon x_M_isEarlier_37 ?_
              refine kw_goto x_M_isEarlier_38 ?_
              first | refine kw_zret_b x_M_isEarlier_42 ?_ | refine kw_zret_b (b := true) x_M_isEarlier_42 ?_ | refine kw_zret_b (b := false) x_M_isEarlier_42 ?_
              exact kt_kb k (by first | exact decide_eq_true (by omega) | exact decide_eq_false (by omega))
theorem s_M_isAhead (hM : kt_isM P N R m) (hE : kt_enc (I (m + 1)) X) (hW : kt_wf X) {G : Nat → Nat} (hG : ∀ p, p < 10 → I (m + 8) p = nI (G p)) (hG2 : ∀ p, p < 10 → G p < 10000) {a b : Nat} (ha : a < xn X) (hb : b < xn X) (hka : xe X a 0 = 1) (hkb : xe X b 0 = 1)
    (k : Q (some (.int (kt_bo (decide (xky X G a < xky X G b))))) I J R) : KW P i_M_isAhead N 0 [some (.ref m), some (.int (nI a)), some (.int (nI b)), none] [] N I J R Q := by
  have hn := hW.2.2.1
  have ha5 := kt_el5 hW ha
  have hb5 := kt_el5 hW hb
  have hxa := hW.2.2.2.2.2.1 a ha
  have hxb := hW.2.2.2.2.2.1 b hb
  have ha4 := hxa.2.2.2.2.1
  have hb4 := hxb.2.2.2.2.1
  have hpa := hxa.2.2.2.2.2.1.2.1 (by omega)
  have hpb := hxb.2.2.2.2.2.1.2.1 (by omega)
  have hpa2 := hxa.2.2.2.2.2.1.2.2
  have hpb2 := hxb.2.2.2.2.2.1.2.2
  have hga := hG2 (xe X a 5 - 1) (by omega)
  have hgb := hG2 (xe X b 5 - 1) (by omega)
  have hr := hW.1
  unfold xky at k
  refine kw_ald_n x_M_isAhead_0 rfl ?_
  refine kw_gr x_M_isAhead_1 (by exact isM_k hM) (by exact isM_r0 hM) ?_
  refine kw_icon x_M_isAhead_4 ?_
  refine kw_iald_n x_M_isAhead_5 (by first | exact isM_a1 hM | exact isM_a2 hM | exact isM_a3 hM | exact isM_a4 hM | exact isM_a5 hM | exact isM_a6 hM | exact isM_a7 hM | exact isM_a8 hM | exact isM_a10 hM | exact isM_a11 hM) (by omega) (by omega) (by first | exact hE.1 | exact hE.2.1 | exact hE.2.2.1 | exact hG _ (by omega) | exact rfl) ?_
  first | refine kw_if_ne_b x_M_isAhead_6 (fun h6 => ?_) (fun h6 => ?_) | refine kw_if_ne_s x_M_isAhead_6 ⟨by omega, by omega⟩ (fun h6 => ?_) (fun h6 => ?_) | refine kw_if_ne_n x_M_isAhead_6 (by omega) (fun h6 => ?_) (fun h6 => ?_) | refine kw_if_ne x_M_isAhead_6 (fun h6 => ?_) (fun h6 => ?_)
  · first
    | exfalso; omega
    | skip
      refine kw_ald_n x_M_isAhead_13 rfl ?_
      refine kw_gr x_M_isAhead_14 (by exact isM_k hM) (by exact isM_r0 hM) ?_
      refine kw_icon x_M_isAhead_17 ?_
      refine kw_iald_n x_M_isAhead_18 (by first | exact isM_a1 hM | exact isM_a2 hM | exact isM_a3 hM | exact isM_a4 hM | exact isM_a5 hM | exact isM_a6 hM | exact isM_a7 hM | exact isM_a8 hM | exact isM_a10 hM | exact isM_a11 hM) (by omega) (by omega) (by first | exact hE.1 | exact hE.2.1 | exact hE.2.2.1 | exact hG _ (by omega) | exact rfl) ?_
      refine kw_icon x_M_isAhead_19 ?_
      first | refine kw_ic_ne_n x_M_isAhead_20 ⟨by omega, by omega⟩ (fun h20 => ?_) (fun h20 => ?_) | refine kw_ic_ne x_M_isAhead_20 (fun h20 => ?_) (fun h20 => ?_)
      · first
        | exfalso; omega
        | skip
          refine kw_ald_n x_M_isAhead_39 rfl ?_
          refine kw_gr x_M_isAhead_40 (by exact isM_k hM) (by exact isM_r11 hM) ?_
          refine kw_ald_n x_M_isAhead_43 rfl ?_
          refine kw_ild_n x_M_isAhead_44 rfl ?_
          refine kw_icon x_M_isAhead_45 ?_
          refine c_M_isAhead_46 (by exact isM_k hM) (Nat.le_of_ble_eq_true rfl) ?_
          first | refine s_M_ofn hM hE hn (by omega) (by decide) ?_ | refine s_M_of5 hM hE hn (by omega) (by omega) ?_ | refine s_M_of6 hM hE hn (by omega) (by omega) ?_
          refine kw_iald_n x_M_isAhead_49 (by first | exact isM_a1 hM | exact isM_a2 hM | exact isM_a3 hM | exact isM_a4 hM | exact isM_a5 hM | exact isM_a6 hM | exact isM_a7 hM | exact isM_a8 hM | exact isM_a10 hM | exact isM_a11 hM) (by omega) (by omega) (by first | exact hE.1 | exact hE.2.1 | exact hE.2.2.1 | exact hG _ (by omega) | exact rfl) ?_
          refine kw_ald_n x_M_isAhead_50 rfl ?_
          refine kw_gr x_M_isAhead_51 (by exact isM_k hM) (by exact isM_r11 hM) ?_
          refine kw_ald_n x_M_isAhead_54 rfl ?_
          refine kw_ild_n x_M_isAhead_55 rfl ?_
          refine kw_icon x_M_isAhead_56 ?_
          refine c_M_isAhead_57 (by exact isM_k hM) (Nat.le_of_ble_eq_true rfl) ?_
          first | refine s_M_ofn hM hE hn (by omega) (by decide) ?_ | refine s_M_of5 hM hE hn (by omega) (by omega) ?_ | refine s_M_of6 hM hE hn (by omega) (by omega) ?_
          refine kw_iald_n x_M_isAhead_60 (by first | exact isM_a1 hM | exact isM_a2 hM | exact isM_a3 hM | exact isM_a4 hM | exact isM_a5 hM | exact isM_a6 hM | exact isM_a7 hM | exact isM_a8 hM | exact isM_a10 hM | exact isM_a11 hM) (by omega) (by omega) (by first | exact hE.1 | exact hE.2.1 | exact hE.2.2.1 | exact hG _ (by omega) | exact rfl) ?_
          first | refine kw_isub_n x_M_isAhead_61 (by omega) ?_ | refine kw_isub x_M_isAhead_61 ?_
          refine kw_ist_n x_M_isAhead_62 (by decide) ?_
          refine kw_ild_n x_M_isAhead_63 rfl ?_
          first | refine kw_if_lt_s x_M_isAhead_64 ⟨by omega, by omega⟩ (fun h64 => ?_) (fun h64 => ?_) | refine kw_if_lt_n x_M_isAhead_64 (by omega) (fun h64 => ?_) (fun h64 => ?_) | refine kw_if_lt x_M_isAhead_64 (fun h64 => ?_) (fun h64 => ?_)
          · first
            | exfalso; omega
            | skip
              refine kw_icon x_M_isAhead_80 ?_
              refine kw_goto x_M_isAhead_81 ?_
              first | refine kw_zret_b x_M_isAhead_85 ?_ | refine kw_zret_b (b := true) x_M_isAhead_85 ?_ | refine kw_zret_b (b := false) x_M_isAhead_85 ?_
              first
                | (simp only [if_pos (show xr X = 0 by omega), Nat.zero_mul, Nat.zero_add] at k; exact kt_kb k (by (first | exact decide_eq_true (by omega) | exact decide_eq_false (by omega) | exact decide_eq_true (by have q := of_decide_eq_true h77; omega) | exact decide_eq_false (by have q := of_decide_eq_false h77; omega))))
                | (simp only [if_neg (show ¬ xr X = 0 by omega), if_pos (show xr X = 1 by omega)] at k; exact kt_kb k (by (first | exact decide_eq_true (by omega) | exact decide_eq_false (by omega) | exact decide_eq_true (by have q := of_decide_eq_true h77; omega) | exact decide_eq_false (by have q := of_decide_eq_false h77; omega))))
                | (simp only [if_neg (show ¬ xr X = 0 by omega), if_neg (show ¬ xr X = 1 by omega)] at k; exact kt_kb k (by (first | exact decide_eq_true (by omega) | exact decide_eq_false (by omega) | exact decide_eq_true (by have q := of_decide_eq_true h77; omega) | exact decide_eq_false (by have q := of_decide_eq_false h77; omega))))
          · first
            | exfalso; omega
            | skip
              refine kw_ild_n x_M_isAhead_67 rfl ?_
              first | refine kw_if_ne_b x_M_isAhead_68 (fun h68 => ?_) (fun h68 => ?_) | refine kw_if_ne_s x_M_isAhead_68 ⟨by omega, by omega⟩ (fun h68 => ?_) (fun h68 => ?_) | refine kw_if_ne_n x_M_isAhead_68 (by omega) (fun h68 => ?_) (fun h68 => ?_) | refine kw_if_ne x_M_isAhead_68 (fun h68 => ?_) (fun h68 => ?_)
              · first
                | exfalso; omega
                | skip
                  refine kw_icon x_M_isAhead_84 ?_
                  first | refine kw_zret_b x_M_isAhead_85 ?_ | refine kw_zret_b (b := true) x_M_isAhead_85 ?_ | refine kw_zret_b (b := false) x_M_isAhead_85 ?_
                  first
                    | (simp only [if_pos (show xr X = 0 by omega), Nat.zero_mul, Nat.zero_add] at k; exact kt_kb k (by (first | exact decide_eq_true (by omega) | exact decide_eq_false (by omega) | exact decide_eq_true (by have q := of_decide_eq_true h77; omega) | exact decide_eq_false (by have q := of_decide_eq_false h77; omega))))
                    | (simp only [if_neg (show ¬ xr X = 0 by omega), if_pos (show xr X = 1 by omega)] at k; exact kt_kb k (by (first | exact decide_eq_true (by omega) | exact decide_eq_false (by omega) | exact decide_eq_true (by have q := of_decide_eq_true h77; omega) | exact decide_eq_false (by have q := of_decide_eq_false h77; omega))))
                    | (simp only [if_neg (show ¬ xr X = 0 by omega), if_neg (show ¬ xr X = 1 by omega)] at k; exact kt_kb k (by (first | exact decide_eq_true (by omega) | exact decide_eq_false (by omega) | exact decide_eq_true (by have q := of_decide_eq_true h77; omega) | exact decide_eq_false (by have q := of_decide_eq_false h77; omega))))
              · first
                | exfalso; omega
                | skip
                  refine kw_ald_n x_M_isAhead_71 rfl ?_
                  refine kw_ild_n x_M_isAhead_72 rfl ?_
                  refine kw_ild_n x_M_isAhead_73 rfl ?_
                  refine c_M_isAhead_74 (by exact isM_k hM) (Nat.le_of_ble_eq_true rfl) ?_
                  refine s_M_isEarlier hM hE hW (by omega) (by omega) ?_
                  first | refine kw_if_eq_b x_M_isAhead_77 (fun h77 => ?_) (fun h77 => ?_) | refine kw_if_eq_n x_M_isAhead_77 (by omega) (fun h77 => ?_) (fun h77 => ?_) | refine kw_if_eq x_M_isAhead_77 (fun h77 => ?_) (fun h77 => ?_)
                  · first
                    | exfalso; omega
                    | skip
                      refine kw_icon x_M_isAhead_84 ?_
                      first | refine kw_zret_b x_M_isAhead_85 ?_ | refine kw_zret_b (b := true) x_M_isAhead_85 ?_ | refine kw_zret_b (b := false) x_M_isAhead_85 ?_
                      first
                        | (simp only [if_pos (show xr X = 0 by omega), Nat.zero_mul, Nat.zero_add] at k; exact kt_kb k (by (first | exact decide_eq_true (by omega) | exact decide_eq_false (by omega) | exact decide_eq_true (by have q := of_decide_eq_true h77; omega) | exact decide_eq_false (by have q := of_decide_eq_false h77; omega))))
                        | (simp only [if_neg (show ¬ xr X = 0 by omega), if_pos (show xr X = 1 by omega)] at k; exact kt_kb k (by (first | exact decide_eq_true (by omega) | exact decide_eq_false (by omega) | exact decide_eq_true (by have q := of_decide_eq_true h77; omega) | exact decide_eq_false (by have q := of_decide_eq_false h77; omega))))
                        | (simp only [if_neg (show ¬ xr X = 0 by omega), if_neg (show ¬ xr X = 1 by omega)] at k; exact kt_kb k (by (first | exact decide_eq_true (by omega) | exact decide_eq_false (by omega) | exact decide_eq_true (by have q := of_decide_eq_true h77; omega) | exact decide_eq_false (by have q := of_decide_eq_false h77; omega))))
                  · first
                    | exfalso; omega
                    | skip
                      refine kw_icon x_M_isAhead_80 ?_
                      refine kw_goto x_M_isAhead_81 ?_
                      first | refine kw_zret_b x_M_isAhead_85 ?_ | refine kw_zret_b (b := true) x_M_isAhead_85 ?_ | refine kw_zret_b (b := false) x_M_isAhead_85 ?_
                      first
                        | (simp only [if_pos (show xr X = 0 by omega), Nat.zero_mul, Nat.zero_add] at k; exact kt_kb k (by (first | exact decide_eq_true (by omega) | exact decide_eq_false (by omega) | exact decide_eq_true (by have q := of_decide_eq_true h77; omega) | exact decide_eq_false (by have q := of_decide_eq_false h77; omega))))
                        | (simp only [if_neg (show ¬ xr X = 0 by omega), if_pos (show xr X = 1 by omega)] at k; exact kt_kb k (by (first | exact decide_eq_true (by omega) | exact decide_eq_false (by omega) | exact decide_eq_true (by have q := of_decide_eq_true h77; omega) | exact decide_eq_false (by have q := of_decide_eq_false h77; omega))))
                        | (simp only [if_neg (show ¬ xr X = 0 by omega), if_neg (show ¬ xr X = 1 by omega)] at k; exact kt_kb k (by (first | exact decide_eq_true (by omega) | exact decide_eq_false (by omega) | exact decide_eq_true (by have q := of_decide_eq_true h77; omega) | exact decide_eq_false (by have q := of_decide_eq_false h77; omega))))
      · first
        | exfalso; omega
        | skip
          refine kw_ald_n x_M_isAhead_23 rfl ?_
          refine kw_ild_n x_M_isAhead_24 rfl ?_
          refine kw_icon x_M_isAhead_25 ?_
          refine c_M_isAhead_26 (by exact isM_k hM) (Nat.le_of_ble_eq_true rfl) ?_
          first | refine s_M_ofn hM hE hn (by omega) (by decide) ?_ | refine s_M_of5 hM hE hn (by omega) (by omega) ?_ | refine s_M_of6 hM hE hn (by omega) (by omega) ?_
          refine kw_ald_n x_M_isAhead_29 rfl ?_
          refine kw_ild_n x_M_isAhead_30 rfl ?_
          refine kw_icon x_M_isAhead_31 ?_
          refine c_M_isAhead_32 (by exact isM_k hM) (Nat.le_of_ble_eq_true rfl) ?_
          first | refine s_M_ofn hM hE hn (by omega) (by decide) ?_ | refine s_M_of5 hM hE hn (by omega) (by omega) ?_ | refine s_M_of6 hM hE hn (by omega) (by omega) ?_
          first | refine kw_isub_n x_M_isAhead_35 (by omega) ?_ | refine kw_isub x_M_isAhead_35 ?_
          refine kw_goto x_M_isAhead_36 ?_
          refine kw_ist_n x_M_isAhead_62 (by decide) ?_
          refine kw_ild_n x_M_isAhead_63 rfl ?_
          first | refine kw_if_lt_s x_M_isAhead_64 ⟨by omega, by omega⟩ (fun h64 => ?_) (fun h64 => ?_) | refine kw_if_lt_n x_M_isAhead_64 (by omega) (fun h64 => ?_) (fun h64 => ?_) | refine kw_if_lt x_M_isAhead_64 (fun h64 => ?_) (fun h64 => ?_)
          · first
            | exfalso; omega
            | skip
              refine kw_icon x_M_isAhead_80 ?_
              refine kw_goto x_M_isAhead_81 ?_
              first | refine kw_zret_b x_M_isAhead_85 ?_ | refine kw_zret_b (b := true) x_M_isAhead_85 ?_ | refine kw_zret_b (b := false) x_M_isAhead_85 ?_
              first
                | (simp only [if_pos (show xr X = 0 by omega), Nat.zero_mul, Nat.zero_add] at k; exact kt_kb k (by (first | exact decide_eq_true (by omega) | exact decide_eq_false (by omega) | exact decide_eq_true (by have q := of_decide_eq_true h77; omega) | exact decide_eq_false (by have q := of_decide_eq_false h77; omega))))
                | (simp only [if_neg (show ¬ xr X = 0 by omega), if_pos (show xr X = 1 by omega)] at k; exact kt_kb k (by (first | exact decide_eq_true (by omega) | exact decide_eq_false (by omega) | exact decide_eq_true (by have q := of_decide_eq_true h77; omega) | exact decide_eq_false (by have q := of_decide_eq_false h77; omega))))
                | (simp only [if_neg (show ¬ xr X = 0 by omega), if_neg (show ¬ xr X = 1 by omega)] at k; exact kt_kb k (by (first | exact decide_eq_true (by omega) | exact decide_eq_false (by omega) | exact decide_eq_true (by have q := of_decide_eq_true h77; omega) | exact decide_eq_false (by have q := of_decide_eq_false h77; omega))))
          · first
            | exfalso; omega
            | skip
              refine kw_ild_n x_M_isAhead_67 rfl ?_
              first | refine kw_if_ne_b x_M_isAhead_68 (fun h68 => ?_) (fun h68 => ?_) | refine kw_if_ne_s x_M_isAhead_68 ⟨by omega, by omega⟩ (fun h68 => ?_) (fun h68 => ?_) | refine kw_if_ne_n x_M_isAhead_68 (by omega) (fun h68 => ?_) (fun h68 => ?_) | refine kw_if_ne x_M_isAhead_68 (fun h68 => ?_) (fun h68 => ?_)
              · first
                | exfalso; omega
                | skip
                  refine kw_icon x_M_isAhead_84 ?_
                  first | refine kw_zret_b x_M_isAhead_85 ?_ | refine kw_zret_b (b := true) x_M_isAhead_85 ?_ | refine kw_zret_b (b := false) x_M_isAhead_85 ?_
                  first
                    | (simp only [if_pos (show xr X = 0 by omega), Nat.zero_mul, Nat.zero_add] at k; exact kt_kb k (by (first | exact decide_eq_true (by omega) | exact decide_eq_false (by omega) | exact decide_eq_true (by have q := of_decide_eq_true h77; omega) | exact decide_eq_false (by have q := of_decide_eq_false h77; omega))))
                    | (simp only [if_neg (show ¬ xr X = 0 by omega), if_pos (show xr X = 1 by omega)] at k; exact kt_kb k (by (first | exact decide_eq_true (by omega) | exact decide_eq_false (by omega) | exact decide_eq_true (by have q := of_decide_eq_true h77; omega) | exact decide_eq_false (by have q := of_decide_eq_false h77; omega))))
                    | (simp only [if_neg (show ¬ xr X = 0 by omega), if_neg (show ¬ xr X = 1 by omega)] at k; exact kt_kb k (by (first | exact decide_eq_true (by omega) | exact decide_eq_false (by omega) | exact decide_eq_true (by have q := of_decide_eq_true h77; omega) | exact decide_eq_false (by have q := of_decide_eq_false h77; omega))))
              · first
                | exfalso; omega
                | skip
                  refine kw_ald_n x_M_isAhead_71 rfl ?_
                  refine kw_ild_n x_M_isAhead_72 rfl ?_
                  refine kw_ild_n x_M_isAhead_73 rfl ?_
                  refine c_M_isAhead_74 (by exact isM_k hM) (Nat.le_of_ble_eq_true rfl) ?_
                  refine s_M_isEarlier hM hE hW (by omega) (by omega) ?_
                  first | refine kw_if_eq_b x_M_isAhead_77 (fun h77 => ?_) (fun h77 => ?_) | refine kw_if_eq_n x_M_isAhead_77 (by omega) (fun h77 => ?_) (fun h77 => ?_) | refine kw_if_eq x_M_isAhead_77 (fun h77 => ?_) (fun h77 => ?_)
                  · first
                    | exfalso; omega
                    | skip
                      refine kw_icon x_M_isAhead_84 ?_
                      first | refine kw_zret_b x_M_isAhead_85 ?_ | refine kw_zret_b (b := true) x_M_isAhead_85 ?_ | refine kw_zret_b (b := false) x_M_isAhead_85 ?_
                      first
                        | (simp only [if_pos (show xr X = 0 by omega), Nat.zero_mul, Nat.zero_add] at k; exact kt_kb k (by (first | exact decide_eq_true (by omega) | exact decide_eq_false (by omega) | exact decide_eq_true (by have q := of_decide_eq_true h77; omega) | exact decide_eq_false (by have q := of_decide_eq_false h77; omega))))
                        | (simp only [if_neg (show ¬ xr X = 0 by omega), if_pos (show xr X = 1 by omega)] at k; exact kt_kb k (by (first | exact decide_eq_true (by omega) | exact decide_eq_false (by omega) | exact decide_eq_true (by have q := of_decide_eq_true h77; omega) | exact decide_eq_false (by have q := of_decide_eq_false h77; omega))))
                        | (simp only [if_neg (show ¬ xr X = 0 by omega), if_neg (show ¬ xr X = 1 by omega)] at k; exact kt_kb k (by (first | exact decide_eq_true (by omega) | exact decide_eq_false (by omega) | exact decide_eq_true (by have q := of_decide_eq_true h77; omega) | exact decide_eq_false (by have q := of_decide_eq_false h77; omega))))
                  · first
                    | exfalso; omega
                    | skip
                      refine kw_icon x_M_isAhead_80 ?_
                      refine kw_goto x_M_isAhead_81 ?_
                      first | refine kw_zret_b x_M_isAhead_85 ?_ | refine kw_zret_b (b := true) x_M_isAhead_85 ?_ | refine kw_zret_b (b := false) x_M_isAhead_85 ?_
                      first
                        | (simp only [if_pos (show xr X = 0 by omega), Nat.zero_mul, Nat.zero_add] at k; exact kt_kb k (by (first | exact decide_eq_true (by omega) | exact decide_eq_false (by omega) | exact decide_eq_true (by have q := of_decide_eq_true h77; omega) | exact decide_eq_false (by have q := of_decide_eq_false h77; omega))))
                        | (simp only [if_neg (show ¬ xr X = 0 by omega), if_pos (show xr X = 1 by omega)] at k; exact kt_kb k (by (first | exact decide_eq_true (by omega) | exact decide_eq_false (by omega) | exact decide_eq_true (by have q := of_decide_eq_true h77; omega) | exact decide_eq_false (by have q := of_decide_eq_false h77; omega))))
                        | (simp only [if_neg (show ¬ xr X = 0 by omega), if_neg (show ¬ xr X = 1 by omega)] at k; exact kt_kb k (by (first | exact decide_eq_true (by omega) | exact decide_eq_false (by omega) | exact decide_eq_true (by have q := of_decide_eq_true h77; omega) | exact decide_eq_false (by have q := of_decide_eq_false h77; omega))))
  · first
    | exfalso; omega
    | skip
      refine kw_icon x_M_isAhead_9 ?_
      refine kw_goto x_M_isAhead_10 ?_
      refine kw_ist_n x_M_isAhead_62 (by decide) ?_
      refine kw_ild_n x_M_isAhead_63 rfl ?_
      first | refine kw_if_lt_s x_M_isAhead_64 ⟨by omega, by omega⟩ (fun h64 => ?_) (fun h64 => ?_) | refine kw_if_lt_n x_M_isAhead_64 (by omega) (fun h64 => ?_) (fun h64 => ?_) | refine kw_if_lt x_M_isAhead_64 (fun h64 => ?_) (fun h64 => ?_)
      · first
        | exfalso; omega
        | skip
          refine kw_icon x_M_isAhead_80 ?_
          refine kw_goto x_M_isAhead_81 ?_
          first | refine kw_zret_b x_M_isAhead_85 ?_ | refine kw_zret_b (b := true) x_M_isAhead_85 ?_ | refine kw_zret_b (b := false) x_M_isAhead_85 ?_
          first
            | (simp only [if_pos (show xr X = 0 by omega), Nat.zero_mul, Nat.zero_add] at k; exact kt_kb k (by (first | exact decide_eq_true (by omega) | exact decide_eq_false (by omega) | exact decide_eq_true (by have q := of_decide_eq_true h77; omega) | exact decide_eq_false (by have q := of_decide_eq_false h77; omega))))
            | (simp only [if_neg (show ¬ xr X = 0 by omega), if_pos (show xr X = 1 by omega)] at k; exact kt_kb k (by (first | exact decide_eq_true (by omega) | exact decide_eq_false (by omega) | exact decide_eq_true (by have q := of_decide_eq_true h77; omega) | exact decide_eq_false (by have q := of_decide_eq_false h77; omega))))
            | (simp only [if_neg (show ¬ xr X = 0 by omega), if_neg (show ¬ xr X = 1 by omega)] at k; exact kt_kb k (by (first | exact decide_eq_true (by omega) | exact decide_eq_false (by omega) | exact decide_eq_true (by have q := of_decide_eq_true h77; omega) | exact decide_eq_false (by have q := of_decide_eq_false h77; omega))))
      · first
        | exfalso; omega
        | skip
          refine kw_ild_n x_M_isAhead_67 rfl ?_
          first | refine kw_if_ne_b x_M_isAhead_68 (fun h68 => ?_) (fun h68 => ?_) | refine kw_if_ne_s x_M_isAhead_68 ⟨by omega, by omega⟩ (fun h68 => ?_) (fun h68 => ?_) | refine kw_if_ne_n x_M_isAhead_68 (by omega) (fun h68 => ?_) (fun h68 => ?_) | refine kw_if_ne x_M_isAhead_68 (fun h68 => ?_) (fun h68 => ?_)
          · first
            | exfalso; omega
            | skip
              refine kw_icon x_M_isAhead_84 ?_
              first | refine kw_zret_b x_M_isAhead_85 ?_ | refine kw_zret_b (b := true) x_M_isAhead_85 ?_ | refine kw_zret_b (b := false) x_M_isAhead_85 ?_
              first
                | (simp only [if_pos (show xr X = 0 by omega), Nat.zero_mul, Nat.zero_add] at k; exact kt_kb k (by (first | exact decide_eq_true (by omega) | exact decide_eq_false (by omega) | exact decide_eq_true (by have q := of_decide_eq_true h77; omega) | exact decide_eq_false (by have q := of_decide_eq_false h77; omega))))
                | (simp only [if_neg (show ¬ xr X = 0 by omega), if_pos (show xr X = 1 by omega)] at k; exact kt_kb k (by (first | exact decide_eq_true (by omega) | exact decide_eq_false (by omega) | exact decide_eq_true (by have q := of_decide_eq_true h77; omega) | exact decide_eq_false (by have q := of_decide_eq_false h77; omega))))
                | (simp only [if_neg (show ¬ xr X = 0 by omega), if_neg (show ¬ xr X = 1 by omega)] at k; exact kt_kb k (by (first | exact decide_eq_true (by omega) | exact decide_eq_false (by omega) | exact decide_eq_true (by have q := of_decide_eq_true h77; omega) | exact decide_eq_false (by have q := of_decide_eq_false h77; omega))))
          · first
            | exfalso; omega
            | skip
              refine kw_ald_n x_M_isAhead_71 rfl ?_
              refine kw_ild_n x_M_isAhead_72 rfl ?_
              refine kw_ild_n x_M_isAhead_73 rfl ?_
              refine c_M_isAhead_74 (by exact isM_k hM) (Nat.le_of_ble_eq_true rfl) ?_
              refine s_M_isEarlier hM hE hW (by omega) (by omega) ?_
              first | refine kw_if_eq_b x_M_isAhead_77 (fun h77 => ?_) (fun h77 => ?_) | refine kw_if_eq_n x_M_isAhead_77 (by omega) (fun h77 => ?_) (fun h77 => ?_) | refine kw_if_eq x_M_isAhead_77 (fun h77 => ?_) (fun h77 => ?_)
              · first
                | exfalso; omega
                | skip
                  refine kw_icon x_M_isAhead_84 ?_
                  first | refine kw_zret_b x_M_isAhead_85 ?_ | refine kw_zret_b (b := true) x_M_isAhead_85 ?_ | refine kw_zret_b (b := false) x_M_isAhead_85 ?_
                  first
                    | (simp only [if_pos (show xr X = 0 by omega), Nat.zero_mul, Nat.zero_add] at k; exact kt_kb k (by (first | exact decide_eq_true (by omega) | exact decide_eq_false (by omega) | exact decide_eq_true (by have q := of_decide_eq_true h77; omega) | exact decide_eq_false (by have q := of_decide_eq_false h77; omega))))
                    | (simp only [if_neg (show ¬ xr X = 0 by omega), if_pos (show xr X = 1 by omega)] at k; exact kt_kb k (by (first | exact decide_eq_true (by omega) | exact decide_eq_false (by omega) | exact decide_eq_true (by have q := of_decide_eq_true h77; omega) | exact decide_eq_false (by have q := of_decide_eq_false h77; omega))))
                    | (simp only [if_neg (show ¬ xr X = 0 by omega), if_neg (show ¬ xr X = 1 by omega)] at k; exact kt_kb k (by (first | exact decide_eq_true (by omega) | exact decide_eq_false (by omega) | exact decide_eq_true (by have q := of_decide_eq_true h77; omega) | exact decide_eq_false (by have q := of_decide_eq_false h77; omega))))
              · first
                | exfalso; omega
                | skip
                  refine kw_icon x_M_isAhead_80 ?_
                  refine kw_goto x_M_isAhead_81 ?_
                  first | refine kw_zret_b x_M_isAhead_85 ?_ | refine kw_zret_b (b := true) x_M_isAhead_85 ?_ | refine kw_zret_b (b := false) x_M_isAhead_85 ?_
                  first
                    | (simp only [if_pos (show xr X = 0 by omega), Nat.zero_mul, Nat.zero_add] at k; exact kt_kb k (by (first | exact decide_eq_true (by omega) | exact decide_eq_false (by omega) | exact decide_eq_true (by have q := of_decide_eq_true h77; omega) | exact decide_eq_false (by have q := of_decide_eq_false h77; omega))))
                    | (simp only [if_neg (show ¬ xr X = 0 by omega), if_pos (show xr X = 1 by omega)] at k; exact kt_kb k (by (first | exact decide_eq_true (by omega) | exact decide_eq_false (by omega) | exact decide_eq_true (by have q := of_decide_eq_true h77; omega) | exact decide_eq_false (by have q := of_decide_eq_false h77; omega))))
                    | (simp only [if_neg (show ¬ xr X = 0 by omega), if_neg (show ¬ xr X = 1 by omega)] at k; exact kt_kb k (by (first | exact decide_eq_true (by omega) | exact decide_eq_false (by omega) | exact decide_eq_true (by have q := of_decide_eq_true h77; omega) | exact decide_eq_false (by have q := of_decide_eq_false h77; omega))))
end MM
