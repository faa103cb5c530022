/-! the reference: what a town thinks of all orders -/
def xs0 (X : kt_X) (t e : Nat) : Nat := if xe X e 0 = 1 ∧ xk X t e = true ∧ xcn X t e (xn X) = true then 2 else 3
theorem xs0_4 (X : kt_X) (t e : Nat) : xs0 X t e < 4 := by unfold xs0; split <;> omega
def xga (X : kt_X) (t : Nat) : Nat → Nat → Nat
  | 0 => xs0 X t
  | g + 1 => (xlk X t g 60 (xstk X t g (xn X), fun _ => 0, xga X t g, 0, fun _ => 0)).2.2.1
def xst (X : kt_X) (t : Nat) : Nat → Nat := xga X t 6
theorem xsp_4 {X : kt_X} {s : kt_σ} {p : Nat} (h : ∀ e, s.2.2.1 e < 4) : ∀ e, (xsp X s p).2.2.1 e < 4 := by
  intro e
  unfold xsp
  split
  · by_cases he : e = p
    · simp [xup, he]
    · simp [xup, he]; exact h e
  · by_cases he : e = p
    · simp [xup, he]
    · simp [xup, he]; exact h e
theorem xlk_4 {X : kt_X} {t g : Nat} : ∀ (k : Nat) (s : kt_σ), (∀ e, s.2.2.1 e < 4) → ∀ e, (xlk X t g k s).2.2.1 e < 4
  | 0, s, h => h
  | k + 1, s, h => by
    unfold xlk
    split
    · exact h
    · exact xlk_4 k _ (xsp_4 h)
theorem xga_4 (X : kt_X) (t : Nat) : ∀ g e, xga X t g e < 4
  | 0, e => xs0_4 X t e
  | g + 1, e => xlk_4 60 _ (xga_4 X t g) e
theorem xst_4 (X : kt_X) (t e : Nat) : xst X t e < 4 := xga_4 X t 6 e
theorem kt_sc0 : ∀ s, s < 4 → (kt_sc s = 0 ↔ s = 0) := by decide +kernel
section KS
variable {P : kt_P} {i NM pc pc' : Nat} {L : List (Option Value)} {st : List Value} {N : Nat} {I : kt_I} {J : kt_J} {R : kt_R} {Q : Option Value → kt_I → kt_J → kt_R → Prop}
theorem kw_if_ne_c {s tgt : Nat} (hd : kt_dj i pc (.ifCond .ne) tgt pc') (hs : s < 4) (k1 : s ≠ 0 → KW P i NM tgt L st N I J R Q) (k2 : s = 0 → KW P i NM pc' L st N I J R Q) : KW P i NM pc L (.int (kt_sc s) :: st) N I J R Q :=
  kw_if_ne hd (fun h => k1 fun q => h ((kt_sc0 s hs).mpr q)) (fun h => k2 ((kt_sc0 s hs).mp h))
end KS
section MT
variable {P : kt_P} {N : Nat} {I : kt_I} {J : kt_J} {R : kt_R} {Q : Option Value → kt_I → kt_J → kt_R → Prop} {m : Nat} {X : kt_X}

theorem s_M_thinksOf (hM : kt_isM P N R m) (hE : kt_enc (I (m + 1)) X) (hW : kt_wf X) {t : Nat} (ht : t ≤ 5) (k : ∀ I', kt_lm m I I' → (∀ e, e < xn X → I' (m + 6) e = kt_sc (xs0 X t e)) → Q none I' J R) : KW P i_M_thinksOf N 0 [some (.ref m), some (.int (nI t)), none, none] [] N I J R Q := by
  have hn := hW.2.2.1
  have loop : ∀ (d e : Nat) (I1 : kt_I) (v3 : Option Value), e + d = xn X → kt_lm m I I1 → (∀ e', e' < e → I1 (m + 6) e' = kt_sc (xs0 X t e')) → KW P i_M_thinksOf N 2 [some (.ref m), some (.int (nI t)), some (.int (nI e)), v3] [] N I1 J R Q := by
    intro d
    induction d with
    | zero =>
      intro e I1 v3 h1 hl h2
      have h3 : e = xn X := by omega
      subst h3
      have hE := hl.enc hE
      refine kw_ild_n x_M_thinksOf_2 rfl ?_
      refine kw_ald_n x_M_thinksOf_3 rfl ?_
      refine kw_gr x_M_thinksOf_4 (by exact isM_k hM) (by exact isM_r0 hM) ?_
      refine kw_icon x_M_thinksOf_7 ?_
      refine kw_iald_n x_M_thinksOf_8 (by first | exact isM_a1 hM | exact isM_a2 hM | exact isM_a3 hM | exact isM_a4 hM | exact isM_a5 hM | exact isM_a6 hM | exact isM_a7 hM | exact isM_a8 hM | exact isM_a10 hM | exact isM_a11 hM) (by omega) (by omega) (by first | exact hE.1 | exact hE.2.1 | exact hE.2.2.1 | exact rfl) ?_
      first | refine kw_ic_ge_n x_M_thinksOf_9 ⟨by omega, by omega⟩ (fun h9 => ?_) (fun h9 => ?_) | refine kw_ic_ge x_M_thinksOf_9 (fun h9 => ?_) (fun h9 => ?_)
      · first
        | exfalso; omega
        | skip
          refine kw_vret x_M_thinksOf_68 ?_
          exact k I1 hl h2
      · first
        | exfalso; omega
        | skip
          skip
    | succ d ih =>
      intro e I1 v3 h1 hl h2
      have hE := hl.enc hE
      have hx := hW.2.2.2.2.2.1 e (by omega)
      have hx0 := hx.1
      refine kw_ild_n x_M_thinksOf_2 rfl ?_
      refine kw_ald_n x_M_thinksOf_3 rfl ?_
      refine kw_gr x_M_thinksOf_4 (by exact isM_k hM) (by exact isM_r0 hM) ?_
      refine kw_icon x_M_thinksOf_7 ?_
      refine kw_iald_n x_M_thinksOf_8 (by first | exact isM_a1 hM | exact isM_a2 hM | exact isM_a3 hM | exact isM_a4 hM | exact isM_a5 hM | exact isM_a6 hM | exact isM_a7 hM | exact isM_a8 hM | exact isM_a10 hM | exact isM_a11 hM) (by omega) (by omega) (by first | exact hE.1 | exact hE.2.1 | exact hE.2.2.1 | exact rfl) ?_
      first | refine kw_ic_ge_n x_M_thinksOf_9 ⟨by omega, by omega⟩ (fun h9 => ?_) (fun h9 => ?_) | refine kw_ic_ge x_M_thinksOf_9 (fun h9 => ?_) (fun h9 => ?_)
      · first
        | exfalso; omega
        | skip
          skip
      · first
        | exfalso; omega
        | skip
          refine kw_ald_n x_M_thinksOf_12 rfl ?_
          refine kw_ild_n x_M_thinksOf_13 rfl ?_
          refine kw_icon x_M_thinksOf_14 ?_
          refine c_M_thinksOf_15 (by exact isM_k hM) (Nat.le_of_ble_eq_true rfl) ?_
          first | refine s_M_ofn hM hE hn (by omega) (by decide) ?_ | refine s_M_of5 hM hE hn (by omega) (by omega) ?_ | refine s_M_of6 hM hE hn (by omega) (by omega) ?_
          refine kw_icon x_M_thinksOf_18 ?_
          first | refine kw_ic_ne_n x_M_thinksOf_19 ⟨by omega, by omega⟩ (fun h19 => ?_) (fun h19 => ?_) | refine kw_ic_ne x_M_thinksOf_19 (fun h19 => ?_) (fun h19 => ?_)
          · first
            | exfalso; omega
            | skip
              refine kw_icon x_M_thinksOf_35 ?_
              refine kw_ist_n x_M_thinksOf_36 (by decide) ?_
              refine kw_ald_n x_M_thinksOf_37 rfl ?_
              refine kw_gr x_M_thinksOf_38 (by exact isM_k hM) (by exact isM_r8 hM) ?_
              refine kw_ild_n x_M_thinksOf_41 rfl ?_
              refine kw_ild_n x_M_thinksOf_42 rfl ?_
              first | refine kw_if_eq_b x_M_thinksOf_43 (fun h43 => ?_) (fun h43 => ?_) | refine kw_if_eq_n x_M_thinksOf_43 (by omega) (fun h43 => ?_) (fun h43 => ?_) | refine kw_if_eq x_M_thinksOf_43 (fun h43 => ?_) (fun h43 => ?_)
              · first
                | exfalso; omega
                | skip
                  refine kw_bip x_M_thinksOf_59 ?_
                  refine kw_iast_n x_M_thinksOf_61 (by first | exact isM_a1 hM | exact isM_a2 hM | exact isM_a3 hM | exact isM_a4 hM | exact isM_a5 hM | exact isM_a6 hM | exact isM_a7 hM | exact isM_a8 hM | exact isM_a10 hM | exact isM_a11 hM) (by omega) (by omega) ?_
                  first | refine kw_iinc_n x_M_thinksOf_62 (by decide) rfl ?_ | refine kw_iinc x_M_thinksOf_62 (by decide) rfl ?_
                  refine kw_goto x_M_thinksOf_65 ?_
                  refine ih (e + 1) _ _ (by omega) (hl.tr ⟨fun a h1 h2 h3 h4 => kt_u1_ne _ _ _ h2, fun j _ => by simp [kt_u1]⟩) (fun e' he => ?_)
                  by_cases hee : e' = e
                  · subst hee
                    simp [kt_u1, xs0, kt_sc, *]
                  · simp [kt_u1, hee]
                    exact h2 e' (by omega)
              · first
                | exfalso; omega
                | skip
                  refine kw_ald_n x_M_thinksOf_46 rfl ?_
                  refine kw_ild_n x_M_thinksOf_47 rfl ?_
                  refine kw_ild_n x_M_thinksOf_48 rfl ?_
                  refine c_M_thinksOf_49 (by exact isM_k hM) (Nat.le_of_ble_eq_true rfl) ?_
                  refine s_M_isCancelled hM hE hW (by omega) (by omega) ?_
                  first | refine kw_if_eq_b x_M_thinksOf_52 (fun h52 => ?_) (fun h52 => ?_) | refine kw_if_eq_n x_M_thinksOf_52 (by omega) (fun h52 => ?_) (fun h52 => ?_) | refine kw_if_eq x_M_thinksOf_52 (fun h52 => ?_) (fun h52 => ?_)
                  · first
                    | exfalso; omega
                    | skip
                      refine kw_bip x_M_thinksOf_59 ?_
                      refine kw_iast_n x_M_thinksOf_61 (by first | exact isM_a1 hM | exact isM_a2 hM | exact isM_a3 hM | exact isM_a4 hM | exact isM_a5 hM | exact isM_a6 hM | exact isM_a7 hM | exact isM_a8 hM | exact isM_a10 hM | exact isM_a11 hM) (by omega) (by omega) ?_
                      first | refine kw_iinc_n x_M_thinksOf_62 (by decide) rfl ?_ | refine kw_iinc x_M_thinksOf_62 (by decide) rfl ?_
                      refine kw_goto x_M_thinksOf_65 ?_
                      refine ih (e + 1) _ _ (by omega) (hl.tr ⟨fun a h1 h2 h3 h4 => kt_u1_ne _ _ _ h2, fun j _ => by simp [kt_u1]⟩) (fun e' he => ?_)
                      by_cases hee : e' = e
                      · subst hee
                        simp [kt_u1, xs0, kt_sc, *]
                      · simp [kt_u1, hee]
                        exact h2 e' (by omega)
                  · first
                    | exfalso; omega
                    | skip
                      refine kw_icon x_M_thinksOf_55 ?_
                      refine kw_goto x_M_thinksOf_56 ?_
                      refine kw_iast_n x_M_thinksOf_61 (by first | exact isM_a1 hM | exact isM_a2 hM | exact isM_a3 hM | exact isM_a4 hM | exact isM_a5 hM | exact isM_a6 hM | exact isM_a7 hM | exact isM_a8 hM | exact isM_a10 hM | exact isM_a11 hM) (by omega) (by omega) ?_
                      first | refine kw_iinc_n x_M_thinksOf_62 (by decide) rfl ?_ | refine kw_iinc x_M_thinksOf_62 (by decide) rfl ?_
                      refine kw_goto x_M_thinksOf_65 ?_
                      refine ih (e + 1) _ _ (by omega) (hl.tr ⟨fun a h1 h2 h3 h4 => kt_u1_ne _ _ _ h2, fun j _ => by simp [kt_u1]⟩) (fun e' he => ?_)
                      by_cases hee : e' = e
                      · subst hee
                        simp [kt_u1, xs0, kt_sc, *]
                      · simp [kt_u1, hee]
                        exact h2 e' (by omega)
          · first
            | exfalso; omega
            | skip
              refine kw_ald_n x_M_thinksOf_22 rfl ?_
              refine kw_ild_n x_M_thinksOf_23 rfl ?_
              refine kw_ild_n x_M_thinksOf_24 rfl ?_
              refine c_M_thinksOf_25 (by exact isM_k hM) (Nat.le_of_ble_eq_true rfl) ?_
              refine s_M_knows hM hE hW (by omega) (by omega) ?_
              first | refine kw_if_eq_b x_M_thinksOf_28 (fun h28 => ?_) (fun h28 => ?_) | refine kw_if_eq_n x_M_thinksOf_28 (by omega) (fun h28 => ?_) (fun h28 => ?_) | refine kw_if_eq x_M_thinksOf_28 (fun h28 => ?_) (fun h28 => ?_)
              · first
                | exfalso; omega
                | skip
                  refine kw_icon x_M_thinksOf_35 ?_
                  refine kw_ist_n x_M_thinksOf_36 (by decide) ?_
                  refine kw_ald_n x_M_thinksOf_37 rfl ?_
                  refine kw_gr x_M_thinksOf_38 (by exact isM_k hM) (by exact isM_r8 hM) ?_
                  refine kw_ild_n x_M_thinksOf_41 rfl ?_
                  refine kw_ild_n x_M_thinksOf_42 rfl ?_
                  first | refine kw_if_eq_b x_M_thinksOf_43 (fun h43 => ?_) (fun h43 => ?_) | refine kw_if_eq_n x_M_thinksOf_43 (by omega) (fun h43 => ?_) (fun h43 => ?_) | refine kw_if_eq x_M_thinksOf_43 (fun h43 => ?_) (fun h43 => ?_)
                  · first
                    | exfalso; omega
                    | skip
                      refine kw_bip x_M_thinksOf_59 ?_
                      refine kw_iast_n x_M_thinksOf_61 (by first | exact isM_a1 hM | exact isM_a2 hM | exact isM_a3 hM | exact isM_a4 hM | exact isM_a5 hM | exact isM_a6 hM | exact isM_a7 hM | exact isM_a8 hM | exact isM_a10 hM | exact isM_a11 hM) (by omega) (by omega) ?_
                      first | refine kw_iinc_n x_M_thinksOf_62 (by decide) rfl ?_ | refine kw_iinc x_M_thinksOf_62 (by decide) rfl ?_
                      refine kw_goto x_M_thinksOf_65 ?_
                      refine ih (e + 1) _ _ (by omega) (hl.tr ⟨fun a h1 h2 h3 h4 => kt_u1_ne _ _ _ h2, fun j _ => by simp [kt_u1]⟩) (fun e' he => ?_)
                      by_cases hee : e' = e
                      · subst hee
                        simp [kt_u1, xs0, kt_sc, *]
                      · simp [kt_u1, hee]
                        exact h2 e' (by omega)
                  · first
                    | exfalso; omega
                    | skip
                      refine kw_ald_n x_M_thinksOf_46 rfl ?_
                      refine kw_ild_n x_M_thinksOf_47 rfl ?_
                      refine kw_ild_n x_M_thinksOf_48 rfl ?_
                      refine c_M_thinksOf_49 (by exact isM_k hM) (Nat.le_of_ble_eq_true rfl) ?_
                      refine s_M_isCancelled hM hE hW (by omega) (by omega) ?_
                      first | refine kw_if_eq_b x_M_thinksOf_52 (fun h52 => ?_) (fun h52 => ?_) | refine kw_if_eq_n x_M_thinksOf_52 (by omega) (fun h52 => ?_) (fun h52 => ?_) | refine kw_if_eq x_M_thinksOf_52 (fun h52 => ?_) (fun h52 => ?_)
                      · first
                        | exfalso; omega
                        | skip
                          refine kw_bip x_M_thinksOf_59 ?_
                          refine kw_iast_n x_M_thinksOf_61 (by first | exact isM_a1 hM | exact isM_a2 hM | exact isM_a3 hM | exact isM_a4 hM | exact isM_a5 hM | exact isM_a6 hM | exact isM_a7 hM | exact isM_a8 hM | exact isM_a10 hM | exact isM_a11 hM) (by omega) (by omega) ?_
                          first | refine kw_iinc_n x_M_thinksOf_62 (by decide) rfl ?_ | refine kw_iinc x_M_thinksOf_62 (by decide) rfl ?_
                          refine kw_goto x_M_thinksOf_65 ?_
                          refine ih (e + 1) _ _ (by omega) (hl.tr ⟨fun a h1 h2 h3 h4 => kt_u1_ne _ _ _ h2, fun j _ => by simp [kt_u1]⟩) (fun e' he => ?_)
                          by_cases hee : e' = e
                          · subst hee
                            simp [kt_u1, xs0, kt_sc, *]
                          · simp [kt_u1, hee]
                            exact h2 e' (by omega)
                      · first
                        | exfalso; omega
                        | skip
                          refine kw_icon x_M_thinksOf_55 ?_
                          refine kw_goto x_M_thinksOf_56 ?_
                          refine kw_iast_n x_M_thinksOf_61 (by first | exact isM_a1 hM | exact isM_a2 hM | exact isM_a3 hM | exact isM_a4 hM | exact isM_a5 hM | exact isM_a6 hM | exact isM_a7 hM | exact isM_a8 hM | exact isM_a10 hM | exact isM_a11 hM) (by omega) (by omega) ?_
                          first | refine kw_iinc_n x_M_thinksOf_62 (by decide) rfl ?_ | refine kw_iinc x_M_thinksOf_62 (by decide) rfl ?_
                          refine kw_goto x_M_thinksOf_65 ?_
                          refine ih (e + 1) _ _ (by omega) (hl.tr ⟨fun a h1 h2 h3 h4 => kt_u1_ne _ _ _ h2, fun j _ => by simp [kt_u1]⟩) (fun e' he => ?_)
                          by_cases hee : e' = e
                          · subst hee
                            simp [kt_u1, xs0, kt_sc, *]
                          · simp [kt_u1, hee]
                            exact h2 e' (by omega)
              · first
                | exfalso; omega
                | skip
                  refine kw_icon x_M_thinksOf_31 ?_
                  refine kw_goto x_M_thinksOf_32 ?_
                  refine kw_ist_n x_M_thinksOf_36 (by decide) ?_
                  refine kw_ald_n x_M_thinksOf_37 rfl ?_
                  refine kw_gr x_M_thinksOf_38 (by exact isM_k hM) (by exact isM_r8 hM) ?_
                  refine kw_ild_n x_M_thinksOf_41 rfl ?_
                  refine kw_ild_n x_M_thinksOf_42 rfl ?_
                  first | refine kw_if_eq_b x_M_thinksOf_43 (fun h43 => ?_) (fun h43 => ?_) | refine kw_if_eq_n x_M_thinksOf_43 (by omega) (fun h43 => ?_) (fun h43 => ?_) | refine kw_if_eq x_M_thinksOf_43 (fun h43 => ?_) (fun h43 => ?_)
                  · first
                    | exfalso; omega
                    | skip
                      refine kw_bip x_M_thinksOf_59 ?_
                      refine kw_iast_n x_M_thinksOf_61 (by first | exact isM_a1 hM | exact isM_a2 hM | exact isM_a3 hM | exact isM_a4 hM | exact isM_a5 hM | exact isM_a6 hM | exact isM_a7 hM | exact isM_a8 hM | exact isM_a10 hM | exact isM_a11 hM) (by omega) (by omega) ?_
                      first | refine kw_iinc_n x_M_thinksOf_62 (by decide) rfl ?_ | refine kw_iinc x_M_thinksOf_62 (by decide) rfl ?_
                      refine kw_goto x_M_thinksOf_65 ?_
                      refine ih (e + 1) _ _ (by omega) (hl.tr ⟨fun a h1 h2 h3 h4 => kt_u1_ne _ _ _ h2, fun j _ => by simp [kt_u1]⟩) (fun e' he => ?_)
                      by_cases hee : e' = e
                      · subst hee
                        simp [kt_u1, xs0, kt_sc, *]
                      · simp [kt_u1, hee]
                        exact h2 e' (by omega)
                  · first
                    | exfalso; omega
                    | skip
                      refine kw_ald_n x_M_thinksOf_46 rfl ?_
                      refine kw_ild_n x_M_thinksOf_47 rfl ?_
                      refine kw_ild_n x_M_thinksOf_48 rfl ?_
                      refine c_M_thinksOf_49 (by exact isM_k hM) (Nat.le_of_ble_eq_true rfl) ?_
                      refine s_M_isCancelled hM hE hW (by omega) (by omega) ?_
                      first | refine kw_if_eq_b x_M_thinksOf_52 (fun h52 => ?_) (fun h52 => ?_) | refine kw_if_eq_n x_M_thinksOf_52 (by omega) (fun h52 => ?_) (fun h52 => ?_) | refine kw_if_eq x_M_thinksOf_52 (fun h52 => ?_) (fun h52 => ?_)
                      · first
                        | exfalso; omega
                        | skip
                          refine kw_bip x_M_thinksOf_59 ?_
                          refine kw_iast_n x_M_thinksOf_61 (by first | exact isM_a1 hM | exact isM_a2 hM | exact isM_a3 hM | exact isM_a4 hM | exact isM_a5 hM | exact isM_a6 hM | exact isM_a7 hM | exact isM_a8 hM | exact isM_a10 hM | exact isM_a11 hM) (by omega) (by omega) ?_
                          first | refine kw_iinc_n x_M_thinksOf_62 (by decide) rfl ?_ | refine kw_iinc x_M_thinksOf_62 (by decide) rfl ?_
                          refine kw_goto x_M_thinksOf_65 ?_
                          refine ih (e + 1) _ _ (by omega) (hl.tr ⟨fun a h1 h2 h3 h4 => kt_u1_ne _ _ _ h2, fun j _ => by simp [kt_u1]⟩) (fun e' he => ?_)
                          by_cases hee : e' = e
                          · subst hee
                            simp [kt_u1, xs0, kt_sc, *]
                          · simp [kt_u1, hee]
                            exact h2 e' (by omega)
                      · first
                        | exfalso; omega
                        | skip
                          refine kw_icon x_M_thinksOf_55 ?_
                          refine kw_goto x_M_thinksOf_56 ?_
                          refine kw_iast_n x_M_thinksOf_61 (by first | exact isM_a1 hM | exact isM_a2 hM | exact isM_a3 hM | exact isM_a4 hM | exact isM_a5 hM | exact isM_a6 hM | exact isM_a7 hM | exact isM_a8 hM | exact isM_a10 hM | exact isM_a11 hM) (by omega) (by omega) ?_
                          first | refine kw_iinc_n x_M_thinksOf_62 (by decide) rfl ?_ | refine kw_iinc x_M_thinksOf_62 (by decide) rfl ?_
                          refine kw_goto x_M_thinksOf_65 ?_
                          refine ih (e + 1) _ _ (by omega) (hl.tr ⟨fun a h1 h2 h3 h4 => kt_u1_ne _ _ _ h2, fun j _ => by simp [kt_u1]⟩) (fun e' he => ?_)
                          by_cases hee : e' = e
                          · subst hee
                            simp [kt_u1, xs0, kt_sc, *]
                          · simp [kt_u1, hee]
                            exact h2 e' (by omega)
  refine kw_icon x_M_thinksOf_0 ?_
  refine kw_ist_n x_M_thinksOf_1 (by decide) ?_
  exact loop (xn X) 0 I _ (by omega) kt_lm.rf (fun e he => absurd he (Nat.not_lt_zero e))
theorem s_M_thinksAll (hM : kt_isM P N R m) (hE : kt_enc (I (m + 1)) X) (hW : kt_wf X) {t : Nat} (ht : t ≤ 5) (k : ∀ I', kt_lm m I I' → (∀ e, e < xn X → I' (m + 6) e = kt_sc (xst X t e)) → Q none I' J R) : KW P i_M_thinksAll N 0 [some (.ref m), some (.int (nI t)), none] [] N I J R Q := by
  have hn := hW.2.2.1
  have loop : ∀ (d g : Nat) (I1 : kt_I), g + d = 6 → kt_lm m I I1 → (∀ e, e < xn X → I1 (m + 6) e = kt_sc (xga X t g e)) → KW P i_M_thinksAll N 7 [some (.ref m), some (.int (nI t)), some (.int (nI g))] [] N I1 J R Q := by
    intro d
    induction d with
    | zero =>
      intro g I1 h1 hl h2
      have h3 : g = 6 := by omega
      subst h3
      refine kw_ild_n x_M_thinksAll_7 rfl ?_
      refine kw_bip x_M_thinksAll_8 ?_
      first | refine kw_ic_ge_n x_M_thinksAll_10 ⟨by omega, by omega⟩ (fun h10 => ?_) (fun h10 => ?_) | refine kw_ic_ge x_M_thinksAll_10 (fun h10 => ?_) (fun h10 => ?_)
      · first
        | exfalso; omega
        | skip
          refine kw_vret x_M_thinksAll_25 ?_
          exact k I1 hl h2
      · first
        | exfalso; omega
        | skip
          skip
    | succ d ih =>
      intro g I1 h1 hl h2
      have hE := hl.enc hE
      refine kw_ild_n x_M_thinksAll_7 rfl ?_
      refine kw_bip x_M_thinksAll_8 ?_
      first | refine kw_ic_ge_n x_M_thinksAll_10 ⟨by omega, by omega⟩ (fun h10 => ?_) (fun h10 => ?_) | refine kw_ic_ge x_M_thinksAll_10 (fun h10 => ?_) (fun h10 => ?_)
      · first
        | exfalso; omega
        | skip
          skip
      · first
        | exfalso; omega
        | skip
          refine kw_ald_n x_M_thinksAll_13 rfl ?_
          refine kw_ild_n x_M_thinksAll_14 rfl ?_
          refine kw_ild_n x_M_thinksAll_15 rfl ?_
          refine c_M_thinksAll_16 (by exact isM_k hM) (Nat.le_of_ble_eq_true rfl) ?_
          refine s_M_looks hM hE hW ht (by omega) h2 (xga_4 X t g) (fun I2 hl2 hS2 => ?_)
          first | refine kw_iinc_n x_M_thinksAll_19 (by decide) rfl ?_ | refine kw_iinc x_M_thinksAll_19 (by decide) rfl ?_
          refine kw_goto x_M_thinksAll_22 ?_
          exact ih (g + 1) I2 (by omega) (hl.tr hl2) hS2.1
  refine kw_ald_n x_M_thinksAll_0 rfl ?_
  refine kw_ild_n x_M_thinksAll_1 rfl ?_
  refine c_M_thinksAll_2 (by exact isM_k hM) (Nat.le_of_ble_eq_true rfl) ?_
  refine s_M_thinksOf hM hE hW ht (fun I2 hl2 hS2 => ?_)
  refine kw_icon x_M_thinksAll_5 ?_
  refine kw_ist_n x_M_thinksAll_6 (by decide) ?_
  exact loop 6 0 I2 (by omega) hl2 hS2
end MT
