/-! the reference: reading the text -/
/-- the sign at a place, 0 behind the end -/
def xsg (tx : Nat → Nat) (ty s : Nat) : Nat := if s < ty then tx s else 0
def xisd (tx : Nat → Nat) (ty s : Nat) : Bool := decide (48 ≤ xsg tx ty s ∧ xsg tx ty s ≤ 57)
def xdg (tx : Nat → Nat) (ty s : Nat) : Nat := if xisd tx ty s = true then (if xisd tx ty (s + 1) = true then 2 else 1) else 0
def xvq (tx : Nat → Nat) (ty s : Nat) : Nat → Nat
  | 0 => 0
  | q + 1 => 10 * xvq tx ty s q + (xsg tx ty (s + q) - 48)
def xnb (l : Nat) : Nat := if l = 111 then 4 else if l = 100 then 3 else if l = 99 ∨ l = 109 ∨ l = 104 then 2 else if l = 114 then 1 else 0
theorem xnb_4 (l : Nat) : xnb l ≤ 4 := by unfold xnb; split <;> (try split) <;> (try split) <;> (try split) <;> omega
/-- the text lies there -/
def kt_tx (m ty : Nat) (tx : Nat → Nat) (I : kt_I) : Prop := I m 7 = nI ty ∧ ty ≤ 80 ∧ ∀ j, j < ty → I (m + 5) j = nI (tx j) ∧ 32 ≤ tx j ∧ tx j ≤ 126
theorem kt_tx.same {m ty : Nat} {tx : Nat → Nat} {I I' : kt_I} (h : kt_tx m ty tx I) (h1 : I' m 7 = I m 7) (h2 : I' (m + 5) = I (m + 5)) : kt_tx m ty tx I' := ⟨h1.trans h.1, h.2.1, fun j hj => by rw [h2]; exact h.2.2 j hj⟩
theorem xsg_126 {m ty : Nat} {tx : Nat → Nat} {I : kt_I} (h : kt_tx m ty tx I) (s : Nat) : xsg tx ty s ≤ 126 := by
  unfold xsg
  split
  · exact (h.2.2 s (by assumption)).2.2
  · omega
theorem kt_dec_le {a b v : Nat} (ha : a < 2147483648) (hb : b < 2147483648) (hv : v < 2147483648) : decide (nI a ≤ nI v ∧ nI v ≤ nI b) = decide (a ≤ v ∧ v ≤ b) := by
  by_cases h : a ≤ v ∧ v ≤ b
  · rw [decide_eq_true h, decide_eq_true ⟨(nI_leI (kt_p31 ha) (kt_p31 hv)).mpr h.1, (nI_leI (kt_p31 hv) (kt_p31 hb)).mpr h.2⟩]
  · rw [decide_eq_false h, decide_eq_false (fun q => h ⟨(nI_leI (kt_p31 ha) (kt_p31 hv)).mp q.1, (nI_leI (kt_p31 hv) (kt_p31 hb)).mp q.2⟩)]
section MO
variable {P : kt_P} {N : Nat} {I : kt_I} {J : kt_J} {R : kt_R} {Q : Option Value → kt_I → kt_J → kt_R → Prop} {m : Nat} {X : kt_X}
theorem s_M_isAt (hM : kt_isM P N R m) {ty s : Nat} {tx : Nat → Nat} (hx : kt_tx m ty tx I) (h14 : I m 14 = nI s) (hs : s < 1000) {a b : Nat} (ha : 1 ≤ a ∧ a < 1000) (hb : b < 1000) (k : Q (some (.int (kt_bo (decide (a ≤ xsg tx ty s ∧ xsg tx ty s ≤ b))))) I J R) : KW P i_M_isAt N 0 [some (.ref m), some (.int (nI a)), some (.int (nI b))] [] N I J R Q := by
  have hty := hx.2.1
  have hsg := xsg_126 hx s
  refine kw_ald_n x_M_isAt_0 rfl ?_
  refine kw_gi_e x_M_isAt_1 (by exact isM_k hM) (by first | exact h14 | exact hx.1 | exact (hx.2.2 _ (by omega)).1 | exact rfl) ?_
  refine kw_ald_n x_M_isAt_4 rfl ?_
  refine kw_gi_e x_M_isAt_5 (by exact isM_k hM) (by first | exact h14 | exact hx.1 | exact (hx.2.2 _ (by omega)).1 | exact rfl) ?_
  first | refine kw_ic_ge_n x_M_isAt_8 ⟨by omega, by omega⟩ (fun h8 => ?_) (fun h8 => ?_) | refine kw_ic_ge x_M_isAt_8 (fun h8 => ?_) (fun h8 => ?_)
  · first
    | exfalso; omega
    | skip
      refine kw_icon x_M_isAt_32 ?_
      first | refine kw_zret_b x_M_isAt_33 ?_ | refine kw_zret_b (b := true) x_M_isAt_33 ?_ | refine kw_zret_b (b := false) x_M_isAt_33 ?_
      first
        | (rw [h25] at k; exact k)
        | (have hsx : xsg tx ty s = 0 := (by unfold xsg; rw [if_neg (by omega)])
           rw [hsx, decide_eq_false (by omega)] at k
           exact k)
  · first
    | exfalso; omega
    | skip
      refine kw_ald_n x_M_isAt_11 rfl ?_
      refine kw_gr x_M_isAt_12 (by exact isM_k hM) (by exact isM_r6 hM) ?_
      refine kw_ald_n x_M_isAt_15 rfl ?_
      refine kw_gi_e x_M_isAt_16 (by exact isM_k hM) (by first | exact h14 | exact hx.1 | exact (hx.2.2 _ (by omega)).1 | exact rfl) ?_
      refine kw_iald_n x_M_isAt_19 (by first | exact isM_a1 hM | exact isM_a2 hM | exact isM_a3 hM | exact isM_a4 hM | exact isM_a5 hM | exact isM_a6 hM | exact isM_a7 hM | exact isM_a8 hM | exact isM_a10 hM | exact isM_a11 hM) (by omega) (by omega) (by first | exact h14 | exact hx.1 | exact (hx.2.2 _ (by omega)).1 | exact rfl) ?_
      refine kw_ild_n x_M_isAt_20 rfl ?_
      refine kw_ild_n x_M_isAt_21 rfl ?_
      refine c_M_isAt_22 (Nat.le_of_ble_eq_true rfl) ?_
      have hsx : xsg tx ty s = tx s := (by unfold xsg; rw [if_pos (by omega)])
      have htx := (hx.2.2 s (by omega)).2
      refine s_M_in ?_
      rw [kt_dec_le (by omega) (by omega) (by omega), ← hsx]
      first | refine kw_if_eq_b x_M_isAt_25 (fun h25 => ?_) (fun h25 => ?_) | refine kw_if_eq_n x_M_isAt_25 (by omega) (fun h25 => ?_) (fun h25 => ?_) | refine kw_if_eq x_M_isAt_25 (fun h25 => ?_) (fun h25 => ?_)
      · first
        | exfalso; omega
        | skip
          refine kw_icon x_M_isAt_32 ?_
          first | refine kw_zret_b x_M_isAt_33 ?_ | refine kw_zret_b (b := true) x_M_isAt_33 ?_ | refine kw_zret_b (b := false) x_M_isAt_33 ?_
          first
            | (rw [h25] at k; exact k)
            | (have hsx : xsg tx ty s = 0 := (by unfold xsg; rw [if_neg (by omega)])
               rw [hsx, decide_eq_false (by omega)] at k
               exact k)
      · first
        | exfalso; omega
        | skip
          refine kw_icon x_M_isAt_28 ?_
          refine kw_goto x_M_isAt_29 ?_
          first | refine kw_zret_b x_M_isAt_33 ?_ | refine kw_zret_b (b := true) x_M_isAt_33 ?_ | refine kw_zret_b (b := false) x_M_isAt_33 ?_
          first
            | (rw [h25] at k; exact k)
            | (have hsx : xsg tx ty s = 0 := (by unfold xsg; rw [if_neg (by omega)])
               rw [hsx, decide_eq_false (by omega)] at k
               exact k)
theorem s_M_numbersOf {l : Nat} (hl : l < 1000) (k : Q (some (.int (nI (xnb l)))) I J R) : KW P i_M_numbersOf N 0 [some (.int (nI l))] [] N I J R Q := by
  unfold xnb at k
  refine kw_ild_n x_M_numbersOf_0 rfl ?_
  refine kw_bip x_M_numbersOf_1 ?_
  first | refine kw_ic_ne_n x_M_numbersOf_3 ⟨by omega, by omega⟩ (fun h3 => ?_) (fun h3 => ?_) | refine kw_ic_ne x_M_numbersOf_3 (fun h3 => ?_) (fun h3 => ?_)
  · first
    | exfalso; omega
    | skip
      refine kw_ild_n x_M_numbersOf_10 rfl ?_
      refine kw_bip x_M_numbersOf_11 ?_
      first | refine kw_ic_ne_n x_M_numbersOf_13 ⟨by omega, by omega⟩ (fun h13 => ?_) (fun h13 => ?_) | refine kw_ic_ne x_M_numbersOf_13 (fun h13 => ?_) (fun h13 => ?_)
      · first
        | exfalso; omega
        | skip
          refine kw_ild_n x_M_numbersOf_20 rfl ?_
          refine kw_bip x_M_numbersOf_21 ?_
          first | refine kw_ic_eq_n x_M_numbersOf_23 ⟨by omega, by omega⟩ (fun h23 => ?_) (fun h23 => ?_) | refine kw_ic_eq x_M_numbersOf_23 (fun h23 => ?_) (fun h23 => ?_)
          · first
            | exfalso; omega
            | skip
              refine kw_icon x_M_numbersOf_38 ?_
              refine kw_goto x_M_numbersOf_39 ?_
              refine kw_iret x_M_numbersOf_53 ?_
              first
                | (rw [if_pos (by omega)] at k; exact k)
                | (rw [if_neg (by omega), if_pos (by omega)] at k; exact k)
                | (rw [if_neg (by omega), if_neg (by omega), if_pos (by omega)] at k; exact k)
                | (rw [if_neg (by omega), if_neg (by omega), if_neg (by omega), if_pos (by omega)] at k; exact k)
                | (rw [if_neg (by omega), if_neg (by omega), if_neg (by omega), if_neg (by omega)] at k; exact k)
          · first
            | exfalso; omega
            | skip
              refine kw_ild_n x_M_numbersOf_26 rfl ?_
              refine kw_bip x_M_numbersOf_27 ?_
              first | refine kw_ic_eq_n x_M_numbersOf_29 ⟨by omega, by omega⟩ (fun h29 => ?_) (fun h29 => ?_) | refine kw_ic_eq x_M_numbersOf_29 (fun h29 => ?_) (fun h29 => ?_)
              · first
                | exfalso; omega
                | skip
                  refine kw_icon x_M_numbersOf_38 ?_
                  refine kw_goto x_M_numbersOf_39 ?_
                  refine kw_iret x_M_numbersOf_53 ?_
                  first
                    | (rw [if_pos (by omega)] at k; exact k)
                    | (rw [if_neg (by omega), if_pos (by omega)] at k; exact k)
                    | (rw [if_neg (by omega), if_neg (by omega), if_pos (by omega)] at k; exact k)
                    | (rw [if_neg (by omega), if_neg (by omega), if_neg (by omega), if_pos (by omega)] at k; exact k)
                    | (rw [if_neg (by omega), if_neg (by omega), if_neg (by omega), if_neg (by omega)] at k; exact k)
              · first
                | exfalso; omega
                | skip
                  refine kw_ild_n x_M_numbersOf_32 rfl ?_
                  refine kw_bip x_M_numbersOf_33 ?_
                  first | refine kw_ic_ne_n x_M_numbersOf_35 ⟨by omega, by omega⟩ (fun h35 => ?_) (fun h35 => ?_) | refine kw_ic_ne x_M_numbersOf_35 (fun h35 => ?_) (fun h35 => ?_)
                  · first
                    | exfalso; omega
                    | skip
                      refine kw_ild_n x_M_numbersOf_42 rfl ?_
                      refine kw_bip x_M_numbersOf_43 ?_
                      first | refine kw_ic_ne_n x_M_numbersOf_45 ⟨by omega, by omega⟩ (fun h45 => ?_) (fun h45 => ?_) | refine kw_ic_ne x_M_numbersOf_45 (fun h45 => ?_) (fun h45 => ?_)
                      · first
                        | exfalso; omega
                        | skip
                          refine kw_icon x_M_numbersOf_52 ?_
                          refine kw_iret x_M_numbersOf_53 ?_
                          first
                            | (rw [if_pos (by omega)] at k; exact k)
                            | (rw [if_neg (by omega), if_pos (by omega)] at k; exact k)
                            | (rw [if_neg (by omega), if_neg (by omega), if_pos (by omega)] at k; exact k)
                            | (rw [if_neg (by omega), if_neg (by omega), if_neg (by omega), if_pos (by omega)] at k; exact k)
                            | (rw [if_neg (by omega), if_neg (by omega), if_neg (by omega), if_neg (by omega)] at k; exact k)
                      · first
                        | exfalso; omega
                        | skip
                          refine kw_icon x_M_numbersOf_48 ?_
                          refine kw_goto x_M_numbersOf_49 ?_
                          refine kw_iret x_M_numbersOf_53 ?_
                          first
                            | (rw [if_pos (by omega)] at k; exact k)
                            | (rw [if_neg (by omega), if_pos (by omega)] at k; exact k)
                            | (rw [if_neg (by omega), if_neg (by omega), if_pos (by omega)] at k; exact k)
                            | (rw [if_neg (by omega), if_neg (by omega), if_neg (by omega), if_pos (by omega)] at k; exact k)
                            | (rw [if_neg (by omega), if_neg (by omega), if_neg (by omega), if_neg (by omega)] at k; exact k)
                  · first
                    | exfalso; omega
                    | skip
                      refine kw_icon x_M_numbersOf_38 ?_
                      refine kw_goto x_M_numbersOf_39 ?_
                      refine kw_iret x_M_numbersOf_53 ?_
                      first
                        | (rw [if_pos (by omega)] at k; exact k)
                        | (rw [if_neg (by omega), if_pos (by omega)] at k; exact k)
                        | (rw [if_neg (by omega), if_neg (by omega), if_pos (by omega)] at k; exact k)
                        | (rw [if_neg (by omega), if_neg (by omega), if_neg (by omega), if_pos (by omega)] at k; exact k)
                        | (rw [if_neg (by omega), if_neg (by omega), if_neg (by omega), if_neg (by omega)] at k; exact k)
      · first
        | exfalso; omega
        | skip
          refine kw_icon x_M_numbersOf_16 ?_
          refine kw_goto x_M_numbersOf_17 ?_
          refine kw_iret x_M_numbersOf_53 ?_
          first
            | (rw [if_pos (by omega)] at k; exact k)
            | (rw [if_neg (by omega), if_pos (by omega)] at k; exact k)
            | (rw [if_neg (by omega), if_neg (by omega), if_pos (by omega)] at k; exact k)
            | (rw [if_neg (by omega), if_neg (by omega), if_neg (by omega), if_pos (by omega)] at k; exact k)
            | (rw [if_neg (by omega), if_neg (by omega), if_neg (by omega), if_neg (by omega)] at k; exact k)
  · first
    | exfalso; omega
    | skip
      refine kw_icon x_M_numbersOf_6 ?_
      refine kw_goto x_M_numbersOf_7 ?_
      refine kw_iret x_M_numbersOf_53 ?_
      first
        | (rw [if_pos (by omega)] at k; exact k)
        | (rw [if_neg (by omega), if_pos (by omega)] at k; exact k)
        | (rw [if_neg (by omega), if_neg (by omega), if_pos (by omega)] at k; exact k)
        | (rw [if_neg (by omega), if_neg (by omega), if_neg (by omega), if_pos (by omega)] at k; exact k)
        | (rw [if_neg (by omega), if_neg (by omega), if_neg (by omega), if_neg (by omega)] at k; exact k)
theorem s_M_num_lp (hM : kt_isM P N R m) {ty s i sg : Nat} {tx : Nat → Nat} (hx : kt_tx m ty tx I) (hs : s < 900) (hi : i < 4)
    (k : ∀ I', (∀ a, a ≠ m → a ≠ m + 11 → I' a = I a) → (∀ j, j ≠ 14 → I' m j = I m j) → I' m 14 = nI (s + xdg tx ty s) → I' (m + 11) i = nI (xvq tx ty s (xdg tx ty s)) → (∀ j, j ≠ i → I' (m + 11) j = I (m + 11) j) → KW P i_M_number N 74 [some (.ref m), some (.int (nI i)), some (.int (nI sg)), some (.int (nI s)), none] [] N I' J R Q) :
    ∀ (d q : Nat) (I1 : kt_I), q + d = 2 → (∀ j, j < q → xisd tx ty (s + j) = true) → (∀ a, a ≠ m → a ≠ m + 11 → I1 a = I a) → (∀ j, j ≠ 14 → I1 m j = I m j) → I1 m 14 = nI (s + q) → I1 (m + 11) i = nI (xvq tx ty s q) → (∀ j, j ≠ i → I1 (m + 11) j = I (m + 11) j) → xvq tx ty s q < 1000 → KW P i_M_number N 12 [some (.ref m), some (.int (nI i)), some (.int (nI sg)), some (.int (nI s)), none] [] N I1 J R Q := by
  have hty := hx.2.1
  intro d
  induction d with
  | zero =>
    intro q I1 h1 hq g1 g2 h14 h11 g3 hv
    have h2 : q = 2 := by omega
    subst h2
    have hx1 : kt_tx m ty tx I1 := hx.same (g2 7 (by decide)) (g1 _ (by omega) (by omega))
    have h5 : xdg tx ty s = 2 := by
      have a0 : xisd tx ty s = true := hq 0 (by omega)
      have a1 := hq 1 (by omega)
      unfold xdg
      rw [if_pos a0, if_pos a1]
    have hk := k I1 g1 g2 (by rw [h5]; exact h14) (by rw [h5]; exact h11) g3
    refine kw_ald_n x_M_number_12 rfl ?_
    refine kw_bip x_M_number_13 ?_
    refine kw_bip x_M_number_15 ?_
    refine c_M_number_17 (by exact isM_k hM) (Nat.le_of_ble_eq_true rfl) ?_
    refine s_M_isAt hM hx1 h14 (by omega) ⟨by omega, by omega⟩ (by omega) ?_
    first | refine kw_if_eq_b x_M_number_20 (fun h20 => ?_) (fun h20 => ?_) | refine kw_if_eq_n x_M_number_20 (by omega) (fun h20 => ?_) (fun h20 => ?_) | refine kw_if_eq x_M_number_20 (fun h20 => ?_) (fun h20 => ?_)
    · first
      | exfalso; omega
      | skip
        exact hk
    · first
      | exfalso; omega
      | skip
        refine kw_ald_n x_M_number_23 rfl ?_
        refine kw_gi_e x_M_number_24 (by exact isM_k hM) (by first | exact h14 | exact h11 | exact (hx1.2.2 _ (by omega)).1 | exact rfl) ?_
        refine kw_ild_n x_M_number_27 rfl ?_
        first | refine kw_isub_n x_M_number_28 (by omega) ?_ | refine kw_isub x_M_number_28 ?_
        refine kw_icon x_M_number_29 ?_
        first | refine kw_ic_ge_n x_M_number_30 ⟨by omega, by omega⟩ (fun h30 => ?_) (fun h30 => ?_) | refine kw_ic_ge x_M_number_30 (fun h30 => ?_) (fun h30 => ?_)
        · first
          | exfalso; omega
          | skip
            exact hk
        · first
          | exfalso; omega
          | skip
            skip
  | succ d ih =>
    intro q I1 h1 hq g1 g2 h14 h11 g3 hv
    have hx1 : kt_tx m ty tx I1 := hx.same (g2 7 (by decide)) (g1 _ (by omega) (by omega))
    have h5 : xisd tx ty (s + q) = false → xdg tx ty s = q := by
      intro hf
      have hq2 : q = 0 ∨ q = 1 := by omega
      rcases hq2 with hq2 | hq2
      · subst hq2
        unfold xdg
        rw [if_neg (by rw [show s = s + 0 from rfl, hf]; decide)]
      · subst hq2
        have a0 : xisd tx ty s = true := hq 0 (by omega)
        unfold xdg
        rw [if_pos a0, if_neg (by rw [hf]; decide)]
    have hsg : ∀ h : xisd tx ty (s + q) = true, s + q < ty ∧ xsg tx ty (s + q) = tx (s + q) ∧ 48 ≤ tx (s + q) ∧ tx (s + q) ≤ 57 := by
      intro h
      have h2 := of_decide_eq_true h
      have h3 : s + q < ty := by
        by_cases hc : s + q < ty
        · exact hc
        · exfalso
          unfold xsg at h2
          rw [if_neg hc] at h2
          omega
      have h4 : xsg tx ty (s + q) = tx (s + q) := by unfold xsg; rw [if_pos h3]
      rw [h4] at h2
      exact ⟨h3, h4, h2⟩
    have h14b : ∀ v, kt_u1 I1 (m + 11) i v m 14 = nI (s + q) := fun v => by rw [kt_u1_ne _ _ _ (by omega)]; exact h14
    refine kw_ald_n x_M_number_12 rfl ?_
    refine kw_bip x_M_number_13 ?_
    refine kw_bip x_M_number_15 ?_
    refine c_M_number_17 (by exact isM_k hM) (Nat.le_of_ble_eq_true rfl) ?_
    refine s_M_isAt hM hx1 h14 (by omega) ⟨by omega, by omega⟩ (by omega) ?_
    first | refine kw_if_eq_b x_M_number_20 (fun h20 => ?_) (fun h20 => ?_) | refine kw_if_eq_n x_M_number_20 (by omega) (fun h20 => ?_) (fun h20 => ?_) | refine kw_if_eq x_M_number_20 (fun h20 => ?_) (fun h20 => ?_)
    · first
      | exfalso; omega
      | skip
        have hc := h5 h20
        exact k I1 g1 g2 (by rw [hc]; exact h14) (by rw [hc]; exact h11) g3
    · first
      | exfalso; omega
      | skip
        have hsq := hsg h20
        refine kw_ald_n x_M_number_23 rfl ?_
        refine kw_gi_e x_M_number_24 (by exact isM_k hM) (by first | exact h14 | exact h11 | exact (hx1.2.2 _ (by omega)).1 | exact (h14b _) | exact rfl) ?_
        refine kw_ild_n x_M_number_27 rfl ?_
        first | refine kw_isub_n x_M_number_28 (by omega) ?_ | refine kw_isub x_M_number_28 ?_
        refine kw_icon x_M_number_29 ?_
        first | refine kw_ic_ge_n x_M_number_30 ⟨by omega, by omega⟩ (fun h30 => ?_) (fun h30 => ?_) | refine kw_ic_ge x_M_number_30 (fun h30 => ?_) (fun h30 => ?_)
        · first
          | exfalso; omega
          | skip
            have hc := h5 h20
            exact k I1 g1 g2 (by rw [hc]; exact h14) (by rw [hc]; exact h11) g3
        · first
          | exfalso; omega
          | skip
            refine kw_ald_n x_M_number_33 rfl ?_
            refine kw_gr x_M_number_34 (by exact isM_k hM) (by exact isM_r17 hM) ?_
            refine kw_ild_n x_M_number_37 rfl ?_
            refine kw_bip x_M_number_38 ?_
            refine kw_ald_n x_M_number_40 rfl ?_
            refine kw_gr x_M_number_41 (by exact isM_k hM) (by exact isM_r17 hM) ?_
            refine kw_ild_n x_M_number_44 rfl ?_
            refine kw_iald_n x_M_number_45 (by first | exact isM_a1 hM | exact isM_a2 hM | exact isM_a3 hM | exact isM_a4 hM | exact isM_a5 hM | exact isM_a6 hM | exact isM_a7 hM | exact isM_a8 hM | exact isM_a10 hM | exact isM_a11 hM) (by omega) (by omega) (by first | exact h14 | exact h11 | exact (hx1.2.2 _ (by omega)).1 | exact (h14b _) | exact rfl) ?_
            first | refine kw_imul_n x_M_number_46 ?_ | refine kw_imul x_M_number_46 ?_
            refine kw_ald_n x_M_number_47 rfl ?_
            refine kw_gr x_M_number_48 (by exact isM_k hM) (by exact isM_r6 hM) ?_
            refine kw_ald_n x_M_number_51 rfl ?_
            refine kw_gi_e x_M_number_52 (by exact isM_k hM) (by first | exact h14 | exact h11 | exact (hx1.2.2 _ (by omega)).1 | exact (h14b _) | exact rfl) ?_
            refine kw_iald_n x_M_number_55 (by first | exact isM_a1 hM | exact isM_a2 hM | exact isM_a3 hM | exact isM_a4 hM | exact isM_a5 hM | exact isM_a6 hM | exact isM_a7 hM | exact isM_a8 hM | exact isM_a10 hM | exact isM_a11 hM) (by omega) (by omega) (by first | exact h14 | exact h11 | exact (hx1.2.2 _ (by omega)).1 | exact (h14b _) | exact rfl) ?_
            first | refine kw_iadd_n x_M_number_56 ?_ | refine kw_iadd x_M_number_56 ?_
            refine kw_bip x_M_number_57 ?_
            first | refine kw_isub_n x_M_number_59 (by omega) ?_ | refine kw_isub x_M_number_59 ?_
            refine kw_iast_n x_M_number_60 (by first | exact isM_a1 hM | exact isM_a2 hM | exact isM_a3 hM | exact isM_a4 hM | exact isM_a5 hM | exact isM_a6 hM | exact isM_a7 hM | exact isM_a8 hM | exact isM_a10 hM | exact isM_a11 hM) (by omega) (by omega) ?_
            refine kw_ald_n x_M_number_61 rfl ?_
            refine kw_dup x_M_number_62 rfl ?_
            refine kw_gi_e x_M_number_63 (by exact isM_k hM) (by first | exact h14 | exact h11 | exact (hx1.2.2 _ (by omega)).1 | exact (h14b _) | exact rfl) ?_
            refine kw_icon x_M_number_66 ?_
            first | refine kw_iadd_n x_M_number_67 ?_ | refine kw_iadd x_M_number_67 ?_
            refine kw_pi x_M_number_68 (by exact isM_k hM) ?_
            refine kw_goto x_M_number_71 ?_
            have hval : 10 * xvq tx ty s q + tx (s + q) - 48 = xvq tx ty s (q + 1) := (by
              show _ = 10 * xvq tx ty s q + (xsg tx ty (s + q) - 48)
              rw [hsq.2.1]
              omega)
            have hq1 : q = 0 ∨ q = 1 := (by omega)
            refine ih (q + 1) _ (by omega) (fun j hj => ?_) (fun a ha hb => by rw [kt_u1_ne _ _ _ ha, kt_u1_ne _ _ _ hb]; exact g1 a ha hb) (fun j hj => ?_) (by simp [kt_u1]; rfl) ?_ (fun j hj => ?_) ?_
            · by_cases hjq : j = q
              · subst hjq; exact h20
              · exact hq j (by omega)
            · simp [kt_u1, hj]
              exact g2 j hj
            · rw [← hval]
              simp [kt_u1]
            · simp [kt_u1, hj]
              exact g3 j hj
            · rw [← hval]
              rcases hq1 with hq1 | hq1
              · subst hq1
                have hz : xvq tx ty s 0 = 0 := rfl
                omega
              · subst hq1
                have a0 := of_decide_eq_true (hq 0 (by omega))
                have hz : xvq tx ty s 1 = 10 * 0 + (xsg tx ty (s + 0) - 48) := rfl
                omega
theorem s_M_number (hM : kt_isM P N R m) {ty s i sg : Nat} {tx : Nat → Nat} (hx : kt_tx m ty tx I) (h14 : I m 14 = nI s) (hs : s < 900) (hi : i < 4) (hsg : 1 ≤ sg ∧ sg < 1000)
    (k : ∀ I', (∀ a, a ≠ m → a ≠ m + 11 → I' a = I a) → (∀ j, j ≠ 14 → I' m j = I m j) → I' m 14 = nI (s + xdg tx ty s + 1) → I' (m + 11) i = nI (xvq tx ty s (xdg tx ty s)) → (∀ j, j ≠ i → I' (m + 11) j = I (m + 11) j) → Q (some (.int (kt_bo (decide (xdg tx ty s ≠ 0 ∧ xsg tx ty (s + xdg tx ty s) = sg))))) I' J R) :
    KW P i_M_number N 0 [some (.ref m), some (.int (nI i)), some (.int (nI sg)), none, none] [] N I J R Q := by
  have hdg : xdg tx ty s ≤ 2 := by unfold xdg; split <;> (try split) <;> omega
  refine kw_ald_n x_M_number_0 rfl ?_
  refine kw_gi_e x_M_number_1 (by exact isM_k hM) (by first | exact h14 | exact f3 | exact rfl) ?_
  refine kw_ist_n x_M_number_4 (by decide) ?_
  refine kw_ald_n x_M_number_5 rfl ?_
  refine kw_gr x_M_number_6 (by exact isM_k hM) (by exact isM_r17 hM) ?_
  refine kw_ild_n x_M_number_9 rfl ?_
  refine kw_icon x_M_number_10 ?_
  refine kw_iast_n x_M_number_11 (by first | exact isM_a1 hM | exact isM_a2 hM | exact isM_a3 hM | exact isM_a4 hM | exact isM_a5 hM | exact isM_a6 hM | exact isM_a7 hM | exact isM_a8 hM | exact isM_a10 hM | exact isM_a11 hM) (by omega) (by omega) ?_
  refine s_M_num_lp hM hx hs hi (fun I2 f1 f2 f3 f4 f5 => ?_) 2 0 _ (by omega) (fun j hj => absurd hj (Nat.not_lt_zero j)) (fun a ha hb => kt_u1_ne _ _ _ hb) (fun j hj => by rw [kt_u1_ne _ _ _ (by omega)]) (by rw [kt_u1_ne _ _ _ (by omega)]; exact h14) (by simp [kt_u1]; rfl) (fun j hj => by simp [kt_u1, hj]) (by decide : 0 < 1000)
  refine kw_ald_n x_M_number_74 rfl ?_
  refine kw_gi_e x_M_number_75 (by exact isM_k hM) (by first | exact h14 | exact f3 | exact rfl) ?_
  refine kw_ild_n x_M_number_78 rfl ?_
  first | refine kw_ic_le_n x_M_number_79 ⟨by omega, by omega⟩ (fun h79 => ?_) (fun h79 => ?_) | refine kw_ic_le x_M_number_79 (fun h79 => ?_) (fun h79 => ?_)
  · first
    | exfalso; omega
    | skip
      refine kw_icon x_M_number_95 ?_
      refine kw_ist x_M_number_96 (by decide) ?_
      refine kw_ald_n x_M_number_98 rfl ?_
      refine kw_dup x_M_number_99 rfl ?_
      refine kw_gi_e x_M_number_100 (by exact isM_k hM) (by first | exact h14 | exact f3 | exact rfl) ?_
      refine kw_icon x_M_number_103 ?_
      first | refine kw_iadd_n x_M_number_104 ?_ | refine kw_iadd x_M_number_104 ?_
      refine kw_pi x_M_number_105 (by exact isM_k hM) ?_
      refine kw_ild x_M_number_108 rfl ?_
      first | refine kw_zret_b x_M_number_110 ?_ | refine kw_zret_b (b := true) x_M_number_110 ?_ | refine kw_zret_b (b := false) x_M_number_110 ?_
      have hk := k (kt_u1 I2 m 14 (nI (s + xdg tx ty s + 1))) (fun a ha hb => by rw [kt_u1_ne _ _ _ ha]; exact f1 a ha hb) (fun j hj => by simp [kt_u1, hj]; exact f2 j hj) (by simp [kt_u1]) (by rw [kt_u1_ne _ _ _ (by omega)]; exact f4) (fun j hj => by rw [kt_u1_ne _ _ _ (by omega)]; exact f5 j hj)
      first
        | (have h9 := of_decide_eq_true h88
           rw [decide_eq_true ⟨by omega, by omega⟩] at hk; exact hk)
        | (have h9 := of_decide_eq_false h88
           rw [decide_eq_false (by omega)] at hk; exact hk)
        | (rw [decide_eq_false (by omega)] at hk; exact hk)
  · first
    | exfalso; omega
    | skip
      refine kw_ald_n x_M_number_82 rfl ?_
      refine kw_ild_n x_M_number_83 rfl ?_
      refine kw_ild_n x_M_number_84 rfl ?_
      refine c_M_number_85 (by exact isM_k hM) (Nat.le_of_ble_eq_true rfl) ?_
      refine s_M_isAt hM (hx.same (f2 7 (by decide)) (f1 _ (by omega) (by omega))) f3 (by omega) ⟨by omega, by omega⟩ (by omega) ?_
      first | refine kw_if_eq_b x_M_number_88 (fun h88 => ?_) (fun h88 => ?_) | refine kw_if_eq_n x_M_number_88 (by omega) (fun h88 => ?_) (fun h88 => ?_) | refine kw_if_eq x_M_number_88 (fun h88 => ?_) (fun h88 => ?_)
      · first
        | exfalso; omega
        | skip
          refine kw_icon x_M_number_95 ?_
          refine kw_ist x_M_number_96 (by decide) ?_
          refine kw_ald_n x_M_number_98 rfl ?_
          refine kw_dup x_M_number_99 rfl ?_
          refine kw_gi_e x_M_number_100 (by exact isM_k hM) (by first | exact h14 | exact f3 | exact rfl) ?_
          refine kw_icon x_M_number_103 ?_
          first | refine kw_iadd_n x_M_number_104 ?_ | refine kw_iadd x_M_number_104 ?_
          refine kw_pi x_M_number_105 (by exact isM_k hM) ?_
          refine kw_ild x_M_number_108 rfl ?_
          first | refine kw_zret_b x_M_number_110 ?_ | refine kw_zret_b (b := true) x_M_number_110 ?_ | refine kw_zret_b (b := false) x_M_number_110 ?_
          have hk := k (kt_u1 I2 m 14 (nI (s + xdg tx ty s + 1))) (fun a ha hb => by rw [kt_u1_ne _ _ _ ha]; exact f1 a ha hb) (fun j hj => by simp [kt_u1, hj]; exact f2 j hj) (by simp [kt_u1]) (by rw [kt_u1_ne _ _ _ (by omega)]; exact f4) (fun j hj => by rw [kt_u1_ne _ _ _ (by omega)]; exact f5 j hj)
          first
            | (have h9 := of_decide_eq_true h88
               rw [decide_eq_true ⟨by omega, by omega⟩] at hk; exact hk)
            | (have h9 := of_decide_eq_false h88
               rw [decide_eq_false (by omega)] at hk; exact hk)
            | (rw [decide_eq_false (by omega)] at hk; exact hk)
      · first
        | exfalso; omega
        | skip
          refine kw_icon x_M_number_91 ?_
          refine kw_goto x_M_number_92 ?_
          refine kw_ist x_M_number_96 (by decide) ?_
          refine kw_ald_n x_M_number_98 rfl ?_
          refine kw_dup x_M_number_99 rfl ?_
          refine kw_gi_e x_M_number_100 (by exact isM_k hM) (by first | exact h14 | exact f3 | exact rfl) ?_
          refine kw_icon x_M_number_103 ?_
          first | refine kw_iadd_n x_M_number_104 ?_ | refine kw_iadd x_M_number_104 ?_
          refine kw_pi x_M_number_105 (by exact isM_k hM) ?_
          refine kw_ild x_M_number_108 rfl ?_
          first | refine kw_zret_b x_M_number_110 ?_ | refine kw_zret_b (b := true) x_M_number_110 ?_ | refine kw_zret_b (b := false) x_M_number_110 ?_
          have hk := k (kt_u1 I2 m 14 (nI (s + xdg tx ty s + 1))) (fun a ha hb => by rw [kt_u1_ne _ _ _ ha]; exact f1 a ha hb) (fun j hj => by simp [kt_u1, hj]; exact f2 j hj) (by simp [kt_u1]) (by rw [kt_u1_ne _ _ _ (by omega)]; exact f4) (fun j hj => by rw [kt_u1_ne _ _ _ (by omega)]; exact f5 j hj)
          first
            | (have h9 := of_decide_eq_true h88
               rw [decide_eq_true ⟨by omega, by omega⟩] at hk; exact hk)
            | (have h9 := of_decide_eq_false h88
               rw [decide_eq_false (by omega)] at hk; exact hk)
            | (rw [decide_eq_false (by omega)] at hk; exact hk)
end MO
