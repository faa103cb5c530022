/-! the class: reading a command of the text -/
def kt_sx (sc ty : Nat) (tx : Nat → Nat) (I : kt_I) : Prop := I sc 1 = nI ty ∧ ty ≤ 80 ∧ ∀ j, j < ty → I (sc + 1) j = nI (tx j) ∧ 32 ≤ tx j ∧ tx j ≤ 126
theorem kt_sx.same {sc ty : Nat} {tx : Nat → Nat} {I I' : kt_I} (h : kt_sx sc ty tx I) (h1 : I' sc 1 = I sc 1) (h2 : I' (sc + 1) = I (sc + 1)) : kt_sx sc ty tx I' := ⟨h1.trans h.1, h.2.1, fun j hj => by rw [h2]; exact h.2.2 j hj⟩
theorem xsg_x {sc ty : Nat} {tx : Nat → Nat} {I : kt_I} (h : kt_sx sc ty tx I) (s : Nat) : xsg tx ty s ≤ 126 := by
  unfold xsg
  split
  · exact (h.2.2 s (by assumption)).2.2
  · omega
section CS
variable {P : kt_P} {N : Nat} {I : kt_I} {J : kt_J} {R : kt_R} {Q : Option Value → kt_I → kt_J → kt_R → Prop} {sc ty : Nat} {tx : Nat → Nat}
theorem s_S_signAt (hS : kt_isS P N R sc) (hx : kt_sx sc ty tx I) {s : Nat} (hs : s < 1000) (k : Q (some (.int (nI (xsg tx ty s)))) I J R) : KW P i_S_signAt N 0 [some (.ref sc), some (.int (nI s))] [] N I J R Q := by
  have hty := hx.2.1
  unfold xsg at k
  refine kw_ild_n x_S_signAt_0 rfl ?_
  refine kw_ald_n x_S_signAt_1 rfl ?_
  refine kw_gi_e x_S_signAt_2 (by exact isS_k hS) (by first | exact hx.1 | exact (hx.2.2 _ (by omega)).1 | exact rfl) ?_
  refine c_S_signAt_5 (Nat.le_of_ble_eq_true rfl) ?_
  refine s_K_isBelow ?_
  first | refine kw_if_eq_b x_S_signAt_8 (fun h8 => ?_) (fun h8 => ?_) | refine kw_if_eq_n x_S_signAt_8 (by omega) (fun h8 => ?_) (fun h8 => ?_) | refine kw_if_eq x_S_signAt_8 (fun h8 => ?_) (fun h8 => ?_)
  · first
    | exfalso; omega
    | skip
      refine kw_icon x_S_signAt_20 ?_
      refine kw_iret x_S_signAt_21 ?_
      first
        | (rw [if_pos hlt] at k; exact k)
        | (rw [if_neg (fun q => kt_nT (T := ty) (by omega) h8 ⟨s, q, rfl⟩)] at k; exact k)
  · first
    | exfalso; omega
    | skip
      have hlt : s < ty := (by
        obtain ⟨e, he, hq⟩ := kt_yT (T := ty) (by omega) h8
        have := kt_inj hq (by omega) (by omega)
        omega)
      refine kw_ald_n x_S_signAt_11 rfl ?_
      refine kw_gr x_S_signAt_12 (by exact isS_k hS) (by exact isS_r0 hS) ?_
      refine kw_ild_n x_S_signAt_15 rfl ?_
      refine kw_iald_n x_S_signAt_16 (by first | exact isS_a1 hS | exact isS_a2 hS) (by omega) (by omega) (by first | exact hx.1 | exact (hx.2.2 _ (by omega)).1 | exact rfl) ?_
      refine kw_goto x_S_signAt_17 ?_
      refine kw_iret x_S_signAt_21 ?_
      first
        | (rw [if_pos hlt] at k; exact k)
        | (rw [if_neg (fun q => kt_nT (T := ty) (by omega) h8 ⟨s, q, rfl⟩)] at k; exact k)
theorem s_S_isDigit (hS : kt_isS P N R sc) (hx : kt_sx sc ty tx I) {s : Nat} (hs : s < 1000) (k : Q (some (.int (kt_bo (xisd tx ty s)))) I J R) : KW P i_S_isDigit N 0 [some (.ref sc), some (.int (nI s))] [] N I J R Q := by
  have hsg := xsg_x hx s
  unfold xisd at k
  refine kw_ald_n x_S_isDigit_0 rfl ?_
  refine kw_ild_n x_S_isDigit_1 rfl ?_
  refine c_S_isDigit_2 (by exact isS_k hS) (Nat.le_of_ble_eq_true rfl) ?_
  refine s_S_signAt hS hx (by omega) ?_
  refine kw_bip x_S_isDigit_5 ?_
  first | refine kw_ic_lt_n x_S_isDigit_7 ⟨by omega, by omega⟩ (fun h7 => ?_) (fun h7 => ?_) | refine kw_ic_lt x_S_isDigit_7 (fun h7 => ?_) (fun h7 => ?_)
  · first
    | exfalso; omega
    | skip
      refine kw_icon x_S_isDigit_24 ?_
      first | refine kw_zret_b x_S_isDigit_25 ?_ | refine kw_zret_b (b := true) x_S_isDigit_25 ?_ | refine kw_zret_b (b := false) x_S_isDigit_25 ?_
      exact kt_kb k (by first | exact decide_eq_true (by omega) | exact decide_eq_false (by omega))
  · first
    | exfalso; omega
    | skip
      refine kw_ald_n x_S_isDigit_10 rfl ?_
      refine kw_ild_n x_S_isDigit_11 rfl ?_
      refine c_S_isDigit_12 (by exact isS_k hS) (Nat.le_of_ble_eq_true rfl) ?_
      refine s_S_signAt hS hx (by omega) ?_
      refine kw_bip x_S_isDigit_15 ?_
      first | refine kw_ic_gt_n x_S_isDigit_17 ⟨by omega, by omega⟩ (fun h17 => ?_) (fun h17 => ?_) | refine kw_ic_gt x_S_isDigit_17 (fun h17 => ?_) (fun h17 => ?_)
      · first
        | exfalso; omega
        | skip
          refine kw_icon x_S_isDigit_24 ?_
          first | refine kw_zret_b x_S_isDigit_25 ?_ | refine kw_zret_b (b := true) x_S_isDigit_25 ?_ | refine kw_zret_b (b := false) x_S_isDigit_25 ?_
          exact kt_kb k (by first | exact decide_eq_true (by omega) | exact decide_eq_false (by omega))
      · first
        | exfalso; omega
        | skip
          refine kw_icon x_S_isDigit_20 ?_
          refine kw_goto x_S_isDigit_21 ?_
          first | refine kw_zret_b x_S_isDigit_25 ?_ | refine kw_zret_b (b := true) x_S_isDigit_25 ?_ | refine kw_zret_b (b := false) x_S_isDigit_25 ?_
          exact kt_kb k (by first | exact decide_eq_true (by omega) | exact decide_eq_false (by omega))
theorem s_S_digit (hS : kt_isS P N R sc) (hx : kt_sx sc ty tx I) {s : Nat} (hs : s < 1000) (hd : xisd tx ty s = true) (k : Q (some (.int (nI (xsg tx ty s - 48)))) I J R) : KW P i_S_digit N 0 [some (.ref sc), some (.int (nI s))] [] N I J R Q := by
  have hsg := xsg_x hx s
  have hd2 := of_decide_eq_true hd
  refine kw_ald_n x_S_digit_0 rfl ?_
  refine kw_ild_n x_S_digit_1 rfl ?_
  refine c_S_digit_2 (by exact isS_k hS) (Nat.le_of_ble_eq_true rfl) ?_
  refine s_S_signAt hS hx (by omega) ?_
  refine kw_bip x_S_digit_5 ?_
  first | refine kw_isub_n x_S_digit_7 (by omega) ?_ | refine kw_isub x_S_digit_7 ?_
  refine kw_iret x_S_digit_8 ?_
  exact k
theorem s_S_digitsAt (hS : kt_isS P N R sc) (hx : kt_sx sc ty tx I) {s : Nat} (hs : s < 999) (k : Q (some (.int (nI (xdg tx ty s)))) I J R) : KW P i_S_digitsAt N 0 [some (.ref sc), some (.int (nI s))] [] N I J R Q := by
  unfold xdg at k
  refine kw_ald_n x_S_digitsAt_0 rfl ?_
  refine kw_ild_n x_S_digitsAt_1 rfl ?_
  refine c_S_digitsAt_2 (by exact isS_k hS) (Nat.le_of_ble_eq_true rfl) ?_
  refine s_S_isDigit hS hx (by omega) ?_
  first | refine kw_if_ne_b x_S_digitsAt_5 (fun h5 => ?_) (fun h5 => ?_) | refine kw_if_ne_s x_S_digitsAt_5 ⟨by omega, by omega⟩ (fun h5 => ?_) (fun h5 => ?_) | refine kw_if_ne_n x_S_digitsAt_5 (by omega) (fun h5 => ?_) (fun h5 => ?_) | refine kw_if_ne x_S_digitsAt_5 (fun h5 => ?_) (fun h5 => ?_)
  · first
    | exfalso; omega
    | skip
      refine kw_ald_n x_S_digitsAt_10 rfl ?_
      refine kw_ild_n x_S_digitsAt_11 rfl ?_
      refine kw_icon x_S_digitsAt_12 ?_
      first | refine kw_iadd_n x_S_digitsAt_13 ?_ | refine kw_iadd x_S_digitsAt_13 ?_
      refine c_S_digitsAt_14 (by exact isS_k hS) (Nat.le_of_ble_eq_true rfl) ?_
      refine s_S_isDigit hS hx (by omega) ?_
      first | refine kw_if_eq_b x_S_digitsAt_17 (fun h17 => ?_) (fun h17 => ?_) | refine kw_if_eq_n x_S_digitsAt_17 (by omega) (fun h17 => ?_) (fun h17 => ?_) | refine kw_if_eq x_S_digitsAt_17 (fun h17 => ?_) (fun h17 => ?_)
      · first
        | exfalso; omega
        | skip
          refine kw_icon x_S_digitsAt_24 ?_
          refine kw_iret x_S_digitsAt_25 ?_
          first
            | (rw [if_pos h5, if_pos h17] at k; exact k)
            | (rw [if_pos h5, if_neg (by rw [h17]; decide)] at k; exact k)
            | (rw [if_neg (by rw [h5]; decide)] at k; exact k)
      · first
        | exfalso; omega
        | skip
          refine kw_icon x_S_digitsAt_20 ?_
          refine kw_goto x_S_digitsAt_21 ?_
          refine kw_iret x_S_digitsAt_25 ?_
          first
            | (rw [if_pos h5, if_pos h17] at k; exact k)
            | (rw [if_pos h5, if_neg (by rw [h17]; decide)] at k; exact k)
            | (rw [if_neg (by rw [h5]; decide)] at k; exact k)
  · first
    | exfalso; omega
    | skip
      refine kw_icon x_S_digitsAt_8 ?_
      refine kw_iret x_S_digitsAt_9 ?_
      first
        | (rw [if_pos h5, if_pos h17] at k; exact k)
        | (rw [if_pos h5, if_neg (by rw [h17]; decide)] at k; exact k)
        | (rw [if_neg (by rw [h5]; decide)] at k; exact k)
theorem s_S_numbersBehind {l : Nat} (hl : l < 1000) (k : Q (some (.int (nI (xnb l)))) I J R) : KW P i_S_numbersBehind N 0 [some (.int (nI l))] [] N I J R Q := by
  refine kw_ild_n x_S_numbersBehind_0 rfl ?_
  refine s_S_numbersBehind_1 ?_ ?_ ?_ ?_ ?_ ?_ ?_ ?_ ?_ ?_ ?_ ?_ ?_ ?_ ?_ ?_ ?_
  · intro h1
    refine kw_icon x_S_numbersBehind_84 ?_
    refine kw_iret x_S_numbersBehind_85 ?_
    first
      | (have hl2 := kt_inj h1 (by omega) (by decide)
         subst hl2
         exact k)
      | (have hz : xnb l = 0 := (by
           unfold xnb
           rw [if_neg (fun q => h1_12 (by rw [q])), if_neg (fun q => h1_1 (by rw [q])), if_neg (fun q => by
             rcases q with q | q | q
             · exact h1_0 (by rw [q])
             · exact h1_10 (by rw [q])
             · exact h1_5 (by rw [q])), if_neg (fun q => h1_15 (by rw [q]))])
         rw [hz] at k
         exact k)
  · intro h1
    refine kw_icon x_S_numbersBehind_80 ?_
    refine kw_iret x_S_numbersBehind_81 ?_
    first
      | (have hl2 := kt_inj h1 (by omega) (by decide)
         subst hl2
         exact k)
      | (have hz : xnb l = 0 := (by
           unfold xnb
           rw [if_neg (fun q => h1_12 (by rw [q])), if_neg (fun q => h1_1 (by rw [q])), if_neg (fun q => by
             rcases q with q | q | q
             · exact h1_0 (by rw [q])
             · exact h1_10 (by rw [q])
             · exact h1_5 (by rw [q])), if_neg (fun q => h1_15 (by rw [q]))])
         rw [hz] at k
         exact k)
  · intro h1
    refine kw_icon x_S_numbersBehind_88 ?_
    refine kw_iret x_S_numbersBehind_89 ?_
    first
      | (have hl2 := kt_inj h1 (by omega) (by decide)
         subst hl2
         exact k)
      | (have hz : xnb l = 0 := (by
           unfold xnb
           rw [if_neg (fun q => h1_12 (by rw [q])), if_neg (fun q => h1_1 (by rw [q])), if_neg (fun q => by
             rcases q with q | q | q
             · exact h1_0 (by rw [q])
             · exact h1_10 (by rw [q])
             · exact h1_5 (by rw [q])), if_neg (fun q => h1_15 (by rw [q]))])
         rw [hz] at k
         exact k)
  · intro h1
    refine kw_icon x_S_numbersBehind_88 ?_
    refine kw_iret x_S_numbersBehind_89 ?_
    first
      | (have hl2 := kt_inj h1 (by omega) (by decide)
         subst hl2
         exact k)
      | (have hz : xnb l = 0 := (by
           unfold xnb
           rw [if_neg (fun q => h1_12 (by rw [q])), if_neg (fun q => h1_1 (by rw [q])), if_neg (fun q => by
             rcases q with q | q | q
             · exact h1_0 (by rw [q])
             · exact h1_10 (by rw [q])
             · exact h1_5 (by rw [q])), if_neg (fun q => h1_15 (by rw [q]))])
         rw [hz] at k
         exact k)
  · intro h1
    refine kw_icon x_S_numbersBehind_88 ?_
    refine kw_iret x_S_numbersBehind_89 ?_
    first
      | (have hl2 := kt_inj h1 (by omega) (by decide)
         subst hl2
         exact k)
      | (have hz : xnb l = 0 := (by
           unfold xnb
           rw [if_neg (fun q => h1_12 (by rw [q])), if_neg (fun q => h1_1 (by rw [q])), if_neg (fun q => by
             rcases q with q | q | q
             · exact h1_0 (by rw [q])
             · exact h1_10 (by rw [q])
             · exact h1_5 (by rw [q])), if_neg (fun q => h1_15 (by rw [q]))])
         rw [hz] at k
         exact k)
  · intro h1
    refine kw_icon x_S_numbersBehind_84 ?_
    refine kw_iret x_S_numbersBehind_85 ?_
    first
      | (have hl2 := kt_inj h1 (by omega) (by decide)
         subst hl2
         exact k)
      | (have hz : xnb l = 0 := (by
           unfold xnb
           rw [if_neg (fun q => h1_12 (by rw [q])), if_neg (fun q => h1_1 (by rw [q])), if_neg (fun q => by
             rcases q with q | q | q
             · exact h1_0 (by rw [q])
             · exact h1_10 (by rw [q])
             · exact h1_5 (by rw [q])), if_neg (fun q => h1_15 (by rw [q]))])
         rw [hz] at k
         exact k)
  · intro h1
    refine kw_icon x_S_numbersBehind_88 ?_
    refine kw_iret x_S_numbersBehind_89 ?_
    first
      | (have hl2 := kt_inj h1 (by omega) (by decide)
         subst hl2
         exact k)
      | (have hz : xnb l = 0 := (by
           unfold xnb
           rw [if_neg (fun q => h1_12 (by rw [q])), if_neg (fun q => h1_1 (by rw [q])), if_neg (fun q => by
             rcases q with q | q | q
             · exact h1_0 (by rw [q])
             · exact h1_10 (by rw [q])
             · exact h1_5 (by rw [q])), if_neg (fun q => h1_15 (by rw [q]))])
         rw [hz] at k
         exact k)
  · intro h1
    refine kw_icon x_S_numbersBehind_88 ?_
    refine kw_iret x_S_numbersBehind_89 ?_
    first
      | (have hl2 := kt_inj h1 (by omega) (by decide)
         subst hl2
         exact k)
      | (have hz : xnb l = 0 := (by
           unfold xnb
           rw [if_neg (fun q => h1_12 (by rw [q])), if_neg (fun q => h1_1 (by rw [q])), if_neg (fun q => by
             rcases q with q | q | q
             · exact h1_0 (by rw [q])
             · exact h1_10 (by rw [q])
             · exact h1_5 (by rw [q])), if_neg (fun q => h1_15 (by rw [q]))])
         rw [hz] at k
         exact k)
  · intro h1
    refine kw_icon x_S_numbersBehind_88 ?_
    refine kw_iret x_S_numbersBehind_89 ?_
    first
      | (have hl2 := kt_inj h1 (by omega) (by decide)
         subst hl2
         exact k)
      | (have hz : xnb l = 0 := (by
           unfold xnb
           rw [if_neg (fun q => h1_12 (by rw [q])), if_neg (fun q => h1_1 (by rw [q])), if_neg (fun q => by
             rcases q with q | q | q
             · exact h1_0 (by rw [q])
             · exact h1_10 (by rw [q])
             · exact h1_5 (by rw [q])), if_neg (fun q => h1_15 (by rw [q]))])
         rw [hz] at k
         exact k)
  · intro h1
    refine kw_icon x_S_numbersBehind_88 ?_
    refine kw_iret x_S_numbersBehind_89 ?_
    first
      | (have hl2 := kt_inj h1 (by omega) (by decide)
         subst hl2
         exact k)
      | (have hz : xnb l = 0 := (by
           unfold xnb
           rw [if_neg (fun q => h1_12 (by rw [q])), if_neg (fun q => h1_1 (by rw [q])), if_neg (fun q => by
             rcases q with q | q | q
             · exact h1_0 (by rw [q])
             · exact h1_10 (by rw [q])
             · exact h1_5 (by rw [q])), if_neg (fun q => h1_15 (by rw [q]))])
         rw [hz] at k
         exact k)
  · intro h1
    refine kw_icon x_S_numbersBehind_84 ?_
    refine kw_iret x_S_numbersBehind_85 ?_
    first
      | (have hl2 := kt_inj h1 (by omega) (by decide)
         subst hl2
         exact k)
      | (have hz : xnb l = 0 := (by
           unfold xnb
           rw [if_neg (fun q => h1_12 (by rw [q])), if_neg (fun q => h1_1 (by rw [q])), if_neg (fun q => by
             rcases q with q | q | q
             · exact h1_0 (by rw [q])
             · exact h1_10 (by rw [q])
             · exact h1_5 (by rw [q])), if_neg (fun q => h1_15 (by rw [q]))])
         rw [hz] at k
         exact k)
  · intro h1
    refine kw_icon x_S_numbersBehind_88 ?_
    refine kw_iret x_S_numbersBehind_89 ?_
    first
      | (have hl2 := kt_inj h1 (by omega) (by decide)
         subst hl2
         exact k)
      | (have hz : xnb l = 0 := (by
           unfold xnb
           rw [if_neg (fun q => h1_12 (by rw [q])), if_neg (fun q => h1_1 (by rw [q])), if_neg (fun q => by
             rcases q with q | q | q
             · exact h1_0 (by rw [q])
             · exact h1_10 (by rw [q])
             · exact h1_5 (by rw [q])), if_neg (fun q => h1_15 (by rw [q]))])
         rw [hz] at k
         exact k)
  · intro h1
    refine kw_icon x_S_numbersBehind_82 ?_
    refine kw_iret x_S_numbersBehind_83 ?_
    first
      | (have hl2 := kt_inj h1 (by omega) (by decide)
         subst hl2
         exact k)
      | (have hz : xnb l = 0 := (by
           unfold xnb
           rw [if_neg (fun q => h1_12 (by rw [q])), if_neg (fun q => h1_1 (by rw [q])), if_neg (fun q => by
             rcases q with q | q | q
             · exact h1_0 (by rw [q])
             · exact h1_10 (by rw [q])
             · exact h1_5 (by rw [q])), if_neg (fun q => h1_15 (by rw [q]))])
         rw [hz] at k
         exact k)
  · intro h1
    refine kw_icon x_S_numbersBehind_88 ?_
    refine kw_iret x_S_numbersBehind_89 ?_
    first
      | (have hl2 := kt_inj h1 (by omega) (by decide)
         subst hl2
         exact k)
      | (have hz : xnb l = 0 := (by
           unfold xnb
           rw [if_neg (fun q => h1_12 (by rw [q])), if_neg (fun q => h1_1 (by rw [q])), if_neg (fun q => by
             rcases q with q | q | q
             · exact h1_0 (by rw [q])
             · exact h1_10 (by rw [q])
             · exact h1_5 (by rw [q])), if_neg (fun q => h1_15 (by rw [q]))])
         rw [hz] at k
         exact k)
  · intro h1
    refine kw_icon x_S_numbersBehind_88 ?_
    refine kw_iret x_S_numbersBehind_89 ?_
    first
      | (have hl2 := kt_inj h1 (by omega) (by decide)
         subst hl2
         exact k)
      | (have hz : xnb l = 0 := (by
           unfold xnb
           rw [if_neg (fun q => h1_12 (by rw [q])), if_neg (fun q => h1_1 (by rw [q])), if_neg (fun q => by
             rcases q with q | q | q
             · exact h1_0 (by rw [q])
             · exact h1_10 (by rw [q])
             · exact h1_5 (by rw [q])), if_neg (fun q => h1_15 (by rw [q]))])
         rw [hz] at k
         exact k)
  · intro h1
    refine kw_icon x_S_numbersBehind_86 ?_
    refine kw_iret x_S_numbersBehind_87 ?_
    first
      | (have hl2 := kt_inj h1 (by omega) (by decide)
         subst hl2
         exact k)
      | (have hz : xnb l = 0 := (by
           unfold xnb
           rw [if_neg (fun q => h1_12 (by rw [q])), if_neg (fun q => h1_1 (by rw [q])), if_neg (fun q => by
             rcases q with q | q | q
             · exact h1_0 (by rw [q])
             · exact h1_10 (by rw [q])
             · exact h1_5 (by rw [q])), if_neg (fun q => h1_15 (by rw [q]))])
         rw [hz] at k
         exact k)
  · intro h1_0 h1_1 h1_2 h1_3 h1_4 h1_5 h1_6 h1_7 h1_8 h1_9 h1_10 h1_11 h1_12 h1_13 h1_14 h1_15
    refine kw_icon x_S_numbersBehind_88 ?_
    refine kw_iret x_S_numbersBehind_89 ?_
    first
      | (have hl2 := kt_inj h1 (by omega) (by decide)
         subst hl2
         exact k)
      | (have hz : xnb l = 0 := (by
           unfold xnb
           rw [if_neg (fun q => h1_12 (by rw [q])), if_neg (fun q => h1_1 (by rw [q])), if_neg (fun q => by
             rcases q with q | q | q
             · exact h1_0 (by rw [q])
             · exact h1_10 (by rw [q])
             · exact h1_5 (by rw [q])), if_neg (fun q => h1_15 (by rw [q]))])
         rw [hz] at k
         exact k)
theorem s_S_read (hS : kt_isS P N R sc) (hx : kt_sx sc ty tx I) {s : Nat} (hs : s < ty) (k0 : xoks tx ty s (xnb (tx s)) (xnb (tx s)) = false → ∀ I', (∀ a, a ≠ sc + 2 → I' a = I a) → Q (some (.int (-1))) I' J R)
    (k : xoks tx ty s (xnb (tx s)) (xnb (tx s)) = true → ∀ I', (∀ a, a ≠ sc + 2 → I' a = I a) → (∀ j, j < xnb (tx s) → I' (sc + 2) j = nI (xnm tx ty s j)) → Q (some (.int (nI (xps tx ty s (xnb (tx s)))))) I' J R) :
    KW P i_S_read N 0 [some (.ref sc), some (.int (nI s)), none, none, none, none] [] N I J R Q := by
  have hty := hx.2.1
  have h4 := xnb_4 (tx s)
  have htx := (hx.2.2 s hs).2
  have hsg : xsg tx ty s = tx s := by unfold xsg; rw [if_pos hs]
  have hpe := xps_le tx ty s (xnb (tx s))
  have loop : ∀ (d i : Nat) (I1 : kt_I) (v5 : Option Value), i + d = xnb (tx s) → (∀ a, a ≠ sc + 2 → I1 a = I a) → (0 < xnb (tx s) → xoks tx ty s (xnb (tx s)) i = true) → (∀ j, j < i → I1 (sc + 2) j = nI (xnm tx ty s j)) →
      KW P i_S_read N 16 [some (.ref sc), some (.int (nI s)), some (.int (nI (xps tx ty s i))), some (.int (nI (xnb (tx s)))), some (.int (nI i)), v5] [] N I1 J R Q := by
    intro d
    induction d with
    | zero =>
      intro i I1 v5 h1 h2 h3 h5
      have h6 : i = xnb (tx s) := by omega
      subst h6
      refine kw_ild x_S_read_16 rfl ?_
      refine kw_ild_n x_S_read_18 rfl ?_
      first | refine kw_ic_ge_n x_S_read_19 ⟨by omega, by omega⟩ (fun h19 => ?_) (fun h19 => ?_) | refine kw_ic_ge x_S_read_19 (fun h19 => ?_) (fun h19 => ?_)
      · first
        | exfalso; omega
        | skip
          refine kw_ild_n x_S_read_113 rfl ?_
          first | refine kw_if_ne_b x_S_read_114 (fun h114 => ?_) (fun h114 => ?_) | refine kw_if_ne_s x_S_read_114 ⟨by omega, by omega⟩ (fun h114 => ?_) (fun h114 => ?_) | refine kw_if_ne_n x_S_read_114 (by omega) (fun h114 => ?_) (fun h114 => ?_) | refine kw_if_ne x_S_read_114 (fun h114 => ?_) (fun h114 => ?_)
          · first
            | exfalso; omega
            | skip
              refine kw_ild_n x_S_read_121 rfl ?_
              refine kw_iret x_S_read_122 ?_
              first
                | exact k (h3 (by omega)) I1 h2 h5
                | (refine k0 ?_ I1 h2
                   rw [show xnb (tx s) = 0 by omega]
                   rfl)
          · first
            | exfalso; omega
            | skip
              refine kw_icon x_S_read_117 ?_
              refine kw_goto x_S_read_118 ?_
              refine kw_iret x_S_read_122 ?_
              first
                | exact k (h3 (by omega)) I1 h2 h5
                | (refine k0 ?_ I1 h2
                   rw [show xnb (tx s) = 0 by omega]
                   rfl)
      · first
        | exfalso; omega
        | skip
          skip
    | succ d ih =>
      intro i I1 v5 h1 h2 h3 h5
      have hx : kt_sx sc ty tx I1 := hx.same (by rw [h2 sc (by omega)]) (h2 _ (by omega))
      have hp := xps_le tx ty s i
      have hd2 := xdg_2 tx ty (xps tx ty s i)
      have hok := h3 (by omega)
      have hfail : xok1 tx ty s (xnb (tx s)) i = false → xoks tx ty s (xnb (tx s)) (xnb (tx s)) = false := by
        intro hf
        have hf1 : xoks tx ty s (xnb (tx s)) (i + 1) = false := by
          show (xoks tx ty s (xnb (tx s)) i && xok1 tx ty s (xnb (tx s)) i) = false
          rw [hf, Bool.and_false]
        have := xoks_f hf1 d
        rw [show i + 1 + d = xnb (tx s) by omega] at this
        exact this
      have hg1 := xsg_x hx (xps tx ty s i)
      have hg2 := xsg_x hx (xps tx ty s i + 1)
      have hg3 := xsg_x hx (xps tx ty s i + xdg tx ty (xps tx ty s i))
      have hdg1 : xdg tx ty (xps tx ty s i) ≠ 0 → xisd tx ty (xps tx ty s i) = true := by
        intro hne
        unfold xdg at hne
        cases hq : xisd tx ty (xps tx ty s i) with
        | true => rfl
        | false => rw [hq] at hne; exact absurd rfl hne
      have hdg2 : xdg tx ty (xps tx ty s i) ≠ 0 → xdg tx ty (xps tx ty s i) ≠ 1 → xdg tx ty (xps tx ty s i) = 2 ∧ xisd tx ty (xps tx ty s i + 1) = true := by
        intro hne hne1
        refine ⟨by omega, ?_⟩
        unfold xdg at hne1
        rw [if_pos (hdg1 hne)] at hne1
        cases hq : xisd tx ty (xps tx ty s i + 1) with
        | true => rfl
        | false => rw [hq] at hne1; exact absurd rfl hne1
      refine kw_ild x_S_read_16 rfl ?_
      refine kw_ild_n x_S_read_18 rfl ?_
      first | refine kw_ic_ge_n x_S_read_19 ⟨by omega, by omega⟩ (fun h19 => ?_) (fun h19 => ?_) | refine kw_ic_ge x_S_read_19 (fun h19 => ?_) (fun h19 => ?_)
      · first
        | exfalso; omega
        | skip
          skip
      · first
        | exfalso; omega
        | skip
          refine kw_ald_n x_S_read_22 rfl ?_
          refine kw_ild_n x_S_read_23 rfl ?_
          refine c_S_read_24 (by exact isS_k hS) (Nat.le_of_ble_eq_true rfl) ?_
          refine s_S_digitsAt hS hx (by omega) ?_
          refine kw_ist x_S_read_27 (by decide) ?_
          refine kw_ild x_S_read_29 rfl ?_
          first | refine kw_if_ne_b x_S_read_31 (fun h31 => ?_) (fun h31 => ?_) | refine kw_if_ne_s x_S_read_31 ⟨by omega, by omega⟩ (fun h31 => ?_) (fun h31 => ?_) | refine kw_if_ne_n x_S_read_31 (by omega) (fun h31 => ?_) (fun h31 => ?_) | refine kw_if_ne x_S_read_31 (fun h31 => ?_) (fun h31 => ?_)
          · first
            | exfalso; omega
            | skip
              refine kw_ald_n x_S_read_36 rfl ?_
              refine kw_gr x_S_read_37 (by exact isS_k hS) (by exact isS_r2 hS) ?_
              refine kw_ild x_S_read_40 rfl ?_
              refine kw_ild x_S_read_42 rfl ?_
              refine kw_icon x_S_read_44 ?_
              first | refine kw_ic_ne_n x_S_read_45 ⟨by omega, by omega⟩ (fun h45 => ?_) (fun h45 => ?_) | refine kw_ic_ne x_S_read_45 (fun h45 => ?_) (fun h45 => ?_)
              · first
                | exfalso; omega
                | skip
                  refine kw_ald_n x_S_read_56 rfl ?_
                  refine kw_ild_n x_S_read_57 rfl ?_
                  refine c_S_read_58 (by exact isS_k hS) (Nat.le_of_ble_eq_true rfl) ?_
                  have h22 := hdg2 h31 h45
                  refine s_S_digit hS hx (by omega) (hdg1 h31) ?_
                  refine kw_bip x_S_read_61 ?_
                  first | refine kw_imul_n x_S_read_63 ?_ | refine kw_imul x_S_read_63 ?_
                  refine kw_ald_n x_S_read_64 rfl ?_
                  refine kw_ild_n x_S_read_65 rfl ?_
                  refine kw_icon x_S_read_66 ?_
                  first | refine kw_iadd_n x_S_read_67 ?_ | refine kw_iadd x_S_read_67 ?_
                  refine c_S_read_68 (by exact isS_k hS) (Nat.le_of_ble_eq_true rfl) ?_
                  refine s_S_digit hS hx (by omega) h22.2 ?_
                  first | refine kw_iadd_n x_S_read_71 ?_ | refine kw_iadd x_S_read_71 ?_
                  refine kw_iast_n x_S_read_72 (by first | exact isS_a1 hS | exact isS_a2 hS) (by omega) (by omega) ?_
                  skip
                  refine kw_ild_n x_S_read_73 rfl ?_
                  refine kw_ild x_S_read_74 rfl ?_
                  refine kw_icon x_S_read_76 ?_
                  first | refine kw_iadd_n x_S_read_77 ?_ | refine kw_iadd x_S_read_77 ?_
                  first | refine kw_iadd_n x_S_read_78 ?_ | refine kw_iadd x_S_read_78 ?_
                  refine kw_ist_n x_S_read_79 (by decide) ?_
                  refine kw_ald_n x_S_read_80 rfl ?_
                  refine kw_ild_n x_S_read_81 rfl ?_
                  refine kw_icon x_S_read_82 ?_
                  first | refine kw_isub_n x_S_read_83 (by omega) ?_ | refine kw_isub x_S_read_83 ?_
                  refine c_S_read_84 (by exact isS_k hS) (Nat.le_of_ble_eq_true rfl) ?_
                  rw [show xps tx ty s i + (xdg tx ty (xps tx ty s i) + 1) - 1 = xps tx ty s i + xdg tx ty (xps tx ty s i) by omega]
                  refine s_S_signAt hS (hx.same (kt_u1_na (by omega) rfl) (kt_u1_ne _ _ _ (by omega))) (by omega) ?_
                  refine kw_ild x_S_read_87 rfl ?_
                  refine kw_icon x_S_read_89 ?_
                  first | refine kw_iadd_n x_S_read_90 ?_ | refine kw_iadd x_S_read_90 ?_
                  refine kw_ild_n x_S_read_91 rfl ?_
                  first | refine kw_ic_ge_n x_S_read_92 ⟨by omega, by omega⟩ (fun h92 => ?_) (fun h92 => ?_) | refine kw_ic_ge x_S_read_92 (fun h92 => ?_) (fun h92 => ?_)
                  · first
                    | exfalso; omega
                    | skip
                      refine kw_bip x_S_read_100 ?_
                      first | refine kw_ic_eq_n x_S_read_102 ⟨by omega, by omega⟩ (fun h102 => ?_) (fun h102 => ?_) | refine kw_ic_eq x_S_read_102 (fun h102 => ?_) (fun h102 => ?_)
                      · first
                        | exfalso; omega
                        | skip
                          first | refine kw_iinc_n x_S_read_107 (by decide) rfl ?_ | refine kw_iinc x_S_read_107 (by decide) rfl ?_
                          refine kw_goto x_S_read_110 ?_
                          have hok1 : xok1 tx ty s (xnb (tx s)) i = true := (by
                            unfold xok1
                            refine decide_eq_true ⟨h31, ?_⟩
                            first
                              | (rw [if_pos (show i + 1 = xnb (tx s) by omega)]; omega)
                              | (rw [if_neg (show ¬ i + 1 = xnb (tx s) by omega)]; omega))
                          refine ih (i + 1) _ _ (by omega) (fun a ha => by rw [kt_u1_ne _ _ _ ha]; exact h2 a ha) (fun _ => ?_) (fun j hj => ?_)
                          · show (xoks tx ty s (xnb (tx s)) i && xok1 tx ty s (xnb (tx s)) i) = true
                            rw [hok, hok1]; rfl
                          · by_cases hji : j = i
                            · subst hji
                              rw [kt_u1_eq]
                              unfold xnm
                              first
                                | (rw [h45]
                                   show nI (xsg tx ty (xps tx ty s j) - 48) = nI (10 * 0 + (xsg tx ty (xps tx ty s j) - 48))
                                   rw [Nat.mul_zero, Nat.zero_add])
                                | (rw [h22.1]
                                   show nI ((xsg tx ty (xps tx ty s j) - 48) * 10 + (xsg tx ty (xps tx ty s j + 1) - 48)) = nI (10 * (10 * 0 + (xsg tx ty (xps tx ty s j) - 48)) + (xsg tx ty (xps tx ty s j + 1) - 48))
                                   rw [Nat.mul_zero, Nat.zero_add, Nat.mul_comm])
                            · exact kt_u1_nj hji (h5 j (by omega))
                      · first
                        | exfalso; omega
                        | skip
                          refine kw_icon x_S_read_105 ?_
                          refine kw_iret x_S_read_106 ?_
                          first
                            | exact k0 (hfail (decide_eq_false (fun q => q.1 (by omega)))) I1 h2
                            | (refine k0 (hfail (decide_eq_false (fun q => ?_))) _ (fun a ha => by rw [kt_u1_ne _ _ _ ha]; exact h2 a ha)
                               have q2 := q.2
                               first
                                 | (rw [if_pos (show i + 1 = xnb (tx s) by omega)] at q2; omega)
                                 | (rw [if_neg (show ¬ i + 1 = xnb (tx s) by omega)] at q2; omega))
                  · first
                    | exfalso; omega
                    | skip
                      refine kw_bip x_S_read_95 ?_
                      refine kw_goto x_S_read_97 ?_
                      first | refine kw_ic_eq_n x_S_read_102 ⟨by omega, by omega⟩ (fun h102 => ?_) (fun h102 => ?_) | refine kw_ic_eq x_S_read_102 (fun h102 => ?_) (fun h102 => ?_)
                      · first
                        | exfalso; omega
                        | skip
                          first | refine kw_iinc_n x_S_read_107 (by decide) rfl ?_ | refine kw_iinc x_S_read_107 (by decide) rfl ?_
                          refine kw_goto x_S_read_110 ?_
                          have hok1 : xok1 tx ty s (xnb (tx s)) i = true := (by
                            unfold xok1
                            refine decide_eq_true ⟨h31, ?_⟩
                            first
                              | (rw [if_pos (show i + 1 = xnb (tx s) by omega)]; omega)
                              | (rw [if_neg (show ¬ i + 1 = xnb (tx s) by omega)]; omega))
                          refine ih (i + 1) _ _ (by omega) (fun a ha => by rw [kt_u1_ne _ _ _ ha]; exact h2 a ha) (fun _ => ?_) (fun j hj => ?_)
                          · show (xoks tx ty s (xnb (tx s)) i && xok1 tx ty s (xnb (tx s)) i) = true
                            rw [hok, hok1]; rfl
                          · by_cases hji : j = i
                            · subst hji
                              rw [kt_u1_eq]
                              unfold xnm
                              first
                                | (rw [h45]
                                   show nI (xsg tx ty (xps tx ty s j) - 48) = nI (10 * 0 + (xsg tx ty (xps tx ty s j) - 48))
                                   rw [Nat.mul_zero, Nat.zero_add])
                                | (rw [h22.1]
                                   show nI ((xsg tx ty (xps tx ty s j) - 48) * 10 + (xsg tx ty (xps tx ty s j + 1) - 48)) = nI (10 * (10 * 0 + (xsg tx ty (xps tx ty s j) - 48)) + (xsg tx ty (xps tx ty s j + 1) - 48))
                                   rw [Nat.mul_zero, Nat.zero_add, Nat.mul_comm])
                            · exact kt_u1_nj hji (h5 j (by omega))
                      · first
                        | exfalso; omega
                        | skip
                          refine kw_icon x_S_read_105 ?_
                          refine kw_iret x_S_read_106 ?_
                          first
                            | exact k0 (hfail (decide_eq_false (fun q => q.1 (by omega)))) I1 h2
                            | (refine k0 (hfail (decide_eq_false (fun q => ?_))) _ (fun a ha => by rw [kt_u1_ne _ _ _ ha]; exact h2 a ha)
                               have q2 := q.2
                               first
                                 | (rw [if_pos (show i + 1 = xnb (tx s) by omega)] at q2; omega)
                                 | (rw [if_neg (show ¬ i + 1 = xnb (tx s) by omega)] at q2; omega))
              · first
                | exfalso; omega
                | skip
                  refine kw_ald_n x_S_read_48 rfl ?_
                  refine kw_ild_n x_S_read_49 rfl ?_
                  refine c_S_read_50 (by exact isS_k hS) (Nat.le_of_ble_eq_true rfl) ?_
                  refine s_S_digit hS hx (by omega) (hdg1 h31) ?_
                  refine kw_goto x_S_read_53 ?_
                  refine kw_iast_n x_S_read_72 (by first | exact isS_a1 hS | exact isS_a2 hS) (by omega) (by omega) ?_
                  skip
                  refine kw_ild_n x_S_read_73 rfl ?_
                  refine kw_ild x_S_read_74 rfl ?_
                  refine kw_icon x_S_read_76 ?_
                  first | refine kw_iadd_n x_S_read_77 ?_ | refine kw_iadd x_S_read_77 ?_
                  first | refine kw_iadd_n x_S_read_78 ?_ | refine kw_iadd x_S_read_78 ?_
                  refine kw_ist_n x_S_read_79 (by decide) ?_
                  refine kw_ald_n x_S_read_80 rfl ?_
                  refine kw_ild_n x_S_read_81 rfl ?_
                  refine kw_icon x_S_read_82 ?_
                  first | refine kw_isub_n x_S_read_83 (by omega) ?_ | refine kw_isub x_S_read_83 ?_
                  refine c_S_read_84 (by exact isS_k hS) (Nat.le_of_ble_eq_true rfl) ?_
                  rw [show xps tx ty s i + (xdg tx ty (xps tx ty s i) + 1) - 1 = xps tx ty s i + xdg tx ty (xps tx ty s i) by omega]
                  refine s_S_signAt hS (hx.same (kt_u1_na (by omega) rfl) (kt_u1_ne _ _ _ (by omega))) (by omega) ?_
                  refine kw_ild x_S_read_87 rfl ?_
                  refine kw_icon x_S_read_89 ?_
                  first | refine kw_iadd_n x_S_read_90 ?_ | refine kw_iadd x_S_read_90 ?_
                  refine kw_ild_n x_S_read_91 rfl ?_
                  first | refine kw_ic_ge_n x_S_read_92 ⟨by omega, by omega⟩ (fun h92 => ?_) (fun h92 => ?_) | refine kw_ic_ge x_S_read_92 (fun h92 => ?_) (fun h92 => ?_)
                  · first
                    | exfalso; omega
                    | skip
                      refine kw_bip x_S_read_100 ?_
                      first | refine kw_ic_eq_n x_S_read_102 ⟨by omega, by omega⟩ (fun h102 => ?_) (fun h102 => ?_) | refine kw_ic_eq x_S_read_102 (fun h102 => ?_) (fun h102 => ?_)
                      · first
                        | exfalso; omega
                        | skip
                          first | refine kw_iinc_n x_S_read_107 (by decide) rfl ?_ | refine kw_iinc x_S_read_107 (by decide) rfl ?_
                          refine kw_goto x_S_read_110 ?_
                          have hok1 : xok1 tx ty s (xnb (tx s)) i = true := (by
                            unfold xok1
                            refine decide_eq_true ⟨h31, ?_⟩
                            first
                              | (rw [if_pos (show i + 1 = xnb (tx s) by omega)]; omega)
                              | (rw [if_neg (show ¬ i + 1 = xnb (tx s) by omega)]; omega))
                          refine ih (i + 1) _ _ (by omega) (fun a ha => by rw [kt_u1_ne _ _ _ ha]; exact h2 a ha) (fun _ => ?_) (fun j hj => ?_)
                          · show (xoks tx ty s (xnb (tx s)) i && xok1 tx ty s (xnb (tx s)) i) = true
                            rw [hok, hok1]; rfl
                          · by_cases hji : j = i
                            · subst hji
                              rw [kt_u1_eq]
                              unfold xnm
                              first
                                | (rw [h45]
                                   show nI (xsg tx ty (xps tx ty s j) - 48) = nI (10 * 0 + (xsg tx ty (xps tx ty s j) - 48))
                                   rw [Nat.mul_zero, Nat.zero_add])
                                | (rw [h22.1]
                                   show nI ((xsg tx ty (xps tx ty s j) - 48) * 10 + (xsg tx ty (xps tx ty s j + 1) - 48)) = nI (10 * (10 * 0 + (xsg tx ty (xps tx ty s j) - 48)) + (xsg tx ty (xps tx ty s j + 1) - 48))
                                   rw [Nat.mul_zero, Nat.zero_add, Nat.mul_comm])
                            · exact kt_u1_nj hji (h5 j (by omega))
                      · first
                        | exfalso; omega
                        | skip
                          refine kw_icon x_S_read_105 ?_
                          refine kw_iret x_S_read_106 ?_
                          first
                            | exact k0 (hfail (decide_eq_false (fun q => q.1 (by omega)))) I1 h2
                            | (refine k0 (hfail (decide_eq_false (fun q => ?_))) _ (fun a ha => by rw [kt_u1_ne _ _ _ ha]; exact h2 a ha)
                               have q2 := q.2
                               first
                                 | (rw [if_pos (show i + 1 = xnb (tx s) by omega)] at q2; omega)
                                 | (rw [if_neg (show ¬ i + 1 = xnb (tx s) by omega)] at q2; omega))
                  · first
                    | exfalso; omega
                    | skip
                      refine kw_bip x_S_read_95 ?_
                      refine kw_goto x_S_read_97 ?_
                      first | refine kw_ic_eq_n x_S_read_102 ⟨by omega, by omega⟩ (fun h102 => ?_) (fun h102 => ?_) | refine kw_ic_eq x_S_read_102 (fun h102 => ?_) (fun h102 => ?_)
                      · first
                        | exfalso; omega
                        | skip
                          first | refine kw_iinc_n x_S_read_107 (by decide) rfl ?_ | refine kw_iinc x_S_read_107 (by decide) rfl ?_
                          refine kw_goto x_S_read_110 ?_
                          have hok1 : xok1 tx ty s (xnb (tx s)) i = true := (by
                            unfold xok1
                            refine decide_eq_true ⟨h31, ?_⟩
                            first
                              | (rw [if_pos (show i + 1 = xnb (tx s) by omega)]; omega)
                              | (rw [if_neg (show ¬ i + 1 = xnb (tx s) by omega)]; omega))
                          refine ih (i + 1) _ _ (by omega) (fun a ha => by rw [kt_u1_ne _ _ _ ha]; exact h2 a ha) (fun _ => ?_) (fun j hj => ?_)
                          · show (xoks tx ty s (xnb (tx s)) i && xok1 tx ty s (xnb (tx s)) i) = true
                            rw [hok, hok1]; rfl
                          · by_cases hji : j = i
                            · subst hji
                              rw [kt_u1_eq]
                              unfold xnm
                              first
                                | (rw [h45]
                                   show nI (xsg tx ty (xps tx ty s j) - 48) = nI (10 * 0 + (xsg tx ty (xps tx ty s j) - 48))
                                   rw [Nat.mul_zero, Nat.zero_add])
                                | (rw [h22.1]
                                   show nI ((xsg tx ty (xps tx ty s j) - 48) * 10 + (xsg tx ty (xps tx ty s j + 1) - 48)) = nI (10 * (10 * 0 + (xsg tx ty (xps tx ty s j) - 48)) + (xsg tx ty (xps tx ty s j + 1) - 48))
                                   rw [Nat.mul_zero, Nat.zero_add, Nat.mul_comm])
                            · exact kt_u1_nj hji (h5 j (by omega))
                      · first
                        | exfalso; omega
                        | skip
                          refine kw_icon x_S_read_105 ?_
                          refine kw_iret x_S_read_106 ?_
                          first
                            | exact k0 (hfail (decide_eq_false (fun q => q.1 (by omega)))) I1 h2
                            | (refine k0 (hfail (decide_eq_false (fun q => ?_))) _ (fun a ha => by rw [kt_u1_ne _ _ _ ha]; exact h2 a ha)
                               have q2 := q.2
                               first
                                 | (rw [if_pos (show i + 1 = xnb (tx s) by omega)] at q2; omega)
                                 | (rw [if_neg (show ¬ i + 1 = xnb (tx s) by omega)] at q2; omega))
          · first
            | exfalso; omega
            | skip
              refine kw_icon x_S_read_34 ?_
              refine kw_iret x_S_read_35 ?_
              first
                | exact k0 (hfail (decide_eq_false (fun q => q.1 (by omega)))) I1 h2
                | (refine k0 (hfail (decide_eq_false (fun q => ?_))) _ (fun a ha => by rw [kt_u1_ne _ _ _ ha]; exact h2 a ha)
                   have q2 := q.2
                   first
                     | (rw [if_pos (show i + 1 = xnb (tx s) by omega)] at q2; omega)
                     | (rw [if_neg (show ¬ i + 1 = xnb (tx s) by omega)] at q2; omega))
  refine kw_ild_n x_S_read_0 rfl ?_
  refine kw_icon x_S_read_1 ?_
  first | refine kw_iadd_n x_S_read_2 ?_ | refine kw_iadd x_S_read_2 ?_
  refine kw_ist_n x_S_read_3 (by decide) ?_
  refine kw_ald_n x_S_read_4 rfl ?_
  refine kw_ild_n x_S_read_5 rfl ?_
  refine c_S_read_6 (by exact isS_k hS) (Nat.le_of_ble_eq_true rfl) ?_
  refine s_S_signAt hS hx (by omega) ?_
  rw [hsg]
  refine c_S_read_9 (Nat.le_of_ble_eq_true rfl) ?_
  refine s_S_numbersBehind (by omega) ?_
  refine kw_ist_n x_S_read_12 (by decide) ?_
  refine kw_icon x_S_read_13 ?_
  refine kw_ist x_S_read_14 (by decide) ?_
  exact loop (xnb (tx s)) 0 I _ (by omega) (fun _ _ => rfl) (fun h => decide_eq_true h) (fun j hj => absurd hj (Nat.not_lt_zero j))
theorem s_S_reasonOf {v : Int32} (k : Q (some (.int (if v < 0 then (if v = -1 then nI 2 else nI 3) else nI 0))) I J R) : KW P i_S_reasonOf N 0 [some (.int v)] [] N I J R Q := by
  refine kw_ild_n x_S_reasonOf_0 rfl ?_
  first | refine kw_if_lt_s x_S_reasonOf_1 ⟨by omega, by omega⟩ (fun h1 => ?_) (fun h1 => ?_) | refine kw_if_lt_n x_S_reasonOf_1 (by omega) (fun h1 => ?_) (fun h1 => ?_) | refine kw_if_lt x_S_reasonOf_1 (fun h1 => ?_) (fun h1 => ?_)
  · skip
    refine kw_ild_n x_S_reasonOf_6 rfl ?_
    refine kw_icon x_S_reasonOf_7 ?_
    first | refine kw_ic_ne_n x_S_reasonOf_8 ⟨by omega, by omega⟩ (fun h8 => ?_) (fun h8 => ?_) | refine kw_ic_ne x_S_reasonOf_8 (fun h8 => ?_) (fun h8 => ?_)
    · skip
      refine kw_icon x_S_reasonOf_15 ?_
      refine kw_iret x_S_reasonOf_16 ?_
      first
        | (rw [if_neg h1] at k; exact k)
        | (rw [if_pos h1, if_pos h8] at k; exact k)
        | (rw [if_pos h1, if_neg h8] at k; exact k)
    · skip
      refine kw_icon x_S_reasonOf_11 ?_
      refine kw_goto x_S_reasonOf_12 ?_
      refine kw_iret x_S_reasonOf_16 ?_
      first
        | (rw [if_neg h1] at k; exact k)
        | (rw [if_pos h1, if_pos h8] at k; exact k)
        | (rw [if_pos h1, if_neg h8] at k; exact k)
  · skip
    refine kw_icon x_S_reasonOf_4 ?_
    refine kw_iret x_S_reasonOf_5 ?_
    first
      | (rw [if_neg h1] at k; exact k)
      | (rw [if_pos h1, if_pos h8] at k; exact k)
      | (rw [if_pos h1, if_neg h8] at k; exact k)
end CS
