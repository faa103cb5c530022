/-! the class: its events -/
def kt_V (c : Nat) (X : kt_X) (I : kt_I) : Prop := I (c + 4) 0 = nI (xn X) ∧ ∀ e f, e < xn X → f < 7 → I (c + 5 + f) e = kt_cd f (xe X e f)
theorem isC_af {P : kt_P} {N : Nat} {R : kt_R} {lo c : Nat} (h : kt_isC P N R lo c) : ∀ {f : Nat}, f < 7 → kt_kd P N (c + 5 + f) = (6, 60)
  | 0, _ => isC_a5 h
  | 1, _ => isC_a6 h
  | 2, _ => isC_a7 h
  | 3, _ => isC_a8 h
  | 4, _ => isC_a9 h
  | 5, _ => isC_a10 h
  | 6, _ => isC_a11 h
  | n + 7, hf => absurd hf (by omega)
/-- the cancelled ones among the first k events of a set -/
def xcs (X : kt_X) (K : Nat → Bool) (o : Nat) : Nat → Bool
  | 0 => false
  | e + 1 => xcs X K o e || (K e && decide (xe X e 0 = 2) && decide (xe X e 6 = o + 1))
def xps2 (X : kt_X) (K : Nat → Bool) (e : Nat) : Nat := if K e = true then xe X e 4 else 0
def xgs (X : kt_X) (K : Nat → Bool) : Nat → Nat
  | 0 => 0
  | e + 1 => xgs X K e ||| (if K e = true then 2 ^ xe X e 3 else 0)
theorem xgs_lt {X : kt_X} {K : Nat → Bool} (hX : ∀ e, e < xn X → xe X e 3 < 6) : ∀ e, e ≤ xn X → xgs X K e < 64
  | 0, _ => (by decide : 0 < 64)
  | e + 1, he => by
    have h := xgs_lt (K := K) hX e (by omega)
    have h3 := hX e (by omega)
    have h2 : (2 : Nat) ^ xe X e 3 < 2 ^ 6 := Nat.pow_lt_pow_right (by decide) h3
    unfold xgs
    refine Nat.or_lt_two_pow (n := 6) h ?_
    split
    · exact h2
    · decide
section CE
variable {P : kt_P} {N : Nat} {I : kt_I} {J : kt_J} {R : kt_R} {Q : Option Value → kt_I → kt_J → kt_R → Prop} {lo c : Nat} {X : kt_X}
theorem s_E_all (hC : kt_isC P N R lo c) (hV : kt_V c X I) (hW : kt_wf X) (k : Q (some (.long (kS (fun e => decide (e < xn X))))) I J R) : KW P i_E_all N 0 [some (.ref (c + 4))] [] N I J R Q := by
  have hn := hW.2.2.1
  refine kw_lconst x_E_all_0 ?_
  refine kw_ald_n x_E_all_1 rfl ?_
  refine kw_gi_e x_E_all_2 (by exact isE_k hC) (by first | exact hV.1 | exact hV.2 _ f (by omega) hf | exact rfl) ?_
  refine kw_lshl x_E_all_5 ?_
  refine kw_lconst x_E_all_6 ?_
  refine kw_lsub x_E_all_7 ?_
  rw [show (1 : Int64) = nJ 1 from rfl, kS_all hn]
  refine kw_lret x_E_all_8 ?_
  exact k
theorem s_E_having (hC : kt_isC P N R lo c) (hV : kt_V c X I) (hW : kt_wf X) {f : Nat} (hf : f < 7) {v : Int32} (k : Q (some (.long (kS (fun e => decide (e < xn X) && decide (kt_cd f (xe X e f) = v))))) I J R) : KW P i_E_having N 0 [some (.ref (c + 4)), some (.ref (c + 5 + f)), some (.int v), none, none, none] [] N I J R Q := by
  have hn := hW.2.2.1
  have loop : ∀ (d e : Nat) (x : Int64), e + d = xn X → x = kS (fun j => decide (j < e) && decide (kt_cd f (xe X j f) = v)) → KW P i_E_having N 5 [some (.ref (c + 4)), some (.ref (c + 5 + f)), some (.int v), some (.long x), none, some (.int (nI e))] [] N I J R Q := by
    intro d
    induction d with
    | zero =>
      intro e x h1 h2
      have h3 : e = xn X := by omega
      subst h3; subst h2
      refine kw_ild x_E_having_5 rfl ?_
      refine kw_ald_n x_E_having_7 rfl ?_
      refine kw_gi_e x_E_having_8 (by exact isE_k hC) (by first | exact hV.1 | exact hV.2 _ f (by omega) hf | exact rfl) ?_
      first | refine kw_ic_ge_n x_E_having_11 ⟨by omega, by omega⟩ (fun h11 => ?_) (fun h11 => ?_) | refine kw_ic_ge x_E_having_11 (fun h11 => ?_) (fun h11 => ?_)
      · first
        | exfalso; omega
        | skip
          refine kw_lld_n x_E_having_35 rfl ?_
          refine kw_lret x_E_having_36 ?_
          exact k
      · first
        | exfalso; omega
        | skip
          skip
    | succ d ih =>
      intro e x h1 h2
      refine kw_ild x_E_having_5 rfl ?_
      refine kw_ald_n x_E_having_7 rfl ?_
      refine kw_gi_e x_E_having_8 (by exact isE_k hC) (by first | exact hV.1 | exact hV.2 _ f (by omega) hf | exact rfl) ?_
      first | refine kw_ic_ge_n x_E_having_11 ⟨by omega, by omega⟩ (fun h11 => ?_) (fun h11 => ?_) | refine kw_ic_ge x_E_having_11 (fun h11 => ?_) (fun h11 => ?_)
      · first
        | exfalso; omega
        | skip
          skip
      · first
        | exfalso; omega
        | skip
          refine kw_ald_n x_E_having_14 rfl ?_
          refine kw_ild x_E_having_15 rfl ?_
          refine kw_iald_n x_E_having_17 (by first | exact isC_a5 hC | exact isC_a6 hC | exact isC_a7 hC | exact isC_a8 hC | exact isC_a9 hC | exact isC_a10 hC | exact isC_a11 hC | exact isC_a12 hC | exact isC_af hC hf) (by omega) (by omega) (by first | exact hV.1 | exact hV.2 _ f (by omega) hf | exact rfl) ?_
          refine kw_ild_n x_E_having_18 rfl ?_
          first | refine kw_ic_ne_n x_E_having_19 ⟨by omega, by omega⟩ (fun h19 => ?_) (fun h19 => ?_) | refine kw_ic_ne x_E_having_19 (fun h19 => ?_) (fun h19 => ?_)
          · first
            | exfalso; omega
            | skip
              first | refine kw_iinc_n x_E_having_29 (by decide) rfl ?_ | refine kw_iinc x_E_having_29 (by decide) rfl ?_
              refine kw_goto x_E_having_32 ?_
              refine ih (e + 1) _ (by omega) ?_
              rw [h2]
              first
                | (rw [show (1 : Int64) = nJ 1 from rfl, kS_add _ (by omega)]
                   refine kS_cg (fun j hj => ?_)
                   by_cases hje : j = e
                   · subst hje
                     simp [h19]
                   · have hq : (j < e + 1) = (j < e) := propext ⟨fun _ => by omega, fun _ => by omega⟩
                     simp [hje, hq])
                | (refine kS_cg (fun j hj => ?_)
                   by_cases hje : j = e
                   · subst hje
                     simp [h19]
                   · have hq : (j < e + 1) = (j < e) := propext ⟨fun _ => by omega, fun _ => by omega⟩
                     simp [hq])
          · first
            | exfalso; omega
            | skip
              refine kw_lld_n x_E_having_22 rfl ?_
              refine kw_lconst x_E_having_23 ?_
              refine kw_ild x_E_having_24 rfl ?_
              refine kw_lshl x_E_having_26 ?_
              refine kw_lor x_E_having_27 ?_
              refine kw_lst_n x_E_having_28 (by decide) ?_
              first | refine kw_iinc_n x_E_having_29 (by decide) rfl ?_ | refine kw_iinc x_E_having_29 (by decide) rfl ?_
              refine kw_goto x_E_having_32 ?_
              refine ih (e + 1) _ (by omega) ?_
              rw [h2]
              first
                | (rw [show (1 : Int64) = nJ 1 from rfl, kS_add _ (by omega)]
                   refine kS_cg (fun j hj => ?_)
                   by_cases hje : j = e
                   · subst hje
                     simp [h19]
                   · have hq : (j < e + 1) = (j < e) := propext ⟨fun _ => by omega, fun _ => by omega⟩
                     simp [hje, hq])
                | (refine kS_cg (fun j hj => ?_)
                   by_cases hje : j = e
                   · subst hje
                     simp [h19]
                   · have hq : (j < e + 1) = (j < e) := propext ⟨fun _ => by omega, fun _ => by omega⟩
                     simp [hq])
  refine kw_lconst x_E_having_0 ?_
  refine kw_lst_n x_E_having_1 (by decide) ?_
  refine kw_icon x_E_having_2 ?_
  refine kw_ist x_E_having_3 (by decide) ?_
  exact loop (xn X) 0 _ (by omega) (by rw [show (0 : Int64) = nJ 0 from rfl, kS_0]; exact kS_cg (fun j _ => by simp))
theorem s_E_cancelledIn (hC : kt_isC P N R lo c) (hV : kt_V c X I) (hW : kt_wf X) {K : Nat → Bool} (k : Q (some (.long (kS (fun o => xcs X K o (xn X))))) I J R) : KW P i_E_cancelledIn N 0 [some (.ref (c + 4)), some (.long (kS K)), none, none, none, none] [] N I J R Q := by
  have hn := hW.2.2.1
  have loop : ∀ (d e : Nat) (x : Int64), e + d = xn X → x = kS (fun o => xcs X K o e) → KW P i_E_cancelledIn N 5 [some (.ref (c + 4)), some (.long (kS K)), none, some (.long x), none, some (.int (nI e))] [] N I J R Q := by
    intro d
    induction d with
    | zero =>
      intro e x h1 h2
      have h3 : e = xn X := by omega
      subst h3; subst h2
      refine kw_ild x_E_cancelledIn_5 rfl ?_
      refine kw_ald_n x_E_cancelledIn_7 rfl ?_
      refine kw_gi_e x_E_cancelledIn_8 (by exact isE_k hC) (by first | exact hV.1 | exact hk0 | exact hk3 | exact hk4 | exact hk6 | exact rfl) ?_
      first | refine kw_ic_ge_n x_E_cancelledIn_11 ⟨by omega, by omega⟩ (fun h11 => ?_) (fun h11 => ?_) | refine kw_ic_ge x_E_cancelledIn_11 (fun h11 => ?_) (fun h11 => ?_)
      · first
        | exfalso; omega
        | skip
          refine kw_lld_n x_E_cancelledIn_52 rfl ?_
          refine kw_lret x_E_cancelledIn_53 ?_
          exact k
      · first
        | exfalso; omega
        | skip
          skip
    | succ d ih =>
      intro e x h1 h2
      have hx := hW.2.2.2.2.2.1 e (by omega)
      have hx0 := hx.1
      have hk0 : I (c + 5) e = nI (xe X e 0) := hV.2 e 0 (by omega) (by decide)
      have hk6' : I (c + 11) e = kt_cd 6 (xe X e 6) := hV.2 e 6 (by omega) (by decide)
      have hx6 := hx.2.2.2.2.2.2.1
      have hk6 : I (c + 11) e = if xe X e 0 = 2 then nI (xe X e 6 - 1) else -4 := by
        rw [hk6']
        unfold kt_cd
        rw [if_pos (Or.inr rfl)]
        by_cases hq : xe X e 0 = 2
        · have := (hx6.2 hq).1
          rw [if_pos hq, if_neg (by omega)]
        · rw [if_neg hq, if_pos (hx6.1 hq)]
      refine kw_ild x_E_cancelledIn_5 rfl ?_
      refine kw_ald_n x_E_cancelledIn_7 rfl ?_
      refine kw_gi_e x_E_cancelledIn_8 (by exact isE_k hC) (by first | exact hV.1 | exact hk0 | exact hk3 | exact hk4 | exact hk6 | exact rfl) ?_
      first | refine kw_ic_ge_n x_E_cancelledIn_11 ⟨by omega, by omega⟩ (fun h11 => ?_) (fun h11 => ?_) | refine kw_ic_ge x_E_cancelledIn_11 (fun h11 => ?_) (fun h11 => ?_)
      · first
        | exfalso; omega
        | skip
          skip
      · first
        | exfalso; omega
        | skip
          refine kw_lld_n x_E_cancelledIn_14 rfl ?_
          refine kw_ild x_E_cancelledIn_15 rfl ?_
          refine c_E_cancelledIn_17 (Nat.le_of_ble_eq_true rfl) ?_
          refine s_K_has (by omega) ?_
          first | refine kw_if_eq_b x_E_cancelledIn_20 (fun h20 => ?_) (fun h20 => ?_) | refine kw_if_eq_n x_E_cancelledIn_20 (by omega) (fun h20 => ?_) (fun h20 => ?_) | refine kw_if_eq x_E_cancelledIn_20 (fun h20 => ?_) (fun h20 => ?_)
          · first
            | exfalso; omega
            | skip
              first | refine kw_iinc_n x_E_cancelledIn_46 (by decide) rfl ?_ | refine kw_iinc x_E_cancelledIn_46 (by decide) rfl ?_
              refine kw_goto x_E_cancelledIn_49 ?_
              refine ih (e + 1) _ (by omega) ?_
              rw [h2]
              first
                | (rw [if_pos h31, show (1 : Int64) = nJ 1 from rfl, kS_add _ (by have := (hx6.2 h31).2.1; omega)]
                   refine kS_cg (fun j hj => ?_)
                   have h1 := (hx6.2 h31).1
                   have hq : (j = xe X e 6 - 1) = (xe X e 6 = j + 1) := propext ⟨fun _ => by omega, fun _ => by omega⟩
                   simp [xcs, h20, h31, hq])
                | (refine kS_cg (fun j hj => ?_)
                   simp [xcs, *]; done)
          · first
            | exfalso; omega
            | skip
              refine kw_ald_n x_E_cancelledIn_23 rfl ?_
              refine kw_gr x_E_cancelledIn_24 (by exact isE_k hC) (by exact isE_r1 hC) ?_
              refine kw_ild x_E_cancelledIn_27 rfl ?_
              refine kw_iald_n x_E_cancelledIn_29 (by first | exact isC_a5 hC | exact isC_a6 hC | exact isC_a7 hC | exact isC_a8 hC | exact isC_a9 hC | exact isC_a10 hC | exact isC_a11 hC | exact isC_a12 hC) (by omega) (by omega) (by first | exact hV.1 | exact hk0 | exact hk3 | exact hk4 | exact hk6 | exact rfl) ?_
              refine kw_icon x_E_cancelledIn_30 ?_
              first | refine kw_ic_ne_n x_E_cancelledIn_31 ⟨by omega, by omega⟩ (fun h31 => ?_) (fun h31 => ?_) | refine kw_ic_ne x_E_cancelledIn_31 (fun h31 => ?_) (fun h31 => ?_)
              · first
                | exfalso; omega
                | skip
                  first | refine kw_iinc_n x_E_cancelledIn_46 (by decide) rfl ?_ | refine kw_iinc x_E_cancelledIn_46 (by decide) rfl ?_
                  refine kw_goto x_E_cancelledIn_49 ?_
                  refine ih (e + 1) _ (by omega) ?_
                  rw [h2]
                  first
                    | (rw [if_pos h31, show (1 : Int64) = nJ 1 from rfl, kS_add _ (by have := (hx6.2 h31).2.1; omega)]
                       refine kS_cg (fun j hj => ?_)
                       have h1 := (hx6.2 h31).1
                       have hq : (j = xe X e 6 - 1) = (xe X e 6 = j + 1) := propext ⟨fun _ => by omega, fun _ => by omega⟩
                       simp [xcs, h20, h31, hq])
                    | (refine kS_cg (fun j hj => ?_)
                       simp [xcs, *]; done)
              · first
                | exfalso; omega
                | skip
                  refine kw_lld_n x_E_cancelledIn_34 rfl ?_
                  refine kw_lconst x_E_cancelledIn_35 ?_
                  refine kw_ald_n x_E_cancelledIn_36 rfl ?_
                  refine kw_gr x_E_cancelledIn_37 (by exact isE_k hC) (by exact isE_r7 hC) ?_
                  refine kw_ild x_E_cancelledIn_40 rfl ?_
                  refine kw_iald_n x_E_cancelledIn_42 (by first | exact isC_a5 hC | exact isC_a6 hC | exact isC_a7 hC | exact isC_a8 hC | exact isC_a9 hC | exact isC_a10 hC | exact isC_a11 hC | exact isC_a12 hC) (by omega) (by omega) (by first | exact hV.1 | exact hk0 | exact hk3 | exact hk4 | exact hk6 | exact rfl) ?_
                  refine kw_lshl x_E_cancelledIn_43 ?_
                  refine kw_lor x_E_cancelledIn_44 ?_
                  refine kw_lst_n x_E_cancelledIn_45 (by decide) ?_
                  first | refine kw_iinc_n x_E_cancelledIn_46 (by decide) rfl ?_ | refine kw_iinc x_E_cancelledIn_46 (by decide) rfl ?_
                  refine kw_goto x_E_cancelledIn_49 ?_
                  refine ih (e + 1) _ (by omega) ?_
                  rw [h2]
                  first
                    | (rw [if_pos h31, show (1 : Int64) = nJ 1 from rfl, kS_add _ (by have := (hx6.2 h31).2.1; omega)]
                       refine kS_cg (fun j hj => ?_)
                       have h1 := (hx6.2 h31).1
                       have hq : (j = xe X e 6 - 1) = (xe X e 6 = j + 1) := propext ⟨fun _ => by omega, fun _ => by omega⟩
                       simp [xcs, h20, h31, hq])
                    | (refine kS_cg (fun j hj => ?_)
                       simp [xcs, *]; done)
  refine kw_lconst x_E_cancelledIn_0 ?_
  refine kw_lst_n x_E_cancelledIn_1 (by decide) ?_
  refine kw_icon x_E_cancelledIn_2 ?_
  refine kw_ist x_E_cancelledIn_3 (by decide) ?_
  exact loop (xn X) 0 _ (by omega) (by rw [show (0 : Int64) = nJ 0 from rfl, kS_0]; exact kS_cg (fun j _ => rfl))
theorem s_E_standingIn (hC : kt_isC P N R lo c) (hV : kt_V c X I) (hW : kt_wf X) {K : Nat → Bool} (k : Q (some (.long (kS (fun o => K o && !xcs X K o (xn X))))) I J R) : KW P i_E_standingIn N 0 [some (.ref (c + 4)), some (.long (kS K)), none] [] N I J R Q := by
  refine kw_lld_n x_E_standingIn_0 rfl ?_
  refine kw_ald_n x_E_standingIn_1 rfl ?_
  refine kw_lld_n x_E_standingIn_2 rfl ?_
  refine c_E_standingIn_3 (by exact isE_k hC) (Nat.le_of_ble_eq_true rfl) ?_
  refine s_E_cancelledIn hC hV hW ?_
  refine kw_ldc2 x_E_standingIn_6 ?_
  refine kw_lxor x_E_standingIn_9 ?_
  refine kw_land x_E_standingIn_10 ?_
  rw [kS_dif]
  refine kw_lret x_E_standingIn_11 ?_
  exact k
theorem s_E_piecesOf (hC : kt_isC P N R lo c) (hV : kt_V c X I) (hW : kt_wf X) {K : Nat → Bool} (k : Q (some (.int (nI (xsm (xps2 X K) (xn X))))) I J R) : KW P i_E_piecesOf N 0 [some (.ref (c + 4)), some (.long (kS K)), none, none, none] [] N I J R Q := by
  have hn := hW.2.2.1
  have loop : ∀ (d e s : Nat), e + d = xn X → s = xsm (xps2 X K) e → KW P i_E_piecesOf N 5 [some (.ref (c + 4)), some (.long (kS K)), none, some (.int (nI s)), some (.int (nI e))] [] N I J R Q := by
    intro d
    induction d with
    | zero =>
      intro e s h1 h2
      have h3 : e = xn X := by omega
      subst h3; subst h2
      refine kw_ild x_E_piecesOf_5 rfl ?_
      refine kw_ald_n x_E_piecesOf_7 rfl ?_
      refine kw_gi_e x_E_piecesOf_8 (by exact isE_k hC) (by first | exact hV.1 | exact hk0 | exact hk3 | exact hk4 | exact hk6 | exact rfl) ?_
      first | refine kw_ic_ge_n x_E_piecesOf_11 ⟨by omega, by omega⟩ (fun h11 => ?_) (fun h11 => ?_) | refine kw_ic_ge x_E_piecesOf_11 (fun h11 => ?_) (fun h11 => ?_)
      · first
        | exfalso; omega
        | skip
          refine kw_ild_n x_E_piecesOf_39 rfl ?_
          refine kw_iret x_E_piecesOf_40 ?_
          exact k
      · first
        | exfalso; omega
        | skip
          skip
    | succ d ih =>
      intro e s h1 h2
      have hk4 : I (c + 9) e = nI (xe X e 4) := hV.2 e 4 (by omega) (by decide)
      refine kw_ild x_E_piecesOf_5 rfl ?_
      refine kw_ald_n x_E_piecesOf_7 rfl ?_
      refine kw_gi_e x_E_piecesOf_8 (by exact isE_k hC) (by first | exact hV.1 | exact hk0 | exact hk3 | exact hk4 | exact hk6 | exact rfl) ?_
      first | refine kw_ic_ge_n x_E_piecesOf_11 ⟨by omega, by omega⟩ (fun h11 => ?_) (fun h11 => ?_) | refine kw_ic_ge x_E_piecesOf_11 (fun h11 => ?_) (fun h11 => ?_)
      · first
        | exfalso; omega
        | skip
          skip
      · first
        | exfalso; omega
        | skip
          refine kw_lld_n x_E_piecesOf_14 rfl ?_
          refine kw_ild x_E_piecesOf_15 rfl ?_
          refine c_E_piecesOf_17 (Nat.le_of_ble_eq_true rfl) ?_
          refine s_K_has (by omega) ?_
          first | refine kw_if_eq_b x_E_piecesOf_20 (fun h20 => ?_) (fun h20 => ?_) | refine kw_if_eq_n x_E_piecesOf_20 (by omega) (fun h20 => ?_) (fun h20 => ?_) | refine kw_if_eq x_E_piecesOf_20 (fun h20 => ?_) (fun h20 => ?_)
          · first
            | exfalso; omega
            | skip
              first | refine kw_iinc_n x_E_piecesOf_33 (by decide) rfl ?_ | refine kw_iinc x_E_piecesOf_33 (by decide) rfl ?_
              refine kw_goto x_E_piecesOf_36 ?_
              exact ih (e + 1) _ (by omega) (by rw [h2]; simp [xsm, xps2, *])
          · first
            | exfalso; omega
            | skip
              refine kw_ild_n x_E_piecesOf_23 rfl ?_
              refine kw_ald_n x_E_piecesOf_24 rfl ?_
              refine kw_gr x_E_piecesOf_25 (by exact isE_k hC) (by exact isE_r5 hC) ?_
              refine kw_ild x_E_piecesOf_28 rfl ?_
              refine kw_iald_n x_E_piecesOf_30 (by first | exact isC_a5 hC | exact isC_a6 hC | exact isC_a7 hC | exact isC_a8 hC | exact isC_a9 hC | exact isC_a10 hC | exact isC_a11 hC | exact isC_a12 hC) (by omega) (by omega) (by first | exact hV.1 | exact hk0 | exact hk3 | exact hk4 | exact hk6 | exact rfl) ?_
              first | refine kw_iadd_n x_E_piecesOf_31 ?_ | refine kw_iadd x_E_piecesOf_31 ?_
              refine kw_ist_n x_E_piecesOf_32 (by decide) ?_
              first | refine kw_iinc_n x_E_piecesOf_33 (by decide) rfl ?_ | refine kw_iinc x_E_piecesOf_33 (by decide) rfl ?_
              refine kw_goto x_E_piecesOf_36 ?_
              exact ih (e + 1) _ (by omega) (by rw [h2]; simp [xsm, xps2, *])
  refine kw_icon x_E_piecesOf_0 ?_
  refine kw_ist_n x_E_piecesOf_1 (by decide) ?_
  refine kw_icon x_E_piecesOf_2 ?_
  refine kw_ist x_E_piecesOf_3 (by decide) ?_
  exact loop (xn X) 0 0 (by omega) rfl
theorem s_E_goodsOf (hC : kt_isC P N R lo c) (hV : kt_V c X I) (hW : kt_wf X) {K : Nat → Bool} (k : Q (some (.int (nI (xgs X K (xn X))))) I J R) : KW P i_E_goodsOf N 0 [some (.ref (c + 4)), some (.long (kS K)), none, none, none] [] N I J R Q := by
  have hn := hW.2.2.1
  have loop : ∀ (d e s : Nat), e + d = xn X → s = xgs X K e → KW P i_E_goodsOf N 5 [some (.ref (c + 4)), some (.long (kS K)), none, some (.int (nI s)), some (.int (nI e))] [] N I J R Q := by
    intro d
    induction d with
    | zero =>
      intro e s h1 h2
      have h3 : e = xn X := by omega
      subst h3; subst h2
      refine kw_ild x_E_goodsOf_5 rfl ?_
      refine kw_ald_n x_E_goodsOf_7 rfl ?_
      refine kw_gi_e x_E_goodsOf_8 (by exact isE_k hC) (by first | exact hV.1 | exact hk0 | exact hk3 | exact hk4 | exact hk6 | exact rfl) ?_
      first | refine kw_ic_ge_n x_E_goodsOf_11 ⟨by omega, by omega⟩ (fun h11 => ?_) (fun h11 => ?_) | refine kw_ic_ge x_E_goodsOf_11 (fun h11 => ?_) (fun h11 => ?_)
      · first
        | exfalso; omega
        | skip
          refine kw_ild_n x_E_goodsOf_41 rfl ?_
          refine kw_iret x_E_goodsOf_42 ?_
          exact k
      · first
        | exfalso; omega
        | skip
          skip
    | succ d ih =>
      intro e s h1 h2
      have hx3 := (hW.2.2.2.2.2.1 e (by omega)).2.2.2.1
      have hlt : s < 64 := by rw [h2]; exact xgs_lt (fun e he => (hW.2.2.2.2.2.1 e he).2.2.2.1) e (by omega)
      have hk3 : I (c + 8) e = nI (xe X e 3) := hV.2 e 3 (by omega) (by decide)
      refine kw_ild x_E_goodsOf_5 rfl ?_
      refine kw_ald_n x_E_goodsOf_7 rfl ?_
      refine kw_gi_e x_E_goodsOf_8 (by exact isE_k hC) (by first | exact hV.1 | exact hk0 | exact hk3 | exact hk4 | exact hk6 | exact rfl) ?_
      first | refine kw_ic_ge_n x_E_goodsOf_11 ⟨by omega, by omega⟩ (fun h11 => ?_) (fun h11 => ?_) | refine kw_ic_ge x_E_goodsOf_11 (fun h11 => ?_) (fun h11 => ?_)
      · first
        | exfalso; omega
        | skip
          skip
      · first
        | exfalso; omega
        | skip
          refine kw_lld_n x_E_goodsOf_14 rfl ?_
          refine kw_ild x_E_goodsOf_15 rfl ?_
          refine c_E_goodsOf_17 (Nat.le_of_ble_eq_true rfl) ?_
          refine s_K_has (by omega) ?_
          first | refine kw_if_eq_b x_E_goodsOf_20 (fun h20 => ?_) (fun h20 => ?_) | refine kw_if_eq_n x_E_goodsOf_20 (by omega) (fun h20 => ?_) (fun h20 => ?_) | refine kw_if_eq x_E_goodsOf_20 (fun h20 => ?_) (fun h20 => ?_)
          · first
            | exfalso; omega
            | skip
              first | refine kw_iinc_n x_E_goodsOf_35 (by decide) rfl ?_ | refine kw_iinc x_E_goodsOf_35 (by decide) rfl ?_
              refine kw_goto x_E_goodsOf_38 ?_
              exact ih (e + 1) _ (by omega) (by rw [h2]; simp [xgs, *])
          · first
            | exfalso; omega
            | skip
              refine kw_ild_n x_E_goodsOf_23 rfl ?_
              refine kw_icon x_E_goodsOf_24 ?_
              refine kw_ald_n x_E_goodsOf_25 rfl ?_
              refine kw_gr x_E_goodsOf_26 (by exact isE_k hC) (by exact isE_r4 hC) ?_
              refine kw_ild x_E_goodsOf_29 rfl ?_
              refine kw_iald_n x_E_goodsOf_31 (by first | exact isC_a5 hC | exact isC_a6 hC | exact isC_a7 hC | exact isC_a8 hC | exact isC_a9 hC | exact isC_a10 hC | exact isC_a11 hC | exact isC_a12 hC) (by omega) (by omega) (by first | exact hV.1 | exact hk0 | exact hk3 | exact hk4 | exact hk6 | exact rfl) ?_
              refine kw_ishl x_E_goodsOf_32 ?_
              refine kw_ior x_E_goodsOf_33 ?_
              rw [kt_or64 _ hlt _ hx3]
              refine kw_ist_n x_E_goodsOf_34 (by decide) ?_
              first | refine kw_iinc_n x_E_goodsOf_35 (by decide) rfl ?_ | refine kw_iinc x_E_goodsOf_35 (by decide) rfl ?_
              refine kw_goto x_E_goodsOf_38 ?_
              exact ih (e + 1) _ (by omega) (by rw [h2]; simp [xgs, *])
  refine kw_icon x_E_goodsOf_0 ?_
  refine kw_ist_n x_E_goodsOf_1 (by decide) ?_
  refine kw_icon x_E_goodsOf_2 ?_
  refine kw_ist x_E_goodsOf_3 (by decide) ?_
  exact loop (xn X) 0 0 (by omega) rfl
end CE
