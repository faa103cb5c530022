/-! the reference: what it counts -/
def xsm (f : Nat → Nat) : Nat → Nat
  | 0 => 0
  | e + 1 => xsm f e + f e
def xbits (M : Nat) : Nat := xct (fun k => M.testBit k) 5
theorem kt_bitn : ∀ M, M < 32 → ∀ t, t < 5 → (nI M >>> (nI t &&& 31)) &&& nI 1 = nI (if M.testBit t = true then 1 else 0) := by decide +kernel
theorem kt_evy : ∀ T, T < 6 → (nI 1 <<< (nI T &&& 31)) - nI 1 = nI (2 ^ T - 1) := by decide +kernel
theorem kt_or0 (M : Nat) : nI M ||| nI 0 = nI M := by
  rw [show nI 0 = 0 from rfl]
  exact Int32.or_zero
def xsame (X : kt_X) (t t' : Nat) : Nat → Bool
  | 0 => true
  | e + 1 => xsame X t t' e && (xk X t' e == xk X t e)
def xlike (X : kt_X) (t : Nat) : Nat → Nat
  | 0 => 0
  | t' + 1 => xlike X t t' ||| (if xsame X t t' (xn X) = true then 2 ^ t' else 0)
theorem xlike_lt (X : kt_X) (t : Nat) : ∀ t', xlike X t t' < 2 ^ t'
  | 0 => by simp [xlike]
  | t' + 1 => by
    have h := xlike_lt X t t'
    have h2 : (2 : Nat) ^ t' < 2 ^ (t' + 1) := Nat.pow_lt_pow_right (by decide) (Nat.lt_succ_self _)
    unfold xlike
    split
    · exact Nat.or_lt_two_pow (by omega) h2
    · exact Nat.or_lt_two_pow (by omega) (Nat.two_pow_pos _)
section KS
variable {P : kt_P} {i NM pc pc' : Nat} {L : List (Option Value)} {st : List Value} {N : Nat} {I : kt_I} {J : kt_J} {R : kt_R} {Q : Option Value → kt_I → kt_J → kt_R → Prop}
theorem kt_bob (a b : Bool) : kt_bo a = kt_bo b ↔ a = b := by cases a <;> cases b <;> decide
theorem kw_ic_ne_bb {a b : Bool} {tgt : Nat} (hd : kt_dj i pc (.if_icmp .ne) tgt pc') (k1 : a ≠ b → KW P i NM tgt L st N I J R Q) (k2 : a = b → KW P i NM pc' L st N I J R Q) : KW P i NM pc L (.int (kt_bo b) :: .int (kt_bo a) :: st) N I J R Q :=
  kw_ic_ne hd (fun h => k1 fun q => h ((kt_bob a b).mpr q)) (fun h => k2 ((kt_bob a b).mp h))
end KS
section MC
variable {P : kt_P} {N : Nat} {I : kt_I} {J : kt_J} {R : kt_R} {Q : Option Value → kt_I → kt_J → kt_R → Prop} {m : Nat} {X : kt_X}

theorem s_M_everyone (hM : kt_isM P N R m) (hE : kt_enc (I (m + 1)) X) (hW : kt_wf X) (k : Q (some (.int (nI (2 ^ xT X - 1)))) I J R) : KW P i_M_everyone N 0 [some (.ref m)] [] N I J R Q := by
  have hT := hW.2.1
  refine kw_icon x_M_everyone_0 ?_
  refine kw_ald_n x_M_everyone_1 rfl ?_
  refine kw_gr x_M_everyone_2 (by exact isM_k hM) (by exact isM_r0 hM) ?_
  refine kw_icon x_M_everyone_5 ?_
  refine kw_iald_n x_M_everyone_6 (by first | exact isM_a1 hM | exact isM_a2 hM | exact isM_a3 hM | exact isM_a4 hM | exact isM_a5 hM | exact isM_a6 hM | exact isM_a7 hM | exact isM_a8 hM | exact isM_a10 hM | exact isM_a11 hM) (by omega) (by omega) (by first | exact hE.1 | exact hE.2.1 | exact hE.2.2.1 | exact hS _ (by omega) | exact rfl) ?_
  refine kw_ishl x_M_everyone_7 ?_
  refine kw_icon x_M_everyone_8 ?_
  first | refine kw_isub_n x_M_everyone_9 (by omega) ?_ | refine kw_isub x_M_everyone_9 ?_
  rw [kt_evy (xT X) (by omega)]
  exact kw_iret x_M_everyone_10 k
theorem s_M_bits {M : Nat} (hM5 : M < 32) (k : Q (some (.int (nI (xbits M)))) I J R) : KW P i_M_bits N 0 [some (.int (nI M)), none, none] [] N I J R Q := by
  have loop : ∀ (d e s : Nat), e + d = 5 → s = xct (fun k => M.testBit k) e → KW P i_M_bits N 4 [some (.int (nI M)), some (.int (nI s)), some (.int (nI e))] [] N I J R Q := by
    intro d
    induction d with
    | zero =>
      intro e s h1 h2
      refine kw_ild_n x_M_bits_4 rfl ?_
      refine kw_icon x_M_bits_5 ?_
      first | refine kw_ic_ge_n x_M_bits_6 ⟨by omega, by omega⟩ (fun h6 => ?_) (fun h6 => ?_) | refine kw_ic_ge x_M_bits_6 (fun h6 => ?_) (fun h6 => ?_)
      · first
        | exfalso; omega
        | skip
          refine kw_ild_n x_M_bits_23 rfl ?_
          refine kw_iret x_M_bits_24 ?_
          have h3 : e = 5 := by omega
          subst h3; subst h2; exact k
      · first
        | exfalso; omega
        | skip
          skip
    | succ d ih =>
      intro e s h1 h2
      refine kw_ild_n x_M_bits_4 rfl ?_
      refine kw_icon x_M_bits_5 ?_
      first | refine kw_ic_ge_n x_M_bits_6 ⟨by omega, by omega⟩ (fun h6 => ?_) (fun h6 => ?_) | refine kw_ic_ge x_M_bits_6 (fun h6 => ?_) (fun h6 => ?_)
      · first
        | exfalso; omega
        | skip
          skip
      · first
        | exfalso; omega
        | skip
          refine kw_ild_n x_M_bits_9 rfl ?_
          refine kw_ild_n x_M_bits_10 rfl ?_
          refine kw_ild_n x_M_bits_11 rfl ?_
          refine kw_ishr x_M_bits_12 ?_
          refine kw_icon x_M_bits_13 ?_
          refine kw_iand x_M_bits_14 ?_
          rw [kt_bitn M hM5 e (by omega)]
          first | refine kw_iadd_n x_M_bits_15 ?_ | refine kw_iadd x_M_bits_15 ?_
          refine kw_ist_n x_M_bits_16 (by decide) ?_
          first | refine kw_iinc_n x_M_bits_17 (by decide) rfl ?_ | refine kw_iinc x_M_bits_17 (by decide) rfl ?_
          refine kw_goto x_M_bits_20 ?_
          exact ih (e + 1) _ (by omega) (by rw [h2]; simp [xct])
  refine kw_icon x_M_bits_0 ?_
  refine kw_ist_n x_M_bits_1 (by decide) ?_
  refine kw_icon x_M_bits_2 ?_
  refine kw_ist_n x_M_bits_3 (by decide) ?_
  exact loop 5 0 0 (by omega) rfl
theorem s_M_known (hM : kt_isM P N R m) (hE : kt_enc (I (m + 1)) X) (hW : kt_wf X) {w : Nat} (hw : w < 32) (k : Q (some (.int (nI (xct (fun e => decide (xe X e 7 = w)) (xn X))))) I J R) : KW P i_M_known N 0 [some (.ref m), some (.int (nI w)), none, none] [] N I J R Q := by
  have hn := hW.2.2.1
  have hT := hW.2.1
  have loop : ∀ (d e s : Nat), e + d = xn X → s = xct (fun e => decide (xe X e 7 = w)) e → KW P i_M_known N 4 [some (.ref m), some (.int (nI w)), some (.int (nI s)), some (.int (nI e))] [] N I J R Q := by
    intro d
    induction d with
    | zero =>
      intro e s h1 h2
      refine kw_ild_n x_M_known_4 rfl ?_
      refine kw_ald_n x_M_known_5 rfl ?_
      refine kw_gr x_M_known_6 (by exact isM_k hM) (by exact isM_r0 hM) ?_
      refine kw_icon x_M_known_9 ?_
      refine kw_iald_n x_M_known_10 (by first | exact isM_a1 hM | exact isM_a2 hM | exact isM_a3 hM | exact isM_a4 hM | exact isM_a5 hM | exact isM_a6 hM | exact isM_a7 hM | exact isM_a8 hM | exact isM_a10 hM | exact isM_a11 hM) (by omega) (by omega) (by first | exact hE.1 | exact hE.2.1 | exact hE.2.2.1 | exact hS _ (by omega) | exact rfl) ?_
      first | refine kw_ic_ge_n x_M_known_11 ⟨by omega, by omega⟩ (fun h11 => ?_) (fun h11 => ?_) | refine kw_ic_ge x_M_known_11 (fun h11 => ?_) (fun h11 => ?_)
      · first
        | exfalso; omega
        | skip
          refine kw_ild_n x_M_known_39 rfl ?_
          refine kw_iret x_M_known_40 ?_
          have h3 : e = xn X := by omega
          subst h3; subst h2; exact k
      · first
        | exfalso; omega
        | skip
          skip
    | succ d ih =>
      intro e s h1 h2
      have hx := hW.2.2.2.2.2.1 e (by omega)
      have hx0 := hx.1
      have hx1 := hx.2.1
      have hm32 := kt_m32 hW (e := e) (by omega)
      refine kw_ild_n x_M_known_4 rfl ?_
      refine kw_ald_n x_M_known_5 rfl ?_
      refine kw_gr x_M_known_6 (by exact isM_k hM) (by exact isM_r0 hM) ?_
      refine kw_icon x_M_known_9 ?_
      refine kw_iald_n x_M_known_10 (by first | exact isM_a1 hM | exact isM_a2 hM | exact isM_a3 hM | exact isM_a4 hM | exact isM_a5 hM | exact isM_a6 hM | exact isM_a7 hM | exact isM_a8 hM | exact isM_a10 hM | exact isM_a11 hM) (by omega) (by omega) (by first | exact hE.1 | exact hE.2.1 | exact hE.2.2.1 | exact hS _ (by omega) | exact rfl) ?_
      first | refine kw_ic_ge_n x_M_known_11 ⟨by omega, by omega⟩ (fun h11 => ?_) (fun h11 => ?_) | refine kw_ic_ge x_M_known_11 (fun h11 => ?_) (fun h11 => ?_)
      · first
        | exfalso; omega
        | skip
          skip
      · first
        | exfalso; omega
        | skip
          refine kw_ild_n x_M_known_14 rfl ?_
          refine kw_ald_n x_M_known_15 rfl ?_
          refine kw_ild_n x_M_known_16 rfl ?_
          refine kw_bip x_M_known_17 ?_
          refine c_M_known_19 (by exact isM_k hM) (Nat.le_of_ble_eq_true rfl) ?_
          refine s_M_ofn hM hE hn (by omega) (by decide) ?_
          refine kw_ild_n x_M_known_22 rfl ?_
          first | refine kw_ic_ne_n x_M_known_23 ⟨by omega, by omega⟩ (fun h23 => ?_) (fun h23 => ?_) | refine kw_ic_ne x_M_known_23 (fun h23 => ?_) (fun h23 => ?_)
          · first
            | exfalso; omega
            | skip
              refine kw_icon x_M_known_30 ?_
              first | refine kw_iadd_n x_M_known_31 ?_ | refine kw_iadd x_M_known_31 ?_
              refine kw_ist_n x_M_known_32 (by decide) ?_
              first | refine kw_iinc_n x_M_known_33 (by decide) rfl ?_ | refine kw_iinc x_M_known_33 (by decide) rfl ?_
              refine kw_goto x_M_known_36 ?_
              exact ih (e + 1) _ (by omega) (by rw [h2]; simp [xct, *])
          · first
            | exfalso; omega
            | skip
              refine kw_icon x_M_known_26 ?_
              refine kw_goto x_M_known_27 ?_
              first | refine kw_iadd_n x_M_known_31 ?_ | refine kw_iadd x_M_known_31 ?_
              refine kw_ist_n x_M_known_32 (by decide) ?_
              first | refine kw_iinc_n x_M_known_33 (by decide) rfl ?_ | refine kw_iinc x_M_known_33 (by decide) rfl ?_
              refine kw_goto x_M_known_36 ?_
              exact ih (e + 1) _ (by omega) (by rw [h2]; simp [xct, *])
  refine kw_icon x_M_known_0 ?_
  refine kw_ist_n x_M_known_1 (by decide) ?_
  refine kw_icon x_M_known_2 ?_
  refine kw_ist_n x_M_known_3 (by decide) ?_
  exact loop (xn X) 0 0 (by omega) rfl
theorem s_M_sorries (hM : kt_isM P N R m) (hE : kt_enc (I (m + 1)) X) (hW : kt_wf X)  (k : Q (some (.int (nI (xsm (fun e => xbits (xe X e 8)) (xn X))))) I J R) : KW P i_M_sorries N 0 [some (.ref m), none, none] [] N I J R Q := by
  have hn := hW.2.2.1
  have hT := hW.2.1
  have loop : ∀ (d e s : Nat), e + d = xn X → s = xsm (fun e => xbits (xe X e 8)) e → KW P i_M_sorries N 4 [some (.ref m), some (.int (nI s)), some (.int (nI e))] [] N I J R Q := by
    intro d
    induction d with
    | zero =>
      intro e s h1 h2
      refine kw_ild_n x_M_sorries_4 rfl ?_
      refine kw_ald_n x_M_sorries_5 rfl ?_
      refine kw_gr x_M_sorries_6 (by exact isM_k hM) (by exact isM_r0 hM) ?_
      refine kw_icon x_M_sorries_9 ?_
      refine kw_iald_n x_M_sorries_10 (by first | exact isM_a1 hM | exact isM_a2 hM | exact isM_a3 hM | exact isM_a4 hM | exact isM_a5 hM | exact isM_a6 hM | exact isM_a7 hM | exact isM_a8 hM | exact isM_a10 hM | exact isM_a11 hM) (by omega) (by omega) (by first | exact hE.1 | exact hE.2.1 | exact hE.2.2.1 | exact hS _ (by omega) | exact rfl) ?_
      first | refine kw_ic_ge_n x_M_sorries_11 ⟨by omega, by omega⟩ (fun h11 => ?_) (fun h11 => ?_) | refine kw_ic_ge x_M_sorries_11 (fun h11 => ?_) (fun h11 => ?_)
      · first
        | exfalso; omega
        | skip
          refine kw_ild_n x_M_sorries_33 rfl ?_
          refine kw_iret x_M_sorries_34 ?_
          have h3 : e = xn X := by omega
          subst h3; subst h2; exact k
      · first
        | exfalso; omega
        | skip
          skip
    | succ d ih =>
      intro e s h1 h2
      have hx := hW.2.2.2.2.2.1 e (by omega)
      have hx0 := hx.1
      have hx1 := hx.2.1
      have hm32 := kt_m32 hW (e := e) (by omega)
      refine kw_ild_n x_M_sorries_4 rfl ?_
      refine kw_ald_n x_M_sorries_5 rfl ?_
      refine kw_gr x_M_sorries_6 (by exact isM_k hM) (by exact isM_r0 hM) ?_
      refine kw_icon x_M_sorries_9 ?_
      refine kw_iald_n x_M_sorries_10 (by first | exact isM_a1 hM | exact isM_a2 hM | exact isM_a3 hM | exact isM_a4 hM | exact isM_a5 hM | exact isM_a6 hM | exact isM_a7 hM | exact isM_a8 hM | exact isM_a10 hM | exact isM_a11 hM) (by omega) (by omega) (by first | exact hE.1 | exact hE.2.1 | exact hE.2.2.1 | exact hS _ (by omega) | exact rfl) ?_
      first | refine kw_ic_ge_n x_M_sorries_11 ⟨by omega, by omega⟩ (fun h11 => ?_) (fun h11 => ?_) | refine kw_ic_ge x_M_sorries_11 (fun h11 => ?_) (fun h11 => ?_)
      · first
        | exfalso; omega
        | skip
          skip
      · first
        | exfalso; omega
        | skip
          refine kw_ild_n x_M_sorries_14 rfl ?_
          refine kw_ald_n x_M_sorries_15 rfl ?_
          refine kw_ild_n x_M_sorries_16 rfl ?_
          refine kw_bip x_M_sorries_17 ?_
          refine c_M_sorries_19 (by exact isM_k hM) (Nat.le_of_ble_eq_true rfl) ?_
          refine s_M_ofn hM hE hn (by omega) (by decide) ?_
          refine c_M_sorries_22 (Nat.le_of_ble_eq_true rfl) ?_
          refine s_M_bits hm32.2 ?_
          first | refine kw_iadd_n x_M_sorries_25 ?_ | refine kw_iadd x_M_sorries_25 ?_
          refine kw_ist_n x_M_sorries_26 (by decide) ?_
          first | refine kw_iinc_n x_M_sorries_27 (by decide) rfl ?_ | refine kw_iinc x_M_sorries_27 (by decide) rfl ?_
          refine kw_goto x_M_sorries_30 ?_
          exact ih (e + 1) _ (by omega) (by rw [h2]; simp [xsm, *])
  refine kw_icon x_M_sorries_0 ?_
  refine kw_ist_n x_M_sorries_1 (by decide) ?_
  refine kw_icon x_M_sorries_2 ?_
  refine kw_ist_n x_M_sorries_3 (by decide) ?_
  exact loop (xn X) 0 0 (by omega) rfl
theorem s_M_ofKind (hM : kt_isM P N R m) (hE : kt_enc (I (m + 1)) X) (hW : kt_wf X) {w : Nat} (hw : w < 32) (k : Q (some (.int (nI (xct (fun e => decide (xe X e 0 = w)) (xn X))))) I J R) : KW P i_M_ofKind N 0 [some (.ref m), some (.int (nI w)), none, none] [] N I J R Q := by
  have hn := hW.2.2.1
  have hT := hW.2.1
  have loop : ∀ (d e s : Nat), e + d = xn X → s = xct (fun e => decide (xe X e 0 = w)) e → KW P i_M_ofKind N 4 [some (.ref m), some (.int (nI w)), some (.int (nI s)), some (.int (nI e))] [] N I J R Q := by
    intro d
    induction d with
    | zero =>
      intro e s h1 h2
      refine kw_ild_n x_M_ofKind_4 rfl ?_
      refine kw_ald_n x_M_ofKind_5 rfl ?_
      refine kw_gr x_M_ofKind_6 (by exact isM_k hM) (by exact isM_r0 hM) ?_
      refine kw_icon x_M_ofKind_9 ?_
      refine kw_iald_n x_M_ofKind_10 (by first | exact isM_a1 hM | exact isM_a2 hM | exact isM_a3 hM | exact isM_a4 hM | exact isM_a5 hM | exact isM_a6 hM | exact isM_a7 hM | exact isM_a8 hM | exact isM_a10 hM | exact isM_a11 hM) (by omega) (by omega) (by first | exact hE.1 | exact hE.2.1 | exact hE.2.2.1 | exact hS _ (by omega) | exact rfl) ?_
      first | refine kw_ic_ge_n x_M_ofKind_11 ⟨by omega, by omega⟩ (fun h11 => ?_) (fun h11 => ?_) | refine kw_ic_ge x_M_ofKind_11 (fun h11 => ?_) (fun h11 => ?_)
      · first
        | exfalso; omega
        | skip
          refine kw_ild_n x_M_ofKind_38 rfl ?_
          refine kw_iret x_M_ofKind_39 ?_
          have h3 : e = xn X := by omega
          subst h3; subst h2; exact k
      · first
        | exfalso; omega
        | skip
          skip
    | succ d ih =>
      intro e s h1 h2
      have hx := hW.2.2.2.2.2.1 e (by omega)
      have hx0 := hx.1
      have hx1 := hx.2.1
      have hm32 := kt_m32 hW (e := e) (by omega)
      refine kw_ild_n x_M_ofKind_4 rfl ?_
      refine kw_ald_n x_M_ofKind_5 rfl ?_
      refine kw_gr x_M_ofKind_6 (by exact isM_k hM) (by exact isM_r0 hM) ?_
      refine kw_icon x_M_ofKind_9 ?_
      refine kw_iald_n x_M_ofKind_10 (by first | exact isM_a1 hM | exact isM_a2 hM | exact isM_a3 hM | exact isM_a4 hM | exact isM_a5 hM | exact isM_a6 hM | exact isM_a7 hM | exact isM_a8 hM | exact isM_a10 hM | exact isM_a11 hM) (by omega) (by omega) (by first | exact hE.1 | exact hE.2.1 | exact hE.2.2.1 | exact hS _ (by omega) | exact rfl) ?_
      first | refine kw_ic_ge_n x_M_ofKind_11 ⟨by omega, by omega⟩ (fun h11 => ?_) (fun h11 => ?_) | refine kw_ic_ge x_M_ofKind_11 (fun h11 => ?_) (fun h11 => ?_)
      · first
        | exfalso; omega
        | skip
          skip
      · first
        | exfalso; omega
        | skip
          refine kw_ild_n x_M_ofKind_14 rfl ?_
          refine kw_ald_n x_M_ofKind_15 rfl ?_
          refine kw_ild_n x_M_ofKind_16 rfl ?_
          refine kw_icon x_M_ofKind_17 ?_
          refine c_M_ofKind_18 (by exact isM_k hM) (Nat.le_of_ble_eq_true rfl) ?_
          refine s_M_ofn hM hE hn (by omega) (by decide) ?_
          refine kw_ild_n x_M_ofKind_21 rfl ?_
          first | refine kw_ic_ne_n x_M_ofKind_22 ⟨by omega, by omega⟩ (fun h22 => ?_) (fun h22 => ?_) | refine kw_ic_ne x_M_ofKind_22 (fun h22 => ?_) (fun h22 => ?_)
          · first
            | exfalso; omega
            | skip
              refine kw_icon x_M_ofKind_29 ?_
              first | refine kw_iadd_n x_M_ofKind_30 ?_ | refine kw_iadd x_M_ofKind_30 ?_
              refine kw_ist_n x_M_ofKind_31 (by decide) ?_
              first | refine kw_iinc_n x_M_ofKind_32 (by decide) rfl ?_ | refine kw_iinc x_M_ofKind_32 (by decide) rfl ?_
              refine kw_goto x_M_ofKind_35 ?_
              exact ih (e + 1) _ (by omega) (by rw [h2]; simp [xct, *])
          · first
            | exfalso; omega
            | skip
              refine kw_icon x_M_ofKind_25 ?_
              refine kw_goto x_M_ofKind_26 ?_
              first | refine kw_iadd_n x_M_ofKind_30 ?_ | refine kw_iadd x_M_ofKind_30 ?_
              refine kw_ist_n x_M_ofKind_31 (by decide) ?_
              first | refine kw_iinc_n x_M_ofKind_32 (by decide) rfl ?_ | refine kw_iinc x_M_ofKind_32 (by decide) rfl ?_
              refine kw_goto x_M_ofKind_35 ?_
              exact ih (e + 1) _ (by omega) (by rw [h2]; simp [xct, *])
  refine kw_icon x_M_ofKind_0 ?_
  refine kw_ist_n x_M_ofKind_1 (by decide) ?_
  refine kw_icon x_M_ofKind_2 ?_
  refine kw_ist_n x_M_ofKind_3 (by decide) ?_
  exact loop (xn X) 0 0 (by omega) rfl
theorem s_M_knownBy (hM : kt_isM P N R m) (hE : kt_enc (I (m + 1)) X) (hW : kt_wf X) {w : Nat} (hw : w ≤ 5) (k : Q (some (.int (nI (xct (fun e => xk X w e) (xn X))))) I J R) : KW P i_M_knownBy N 0 [some (.ref m), some (.int (nI w)), none, none] [] N I J R Q := by
  have hn := hW.2.2.1
  have hT := hW.2.1
  have loop : ∀ (d e s : Nat), e + d = xn X → s = xct (fun e => xk X w e) e → KW P i_M_knownBy N 4 [some (.ref m), some (.int (nI w)), some (.int (nI s)), some (.int (nI e))] [] N I J R Q := by
    intro d
    induction d with
    | zero =>
      intro e s h1 h2
      refine kw_ild_n x_M_knownBy_4 rfl ?_
      refine kw_ald_n x_M_knownBy_5 rfl ?_
      refine kw_gr x_M_knownBy_6 (by exact isM_k hM) (by exact isM_r0 hM) ?_
      refine kw_icon x_M_knownBy_9 ?_
      refine kw_iald_n x_M_knownBy_10 (by first | exact isM_a1 hM | exact isM_a2 hM | exact isM_a3 hM | exact isM_a4 hM | exact isM_a5 hM | exact isM_a6 hM | exact isM_a7 hM | exact isM_a8 hM | exact isM_a10 hM | exact isM_a11 hM) (by omega) (by omega) (by first | exact hE.1 | exact hE.2.1 | exact hE.2.2.1 | exact hS _ (by omega) | exact rfl) ?_
      first | refine kw_ic_ge_n x_M_knownBy_11 ⟨by omega, by omega⟩ (fun h11 => ?_) (fun h11 => ?_) | refine kw_ic_ge x_M_knownBy_11 (fun h11 => ?_) (fun h11 => ?_)
      · first
        | exfalso; omega
        | skip
          refine kw_ild_n x_M_knownBy_37 rfl ?_
          refine kw_iret x_M_knownBy_38 ?_
          have h3 : e = xn X := by omega
          subst h3; subst h2; exact k
      · first
        | exfalso; omega
        | skip
          skip
    | succ d ih =>
      intro e s h1 h2
      have hx := hW.2.2.2.2.2.1 e (by omega)
      have hx0 := hx.1
      have hx1 := hx.2.1
      have hm32 := kt_m32 hW (e := e) (by omega)
      refine kw_ild_n x_M_knownBy_4 rfl ?_
      refine kw_ald_n x_M_knownBy_5 rfl ?_
      refine kw_gr x_M_knownBy_6 (by exact isM_k hM) (by exact isM_r0 hM) ?_
      refine kw_icon x_M_knownBy_9 ?_
      refine kw_iald_n x_M_knownBy_10 (by first | exact isM_a1 hM | exact isM_a2 hM | exact isM_a3 hM | exact isM_a4 hM | exact isM_a5 hM | exact isM_a6 hM | exact isM_a7 hM | exact isM_a8 hM | exact isM_a10 hM | exact isM_a11 hM) (by omega) (by omega) (by first | exact hE.1 | exact hE.2.1 | exact hE.2.2.1 | exact hS _ (by omega) | exact rfl) ?_
      first | refine kw_ic_ge_n x_M_knownBy_11 ⟨by omega, by omega⟩ (fun h11 => ?_) (fun h11 => ?_) | refine kw_ic_ge x_M_knownBy_11 (fun h11 => ?_) (fun h11 => ?_)
      · first
        | exfalso; omega
        | skip
          skip
      · first
        | exfalso; omega
        | skip
          refine kw_ild_n x_M_knownBy_14 rfl ?_
          refine kw_ald_n x_M_knownBy_15 rfl ?_
          refine kw_ild_n x_M_knownBy_16 rfl ?_
          refine kw_ild_n x_M_knownBy_17 rfl ?_
          refine c_M_knownBy_18 (by exact isM_k hM) (Nat.le_of_ble_eq_true rfl) ?_
          refine s_M_knows hM hE hW (by omega) (by omega) ?_
          first | refine kw_if_eq_b x_M_knownBy_21 (fun h21 => ?_) (fun h21 => ?_) | refine kw_if_eq_n x_M_knownBy_21 (by omega) (fun h21 => ?_) (fun h21 => ?_) | refine kw_if_eq x_M_knownBy_21 (fun h21 => ?_) (fun h21 => ?_)
          · first
            | exfalso; omega
            | skip
              refine kw_icon x_M_knownBy_28 ?_
              first | refine kw_iadd_n x_M_knownBy_29 ?_ | refine kw_iadd x_M_knownBy_29 ?_
              refine kw_ist_n x_M_knownBy_30 (by decide) ?_
              first | refine kw_iinc_n x_M_knownBy_31 (by decide) rfl ?_ | refine kw_iinc x_M_knownBy_31 (by decide) rfl ?_
              refine kw_goto x_M_knownBy_34 ?_
              exact ih (e + 1) _ (by omega) (by rw [h2]; simp [xct, *])
          · first
            | exfalso; omega
            | skip
              refine kw_icon x_M_knownBy_24 ?_
              refine kw_goto x_M_knownBy_25 ?_
              first | refine kw_iadd_n x_M_knownBy_29 ?_ | refine kw_iadd x_M_knownBy_29 ?_
              refine kw_ist_n x_M_knownBy_30 (by decide) ?_
              first | refine kw_iinc_n x_M_knownBy_31 (by decide) rfl ?_ | refine kw_iinc x_M_knownBy_31 (by decide) rfl ?_
              refine kw_goto x_M_knownBy_34 ?_
              exact ih (e + 1) _ (by omega) (by rw [h2]; simp [xct, *])
  refine kw_icon x_M_knownBy_0 ?_
  refine kw_ist_n x_M_knownBy_1 (by decide) ?_
  refine kw_icon x_M_knownBy_2 ?_
  refine kw_ist_n x_M_knownBy_3 (by decide) ?_
  exact loop (xn X) 0 0 (by omega) rfl
theorem s_M_sorry (hM : kt_isM P N R m) (hE : kt_enc (I (m + 1)) X) (hW : kt_wf X) {w : Nat} (hw : w < 5) (k : Q (some (.int (nI (xct (fun e => (xe X e 8).testBit w) (xn X))))) I J R) : KW P i_M_sorry N 0 [some (.ref m), some (.int (nI w)), none, none] [] N I J R Q := by
  have hn := hW.2.2.1
  have hT := hW.2.1
  have loop : ∀ (d e s : Nat), e + d = xn X → s = xct (fun e => (xe X e 8).testBit w) e → KW P i_M_sorry N 4 [some (.ref m), some (.int (nI w)), some (.int (nI s)), some (.int (nI e))] [] N I J R Q := by
    intro d
    induction d with
    | zero =>
      intro e s h1 h2
      refine kw_ild_n x_M_sorry_4 rfl ?_
      refine kw_ald_n x_M_sorry_5 rfl ?_
      refine kw_gr x_M_sorry_6 (by exact isM_k hM) (by exact isM_r0 hM) ?_
      refine kw_icon x_M_sorry_9 ?_
      refine kw_iald_n x_M_sorry_10 (by first | exact isM_a1 hM | exact isM_a2 hM | exact isM_a3 hM | exact isM_a4 hM | exact isM_a5 hM | exact isM_a6 hM | exact isM_a7 hM | exact isM_a8 hM | exact isM_a10 hM | exact isM_a11 hM) (by omega) (by omega) (by first | exact hE.1 | exact hE.2.1 | exact hE.2.2.1 | exact hS _ (by omega) | exact rfl) ?_
      first | refine kw_ic_ge_n x_M_sorry_11 ⟨by omega, by omega⟩ (fun h11 => ?_) (fun h11 => ?_) | refine kw_ic_ge x_M_sorry_11 (fun h11 => ?_) (fun h11 => ?_)
      · first
        | exfalso; omega
        | skip
          refine kw_ild_n x_M_sorry_34 rfl ?_
          refine kw_iret x_M_sorry_35 ?_
          have h3 : e = xn X := by omega
          subst h3; subst h2; exact k
      · first
        | exfalso; omega
        | skip
          skip
    | succ d ih =>
      intro e s h1 h2
      have hx := hW.2.2.2.2.2.1 e (by omega)
      have hx0 := hx.1
      have hx1 := hx.2.1
      have hm32 := kt_m32 hW (e := e) (by omega)
      refine kw_ild_n x_M_sorry_4 rfl ?_
      refine kw_ald_n x_M_sorry_5 rfl ?_
      refine kw_gr x_M_sorry_6 (by exact isM_k hM) (by exact isM_r0 hM) ?_
      refine kw_icon x_M_sorry_9 ?_
      refine kw_iald_n x_M_sorry_10 (by first | exact isM_a1 hM | exact isM_a2 hM | exact isM_a3 hM | exact isM_a4 hM | exact isM_a5 hM | exact isM_a6 hM | exact isM_a7 hM | exact isM_a8 hM | exact isM_a10 hM | exact isM_a11 hM) (by omega) (by omega) (by first | exact hE.1 | exact hE.2.1 | exact hE.2.2.1 | exact hS _ (by omega) | exact rfl) ?_
      first | refine kw_ic_ge_n x_M_sorry_11 ⟨by omega, by omega⟩ (fun h11 => ?_) (fun h11 => ?_) | refine kw_ic_ge x_M_sorry_11 (fun h11 => ?_) (fun h11 => ?_)
      · first
        | exfalso; omega
        | skip
          skip
      · first
        | exfalso; omega
        | skip
          refine kw_ild_n x_M_sorry_14 rfl ?_
          refine kw_ald_n x_M_sorry_15 rfl ?_
          refine kw_ild_n x_M_sorry_16 rfl ?_
          refine kw_bip x_M_sorry_17 ?_
          refine c_M_sorry_19 (by exact isM_k hM) (Nat.le_of_ble_eq_true rfl) ?_
          refine s_M_ofn hM hE hn (by omega) (by decide) ?_
          refine kw_ild_n x_M_sorry_22 rfl ?_
          refine kw_ishr x_M_sorry_23 ?_
          refine kw_icon x_M_sorry_24 ?_
          refine kw_iand x_M_sorry_25 ?_
          rw [kt_bitn _ hm32.2 w hw]
          first | refine kw_iadd_n x_M_sorry_26 ?_ | refine kw_iadd x_M_sorry_26 ?_
          refine kw_ist_n x_M_sorry_27 (by decide) ?_
          first | refine kw_iinc_n x_M_sorry_28 (by decide) rfl ?_ | refine kw_iinc x_M_sorry_28 (by decide) rfl ?_
          refine kw_goto x_M_sorry_31 ?_
          exact ih (e + 1) _ (by omega) (by rw [h2]; simp [xct, *])
  refine kw_icon x_M_sorry_0 ?_
  refine kw_ist_n x_M_sorry_1 (by decide) ?_
  refine kw_icon x_M_sorry_2 ?_
  refine kw_ist_n x_M_sorry_3 (by decide) ?_
  exact loop (xn X) 0 0 (by omega) rfl
theorem s_M_madeIn (hM : kt_isM P N R m) (hE : kt_enc (I (m + 1)) X) (hW : kt_wf X) {w : Nat} (hw : w < 32) (k : Q (some (.int (nI (xct (fun e => decide (xe X e 1 = w)) (xn X))))) I J R) : KW P i_M_madeIn N 0 [some (.ref m), some (.int (nI w)), none, none] [] N I J R Q := by
  have hn := hW.2.2.1
  have hT := hW.2.1
  have loop : ∀ (d e s : Nat), e + d = xn X → s = xct (fun e => decide (xe X e 1 = w)) e → KW P i_M_madeIn N 4 [some (.ref m), some (.int (nI w)), some (.int (nI s)), some (.int (nI e))] [] N I J R Q := by
    intro d
    induction d with
    | zero =>
      intro e s h1 h2
      refine kw_ild_n x_M_madeIn_4 rfl ?_
      refine kw_ald_n x_M_madeIn_5 rfl ?_
      refine kw_gr x_M_madeIn_6 (by exact isM_k hM) (by exact isM_r0 hM) ?_
      refine kw_icon x_M_madeIn_9 ?_
      refine kw_iald_n x_M_madeIn_10 (by first | exact isM_a1 hM | exact isM_a2 hM | exact isM_a3 hM | exact isM_a4 hM | exact isM_a5 hM | exact isM_a6 hM | exact isM_a7 hM | exact isM_a8 hM | exact isM_a10 hM | exact isM_a11 hM) (by omega) (by omega) (by first | exact hE.1 | exact hE.2.1 | exact hE.2.2.1 | exact hS _ (by omega) | exact rfl) ?_
      first | refine kw_ic_ge_n x_M_madeIn_11 ⟨by omega, by omega⟩ (fun h11 => ?_) (fun h11 => ?_) | refine kw_ic_ge x_M_madeIn_11 (fun h11 => ?_) (fun h11 => ?_)
      · first
        | exfalso; omega
        | skip
          refine kw_ild_n x_M_madeIn_38 rfl ?_
          refine kw_iret x_M_madeIn_39 ?_
          have h3 : e = xn X := by omega
          subst h3; subst h2; exact k
      · first
        | exfalso; omega
        | skip
          skip
    | succ d ih =>
      intro e s h1 h2
      have hx := hW.2.2.2.2.2.1 e (by omega)
      have hx0 := hx.1
      have hx1 := hx.2.1
      have hm32 := kt_m32 hW (e := e) (by omega)
      refine kw_ild_n x_M_madeIn_4 rfl ?_
      refine kw_ald_n x_M_madeIn_5 rfl ?_
      refine kw_gr x_M_madeIn_6 (by exact isM_k hM) (by exact isM_r0 hM) ?_
      refine kw_icon x_M_madeIn_9 ?_
      refine kw_iald_n x_M_madeIn_10 (by first | exact isM_a1 hM | exact isM_a2 hM | exact isM_a3 hM | exact isM_a4 hM | exact isM_a5 hM | exact isM_a6 hM | exact isM_a7 hM | exact isM_a8 hM | exact isM_a10 hM | exact isM_a11 hM) (by omega) (by omega) (by first | exact hE.1 | exact hE.2.1 | exact hE.2.2.1 | exact hS _ (by omega) | exact rfl) ?_
      first | refine kw_ic_ge_n x_M_madeIn_11 ⟨by omega, by omega⟩ (fun h11 => ?_) (fun h11 => ?_) | refine kw_ic_ge x_M_madeIn_11 (fun h11 => ?_) (fun h11 => ?_)
      · first
        | exfalso; omega
        | skip
          skip
      · first
        | exfalso; omega
        | skip
          refine kw_ild_n x_M_madeIn_14 rfl ?_
          refine kw_ald_n x_M_madeIn_15 rfl ?_
          refine kw_ild_n x_M_madeIn_16 rfl ?_
          refine kw_icon x_M_madeIn_17 ?_
          refine c_M_madeIn_18 (by exact isM_k hM) (Nat.le_of_ble_eq_true rfl) ?_
          refine s_M_ofn hM hE hn (by omega) (by decide) ?_
          refine kw_ild_n x_M_madeIn_21 rfl ?_
          first | refine kw_ic_ne_n x_M_madeIn_22 ⟨by omega, by omega⟩ (fun h22 => ?_) (fun h22 => ?_) | refine kw_ic_ne x_M_madeIn_22 (fun h22 => ?_) (fun h22 => ?_)
          · first
            | exfalso; omega
            | skip
              refine kw_icon x_M_madeIn_29 ?_
              first | refine kw_iadd_n x_M_madeIn_30 ?_ | refine kw_iadd x_M_madeIn_30 ?_
              refine kw_ist_n x_M_madeIn_31 (by decide) ?_
              first | refine kw_iinc_n x_M_madeIn_32 (by decide) rfl ?_ | refine kw_iinc x_M_madeIn_32 (by decide) rfl ?_
              refine kw_goto x_M_madeIn_35 ?_
              exact ih (e + 1) _ (by omega) (by rw [h2]; simp [xct, *])
          · first
            | exfalso; omega
            | skip
              refine kw_icon x_M_madeIn_25 ?_
              refine kw_goto x_M_madeIn_26 ?_
              first | refine kw_iadd_n x_M_madeIn_30 ?_ | refine kw_iadd x_M_madeIn_30 ?_
              refine kw_ist_n x_M_madeIn_31 (by decide) ?_
              first | refine kw_iinc_n x_M_madeIn_32 (by decide) rfl ?_ | refine kw_iinc x_M_madeIn_32 (by decide) rfl ?_
              refine kw_goto x_M_madeIn_35 ?_
              exact ih (e + 1) _ (by omega) (by rw [h2]; simp [xct, *])
  refine kw_icon x_M_madeIn_0 ?_
  refine kw_ist_n x_M_madeIn_1 (by decide) ?_
  refine kw_icon x_M_madeIn_2 ?_
  refine kw_ist_n x_M_madeIn_3 (by decide) ?_
  exact loop (xn X) 0 0 (by omega) rfl
theorem s_M_withStatus (hM : kt_isM P N R m) (hE : kt_enc (I (m + 1)) X) (hW : kt_wf X) {t w : Nat} (ht : t ≤ 5) (hw : w < 3) (k : ∀ I', kt_lm m I I' → Q (some (.int (nI (xct (fun e => decide (xst X t e = w)) (xn X))))) I' J R) : KW P i_M_withStatus N 0 [some (.ref m), some (.int (nI t)), some (.int (nI w)), none, none] [] N I J R Q := by
  have hn := hW.2.2.1
  have loop : ∀ (I1 : kt_I), kt_lm m I I1 → (∀ e, e < xn X → I1 (m + 6) e = kt_sc (xst X t e)) → ∀ (d e s : Nat), e + d = xn X → s = xct (fun e => decide (xst X t e = w)) e → KW P i_M_withStatus N 10 [some (.ref m), some (.int (nI t)), some (.int (nI w)), some (.int (nI s)), some (.int (nI e))] [] N I1 J R Q := by
    intro I1 hl hS
    have hE := hl.enc hE
    intro d
    induction d with
    | zero =>
      intro e s h1 h2
      refine kw_ild x_M_withStatus_10 rfl ?_
      refine kw_ald_n x_M_withStatus_12 rfl ?_
      refine kw_gr x_M_withStatus_13 (by exact isM_k hM) (by exact isM_r0 hM) ?_
      refine kw_icon x_M_withStatus_16 ?_
      refine kw_iald_n x_M_withStatus_17 (by first | exact isM_a1 hM | exact isM_a2 hM | exact isM_a3 hM | exact isM_a4 hM | exact isM_a5 hM | exact isM_a6 hM | exact isM_a7 hM | exact isM_a8 hM | exact isM_a10 hM | exact isM_a11 hM) (by omega) (by omega) (by first | exact hE.1 | exact hE.2.1 | exact hE.2.2.1 | exact hS _ (by omega) | exact rfl) ?_
      first | refine kw_ic_ge_n x_M_withStatus_18 ⟨by omega, by omega⟩ (fun h18 => ?_) (fun h18 => ?_) | refine kw_ic_ge x_M_withStatus_18 (fun h18 => ?_) (fun h18 => ?_)
      · first
        | exfalso; omega
        | skip
          refine kw_ild_n x_M_withStatus_46 rfl ?_
          refine kw_iret x_M_withStatus_47 ?_
          have h3 : e = xn X := by omega
          subst h3; subst h2; exact k I1 hl
      · first
        | exfalso; omega
        | skip
          skip
    | succ d ih =>
      intro e s h1 h2
      refine kw_ild x_M_withStatus_10 rfl ?_
      refine kw_ald_n x_M_withStatus_12 rfl ?_
      refine kw_gr x_M_withStatus_13 (by exact isM_k hM) (by exact isM_r0 hM) ?_
      refine kw_icon x_M_withStatus_16 ?_
      refine kw_iald_n x_M_withStatus_17 (by first | exact isM_a1 hM | exact isM_a2 hM | exact isM_a3 hM | exact isM_a4 hM | exact isM_a5 hM | exact isM_a6 hM | exact isM_a7 hM | exact isM_a8 hM | exact isM_a10 hM | exact isM_a11 hM) (by omega) (by omega) (by first | exact hE.1 | exact hE.2.1 | exact hE.2.2.1 | exact hS _ (by omega) | exact rfl) ?_
      first | refine kw_ic_ge_n x_M_withStatus_18 ⟨by omega, by omega⟩ (fun h18 => ?_) (fun h18 => ?_) | refine kw_ic_ge x_M_withStatus_18 (fun h18 => ?_) (fun h18 => ?_)
      · first
        | exfalso; omega
        | skip
          skip
      · first
        | exfalso; omega
        | skip
          refine kw_ild_n x_M_withStatus_21 rfl ?_
          refine kw_ald_n x_M_withStatus_22 rfl ?_
          refine kw_gr x_M_withStatus_23 (by exact isM_k hM) (by exact isM_r8 hM) ?_
          refine kw_ild x_M_withStatus_26 rfl ?_
          refine kw_iald_n x_M_withStatus_28 (by first | exact isM_a1 hM | exact isM_a2 hM | exact isM_a3 hM | exact isM_a4 hM | exact isM_a5 hM | exact isM_a6 hM | exact isM_a7 hM | exact isM_a8 hM | exact isM_a10 hM | exact isM_a11 hM) (by omega) (by omega) (by first | exact hE.1 | exact hE.2.1 | exact hE.2.2.1 | exact hS _ (by omega) | exact rfl) ?_
          refine kw_ild_n x_M_withStatus_29 rfl ?_
          first | refine kw_ic_ne_c x_M_withStatus_30 (xst_4 _ _ _) (fun h30 => ?_) (fun h30 => ?_) | refine kw_ic_ne_d x_M_withStatus_30 (xst_4 _ _ _) hw (fun h30 => ?_) (fun h30 => ?_) | refine kw_ic_ne_n x_M_withStatus_30 ⟨by omega, by omega⟩ (fun h30 => ?_) (fun h30 => ?_) | refine kw_ic_ne x_M_withStatus_30 (fun h30 => ?_) (fun h30 => ?_)
          · first
            | exfalso; omega
            | skip
              refine kw_icon x_M_withStatus_37 ?_
              first | refine kw_iadd_n x_M_withStatus_38 ?_ | refine kw_iadd x_M_withStatus_38 ?_
              refine kw_ist_n x_M_withStatus_39 (by decide) ?_
              first | refine kw_iinc_n x_M_withStatus_40 (by decide) rfl ?_ | refine kw_iinc x_M_withStatus_40 (by decide) rfl ?_
              refine kw_goto x_M_withStatus_43 ?_
              exact ih (e + 1) _ (by omega) (by rw [h2]; simp [xct, *])
          · first
            | exfalso; omega
            | skip
              refine kw_icon x_M_withStatus_33 ?_
              refine kw_goto x_M_withStatus_34 ?_
              first | refine kw_iadd_n x_M_withStatus_38 ?_ | refine kw_iadd x_M_withStatus_38 ?_
              refine kw_ist_n x_M_withStatus_39 (by decide) ?_
              first | refine kw_iinc_n x_M_withStatus_40 (by decide) rfl ?_ | refine kw_iinc x_M_withStatus_40 (by decide) rfl ?_
              refine kw_goto x_M_withStatus_43 ?_
              exact ih (e + 1) _ (by omega) (by rw [h2]; simp [xct, *])
  refine kw_ald_n x_M_withStatus_0 rfl ?_
  refine kw_ild_n x_M_withStatus_1 rfl ?_
  refine c_M_withStatus_2 (by exact isM_k hM) (Nat.le_of_ble_eq_true rfl) ?_
  refine s_M_thinksAll hM hE hW ht (fun I2 hl2 hS2 => ?_)
  refine kw_icon x_M_withStatus_5 ?_
  refine kw_ist_n x_M_withStatus_6 (by decide) ?_
  refine kw_icon x_M_withStatus_7 ?_
  refine kw_ist x_M_withStatus_8 (by decide) ?_
  exact loop I2 hl2 hS2 (xn X) 0 0 (by omega) rfl
theorem s_M_likes (hM : kt_isM P N R m) (hE : kt_enc (I (m + 1)) X) (hW : kt_wf X) {t : Nat} (ht : t ≤ 5) (k : Q (some (.int (nI (xlike X t (xT X))))) I J R) : KW P i_M_likes N 0 [some (.ref m), some (.int (nI t)), none, none, none, none] [] N I J R Q := by
  have hn := hW.2.2.1
  have hT := hW.2.1
  have outer : ∀ (d t' : Nat) (v4 v5 : Option Value), t' + d = xT X → KW P i_M_likes N 4 [some (.ref m), some (.int (nI t)), some (.int (nI (xlike X t t'))), some (.int (nI t')), v4, v5] [] N I J R Q := by
    intro d
    induction d with
    | zero =>
      intro t' v4 v5 h1
      refine kw_ild_n x_M_likes_4 rfl ?_
      refine kw_ald_n x_M_likes_5 rfl ?_
      refine kw_gr x_M_likes_6 (by exact isM_k hM) (by exact isM_r0 hM) ?_
      refine kw_icon x_M_likes_9 ?_
      refine kw_iald_n x_M_likes_10 (by first | exact isM_a1 hM | exact isM_a2 hM | exact isM_a3 hM | exact isM_a4 hM | exact isM_a5 hM | exact isM_a6 hM | exact isM_a7 hM | exact isM_a8 hM | exact isM_a10 hM | exact isM_a11 hM) (by omega) (by omega) (by first | exact hE.1 | exact hE.2.1 | exact hE.2.2.1 | exact hS _ (by omega) | exact rfl) ?_
      first | refine kw_ic_ge_n x_M_likes_11 ⟨by omega, by omega⟩ (fun h11 => ?_) (fun h11 => ?_) | refine kw_ic_ge x_M_likes_11 (fun h11 => ?_) (fun h11 => ?_)
      · first
        | exfalso; omega
        | skip
          refine kw_ild_n x_M_likes_87 rfl ?_
          refine kw_iret x_M_likes_88 ?_
          have h3 : t' = xT X := by omega
          subst h3; exact k
      · first
        | exfalso; omega
        | skip
          skip
    | succ d ih =>
      intro t' v4 v5 h1
      have hlt : xlike X t t' < 32 := Nat.lt_of_lt_of_le (xlike_lt X t t') (by have : (2 : Nat) ^ t' ≤ 2 ^ 5 := Nat.pow_le_pow_right (by decide) (by omega); omega)
      have inner : ∀ (d' e : Nat) (v : Int32), e + d' = xn X → v = kt_bo (xsame X t t' e) → KW P i_M_likes N 20 [some (.ref m), some (.int (nI t)), some (.int (nI (xlike X t t'))), some (.int (nI t')), some (.int v), some (.int (nI e))] [] N I J R Q := by
        intro d'
        induction d' with
        | zero =>
          intro e v h2 h3
          have h4 : e = xn X := by omega
          subst h4; subst h3
          refine kw_ild x_M_likes_20 rfl ?_
          refine kw_ald_n x_M_likes_22 rfl ?_
          refine kw_gr x_M_likes_23 (by exact isM_k hM) (by exact isM_r0 hM) ?_
          refine kw_icon x_M_likes_26 ?_
          refine kw_iald_n x_M_likes_27 (by first | exact isM_a1 hM | exact isM_a2 hM | exact isM_a3 hM | exact isM_a4 hM | exact isM_a5 hM | exact isM_a6 hM | exact isM_a7 hM | exact isM_a8 hM | exact isM_a10 hM | exact isM_a11 hM) (by omega) (by omega) (by first | exact hE.1 | exact hE.2.1 | exact hE.2.2.1 | exact hS _ (by omega) | exact rfl) ?_
          first | refine kw_ic_ge_n x_M_likes_28 ⟨by omega, by omega⟩ (fun h28 => ?_) (fun h28 => ?_) | refine kw_ic_ge x_M_likes_28 (fun h28 => ?_) (fun h28 => ?_)
          · first
            | exfalso; omega
            | skip
              refine kw_ild_n x_M_likes_66 rfl ?_
              refine kw_ild x_M_likes_67 rfl ?_
              first | refine kw_if_eq_b x_M_likes_69 (fun h69 => ?_) (fun h69 => ?_) | refine kw_if_eq_n x_M_likes_69 (by omega) (fun h69 => ?_) (fun h69 => ?_) | refine kw_if_eq x_M_likes_69 (fun h69 => ?_) (fun h69 => ?_)
              · first
                | exfalso; omega
                | skip
                  refine kw_icon x_M_likes_78 ?_
                  refine kw_ior x_M_likes_79 ?_
                  first
                    | (rw [kt_or _ hlt t' (by omega)]
                       refine kw_ist_n x_M_likes_80 (by decide) ?_
                       refine kw_iinc_n x_M_likes_81 (by decide) rfl ?_
                       refine kw_goto x_M_likes_84 ?_
                       have h9 : xlike X t t' ||| 2 ^ t' = xlike X t (t' + 1) := (by rw [xlike, if_pos h69])
                       rw [h9]
                       exact ih (t' + 1) _ _ (by omega))
                    | (rw [kt_or0]
                       refine kw_ist_n x_M_likes_80 (by decide) ?_
                       refine kw_iinc_n x_M_likes_81 (by decide) rfl ?_
                       refine kw_goto x_M_likes_84 ?_
                       have h9 : xlike X t t' = xlike X t (t' + 1) := (by rw [xlike, if_neg (by rw [h69]; decide)]; exact (Nat.or_zero _).symm)
                       rw [h9]
                       exact ih (t' + 1) _ _ (by omega))
              · first
                | exfalso; omega
                | skip
                  refine kw_icon x_M_likes_72 ?_
                  refine kw_ild_n x_M_likes_73 rfl ?_
                  refine kw_ishl x_M_likes_74 ?_
                  refine kw_goto x_M_likes_75 ?_
                  refine kw_ior x_M_likes_79 ?_
                  first
                    | (rw [kt_or _ hlt t' (by omega)]
                       refine kw_ist_n x_M_likes_80 (by decide) ?_
                       refine kw_iinc_n x_M_likes_81 (by decide) rfl ?_
                       refine kw_goto x_M_likes_84 ?_
                       have h9 : xlike X t t' ||| 2 ^ t' = xlike X t (t' + 1) := (by rw [xlike, if_pos h69])
                       rw [h9]
                       exact ih (t' + 1) _ _ (by omega))
                    | (rw [kt_or0]
                       refine kw_ist_n x_M_likes_80 (by decide) ?_
                       refine kw_iinc_n x_M_likes_81 (by decide) rfl ?_
                       refine kw_goto x_M_likes_84 ?_
                       have h9 : xlike X t t' = xlike X t (t' + 1) := (by rw [xlike, if_neg (by rw [h69]; decide)]; exact (Nat.or_zero _).symm)
                       rw [h9]
                       exact ih (t' + 1) _ _ (by omega))
          · first
            | exfalso; omega
            | skip
              skip
        | succ d' ih' =>
          intro e v h2 h3
          subst h3
          refine kw_ild x_M_likes_20 rfl ?_
          refine kw_ald_n x_M_likes_22 rfl ?_
          refine kw_gr x_M_likes_23 (by exact isM_k hM) (by exact isM_r0 hM) ?_
          refine kw_icon x_M_likes_26 ?_
          refine kw_iald_n x_M_likes_27 (by first | exact isM_a1 hM | exact isM_a2 hM | exact isM_a3 hM | exact isM_a4 hM | exact isM_a5 hM | exact isM_a6 hM | exact isM_a7 hM | exact isM_a8 hM | exact isM_a10 hM | exact isM_a11 hM) (by omega) (by omega) (by first | exact hE.1 | exact hE.2.1 | exact hE.2.2.1 | exact hS _ (by omega) | exact rfl) ?_
          first | refine kw_ic_ge_n x_M_likes_28 ⟨by omega, by omega⟩ (fun h28 => ?_) (fun h28 => ?_) | refine kw_ic_ge x_M_likes_28 (fun h28 => ?_) (fun h28 => ?_)
          · first
            | exfalso; omega
            | skip
              skip
          · first
            | exfalso; omega
            | skip
              refine kw_ild x_M_likes_31 rfl ?_
              first | refine kw_if_eq_b x_M_likes_33 (fun h33 => ?_) (fun h33 => ?_) | refine kw_if_eq_n x_M_likes_33 (by omega) (fun h33 => ?_) (fun h33 => ?_) | refine kw_if_eq x_M_likes_33 (fun h33 => ?_) (fun h33 => ?_)
              · first
                | exfalso; omega
                | skip
                  refine kw_icon x_M_likes_57 ?_
                  refine kw_ist x_M_likes_58 (by decide) ?_
                  first | refine kw_iinc_n x_M_likes_60 (by decide) rfl ?_ | refine kw_iinc x_M_likes_60 (by decide) rfl ?_
                  refine kw_goto x_M_likes_63 ?_
                  refine ih' (e + 1) _ (by omega) ?_
                  first
                    | (rw [show xsame X t t' (e + 1) = true from (by simp [xsame, *])] <;> rfl)
                    | (rw [show xsame X t t' (e + 1) = false from (by simp [xsame, *])] <;> rfl)
              · first
                | exfalso; omega
                | skip
                  refine kw_ald_n x_M_likes_36 rfl ?_
                  refine kw_ild_n x_M_likes_37 rfl ?_
                  refine kw_ild x_M_likes_38 rfl ?_
                  refine c_M_likes_40 (by exact isM_k hM) (Nat.le_of_ble_eq_true rfl) ?_
                  refine s_M_knows hM hE hW (by omega) (by omega) ?_
                  refine kw_ald_n x_M_likes_43 rfl ?_
                  refine kw_ild_n x_M_likes_44 rfl ?_
                  refine kw_ild x_M_likes_45 rfl ?_
                  refine c_M_likes_47 (by exact isM_k hM) (Nat.le_of_ble_eq_true rfl) ?_
                  refine s_M_knows hM hE hW (by omega) (by omega) ?_
                  first | refine kw_ic_ne_bb x_M_likes_50 (fun h50 => ?_) (fun h50 => ?_) | refine kw_ic_ne_n x_M_likes_50 ⟨by omega, by omega⟩ (fun h50 => ?_) (fun h50 => ?_) | refine kw_ic_ne x_M_likes_50 (fun h50 => ?_) (fun h50 => ?_)
                  · first
                    | exfalso; omega
                    | skip
                      refine kw_icon x_M_likes_57 ?_
                      refine kw_ist x_M_likes_58 (by decide) ?_
                      first | refine kw_iinc_n x_M_likes_60 (by decide) rfl ?_ | refine kw_iinc x_M_likes_60 (by decide) rfl ?_
                      refine kw_goto x_M_likes_63 ?_
                      refine ih' (e + 1) _ (by omega) ?_
                      first
                        | (rw [show xsame X t t' (e + 1) = true from (by simp [xsame, *])] <;> rfl)
                        | (rw [show xsame X t t' (e + 1) = false from (by simp [xsame, *])] <;> rfl)
                  · first
                    | exfalso; omega
                    | skip
                      refine kw_icon x_M_likes_53 ?_
                      refine kw_goto x_M_likes_54 ?_
                      refine kw_ist x_M_likes_58 (by decide) ?_
                      first | refine kw_iinc_n x_M_likes_60 (by decide) rfl ?_ | refine kw_iinc x_M_likes_60 (by decide) rfl ?_
                      refine kw_goto x_M_likes_63 ?_
                      refine ih' (e + 1) _ (by omega) ?_
                      first
                        | (rw [show xsame X t t' (e + 1) = true from (by simp [xsame, *])] <;> rfl)
                        | (rw [show xsame X t t' (e + 1) = false from (by simp [xsame, *])] <;> rfl)
      refine kw_ild_n x_M_likes_4 rfl ?_
      refine kw_ald_n x_M_likes_5 rfl ?_
      refine kw_gr x_M_likes_6 (by exact isM_k hM) (by exact isM_r0 hM) ?_
      refine kw_icon x_M_likes_9 ?_
      refine kw_iald_n x_M_likes_10 (by first | exact isM_a1 hM | exact isM_a2 hM | exact isM_a3 hM | exact isM_a4 hM | exact isM_a5 hM | exact isM_a6 hM | exact isM_a7 hM | exact isM_a8 hM | exact isM_a10 hM | exact isM_a11 hM) (by omega) (by omega) (by first | exact hE.1 | exact hE.2.1 | exact hE.2.2.1 | exact hS _ (by omega) | exact rfl) ?_
      first | refine kw_ic_ge_n x_M_likes_11 ⟨by omega, by omega⟩ (fun h11 => ?_) (fun h11 => ?_) | refine kw_ic_ge x_M_likes_11 (fun h11 => ?_) (fun h11 => ?_)
      · first
        | exfalso; omega
        | skip
          skip
      · first
        | exfalso; omega
        | skip
          refine kw_icon x_M_likes_14 ?_
          refine kw_ist x_M_likes_15 (by decide) ?_
          refine kw_icon x_M_likes_17 ?_
          refine kw_ist x_M_likes_18 (by decide) ?_
          exact inner (xn X) 0 _ (by omega) rfl
  refine kw_icon x_M_likes_0 ?_
  refine kw_ist_n x_M_likes_1 (by decide) ?_
  refine kw_icon x_M_likes_2 ?_
  refine kw_ist_n x_M_likes_3 (by decide) ?_
  exact outer (xT X) 0 _ _ (by omega)
end MC
