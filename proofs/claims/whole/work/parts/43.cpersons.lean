/-! the class: the persons of a set of orders -/
def xany (f : Nat → Bool) : Nat → Bool
  | 0 => false
  | n + 1 => xany f n || f n
theorem xany_f {f : Nat → Bool} : ∀ {n : Nat}, xany f n = false → ∀ e, e < n → f e = false
  | 0, _, e, he => absurd he (Nat.not_lt_zero e)
  | n + 1, h, e, he => by
    have h1 : (xany f n || f n) = false := h
    rw [Bool.or_eq_false_iff] at h1
    by_cases hen : e = n
    · rw [hen]; exact h1.2
    · exact xany_f h1.1 e (by omega)
theorem xany_0 {f : Nat → Bool} : ∀ {n : Nat}, (∀ e, e < n → f e = false) → xany f n = false
  | 0, _ => rfl
  | n + 1, h => by
    show (xany f n || f n) = false
    rw [xany_0 (fun e he => h e (by omega)), h n (by omega)]
    rfl
theorem kS_any (f : Nat → Bool) : kS f = nJ 0 ↔ xany f 60 = false := by
  rw [kS_0, kS_eq]
  exact ⟨fun h => xany_0 h, fun h e he => xany_f h e he⟩
def xpin (X : kt_X) (K : Nat → Bool) (p : Nat) : Bool := xany (fun e => K e && (decide (e < xn X) && decide (kt_cd 5 (xe X e 5) = nI p))) 60
section CE
variable {P : kt_P} {N : Nat} {I : kt_I} {J : kt_J} {R : kt_R} {Q : Option Value → kt_I → kt_J → kt_R → Prop} {lo c : Nat} {X : kt_X}
theorem s_E_personsIn (hC : kt_isC P N R lo c) (hV : kt_V c X I) (hW : kt_wf X) {K : Nat → Bool} (k : Q (some (.int (nI (xct (xpin X K) 10)))) I J R) : KW P i_E_personsIn N 0 [some (.ref (c + 4)), some (.long (kS K)), none, none, none] [] N I J R Q := by
  have loop : ∀ (d e s : Nat), e + d = 10 → s = xct (xpin X K) e → KW P i_E_personsIn N 5 [some (.ref (c + 4)), some (.long (kS K)), none, some (.int (nI s)), some (.int (nI e))] [] N I J R Q := by
    intro d
    induction d with
    | zero =>
      intro e s h1 h2
      have h3 : e = 10 := by omega
      subst h3; subst h2
      refine kw_ild x_E_personsIn_5 rfl ?_
      refine kw_bip x_E_personsIn_7 ?_
      first | refine kw_ic_ge_n x_E_personsIn_9 ⟨by omega, by omega⟩ (fun h9 => ?_) (fun h9 => ?_) | refine kw_ic_ge x_E_personsIn_9 (fun h9 => ?_) (fun h9 => ?_)
      · first
        | exfalso; omega
        | skip
          refine kw_ild_n x_E_personsIn_38 rfl ?_
          refine kw_iret x_E_personsIn_39 ?_
          exact k
      · first
        | exfalso; omega
        | skip
          skip
    | succ d ih =>
      intro e s h1 h2
      refine kw_ild x_E_personsIn_5 rfl ?_
      refine kw_bip x_E_personsIn_7 ?_
      first | refine kw_ic_ge_n x_E_personsIn_9 ⟨by omega, by omega⟩ (fun h9 => ?_) (fun h9 => ?_) | refine kw_ic_ge x_E_personsIn_9 (fun h9 => ?_) (fun h9 => ?_)
      · first
        | exfalso; omega
        | skip
          skip
      · first
        | exfalso; omega
        | skip
          refine kw_lld_n x_E_personsIn_12 rfl ?_
          refine kw_ald_n x_E_personsIn_13 rfl ?_
          refine kw_ald_n x_E_personsIn_14 rfl ?_
          refine kw_gr x_E_personsIn_15 (by exact isE_k hC) (by exact isE_r6 hC) ?_
          refine kw_ild x_E_personsIn_18 rfl ?_
          refine c_E_personsIn_20 (by exact isE_k hC) (Nat.le_of_ble_eq_true rfl) ?_
          refine s_E_having hC hV hW (f := 5) (by decide) ?_
          refine kw_land x_E_personsIn_23 ?_
          rw [kS_and]
          refine kw_lconst x_E_personsIn_24 ?_
          rw [show (0 : Int64) = nJ 0 from rfl]
          refine kw_lcmp x_E_personsIn_25 ?_
          first | refine kw_if_eq_b x_E_personsIn_26 (fun h26 => ?_) (fun h26 => ?_) | refine kw_if_eq_n x_E_personsIn_26 (by omega) (fun h26 => ?_) (fun h26 => ?_) | refine kw_if_eq x_E_personsIn_26 (fun h26 => ?_) (fun h26 => ?_)
          · first
            | exfalso; omega
            | skip
              first | refine kw_iinc_n x_E_personsIn_32 (by decide) rfl ?_ | refine kw_iinc x_E_personsIn_32 (by decide) rfl ?_
              refine kw_goto x_E_personsIn_35 ?_
              refine ih (e + 1) _ (by omega) ?_
              rw [h2]
              first
                | (have hp : xpin X K e = false := (kS_any _).mp (kt_lg0.mp h26)
                   simp [xct, hp]; done)
                | (have hp : xpin X K e = true := (by
                     cases hq : xpin X K e with
                     | true => rfl
                     | false => exact absurd (kt_lg0.mpr ((kS_any _).mpr hq)) h26)
                   simp [xct, hp]; done)
          · first
            | exfalso; omega
            | skip
              first | refine kw_iinc_n x_E_personsIn_29 (by decide) rfl ?_ | refine kw_iinc x_E_personsIn_29 (by decide) rfl ?_
              first | refine kw_iinc_n x_E_personsIn_32 (by decide) rfl ?_ | refine kw_iinc x_E_personsIn_32 (by decide) rfl ?_
              refine kw_goto x_E_personsIn_35 ?_
              refine ih (e + 1) _ (by omega) ?_
              rw [h2]
              first
                | (have hp : xpin X K e = false := (kS_any _).mp (kt_lg0.mp h26)
                   simp [xct, hp]; done)
                | (have hp : xpin X K e = true := (by
                     cases hq : xpin X K e with
                     | true => rfl
                     | false => exact absurd (kt_lg0.mpr ((kS_any _).mpr hq)) h26)
                   simp [xct, hp]; done)
  refine kw_icon x_E_personsIn_0 ?_
  refine kw_ist_n x_E_personsIn_1 (by decide) ?_
  refine kw_icon x_E_personsIn_2 ?_
  refine kw_ist x_E_personsIn_3 (by decide) ?_
  exact loop 10 0 0 (by omega) rfl
end CE
