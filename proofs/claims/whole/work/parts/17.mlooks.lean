/-! the reference: the orders of a good are looked at, one after another -/
def kt_sc (s : Nat) : Int32 := if s = 3 then -4 else nI s
theorem kt_sc4 : ∀ s, s < 4 → (kt_sc s = -4 ↔ s = 3) := by decide +kernel
theorem kt_sc_n {s : Nat} (h : s < 3) : kt_sc s = nI s := by unfold kt_sc; rw [if_neg (by omega)]
def kt_on (o : Option Nat) : Int32 := match o with
  | none => -4
  | some p => nI p
def xup {α : Type} (f : Nat → α) (k : Nat) (v : α) : Nat → α := fun j => if j = k then v else f j
theorem xup_eq {α : Type} (f : Nat → α) (k : Nat) (v : α) : xup f k v k = v := by simp [xup]
theorem xup_ne {α : Type} (f : Nat → α) {k j : Nat} (v : α) (h : j ≠ k) : xup f k v j = f j := by simp [xup, h]
/-- what is left of the stock, what each person was given, what is thought of each order (0 accepted, 1 refused, 2 cancelled, 3 nothing yet), how many were looked at, and which -/
abbrev kt_σ : Type := Nat × (Nat → Nat) × (Nat → Nat) × Nat × (Nat → Nat)
def xop (X : kt_X) (t g : Nat) (st : Nat → Nat) (e : Nat) : Bool := decide (st e = 3) && decide (xe X e 0 = 1) && decide (xe X e 3 = g) && xk X t e
def xpk (X : kt_X) (t g : Nat) (G : Nat → Nat) (st : Nat → Nat) : Nat → Option Nat
  | 0 => none
  | e + 1 => if xop X t g st e = true then (match xpk X t g G st e with
      | none => some e
      | some p => if xky X G e < xky X G p then some e else some p) else xpk X t g G st e
theorem xpk_some {X : kt_X} {t g : Nat} {G st : Nat → Nat} : ∀ {n p : Nat}, xpk X t g G st n = some p → p < n ∧ xop X t g st p = true
  | 0, p, h => by cases h
  | n + 1, p, h => by
    unfold xpk at h
    by_cases ho : xop X t g st n = true
    · rw [if_pos ho] at h
      cases hq : xpk X t g G st n with
      | none =>
        rw [hq] at h
        cases h
        exact ⟨Nat.lt_succ_self _, ho⟩
      | some q =>
        rw [hq] at h
        simp only at h
        have hr := xpk_some hq
        by_cases hk : xky X G n < xky X G q
        · rw [if_pos hk] at h
          cases h
          exact ⟨Nat.lt_succ_self _, ho⟩
        · rw [if_neg hk] at h
          cases h
          exact ⟨by omega, hr.2⟩
    · rw [if_neg ho] at h
      have hr := xpk_some h
      exact ⟨by omega, hr.2⟩
theorem xpk_none {X : kt_X} {t g : Nat} {G st : Nat → Nat} : ∀ {n : Nat}, xpk X t g G st n = none → ∀ e, e < n → xop X t g st e = false
  | 0, _, e, he => absurd he (Nat.not_lt_zero e)
  | n + 1, h, e, he => by
    unfold xpk at h
    by_cases ho : xop X t g st n = true
    · rw [if_pos ho] at h
      cases hq : xpk X t g G st n with
      | none => rw [hq] at h; cases h
      | some q =>
        rw [hq] at h
        simp only at h
        by_cases hk : xky X G n < xky X G q
        · rw [if_pos hk] at h; cases h
        · rw [if_neg hk] at h; cases h
    · rw [if_neg ho] at h
      by_cases hen : e = n
      · subst hen
        cases hx : xop X t g st e
        · rfl
        · exact absurd hx ho
      · exact xpk_none h e (by omega)
/-- what is looked at next has the lowest number of all that are open -/
theorem xpk_low {X : kt_X} {t g : Nat} {G st : Nat → Nat} : ∀ {n p : Nat}, xpk X t g G st n = some p → ∀ e, e < n → xop X t g st e = true → xky X G p ≤ xky X G e
  | 0, p, h, e, he, _ => absurd he (Nat.not_lt_zero e)
  | n + 1, p, h, e, he, hoe => by
    unfold xpk at h
    by_cases ho : xop X t g st n = true
    · rw [if_pos ho] at h
      cases hq : xpk X t g G st n with
      | none =>
        rw [hq] at h
        cases h
        by_cases hen : e = n
        · subst hen; exact Nat.le_refl _
        · have := xpk_none hq e (by omega)
          rw [hoe] at this; cases this
      | some q =>
        rw [hq] at h
        simp only at h
        have hr := fun he' => xpk_low hq e he' hoe
        by_cases hk : xky X G n < xky X G q
        · rw [if_pos hk] at h
          cases h
          by_cases hen : e = n
          · subst hen; exact Nat.le_refl _
          · have := hr (by omega)
            omega
        · rw [if_neg hk] at h
          cases h
          by_cases hen : e = n
          · subst hen; omega
          · exact hr (by omega)
    · rw [if_neg ho] at h
      by_cases hen : e = n
      · subst hen; exact absurd hoe ho
      · exact xpk_low h e (by omega) hoe
def xct (f : Nat → Bool) : Nat → Nat
  | 0 => 0
  | e + 1 => xct f e + (if f e = true then 1 else 0)
theorem xct_le (f : Nat → Bool) : ∀ n, xct f n ≤ n
  | 0 => Nat.le_refl _
  | n + 1 => by
    have := xct_le f n
    unfold xct
    by_cases h : f n = true
    · rw [if_pos h]; omega
    · rw [if_neg h]; omega
theorem xct_cong {f g : Nat → Bool} : ∀ {n : Nat}, (∀ e, e < n → f e = g e) → xct f n = xct g n
  | 0, _ => rfl
  | n + 1, h => by
    unfold xct
    rw [xct_cong (fun e he => h e (by omega)), h n (by omega)]
theorem xct_drop {f g : Nat → Bool} {p : Nat} : ∀ {n : Nat}, p < n → f p = true → g p = false → (∀ e, e ≠ p → g e = f e) → xct g n + 1 = xct f n
  | 0, h, _, _, _ => absurd h (Nat.not_lt_zero p)
  | n + 1, h, h1, h2, h3 => by
    unfold xct
    by_cases hp : p = n
    · subst hp
      rw [h1, h2, xct_cong (n := p) (fun e he => h3 e (by omega))]
      simp
    · have := xct_drop (n := n) (by omega) h1 h2 h3
      rw [h3 n (by omega)]
      omega
theorem xct_pos {f : Nat → Bool} {p : Nat} : ∀ {n : Nat}, p < n → f p = true → 0 < xct f n
  | 0, h, _ => absurd h (Nat.not_lt_zero p)
  | n + 1, h, h1 => by
    unfold xct
    by_cases hp : p = n
    · subst hp; rw [h1]; simp
    · have := xct_pos (n := n) (by omega) h1
      omega
def xsp (X : kt_X) (s : kt_σ) (p : Nat) : kt_σ :=
  if xe X p 4 ≤ s.1 then (s.1 - xe X p 4, xup s.2.1 (xe X p 5 - 1) (s.2.1 (xe X p 5 - 1) + xe X p 4), xup s.2.2.1 p 0, s.2.2.2.1 + 1, xup s.2.2.2.2 s.2.2.2.1 p)
  else (s.1, s.2.1, xup s.2.2.1 p 1, s.2.2.2.1 + 1, xup s.2.2.2.2 s.2.2.2.1 p)
def xlk (X : kt_X) (t g : Nat) : Nat → kt_σ → kt_σ
  | 0, s => s
  | k + 1, s => match xpk X t g s.2.1 s.2.2.1 (xn X) with
    | none => s
    | some p => xlk X t g k (xsp X s p)
/-- the reference's memory says it -/
def kt_le (m n : Nat) (s : kt_σ) (I : kt_I) : Prop := (∀ e, e < n → I (m + 6) e = kt_sc (s.2.2.1 e)) ∧ (∀ p, p < 10 → I (m + 8) p = nI (s.2.1 p)) ∧ I m 10 = nI s.2.2.2.1 ∧ ∀ j, j < s.2.2.2.1 → I (m + 7) j = nI (s.2.2.2.2 j)
/-- what keeps it in bounds -/
def kt_lw (X : kt_X) (t g : Nat) (s : kt_σ) : Prop := (∀ e, s.2.2.1 e < 4) ∧ (∀ p, s.2.1 p + s.1 ≤ 6000) ∧ s.2.2.2.1 + xct (xop X t g s.2.2.1) (xn X) ≤ xn X
/-- only the rows that looking uses have changed -/
def kt_lm (m : Nat) (I I' : kt_I) : Prop := (∀ a, a ≠ m → a ≠ m + 6 → a ≠ m + 7 → a ≠ m + 8 → I' a = I a) ∧ ∀ j, j ≠ 10 → I' m j = I m j
theorem kt_lm.rf {m : Nat} {I : kt_I} : kt_lm m I I := ⟨fun _ _ _ _ _ => rfl, fun _ _ => rfl⟩
theorem kt_lm.tr {m : Nat} {I I' I'' : kt_I} (h : kt_lm m I I') (h' : kt_lm m I' I'') : kt_lm m I I'' := ⟨fun a h1 h2 h3 h4 => (h'.1 a h1 h2 h3 h4).trans (h.1 a h1 h2 h3 h4), fun j hj => (h'.2 j hj).trans (h.2 j hj)⟩
theorem kt_lm.enc {m : Nat} {I I' : kt_I} {X : kt_X} (h : kt_lm m I I') (hE : kt_enc (I (m + 1)) X) : kt_enc (I' (m + 1)) X := by rw [h.1 (m + 1) (by omega) (by omega) (by omega) (by omega)]; exact hE
theorem kt_eu {m a j : Nat} {x : Int32} {I : kt_I} {X : kt_X} (hE : kt_enc (I (m + 1)) X) (h : m + 1 ≠ a) : kt_enc (kt_u1 I a j x (m + 1)) X := by rw [kt_u1_ne I j x h]; exact hE
section KS
variable {P : kt_P} {i NM pc pc' : Nat} {L : List (Option Value)} {st : List Value} {N : Nat} {I : kt_I} {J : kt_J} {R : kt_R} {Q : Option Value → kt_I → kt_J → kt_R → Prop}
theorem kw_ic_ne_c {s tgt : Nat} (hd : kt_dj i pc (.if_icmp .ne) tgt pc') (hs : s < 4) (k1 : s ≠ 3 → KW P i NM tgt L st N I J R Q) (k2 : s = 3 → KW P i NM pc' L st N I J R Q) : KW P i NM pc L (.int (-4) :: .int (kt_sc s) :: st) N I J R Q :=
  kw_ic_ne hd (fun h => k1 fun q => h ((kt_sc4 s hs).mpr q)) (fun h => k2 ((kt_sc4 s hs).mp h))
end KS
section MK
variable {P : kt_P} {N : Nat} {I : kt_I} {J : kt_J} {R : kt_R} {Q : Option Value → kt_I → kt_J → kt_R → Prop} {m : Nat} {X : kt_X}

theorem s_M_looks_in (hM : kt_isM P N R m) (hE : kt_enc (I (m + 1)) X) (hW : kt_wf X) {t g le : Nat} {G s : Nat → Nat} (ht : t ≤ 5) (hg : g < 6) (hS : ∀ e, e < xn X → I (m + 6) e = kt_sc (s e)) (hs4 : ∀ e, s e < 4) (hG : ∀ p, p < 10 → I (m + 8) p = nI (G p)) (hG2 : ∀ p, p < 10 → G p < 10000)
    (k : ∀ v5 v6, KW P i_M_looks N 149 [some (.ref m), some (.int (nI t)), some (.int (nI g)), some (.int (nI le)), some (.int (kt_on (xpk X t g G s (xn X)))), v5, v6] [] N I J R Q) :
    ∀ (d e : Nat) (v4 : Int32) (v6 : Option Value), e + d = xn X → v4 = kt_on (xpk X t g G s e) → KW P i_M_looks N 51 [some (.ref m), some (.int (nI t)), some (.int (nI g)), some (.int (nI le)), some (.int v4), some (.int (nI e)), v6] [] N I J R Q := by
  have hn := hW.2.2.1
  intro d
  induction d with
  | zero =>
    intro e v4 v6 h1 h2
    have h3 : e = xn X := by omega
    subst h3; subst h2
    refine kw_ild x_M_looks_51 rfl ?_
    refine kw_ald_n x_M_looks_53 rfl ?_
    refine kw_gr x_M_looks_54 (by exact isM_k hM) (by exact isM_r0 hM) ?_
    refine kw_icon x_M_looks_57 ?_
    refine kw_iald_n x_M_looks_58 (by first | exact isM_a1 hM | exact isM_a2 hM | exact isM_a3 hM | exact isM_a4 hM | exact isM_a5 hM | exact isM_a6 hM | exact isM_a7 hM | exact isM_a8 hM | exact isM_a10 hM | exact isM_a11 hM) (by omega) (by omega) (by first | exact hE.1 | exact hE.2.1 | exact hE.2.2.1 | exact hS _ (by omega) | exact rfl) ?_
    first | refine kw_ic_ge_n x_M_looks_59 ⟨by omega, by omega⟩ (fun h59 => ?_) (fun h59 => ?_) | refine kw_ic_ge x_M_looks_59 (fun h59 => ?_) (fun h59 => ?_)
    · first
      | exfalso; omega
      | skip
        exact k _ _
    · first
      | exfalso; omega
      | skip
        skip
  | succ d ih =>
    intro e v4 v6 h1 h2
    have hx := hW.2.2.2.2.2.1 e (by omega)
    have hx0 := hx.1
    have hx3 := hx.2.2.2.1
    cases hp : xpk X t g G s e with
    | none =>
      rw [hp] at h2
      subst h2
      refine kw_ild x_M_looks_51 rfl ?_
      refine kw_ald_n x_M_looks_53 rfl ?_
      refine kw_gr x_M_looks_54 (by exact isM_k hM) (by exact isM_r0 hM) ?_
      refine kw_icon x_M_looks_57 ?_
      refine kw_iald_n x_M_looks_58 (by first | exact isM_a1 hM | exact isM_a2 hM | exact isM_a3 hM | exact isM_a4 hM | exact isM_a5 hM | exact isM_a6 hM | exact isM_a7 hM | exact isM_a8 hM | exact isM_a10 hM | exact isM_a11 hM) (by omega) (by omega) (by first | exact hE.1 | exact hE.2.1 | exact hE.2.2.1 | exact hS _ (by omega) | exact rfl) ?_
      first | refine kw_ic_ge_n x_M_looks_59 ⟨by omega, by omega⟩ (fun h59 => ?_) (fun h59 => ?_) | refine kw_ic_ge x_M_looks_59 (fun h59 => ?_) (fun h59 => ?_)
      · first
        | exfalso; first | omega | (revert h120; decide)
        | skip
          skip
      · first
        | exfalso; first | omega | (revert h120; decide)
        | skip
          refine kw_ald_n x_M_looks_62 rfl ?_
          refine kw_gr x_M_looks_63 (by exact isM_k hM) (by exact isM_r8 hM) ?_
          refine kw_ild x_M_looks_66 rfl ?_
          refine kw_iald_n x_M_looks_68 (by first | exact isM_a1 hM | exact isM_a2 hM | exact isM_a3 hM | exact isM_a4 hM | exact isM_a5 hM | exact isM_a6 hM | exact isM_a7 hM | exact isM_a8 hM | exact isM_a10 hM | exact isM_a11 hM) (by omega) (by omega) (by first | exact hE.1 | exact hE.2.1 | exact hE.2.2.1 | exact hS _ (by omega) | exact rfl) ?_
          refine kw_bip x_M_looks_69 ?_
          first | refine kw_ic_ne_c x_M_looks_71 (hs4 _) (fun h71 => ?_) (fun h71 => ?_) | refine kw_ic_ne_n x_M_looks_71 ⟨by omega, by omega⟩ (fun h71 => ?_) (fun h71 => ?_) | refine kw_ic_ne x_M_looks_71 (fun h71 => ?_) (fun h71 => ?_)
          · first
            | exfalso; first | omega | (revert h120; decide)
            | skip
              refine kw_icon x_M_looks_110 ?_
              refine kw_ist x_M_looks_111 (by decide) ?_
              refine kw_ild x_M_looks_113 rfl ?_
              first | refine kw_if_eq_b x_M_looks_115 (fun h115 => ?_) (fun h115 => ?_) | refine kw_if_eq_n x_M_looks_115 (by omega) (fun h115 => ?_) (fun h115 => ?_) | refine kw_if_eq x_M_looks_115 (fun h115 => ?_) (fun h115 => ?_)
              · first
                | exfalso; first | omega | (revert h120; decide)
                | skip
                  refine kw_ild x_M_looks_139 rfl ?_
                  refine kw_ist x_M_looks_141 (by decide) ?_
                  first | refine kw_iinc_n x_M_looks_143 (by decide) rfl ?_ | refine kw_iinc x_M_looks_143 (by decide) rfl ?_
                  refine kw_goto x_M_looks_146 ?_
                  refine ih (e + 1) _ _ (by omega) ?_
                  first
                    | (rw [show xpk X t g G s (e + 1) = none from (by simp [xpk, xop, *]; done)] <;> rfl)
                    | (rw [show xpk X t g G s (e + 1) = some e from (by simp [xpk, xop, *]; done)] <;> rfl)
              · first
                | exfalso; first | omega | (revert h120; decide)
                | skip
                  refine kw_ild x_M_looks_118 rfl ?_
                  first | refine kw_if_lt_s x_M_looks_120 ⟨by omega, by omega⟩ (fun h120 => ?_) (fun h120 => ?_) | refine kw_if_lt_n x_M_looks_120 (by omega) (fun h120 => ?_) (fun h120 => ?_) | refine kw_if_lt x_M_looks_120 (fun h120 => ?_) (fun h120 => ?_)
                  · first
                    | exfalso; first | omega | (revert h120; decide)
                    | skip
                      refine kw_ild x_M_looks_134 rfl ?_
                      refine kw_goto x_M_looks_136 ?_
                      refine kw_ist x_M_looks_141 (by decide) ?_
                      first | refine kw_iinc_n x_M_looks_143 (by decide) rfl ?_ | refine kw_iinc x_M_looks_143 (by decide) rfl ?_
                      refine kw_goto x_M_looks_146 ?_
                      refine ih (e + 1) _ _ (by omega) ?_
                      first
                        | (rw [show xpk X t g G s (e + 1) = none from (by simp [xpk, xop, *]; done)] <;> rfl)
                        | (rw [show xpk X t g G s (e + 1) = some e from (by simp [xpk, xop, *]; done)] <;> rfl)
                  · first
                    | exfalso; first | omega | (revert h120; decide)
                    | skip
                      refine kw_ald_n x_M_looks_123 rfl ?_
                      refine kw_ild x_M_looks_124 rfl ?_
                      refine kw_ild x_M_looks_126 rfl ?_
                      refine c_M_looks_128 (by exact isM_k hM) (Nat.le_of_ble_eq_true rfl) ?_
                      refine s_M_isAhead hM hE hW hG hG2 (by omega) (by omega) (by omega) (by omega) ?_
                      first | refine kw_if_eq_b x_M_looks_131 (fun h131 => ?_) (fun h131 => ?_) | refine kw_if_eq_n x_M_looks_131 (by omega) (fun h131 => ?_) (fun h131 => ?_) | refine kw_if_eq x_M_looks_131 (fun h131 => ?_) (fun h131 => ?_)
                      · first
                        | exfalso; first | omega | (revert h120; decide)
                        | skip
                          refine kw_ild x_M_looks_139 rfl ?_
                          refine kw_ist x_M_looks_141 (by decide) ?_
                          first | refine kw_iinc_n x_M_looks_143 (by decide) rfl ?_ | refine kw_iinc x_M_looks_143 (by decide) rfl ?_
                          refine kw_goto x_M_looks_146 ?_
                          refine ih (e + 1) _ _ (by omega) ?_
                          first
                            | (rw [show xpk X t g G s (e + 1) = none from (by simp [xpk, xop, *]; done)] <;> rfl)
                            | (rw [show xpk X t g G s (e + 1) = some e from (by simp [xpk, xop, *]; done)] <;> rfl)
                      · first
                        | exfalso; first | omega | (revert h120; decide)
                        | skip
                          refine kw_ild x_M_looks_134 rfl ?_
                          refine kw_goto x_M_looks_136 ?_
                          refine kw_ist x_M_looks_141 (by decide) ?_
                          first | refine kw_iinc_n x_M_looks_143 (by decide) rfl ?_ | refine kw_iinc x_M_looks_143 (by decide) rfl ?_
                          refine kw_goto x_M_looks_146 ?_
                          refine ih (e + 1) _ _ (by omega) ?_
                          first
                            | (rw [show xpk X t g G s (e + 1) = none from (by simp [xpk, xop, *]; done)] <;> rfl)
                            | (rw [show xpk X t g G s (e + 1) = some e from (by simp [xpk, xop, *]; done)] <;> rfl)
          · first
            | exfalso; first | omega | (revert h120; decide)
            | skip
              refine kw_ald_n x_M_looks_74 rfl ?_
              refine kw_ild x_M_looks_75 rfl ?_
              refine kw_icon x_M_looks_77 ?_
              refine c_M_looks_78 (by exact isM_k hM) (Nat.le_of_ble_eq_true rfl) ?_
              first | refine s_M_ofn hM hE hn (by omega) (by decide) ?_ | refine s_M_of5 hM hE hn (by omega) (by omega) ?_ | refine s_M_of6 hM hE hn (by omega) (by omega) ?_
              refine kw_icon x_M_looks_81 ?_
              first | refine kw_ic_ne_c x_M_looks_82 (hs4 _) (fun h82 => ?_) (fun h82 => ?_) | refine kw_ic_ne_n x_M_looks_82 ⟨by omega, by omega⟩ (fun h82 => ?_) (fun h82 => ?_) | refine kw_ic_ne x_M_looks_82 (fun h82 => ?_) (fun h82 => ?_)
              · first
                | exfalso; first | omega | (revert h120; decide)
                | skip
                  refine kw_icon x_M_looks_110 ?_
                  refine kw_ist x_M_looks_111 (by decide) ?_
                  refine kw_ild x_M_looks_113 rfl ?_
                  first | refine kw_if_eq_b x_M_looks_115 (fun h115 => ?_) (fun h115 => ?_) | refine kw_if_eq_n x_M_looks_115 (by omega) (fun h115 => ?_) (fun h115 => ?_) | refine kw_if_eq x_M_looks_115 (fun h115 => ?_) (fun h115 => ?_)
                  · first
                    | exfalso; first | omega | (revert h120; decide)
                    | skip
                      refine kw_ild x_M_looks_139 rfl ?_
                      refine kw_ist x_M_looks_141 (by decide) ?_
                      first | refine kw_iinc_n x_M_looks_143 (by decide) rfl ?_ | refine kw_iinc x_M_looks_143 (by decide) rfl ?_
                      refine kw_goto x_M_looks_146 ?_
                      refine ih (e + 1) _ _ (by omega) ?_
                      first
                        | (rw [show xpk X t g G s (e + 1) = none from (by simp [xpk, xop, *]; done)] <;> rfl)
                        | (rw [show xpk X t g G s (e + 1) = some e from (by simp [xpk, xop, *]; done)] <;> rfl)
                  · first
                    | exfalso; first | omega | (revert h120; decide)
                    | skip
                      refine kw_ild x_M_looks_118 rfl ?_
                      first | refine kw_if_lt_s x_M_looks_120 ⟨by omega, by omega⟩ (fun h120 => ?_) (fun h120 => ?_) | refine kw_if_lt_n x_M_looks_120 (by omega) (fun h120 => ?_) (fun h120 => ?_) | refine kw_if_lt x_M_looks_120 (fun h120 => ?_) (fun h120 => ?_)
                      · first
                        | exfalso; first | omega | (revert h120; decide)
                        | skip
                          refine kw_ild x_M_looks_134 rfl ?_
                          refine kw_goto x_M_looks_136 ?_
                          refine kw_ist x_M_looks_141 (by decide) ?_
                          first | refine kw_iinc_n x_M_looks_143 (by decide) rfl ?_ | refine kw_iinc x_M_looks_143 (by decide) rfl ?_
                          refine kw_goto x_M_looks_146 ?_
                          refine ih (e + 1) _ _ (by omega) ?_
                          first
                            | (rw [show xpk X t g G s (e + 1) = none from (by simp [xpk, xop, *]; done)] <;> rfl)
                            | (rw [show xpk X t g G s (e + 1) = some e from (by simp [xpk, xop, *]; done)] <;> rfl)
                      · first
                        | exfalso; first | omega | (revert h120; decide)
                        | skip
                          refine kw_ald_n x_M_looks_123 rfl ?_
                          refine kw_ild x_M_looks_124 rfl ?_
                          refine kw_ild x_M_looks_126 rfl ?_
                          refine c_M_looks_128 (by exact isM_k hM) (Nat.le_of_ble_eq_true rfl) ?_
                          refine s_M_isAhead hM hE hW hG hG2 (by omega) (by omega) (by omega) (by omega) ?_
                          first | refine kw_if_eq_b x_M_looks_131 (fun h131 => ?_) (fun h131 => ?_) | refine kw_if_eq_n x_M_looks_131 (by omega) (fun h131 => ?_) (fun h131 => ?_) | refine kw_if_eq x_M_looks_131 (fun h131 => ?_) (fun h131 => ?_)
                          · first
                            | exfalso; first | omega | (revert h120; decide)
                            | skip
                              refine kw_ild x_M_looks_139 rfl ?_
                              refine kw_ist x_M_looks_141 (by decide) ?_
                              first | refine kw_iinc_n x_M_looks_143 (by decide) rfl ?_ | refine kw_iinc x_M_looks_143 (by decide) rfl ?_
                              refine kw_goto x_M_looks_146 ?_
                              refine ih (e + 1) _ _ (by omega) ?_
                              first
                                | (rw [show xpk X t g G s (e + 1) = none from (by simp [xpk, xop, *]; done)] <;> rfl)
                                | (rw [show xpk X t g G s (e + 1) = some e from (by simp [xpk, xop, *]; done)] <;> rfl)
                          · first
                            | exfalso; first | omega | (revert h120; decide)
                            | skip
                              refine kw_ild x_M_looks_134 rfl ?_
                              refine kw_goto x_M_looks_136 ?_
                              refine kw_ist x_M_looks_141 (by decide) ?_
                              first | refine kw_iinc_n x_M_looks_143 (by decide) rfl ?_ | refine kw_iinc x_M_looks_143 (by decide) rfl ?_
                              refine kw_goto x_M_looks_146 ?_
                              refine ih (e + 1) _ _ (by omega) ?_
                              first
                                | (rw [show xpk X t g G s (e + 1) = none from (by simp [xpk, xop, *]; done)] <;> rfl)
                                | (rw [show xpk X t g G s (e + 1) = some e from (by simp [xpk, xop, *]; done)] <;> rfl)
              · first
                | exfalso; first | omega | (revert h120; decide)
                | skip
                  refine kw_ald_n x_M_looks_85 rfl ?_
                  refine kw_ild x_M_looks_86 rfl ?_
                  refine kw_icon x_M_looks_88 ?_
                  refine c_M_looks_89 (by exact isM_k hM) (Nat.le_of_ble_eq_true rfl) ?_
                  first | refine s_M_ofn hM hE hn (by omega) (by decide) ?_ | refine s_M_of5 hM hE hn (by omega) (by omega) ?_ | refine s_M_of6 hM hE hn (by omega) (by omega) ?_
                  refine kw_ild_n x_M_looks_92 rfl ?_
                  first | refine kw_ic_ne_c x_M_looks_93 (hs4 _) (fun h93 => ?_) (fun h93 => ?_) | refine kw_ic_ne_n x_M_looks_93 ⟨by omega, by omega⟩ (fun h93 => ?_) (fun h93 => ?_) | refine kw_ic_ne x_M_looks_93 (fun h93 => ?_) (fun h93 => ?_)
                  · first
                    | exfalso; first | omega | (revert h120; decide)
                    | skip
                      refine kw_icon x_M_looks_110 ?_
                      refine kw_ist x_M_looks_111 (by decide) ?_
                      refine kw_ild x_M_looks_113 rfl ?_
                      first | refine kw_if_eq_b x_M_looks_115 (fun h115 => ?_) (fun h115 => ?_) | refine kw_if_eq_n x_M_looks_115 (by omega) (fun h115 => ?_) (fun h115 => ?_) | refine kw_if_eq x_M_looks_115 (fun h115 => ?_) (fun h115 => ?_)
                      · first
                        | exfalso; first | omega | (revert h120; decide)
                        | skip
                          refine kw_ild x_M_looks_139 rfl ?_
                          refine kw_ist x_M_looks_141 (by decide) ?_
                          first | refine kw_iinc_n x_M_looks_143 (by decide) rfl ?_ | refine kw_iinc x_M_looks_143 (by decide) rfl ?_
                          refine kw_goto x_M_looks_146 ?_
                          refine ih (e + 1) _ _ (by omega) ?_
                          first
                            | (rw [show xpk X t g G s (e + 1) = none from (by simp [xpk, xop, *]; done)] <;> rfl)
                            | (rw [show xpk X t g G s (e + 1) = some e from (by simp [xpk, xop, *]; done)] <;> rfl)
                      · first
                        | exfalso; first | omega | (revert h120; decide)
                        | skip
                          refine kw_ild x_M_looks_118 rfl ?_
                          first | refine kw_if_lt_s x_M_looks_120 ⟨by omega, by omega⟩ (fun h120 => ?_) (fun h120 => ?_) | refine kw_if_lt_n x_M_looks_120 (by omega) (fun h120 => ?_) (fun h120 => ?_) | refine kw_if_lt x_M_looks_120 (fun h120 => ?_) (fun h120 => ?_)
                          · first
                            | exfalso; first | omega | (revert h120; decide)
                            | skip
                              refine kw_ild x_M_looks_134 rfl ?_
                              refine kw_goto x_M_looks_136 ?_
                              refine kw_ist x_M_looks_141 (by decide) ?_
                              first | refine kw_iinc_n x_M_looks_143 (by decide) rfl ?_ | refine kw_iinc x_M_looks_143 (by decide) rfl ?_
                              refine kw_goto x_M_looks_146 ?_
                              refine ih (e + 1) _ _ (by omega) ?_
                              first
                                | (rw [show xpk X t g G s (e + 1) = none from (by simp [xpk, xop, *]; done)] <;> rfl)
                                | (rw [show xpk X t g G s (e + 1) = some e from (by simp [xpk, xop, *]; done)] <;> rfl)
                          · first
                            | exfalso; first | omega | (revert h120; decide)
                            | skip
                              refine kw_ald_n x_M_looks_123 rfl ?_
                              refine kw_ild x_M_looks_124 rfl ?_
                              refine kw_ild x_M_looks_126 rfl ?_
                              refine c_M_looks_128 (by exact isM_k hM) (Nat.le_of_ble_eq_true rfl) ?_
                              refine s_M_isAhead hM hE hW hG hG2 (by omega) (by omega) (by omega) (by omega) ?_
                              first | refine kw_if_eq_b x_M_looks_131 (fun h131 => ?_) (fun h131 => ?_) | refine kw_if_eq_n x_M_looks_131 (by omega) (fun h131 => ?_) (fun h131 => ?_) | refine kw_if_eq x_M_looks_131 (fun h131 => ?_) (fun h131 => ?_)
                              · first
                                | exfalso; first | omega | (revert h120; decide)
                                | skip
                                  refine kw_ild x_M_looks_139 rfl ?_
                                  refine kw_ist x_M_looks_141 (by decide) ?_
                                  first | refine kw_iinc_n x_M_looks_143 (by decide) rfl ?_ | refine kw_iinc x_M_looks_143 (by decide) rfl ?_
                                  refine kw_goto x_M_looks_146 ?_
                                  refine ih (e + 1) _ _ (by omega) ?_
                                  first
                                    | (rw [show xpk X t g G s (e + 1) = none from (by simp [xpk, xop, *]; done)] <;> rfl)
                                    | (rw [show xpk X t g G s (e + 1) = some e from (by simp [xpk, xop, *]; done)] <;> rfl)
                              · first
                                | exfalso; first | omega | (revert h120; decide)
                                | skip
                                  refine kw_ild x_M_looks_134 rfl ?_
                                  refine kw_goto x_M_looks_136 ?_
                                  refine kw_ist x_M_looks_141 (by decide) ?_
                                  first | refine kw_iinc_n x_M_looks_143 (by decide) rfl ?_ | refine kw_iinc x_M_looks_143 (by decide) rfl ?_
                                  refine kw_goto x_M_looks_146 ?_
                                  refine ih (e + 1) _ _ (by omega) ?_
                                  first
                                    | (rw [show xpk X t g G s (e + 1) = none from (by simp [xpk, xop, *]; done)] <;> rfl)
                                    | (rw [show xpk X t g G s (e + 1) = some e from (by simp [xpk, xop, *]; done)] <;> rfl)
                  · first
                    | exfalso; first | omega | (revert h120; decide)
                    | skip
                      refine kw_ald_n x_M_looks_96 rfl ?_
                      refine kw_ild_n x_M_looks_97 rfl ?_
                      refine kw_ild x_M_looks_98 rfl ?_
                      refine c_M_looks_100 (by exact isM_k hM) (Nat.le_of_ble_eq_true rfl) ?_
                      refine s_M_knows hM hE hW (by omega) (by omega) ?_
                      first | refine kw_if_eq_b x_M_looks_103 (fun h103 => ?_) (fun h103 => ?_) | refine kw_if_eq_n x_M_looks_103 (by omega) (fun h103 => ?_) (fun h103 => ?_) | refine kw_if_eq x_M_looks_103 (fun h103 => ?_) (fun h103 => ?_)
                      · first
                        | exfalso; first | omega | (revert h120; decide)
                        | skip
                          refine kw_icon x_M_looks_110 ?_
                          refine kw_ist x_M_looks_111 (by decide) ?_
                          refine kw_ild x_M_looks_113 rfl ?_
                          first | refine kw_if_eq_b x_M_looks_115 (fun h115 => ?_) (fun h115 => ?_) | refine kw_if_eq_n x_M_looks_115 (by omega) (fun h115 => ?_) (fun h115 => ?_) | refine kw_if_eq x_M_looks_115 (fun h115 => ?_) (fun h115 => ?_)
                          · first
                            | exfalso; first | omega | (revert h120; decide)
                            | skip
                              refine kw_ild x_M_looks_139 rfl ?_
                              refine kw_ist x_M_looks_141 (by decide) ?_
                              first | refine kw_iinc_n x_M_looks_143 (by decide) rfl ?_ | refine kw_iinc x_M_looks_143 (by decide) rfl ?_
                              refine kw_goto x_M_looks_146 ?_
                              refine ih (e + 1) _ _ (by omega) ?_
                              first
                                | (rw [show xpk X t g G s (e + 1) = none from (by simp [xpk, xop, *]; done)] <;> rfl)
                                | (rw [show xpk X t g G s (e + 1) = some e from (by simp [xpk, xop, *]; done)] <;> rfl)
                          · first
                            | exfalso; first | omega | (revert h120; decide)
                            | skip
                              refine kw_ild x_M_looks_118 rfl ?_
                              first | refine kw_if_lt_s x_M_looks_120 ⟨by omega, by omega⟩ (fun h120 => ?_) (fun h120 => ?_) | refine kw_if_lt_n x_M_looks_120 (by omega) (fun h120 => ?_) (fun h120 => ?_) | refine kw_if_lt x_M_looks_120 (fun h120 => ?_) (fun h120 => ?_)
                              · first
                                | exfalso; first | omega | (revert h120; decide)
                                | skip
                                  refine kw_ild x_M_looks_134 rfl ?_
                                  refine kw_goto x_M_looks_136 ?_
                                  refine kw_ist x_M_looks_141 (by decide) ?_
                                  first | refine kw_iinc_n x_M_looks_143 (by decide) rfl ?_ | refine kw_iinc x_M_looks_143 (by decide) rfl ?_
                                  refine kw_goto x_M_looks_146 ?_
                                  refine ih (e + 1) _ _ (by omega) ?_
                                  first
                                    | (rw [show xpk X t g G s (e + 1) = none from (by simp [xpk, xop, *]; done)] <;> rfl)
                                    | (rw [show xpk X t g G s (e + 1) = some e from (by simp [xpk, xop, *]; done)] <;> rfl)
                              · first
                                | exfalso; first | omega | (revert h120; decide)
                                | skip
                                  refine kw_ald_n x_M_looks_123 rfl ?_
                                  refine kw_ild x_M_looks_124 rfl ?_
                                  refine kw_ild x_M_looks_126 rfl ?_
                                  refine c_M_looks_128 (by exact isM_k hM) (Nat.le_of_ble_eq_true rfl) ?_
                                  refine s_M_isAhead hM hE hW hG hG2 (by omega) (by omega) (by omega) (by omega) ?_
                                  first | refine kw_if_eq_b x_M_looks_131 (fun h131 => ?_) (fun h131 => ?_) | refine kw_if_eq_n x_M_looks_131 (by omega) (fun h131 => ?_) (fun h131 => ?_) | refine kw_if_eq x_M_looks_131 (fun h131 => ?_) (fun h131 => ?_)
                                  · first
                                    | exfalso; first | omega | (revert h120; decide)
                                    | skip
                                      refine kw_ild x_M_looks_139 rfl ?_
                                      refine kw_ist x_M_looks_141 (by decide) ?_
                                      first | refine kw_iinc_n x_M_looks_143 (by decide) rfl ?_ | refine kw_iinc x_M_looks_143 (by decide) rfl ?_
                                      refine kw_goto x_M_looks_146 ?_
                                      refine ih (e + 1) _ _ (by omega) ?_
                                      first
                                        | (rw [show xpk X t g G s (e + 1) = none from (by simp [xpk, xop, *]; done)] <;> rfl)
                                        | (rw [show xpk X t g G s (e + 1) = some e from (by simp [xpk, xop, *]; done)] <;> rfl)
                                  · first
                                    | exfalso; first | omega | (revert h120; decide)
                                    | skip
                                      refine kw_ild x_M_looks_134 rfl ?_
                                      refine kw_goto x_M_looks_136 ?_
                                      refine kw_ist x_M_looks_141 (by decide) ?_
                                      first | refine kw_iinc_n x_M_looks_143 (by decide) rfl ?_ | refine kw_iinc x_M_looks_143 (by decide) rfl ?_
                                      refine kw_goto x_M_looks_146 ?_
                                      refine ih (e + 1) _ _ (by omega) ?_
                                      first
                                        | (rw [show xpk X t g G s (e + 1) = none from (by simp [xpk, xop, *]; done)] <;> rfl)
                                        | (rw [show xpk X t g G s (e + 1) = some e from (by simp [xpk, xop, *]; done)] <;> rfl)
                      · first
                        | exfalso; first | omega | (revert h120; decide)
                        | skip
                          refine kw_icon x_M_looks_106 ?_
                          refine kw_goto x_M_looks_107 ?_
                          refine kw_ist x_M_looks_111 (by decide) ?_
                          refine kw_ild x_M_looks_113 rfl ?_
                          first | refine kw_if_eq_b x_M_looks_115 (fun h115 => ?_) (fun h115 => ?_) | refine kw_if_eq_n x_M_looks_115 (by omega) (fun h115 => ?_) (fun h115 => ?_) | refine kw_if_eq x_M_looks_115 (fun h115 => ?_) (fun h115 => ?_)
                          · first
                            | exfalso; first | omega | (revert h120; decide)
                            | skip
                              refine kw_ild x_M_looks_139 rfl ?_
                              refine kw_ist x_M_looks_141 (by decide) ?_
                              first | refine kw_iinc_n x_M_looks_143 (by decide) rfl ?_ | refine kw_iinc x_M_looks_143 (by decide) rfl ?_
                              refine kw_goto x_M_looks_146 ?_
                              refine ih (e + 1) _ _ (by omega) ?_
                              first
                                | (rw [show xpk X t g G s (e + 1) = none from (by simp [xpk, xop, *]; done)] <;> rfl)
                                | (rw [show xpk X t g G s (e + 1) = some e from (by simp [xpk, xop, *]; done)] <;> rfl)
                          · first
                            | exfalso; first | omega | (revert h120; decide)
                            | skip
                              refine kw_ild x_M_looks_118 rfl ?_
                              first | refine kw_if_lt_s x_M_looks_120 ⟨by omega, by omega⟩ (fun h120 => ?_) (fun h120 => ?_) | refine kw_if_lt_n x_M_looks_120 (by omega) (fun h120 => ?_) (fun h120 => ?_) | refine kw_if_lt x_M_looks_120 (fun h120 => ?_) (fun h120 => ?_)
                              · first
                                | exfalso; first | omega | (revert h120; decide)
                                | skip
                                  refine kw_ild x_M_looks_134 rfl ?_
                                  refine kw_goto x_M_looks_136 ?_
                                  refine kw_ist x_M_looks_141 (by decide) ?_
                                  first | refine kw_iinc_n x_M_looks_143 (by decide) rfl ?_ | refine kw_iinc x_M_looks_143 (by decide) rfl ?_
                                  refine kw_goto x_M_looks_146 ?_
                                  refine ih (e + 1) _ _ (by omega) ?_
                                  first
                                    | (rw [show xpk X t g G s (e + 1) = none from (by simp [xpk, xop, *]; done)] <;> rfl)
                                    | (rw [show xpk X t g G s (e + 1) = some e from (by simp [xpk, xop, *]; done)] <;> rfl)
                              · first
                                | exfalso; first | omega | (revert h120; decide)
                                | skip
                                  refine kw_ald_n x_M_looks_123 rfl ?_
                                  refine kw_ild x_M_looks_124 rfl ?_
                                  refine kw_ild x_M_looks_126 rfl ?_
                                  refine c_M_looks_128 (by exact isM_k hM) (Nat.le_of_ble_eq_true rfl) ?_
                                  refine s_M_isAhead hM hE hW hG hG2 (by omega) (by omega) (by omega) (by omega) ?_
                                  first | refine kw_if_eq_b x_M_looks_131 (fun h131 => ?_) (fun h131 => ?_) | refine kw_if_eq_n x_M_looks_131 (by omega) (fun h131 => ?_) (fun h131 => ?_) | refine kw_if_eq x_M_looks_131 (fun h131 => ?_) (fun h131 => ?_)
                                  · first
                                    | exfalso; first | omega | (revert h120; decide)
                                    | skip
                                      refine kw_ild x_M_looks_139 rfl ?_
                                      refine kw_ist x_M_looks_141 (by decide) ?_
                                      first | refine kw_iinc_n x_M_looks_143 (by decide) rfl ?_ | refine kw_iinc x_M_looks_143 (by decide) rfl ?_
                                      refine kw_goto x_M_looks_146 ?_
                                      refine ih (e + 1) _ _ (by omega) ?_
                                      first
                                        | (rw [show xpk X t g G s (e + 1) = none from (by simp [xpk, xop, *]; done)] <;> rfl)
                                        | (rw [show xpk X t g G s (e + 1) = some e from (by simp [xpk, xop, *]; done)] <;> rfl)
                                  · first
                                    | exfalso; first | omega | (revert h120; decide)
                                    | skip
                                      refine kw_ild x_M_looks_134 rfl ?_
                                      refine kw_goto x_M_looks_136 ?_
                                      refine kw_ist x_M_looks_141 (by decide) ?_
                                      first | refine kw_iinc_n x_M_looks_143 (by decide) rfl ?_ | refine kw_iinc x_M_looks_143 (by decide) rfl ?_
                                      refine kw_goto x_M_looks_146 ?_
                                      refine ih (e + 1) _ _ (by omega) ?_
                                      first
                                        | (rw [show xpk X t g G s (e + 1) = none from (by simp [xpk, xop, *]; done)] <;> rfl)
                                        | (rw [show xpk X t g G s (e + 1) = some e from (by simp [xpk, xop, *]; done)] <;> rfl)
    | some p =>
      rw [hp] at h2
      subst h2
      have hpp := xpk_some hp
      have hk1 : xe X p 0 = 1 := by
        have := hpp.2
        simp [xop] at this
        exact this.1.1.2
      have hpe := hpp.1
      refine kw_ild x_M_looks_51 rfl ?_
      refine kw_ald_n x_M_looks_53 rfl ?_
      refine kw_gr x_M_looks_54 (by exact isM_k hM) (by exact isM_r0 hM) ?_
      refine kw_icon x_M_looks_57 ?_
      refine kw_iald_n x_M_looks_58 (by first | exact isM_a1 hM | exact isM_a2 hM | exact isM_a3 hM | exact isM_a4 hM | exact isM_a5 hM | exact isM_a6 hM | exact isM_a7 hM | exact isM_a8 hM | exact isM_a10 hM | exact isM_a11 hM) (by omega) (by omega) (by first | exact hE.1 | exact hE.2.1 | exact hE.2.2.1 | exact hS _ (by omega) | exact rfl) ?_
      first | refine kw_ic_ge_n x_M_looks_59 ⟨by omega, by omega⟩ (fun h59 => ?_) (fun h59 => ?_) | refine kw_ic_ge x_M_looks_59 (fun h59 => ?_) (fun h59 => ?_)
      · first
        | exfalso; omega
        | skip
          skip
      · first
        | exfalso; omega
        | skip
          refine kw_ald_n x_M_looks_62 rfl ?_
          refine kw_gr x_M_looks_63 (by exact isM_k hM) (by exact isM_r8 hM) ?_
          refine kw_ild x_M_looks_66 rfl ?_
          refine kw_iald_n x_M_looks_68 (by first | exact isM_a1 hM | exact isM_a2 hM | exact isM_a3 hM | exact isM_a4 hM | exact isM_a5 hM | exact isM_a6 hM | exact isM_a7 hM | exact isM_a8 hM | exact isM_a10 hM | exact isM_a11 hM) (by omega) (by omega) (by first | exact hE.1 | exact hE.2.1 | exact hE.2.2.1 | exact hS _ (by omega) | exact rfl) ?_
          refine kw_bip x_M_looks_69 ?_
          first | refine kw_ic_ne_c x_M_looks_71 (hs4 _) (fun h71 => ?_) (fun h71 => ?_) | refine kw_ic_ne_n x_M_looks_71 ⟨by omega, by omega⟩ (fun h71 => ?_) (fun h71 => ?_) | refine kw_ic_ne x_M_looks_71 (fun h71 => ?_) (fun h71 => ?_)
          · first
            | exfalso; omega
            | skip
              refine kw_icon x_M_looks_110 ?_
              refine kw_ist x_M_looks_111 (by decide) ?_
              refine kw_ild x_M_looks_113 rfl ?_
              first | refine kw_if_eq_b x_M_looks_115 (fun h115 => ?_) (fun h115 => ?_) | refine kw_if_eq_n x_M_looks_115 (by omega) (fun h115 => ?_) (fun h115 => ?_) | refine kw_if_eq x_M_looks_115 (fun h115 => ?_) (fun h115 => ?_)
              · first
                | exfalso; omega
                | skip
                  refine kw_ild x_M_looks_139 rfl ?_
                  refine kw_ist x_M_looks_141 (by decide) ?_
                  first | refine kw_iinc_n x_M_looks_143 (by decide) rfl ?_ | refine kw_iinc x_M_looks_143 (by decide) rfl ?_
                  refine kw_goto x_M_looks_146 ?_
                  refine ih (e + 1) _ _ (by omega) ?_
                  first
                    | (rw [show xpk X t g G s (e + 1) = some p from (by first | (simp [xpk, xop, *]; done) | (have q : ¬ xky X G e < xky X G p := of_decide_eq_false h131; simp [xpk, xop, *]; done))] <;> rfl)
                    | (rw [show xpk X t g G s (e + 1) = some e from (by have q : xky X G e < xky X G p := of_decide_eq_true h131; simp [xpk, xop, *]; done)] <;> rfl)
              · first
                | exfalso; omega
                | skip
                  refine kw_ild x_M_looks_118 rfl ?_
                  first | refine kw_if_lt_s x_M_looks_120 ⟨by omega, by omega⟩ (fun h120 => ?_) (fun h120 => ?_) | refine kw_if_lt_n x_M_looks_120 (by omega) (fun h120 => ?_) (fun h120 => ?_) | refine kw_if_lt x_M_looks_120 (fun h120 => ?_) (fun h120 => ?_)
                  · first
                    | exfalso; omega
                    | skip
                      refine kw_ild x_M_looks_134 rfl ?_
                      refine kw_goto x_M_looks_136 ?_
                      refine kw_ist x_M_looks_141 (by decide) ?_
                      first | refine kw_iinc_n x_M_looks_143 (by decide) rfl ?_ | refine kw_iinc x_M_looks_143 (by decide) rfl ?_
                      refine kw_goto x_M_looks_146 ?_
                      refine ih (e + 1) _ _ (by omega) ?_
                      first
                        | (rw [show xpk X t g G s (e + 1) = some p from (by first | (simp [xpk, xop, *]; done) | (have q : ¬ xky X G e < xky X G p := of_decide_eq_false h131; simp [xpk, xop, *]; done))] <;> rfl)
                        | (rw [show xpk X t g G s (e + 1) = some e from (by have q : xky X G e < xky X G p := of_decide_eq_true h131; simp [xpk, xop, *]; done)] <;> rfl)
                  · first
                    | exfalso; omega
                    | skip
                      refine kw_ald_n x_M_looks_123 rfl ?_
                      refine kw_ild x_M_looks_124 rfl ?_
                      refine kw_ild x_M_looks_126 rfl ?_
                      refine c_M_looks_128 (by exact isM_k hM) (Nat.le_of_ble_eq_true rfl) ?_
                      refine s_M_isAhead hM hE hW hG hG2 (by omega) (by omega) (by omega) (by omega) ?_
                      first | refine kw_if_eq_b x_M_looks_131 (fun h131 => ?_) (fun h131 => ?_) | refine kw_if_eq_n x_M_looks_131 (by omega) (fun h131 => ?_) (fun h131 => ?_) | refine kw_if_eq x_M_looks_131 (fun h131 => ?_) (fun h131 => ?_)
                      · first
                        | exfalso; omega
                        | skip
                          refine kw_ild x_M_looks_139 rfl ?_
                          refine kw_ist x_M_looks_141 (by decide) ?_
                          first | refine kw_iinc_n x_M_looks_143 (by decide) rfl ?_ | refine kw_iinc x_M_looks_143 (by decide) rfl ?_
                          refine kw_goto x_M_looks_146 ?_
                          refine ih (e + 1) _ _ (by omega) ?_
                          first
                            | (rw [show xpk X t g G s (e + 1) = some p from (by first | (simp [xpk, xop, *]; done) | (have q : ¬ xky X G e < xky X G p := of_decide_eq_false h131; simp [xpk, xop, *]; done))] <;> rfl)
                            | (rw [show xpk X t g G s (e + 1) = some e from (by have q : xky X G e < xky X G p := of_decide_eq_true h131; simp [xpk, xop, *]; done)] <;> rfl)
                      · first
                        | exfalso; omega
                        | skip
                          refine kw_ild x_M_looks_134 rfl ?_
                          refine kw_goto x_M_looks_136 ?_
                          refine kw_ist x_M_looks_141 (by decide) ?_
                          first | refine kw_iinc_n x_M_looks_143 (by decide) rfl ?_ | refine kw_iinc x_M_looks_143 (by decide) rfl ?_
                          refine kw_goto x_M_looks_146 ?_
                          refine ih (e + 1) _ _ (by omega) ?_
                          first
                            | (rw [show xpk X t g G s (e + 1) = some p from (by first | (simp [xpk, xop, *]; done) | (have q : ¬ xky X G e < xky X G p := of_decide_eq_false h131; simp [xpk, xop, *]; done))] <;> rfl)
                            | (rw [show xpk X t g G s (e + 1) = some e from (by have q : xky X G e < xky X G p := of_decide_eq_true h131; simp [xpk, xop, *]; done)] <;> rfl)
          · first
            | exfalso; omega
            | skip
              refine kw_ald_n x_M_looks_74 rfl ?_
              refine kw_ild x_M_looks_75 rfl ?_
              refine kw_icon x_M_looks_77 ?_
              refine c_M_looks_78 (by exact isM_k hM) (Nat.le_of_ble_eq_true rfl) ?_
              first | refine s_M_ofn hM hE hn (by omega) (by decide) ?_ | refine s_M_of5 hM hE hn (by omega) (by omega) ?_ | refine s_M_of6 hM hE hn (by omega) (by omega) ?_
              refine kw_icon x_M_looks_81 ?_
              first | refine kw_ic_ne_c x_M_looks_82 (hs4 _) (fun h82 => ?_) (fun h82 => ?_) | refine kw_ic_ne_n x_M_looks_82 ⟨by omega, by omega⟩ (fun h82 => ?_) (fun h82 => ?_) | refine kw_ic_ne x_M_looks_82 (fun h82 => ?_) (fun h82 => ?_)
              · first
                | exfalso; omega
                | skip
                  refine kw_icon x_M_looks_110 ?_
                  refine kw_ist x_M_looks_111 (by decide) ?_
                  refine kw_ild x_M_looks_113 rfl ?_
                  first | refine kw_if_eq_b x_M_looks_115 (fun h115 => ?_) (fun h115 => ?_) | refine kw_if_eq_n x_M_looks_115 (by omega) (fun h115 => ?_) (fun h115 => ?_) | refine kw_if_eq x_M_looks_115 (fun h115 => ?_) (fun h115 => ?_)
                  · first
                    | exfalso; omega
                    | skip
                      refine kw_ild x_M_looks_139 rfl ?_
                      refine kw_ist x_M_looks_141 (by decide) ?_
                      first | refine kw_iinc_n x_M_looks_143 (by decide) rfl ?_ | refine kw_iinc x_M_looks_143 (by decide) rfl ?_
                      refine kw_goto x_M_looks_146 ?_
                      refine ih (e + 1) _ _ (by omega) ?_
                      first
                        | (rw [show xpk X t g G s (e + 1) = some p from (by first | (simp [xpk, xop, *]; done) | (have q : ¬ xky X G e < xky X G p := of_decide_eq_false h131; simp [xpk, xop, *]; done))] <;> rfl)
                        | (rw [show xpk X t g G s (e + 1) = some e from (by have q : xky X G e < xky X G p := of_decide_eq_true h131; simp [xpk, xop, *]; done)] <;> rfl)
                  · first
                    | exfalso; omega
                    | skip
                      refine kw_ild x_M_looks_118 rfl ?_
                      first | refine kw_if_lt_s x_M_looks_120 ⟨by omega, by omega⟩ (fun h120 => ?_) (fun h120 => ?_) | refine kw_if_lt_n x_M_looks_120 (by omega) (fun h120 => ?_) (fun h120 => ?_) | refine kw_if_lt x_M_looks_120 (fun h120 => ?_) (fun h120 => ?_)
                      · first
                        | exfalso; omega
                        | skip
                          refine kw_ild x_M_looks_134 rfl ?_
                          refine kw_goto x_M_looks_136 ?_
                          refine kw_ist x_M_looks_141 (by decide) ?_
                          first | refine kw_iinc_n x_M_looks_143 (by decide) rfl ?_ | refine kw_iinc x_M_looks_143 (by decide) rfl ?_
                          refine kw_goto x_M_looks_146 ?_
                          refine ih (e + 1) _ _ (by omega) ?_
                          first
                            | (rw [show xpk X t g G s (e + 1) = some p from (by first | (simp [xpk, xop, *]; done) | (have q : ¬ xky X G e < xky X G p := of_decide_eq_false h131; simp [xpk, xop, *]; done))] <;> rfl)
                            | (rw [show xpk X t g G s (e + 1) = some e from (by have q : xky X G e < xky X G p := of_decide_eq_true h131; simp [xpk, xop, *]; done)] <;> rfl)
                      · first
                        | exfalso; omega
                        | skip
                          refine kw_ald_n x_M_looks_123 rfl ?_
                          refine kw_ild x_M_looks_124 rfl ?_
                          refine kw_ild x_M_looks_126 rfl ?_
                          refine c_M_looks_128 (by exact isM_k hM) (Nat.le_of_ble_eq_true rfl) ?_
                          refine s_M_isAhead hM hE hW hG hG2 (by omega) (by omega) (by omega) (by omega) ?_
                          first | refine kw_if_eq_b x_M_looks_131 (fun h131 => ?_) (fun h131 => ?_) | refine kw_if_eq_n x_M_looks_131 (by omega) (fun h131 => ?_) (fun h131 => ?_) | refine kw_if_eq x_M_looks_131 (fun h131 => ?_) (fun h131 => ?_)
                          · first
                            | exfalso; omega
                            | skip
                              refine kw_ild x_M_looks_139 rfl ?_
                              refine kw_ist x_M_looks_141 (by decide) ?_
                              first | refine kw_iinc_n x_M_looks_143 (by decide) rfl ?_ | refine kw_iinc x_M_looks_143 (by decide) rfl ?_
                              refine kw_goto x_M_looks_146 ?_
                              refine ih (e + 1) _ _ (by omega) ?_
                              first
                                | (rw [show xpk X t g G s (e + 1) = some p from (by first | (simp [xpk, xop, *]; done) | (have q : ¬ xky X G e < xky X G p := of_decide_eq_false h131; simp [xpk, xop, *]; done))] <;> rfl)
                                | (rw [show xpk X t g G s (e + 1) = some e from (by have q : xky X G e < xky X G p := of_decide_eq_true h131; simp [xpk, xop, *]; done)] <;> rfl)
                          · first
                            | exfalso; omega
                            | skip
                              refine kw_ild x_M_looks_134 rfl ?_
                              refine kw_goto x_M_looks_136 ?_
                              refine kw_ist x_M_looks_141 (by decide) ?_
                              first | refine kw_iinc_n x_M_looks_143 (by decide) rfl ?_ | refine kw_iinc x_M_looks_143 (by decide) rfl ?_
                              refine kw_goto x_M_looks_146 ?_
                              refine ih (e + 1) _ _ (by omega) ?_
                              first
                                | (rw [show xpk X t g G s (e + 1) = some p from (by first | (simp [xpk, xop, *]; done) | (have q : ¬ xky X G e < xky X G p := of_decide_eq_false h131; simp [xpk, xop, *]; done))] <;> rfl)
                                | (rw [show xpk X t g G s (e + 1) = some e from (by have q : xky X G e < xky X G p := of_decide_eq_true h131; simp [xpk, xop, *]; done)] <;> rfl)
              · first
                | exfalso; omega
                | skip
                  refine kw_ald_n x_M_looks_85 rfl ?_
                  refine kw_ild x_M_looks_86 rfl ?_
                  refine kw_icon x_M_looks_88 ?_
                  refine c_M_looks_89 (by exact isM_k hM) (Nat.le_of_ble_eq_true rfl) ?_
                  first | refine s_M_ofn hM hE hn (by omega) (by decide) ?_ | refine s_M_of5 hM hE hn (by omega) (by omega) ?_ | refine s_M_of6 hM hE hn (by omega) (by omega) ?_
                  refine kw_ild_n x_M_looks_92 rfl ?_
                  first | refine kw_ic_ne_c x_M_looks_93 (hs4 _) (fun h93 => ?_) (fun h93 => ?_) | refine kw_ic_ne_n x_M_looks_93 ⟨by omega, by omega⟩ (fun h93 => ?_) (fun h93 => ?_) | refine kw_ic_ne x_M_looks_93 (fun h93 => ?_) (fun h93 => ?_)
                  · first
                    | exfalso; omega
                    | skip
                      refine kw_icon x_M_looks_110 ?_
                      refine kw_ist x_M_looks_111 (by decide) ?_
                      refine kw_ild x_M_looks_113 rfl ?_
                      first | refine kw_if_eq_b x_M_looks_115 (fun h115 => ?_) (fun h115 => ?_) | refine kw_if_eq_n x_M_looks_115 (by omega) (fun h115 => ?_) (fun h115 => ?_) | refine kw_if_eq x_M_looks_115 (fun h115 => ?_) (fun h115 => ?_)
                      · first
                        | exfalso; omega
                        | skip
                          refine kw_ild x_M_looks_139 rfl ?_
                          refine kw_ist x_M_looks_141 (by decide) ?_
                          first | refine kw_iinc_n x_M_looks_143 (by decide) rfl ?_ | refine kw_iinc x_M_looks_143 (by decide) rfl ?_
                          refine kw_goto x_M_looks_146 ?_
                          refine ih (e + 1) _ _ (by omega) ?_
                          first
                            | (rw [show xpk X t g G s (e + 1) = some p from (by first | (simp [xpk, xop, *]; done) | (have q : ¬ xky X G e < xky X G p := of_decide_eq_false h131; simp [xpk, xop, *]; done))] <;> rfl)
                            | (rw [show xpk X t g G s (e + 1) = some e from (by have q : xky X G e < xky X G p := of_decide_eq_true h131; simp [xpk, xop, *]; done)] <;> rfl)
                      · first
                        | exfalso; omega
                        | skip
                          refine kw_ild x_M_looks_118 rfl ?_
                          first | refine kw_if_lt_s x_M_looks_120 ⟨by omega, by omega⟩ (fun h120 => ?_) (fun h120 => ?_) | refine kw_if_lt_n x_M_looks_120 (by omega) (fun h120 => ?_) (fun h120 => ?_) | refine kw_if_lt x_M_looks_120 (fun h120 => ?_) (fun h120 => ?_)
                          · first
                            | exfalso; omega
                            | skip
                              refine kw_ild x_M_looks_134 rfl ?_
                              refine kw_goto x_M_looks_136 ?_
                              refine kw_ist x_M_looks_141 (by decide) ?_
                              first | refine kw_iinc_n x_M_looks_143 (by decide) rfl ?_ | refine kw_iinc x_M_looks_143 (by decide) rfl ?_
                              refine kw_goto x_M_looks_146 ?_
                              refine ih (e + 1) _ _ (by omega) ?_
                              first
                                | (rw [show xpk X t g G s (e + 1) = some p from (by first | (simp [xpk, xop, *]; done) | (have q : ¬ xky X G e < xky X G p := of_decide_eq_false h131; simp [xpk, xop, *]; done))] <;> rfl)
                                | (rw [show xpk X t g G s (e + 1) = some e from (by have q : xky X G e < xky X G p := of_decide_eq_true h131; simp [xpk, xop, *]; done)] <;> rfl)
                          · first
                            | exfalso; omega
                            | skip
                              refine kw_ald_n x_M_looks_123 rfl ?_
                              refine kw_ild x_M_looks_124 rfl ?_
                              refine kw_ild x_M_looks_126 rfl ?_
                              refine c_M_looks_128 (by exact isM_k hM) (Nat.le_of_ble_eq_true rfl) ?_
                              refine s_M_isAhead hM hE hW hG hG2 (by omega) (by omega) (by omega) (by omega) ?_
                              first | refine kw_if_eq_b x_M_looks_131 (fun h131 => ?_) (fun h131 => ?_) | refine kw_if_eq_n x_M_looks_131 (by omega) (fun h131 => ?_) (fun h131 => ?_) | refine kw_if_eq x_M_looks_131 (fun h131 => ?_) (fun h131 => ?_)
                              · first
                                | exfalso; omega
                                | skip
                                  refine kw_ild x_M_looks_139 rfl ?_
                                  refine kw_ist x_M_looks_141 (by decide) ?_
                                  first | refine kw_iinc_n x_M_looks_143 (by decide) rfl ?_ | refine kw_iinc x_M_looks_143 (by decide) rfl ?_
                                  refine kw_goto x_M_looks_146 ?_
                                  refine ih (e + 1) _ _ (by omega) ?_
                                  first
                                    | (rw [show xpk X t g G s (e + 1) = some p from (by first | (simp [xpk, xop, *]; done) | (have q : ¬ xky X G e < xky X G p := of_decide_eq_false h131; simp [xpk, xop, *]; done))] <;> rfl)
                                    | (rw [show xpk X t g G s (e + 1) = some e from (by have q : xky X G e < xky X G p := of_decide_eq_true h131; simp [xpk, xop, *]; done)] <;> rfl)
                              · first
                                | exfalso; omega
                                | skip
                                  refine kw_ild x_M_looks_134 rfl ?_
                                  refine kw_goto x_M_looks_136 ?_
                                  refine kw_ist x_M_looks_141 (by decide) ?_
                                  first | refine kw_iinc_n x_M_looks_143 (by decide) rfl ?_ | refine kw_iinc x_M_looks_143 (by decide) rfl ?_
                                  refine kw_goto x_M_looks_146 ?_
                                  refine ih (e + 1) _ _ (by omega) ?_
                                  first
                                    | (rw [show xpk X t g G s (e + 1) = some p from (by first | (simp [xpk, xop, *]; done) | (have q : ¬ xky X G e < xky X G p := of_decide_eq_false h131; simp [xpk, xop, *]; done))] <;> rfl)
                                    | (rw [show xpk X t g G s (e + 1) = some e from (by have q : xky X G e < xky X G p := of_decide_eq_true h131; simp [xpk, xop, *]; done)] <;> rfl)
                  · first
                    | exfalso; omega
                    | skip
                      refine kw_ald_n x_M_looks_96 rfl ?_
                      refine kw_ild_n x_M_looks_97 rfl ?_
                      refine kw_ild x_M_looks_98 rfl ?_
                      refine c_M_looks_100 (by exact isM_k hM) (Nat.le_of_ble_eq_true rfl) ?_
                      refine s_M_knows hM hE hW (by omega) (by omega) ?_
                      first | refine kw_if_eq_b x_M_looks_103 (fun h103 => ?_) (fun h103 => ?_) | refine kw_if_eq_n x_M_looks_103 (by omega) (fun h103 => ?_) (fun h103 => ?_) | refine kw_if_eq x_M_looks_103 (fun h103 => ?_) (fun h103 => ?_)
                      · first
                        | exfalso; omega
                        | skip
                          refine kw_icon x_M_looks_110 ?_
                          refine kw_ist x_M_looks_111 (by decide) ?_
                          refine kw_ild x_M_looks_113 rfl ?_
                          first | refine kw_if_eq_b x_M_looks_115 (fun h115 => ?_) (fun h115 => ?_) | refine kw_if_eq_n x_M_looks_115 (by omega) (fun h115 => ?_) (fun h115 => ?_) | refine kw_if_eq x_M_looks_115 (fun h115 => ?_) (fun h115 => ?_)
                          · first
                            | exfalso; omega
                            | skip
                              refine kw_ild x_M_looks_139 rfl ?_
                              refine kw_ist x_M_looks_141 (by decide) ?_
                              first | refine kw_iinc_n x_M_looks_143 (by decide) rfl ?_ | refine kw_iinc x_M_looks_143 (by decide) rfl ?_
                              refine kw_goto x_M_looks_146 ?_
                              refine ih (e + 1) _ _ (by omega) ?_
                              first
                                | (rw [show xpk X t g G s (e + 1) = some p from (by first | (simp [xpk, xop, *]; done) | (have q : ¬ xky X G e < xky X G p := of_decide_eq_false h131; simp [xpk, xop, *]; done))] <;> rfl)
                                | (rw [show xpk X t g G s (e + 1) = some e from (by have q : xky X G e < xky X G p := of_decide_eq_true h131; simp [xpk, xop, *]; done)] <;> rfl)
                          · first
                            | exfalso; omega
                            | skip
                              refine kw_ild x_M_looks_118 rfl ?_
                              first | refine kw_if_lt_s x_M_looks_120 ⟨by omega, by omega⟩ (fun h120 => ?_) (fun h120 => ?_) | refine kw_if_lt_n x_M_looks_120 (by omega) (fun h120 => ?_) (fun h120 => ?_) | refine kw_if_lt x_M_looks_120 (fun h120 => ?_) (fun h120 => ?_)
                              · first
                                | exfalso; omega
                                | skip
                                  refine kw_ild x_M_looks_134 rfl ?_
                                  refine kw_goto x_M_looks_136 ?_
                                  refine kw_ist x_M_looks_141 (by decide) ?_
                                  first | refine kw_iinc_n x_M_looks_143 (by decide) rfl ?_ | refine kw_iinc x_M_looks_143 (by decide) rfl ?_
                                  refine kw_goto x_M_looks_146 ?_
                                  refine ih (e + 1) _ _ (by omega) ?_
                                  first
                                    | (rw [show xpk X t g G s (e + 1) = some p from (by first | (simp [xpk, xop, *]; done) | (have q : ¬ xky X G e < xky X G p := of_decide_eq_false h131; simp [xpk, xop, *]; done))] <;> rfl)
                                    | (rw [show xpk X t g G s (e + 1) = some e from (by have q : xky X G e < xky X G p := of_decide_eq_true h131; simp [xpk, xop, *]; done)] <;> rfl)
                              · first
                                | exfalso; omega
                                | skip
                                  refine kw_ald_n x_M_looks_123 rfl ?_
                                  refine kw_ild x_M_looks_124 rfl ?_
                                  refine kw_ild x_M_looks_126 rfl ?_
                                  refine c_M_looks_128 (by exact isM_k hM) (Nat.le_of_ble_eq_true rfl) ?_
                                  refine s_M_isAhead hM hE hW hG hG2 (by omega) (by omega) (by omega) (by omega) ?_
                                  first | refine kw_if_eq_b x_M_looks_131 (fun h131 => ?_) (fun h131 => ?_) | refine kw_if_eq_n x_M_looks_131 (by omega) (fun h131 => ?_) (fun h131 => ?_) | refine kw_if_eq x_M_looks_131 (fun h131 => ?_) (fun h131 => ?_)
                                  · first
                                    | exfalso; omega
                                    | skip
                                      refine kw_ild x_M_looks_139 rfl ?_
                                      refine kw_ist x_M_looks_141 (by decide) ?_
                                      first | refine kw_iinc_n x_M_looks_143 (by decide) rfl ?_ | refine kw_iinc x_M_looks_143 (by decide) rfl ?_
                                      refine kw_goto x_M_looks_146 ?_
                                      refine ih (e + 1) _ _ (by omega) ?_
                                      first
                                        | (rw [show xpk X t g G s (e + 1) = some p from (by first | (simp [xpk, xop, *]; done) | (have q : ¬ xky X G e < xky X G p := of_decide_eq_false h131; simp [xpk, xop, *]; done))] <;> rfl)
                                        | (rw [show xpk X t g G s (e + 1) = some e from (by have q : xky X G e < xky X G p := of_decide_eq_true h131; simp [xpk, xop, *]; done)] <;> rfl)
                                  · first
                                    | exfalso; omega
                                    | skip
                                      refine kw_ild x_M_looks_134 rfl ?_
                                      refine kw_goto x_M_looks_136 ?_
                                      refine kw_ist x_M_looks_141 (by decide) ?_
                                      first | refine kw_iinc_n x_M_looks_143 (by decide) rfl ?_ | refine kw_iinc x_M_looks_143 (by decide) rfl ?_
                                      refine kw_goto x_M_looks_146 ?_
                                      refine ih (e + 1) _ _ (by omega) ?_
                                      first
                                        | (rw [show xpk X t g G s (e + 1) = some p from (by first | (simp [xpk, xop, *]; done) | (have q : ¬ xky X G e < xky X G p := of_decide_eq_false h131; simp [xpk, xop, *]; done))] <;> rfl)
                                        | (rw [show xpk X t g G s (e + 1) = some e from (by have q : xky X G e < xky X G p := of_decide_eq_true h131; simp [xpk, xop, *]; done)] <;> rfl)
                      · first
                        | exfalso; omega
                        | skip
                          refine kw_icon x_M_looks_106 ?_
                          refine kw_goto x_M_looks_107 ?_
                          refine kw_ist x_M_looks_111 (by decide) ?_
                          refine kw_ild x_M_looks_113 rfl ?_
                          first | refine kw_if_eq_b x_M_looks_115 (fun h115 => ?_) (fun h115 => ?_) | refine kw_if_eq_n x_M_looks_115 (by omega) (fun h115 => ?_) (fun h115 => ?_) | refine kw_if_eq x_M_looks_115 (fun h115 => ?_) (fun h115 => ?_)
                          · first
                            | exfalso; omega
                            | skip
                              refine kw_ild x_M_looks_139 rfl ?_
                              refine kw_ist x_M_looks_141 (by decide) ?_
                              first | refine kw_iinc_n x_M_looks_143 (by decide) rfl ?_ | refine kw_iinc x_M_looks_143 (by decide) rfl ?_
                              refine kw_goto x_M_looks_146 ?_
                              refine ih (e + 1) _ _ (by omega) ?_
                              first
                                | (rw [show xpk X t g G s (e + 1) = some p from (by first | (simp [xpk, xop, *]; done) | (have q : ¬ xky X G e < xky X G p := of_decide_eq_false h131; simp [xpk, xop, *]; done))] <;> rfl)
                                | (rw [show xpk X t g G s (e + 1) = some e from (by have q : xky X G e < xky X G p := of_decide_eq_true h131; simp [xpk, xop, *]; done)] <;> rfl)
                          · first
                            | exfalso; omega
                            | skip
                              refine kw_ild x_M_looks_118 rfl ?_
                              first | refine kw_if_lt_s x_M_looks_120 ⟨by omega, by omega⟩ (fun h120 => ?_) (fun h120 => ?_) | refine kw_if_lt_n x_M_looks_120 (by omega) (fun h120 => ?_) (fun h120 => ?_) | refine kw_if_lt x_M_looks_120 (fun h120 => ?_) (fun h120 => ?_)
                              · first
                                | exfalso; omega
                                | skip
                                  refine kw_ild x_M_looks_134 rfl ?_
                                  refine kw_goto x_M_looks_136 ?_
                                  refine kw_ist x_M_looks_141 (by decide) ?_
                                  first | refine kw_iinc_n x_M_looks_143 (by decide) rfl ?_ | refine kw_iinc x_M_looks_143 (by decide) rfl ?_
                                  refine kw_goto x_M_looks_146 ?_
                                  refine ih (e + 1) _ _ (by omega) ?_
                                  first
                                    | (rw [show xpk X t g G s (e + 1) = some p from (by first | (simp [xpk, xop, *]; done) | (have q : ¬ xky X G e < xky X G p := of_decide_eq_false h131; simp [xpk, xop, *]; done))] <;> rfl)
                                    | (rw [show xpk X t g G s (e + 1) = some e from (by have q : xky X G e < xky X G p := of_decide_eq_true h131; simp [xpk, xop, *]; done)] <;> rfl)
                              · first
                                | exfalso; omega
                                | skip
                                  refine kw_ald_n x_M_looks_123 rfl ?_
                                  refine kw_ild x_M_looks_124 rfl ?_
                                  refine kw_ild x_M_looks_126 rfl ?_
                                  refine c_M_looks_128 (by exact isM_k hM) (Nat.le_of_ble_eq_true rfl) ?_
                                  refine s_M_isAhead hM hE hW hG hG2 (by omega) (by omega) (by omega) (by omega) ?_
                                  first | refine kw_if_eq_b x_M_looks_131 (fun h131 => ?_) (fun h131 => ?_) | refine kw_if_eq_n x_M_looks_131 (by omega) (fun h131 => ?_) (fun h131 => ?_) | refine kw_if_eq x_M_looks_131 (fun h131 => ?_) (fun h131 => ?_)
                                  · first
                                    | exfalso; omega
                                    | skip
                                      refine kw_ild x_M_looks_139 rfl ?_
                                      refine kw_ist x_M_looks_141 (by decide) ?_
                                      first | refine kw_iinc_n x_M_looks_143 (by decide) rfl ?_ | refine kw_iinc x_M_looks_143 (by decide) rfl ?_
                                      refine kw_goto x_M_looks_146 ?_
                                      refine ih (e + 1) _ _ (by omega) ?_
                                      first
                                        | (rw [show xpk X t g G s (e + 1) = some p from (by first | (simp [xpk, xop, *]; done) | (have q : ¬ xky X G e < xky X G p := of_decide_eq_false h131; simp [xpk, xop, *]; done))] <;> rfl)
                                        | (rw [show xpk X t g G s (e + 1) = some e from (by have q : xky X G e < xky X G p := of_decide_eq_true h131; simp [xpk, xop, *]; done)] <;> rfl)
                                  · first
                                    | exfalso; omega
                                    | skip
                                      refine kw_ild x_M_looks_134 rfl ?_
                                      refine kw_goto x_M_looks_136 ?_
                                      refine kw_ist x_M_looks_141 (by decide) ?_
                                      first | refine kw_iinc_n x_M_looks_143 (by decide) rfl ?_ | refine kw_iinc x_M_looks_143 (by decide) rfl ?_
                                      refine kw_goto x_M_looks_146 ?_
                                      refine ih (e + 1) _ _ (by omega) ?_
                                      first
                                        | (rw [show xpk X t g G s (e + 1) = some p from (by first | (simp [xpk, xop, *]; done) | (have q : ¬ xky X G e < xky X G p := of_decide_eq_false h131; simp [xpk, xop, *]; done))] <;> rfl)
                                        | (rw [show xpk X t g G s (e + 1) = some e from (by have q : xky X G e < xky X G p := of_decide_eq_true h131; simp [xpk, xop, *]; done)] <;> rfl)
end MK
