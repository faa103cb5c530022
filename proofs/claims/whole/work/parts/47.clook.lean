/-! the class: looking at a good: what is gathered, what is next -/
/-- the rows a to b hold just the numbers below n that have it, none twice -/
def xrow (f : Nat → Bool) (n a b : Nat) (r : Nat → Nat) : Prop := (∀ j, a ≤ j → j < b → r j < n ∧ f (r j) = true) ∧ (∀ e, e < n → f e = true → ∃ j, a ≤ j ∧ j < b ∧ r j = e) ∧ ∀ i j, a ≤ i → i < b → a ≤ j → j < b → r i = r j → i = j
theorem xrow_add {f : Nat → Bool} {n b : Nat} {r : Nat → Nat} (h : xrow f n 0 b r) (hf : f n = true) : xrow f (n + 1) 0 (b + 1) (xup r b n) := by
  obtain ⟨h1, h2, h3⟩ := h
  refine ⟨fun j g1 g2 => ?_, fun e he hfe => ?_, fun i j g1 g2 g3 g4 hq => ?_⟩
  · by_cases hj : j = b
    · subst hj; rw [xup_eq]; exact ⟨Nat.lt_succ_self _, hf⟩
    · rw [xup_ne _ _ hj]
      have := h1 j g1 (by omega)
      exact ⟨by omega, this.2⟩
  · by_cases hen : e = n
    · subst hen
      exact ⟨b, Nat.zero_le _, Nat.lt_succ_self _, xup_eq _ _ _⟩
    · obtain ⟨j, k1, k2, k3⟩ := h2 e (by omega) hfe
      exact ⟨j, k1, by omega, by rw [xup_ne _ _ (by omega)]; exact k3⟩
  · by_cases hi : i = b
    · by_cases hj : j = b
      · omega
      · subst hi
        rw [xup_eq, xup_ne _ _ hj] at hq
        have := (h1 j g3 (by omega)).1
        omega
    · by_cases hj : j = b
      · subst hj
        rw [xup_eq, xup_ne _ _ hi] at hq
        have := (h1 i g1 (by omega)).1
        omega
      · rw [xup_ne _ _ hi, xup_ne _ _ hj] at hq
        exact h3 i j g1 (by omega) g3 (by omega) hq
theorem xrow_skip {f : Nat → Bool} {n b : Nat} {r : Nat → Nat} (h : xrow f n 0 b r) (hf : f n = false) : xrow f (n + 1) 0 b r := by
  obtain ⟨h1, h2, h3⟩ := h
  refine ⟨fun j g1 g2 => ?_, fun e he hfe => ?_, h3⟩
  · have := h1 j g1 g2
    exact ⟨by omega, this.2⟩
  · by_cases hen : e = n
    · subst hen; rw [hf] at hfe; cases hfe
    · exact h2 e (by omega) hfe
/-- one of them is taken to the front -/
def xsw (r : Nat → Nat) (a q : Nat) : Nat → Nat := xup (xup r q (r a)) a (r q)
theorem xrow_take {f f' : Nat → Bool} {n a b q : Nat} {r : Nat → Nat} (h : xrow f n a b r) (h1 : a ≤ q) (h2 : q < b) (hf : f' (r q) = false) (hf2 : ∀ e, e ≠ r q → f' e = f e) : xrow f' n (a + 1) b (xsw r a q) := by
  obtain ⟨g1, g2, g3⟩ := h
  have hne : ∀ j, a ≤ j → j < b → j ≠ q → r j ≠ r q := fun j k1 k2 k3 hq => k3 (g3 j q k1 k2 h1 h2 hq)
  refine ⟨fun j k1 k2 => ?_, fun e he hfe => ?_, fun i j k1 k2 k3 k4 hq => ?_⟩
  · unfold xsw
    rw [xup_ne _ _ (show j ≠ a by omega)]
    by_cases hj : j = q
    · subst hj
      rw [xup_eq]
      have k3 := g1 a (Nat.le_refl _) (by omega)
      exact ⟨k3.1, by rw [hf2 _ (hne a (Nat.le_refl _) (by omega) (by omega))]; exact k3.2⟩
    · rw [xup_ne _ _ hj]
      have k3 := g1 j (by omega) k2
      exact ⟨k3.1, by rw [hf2 _ (hne j (by omega) k2 hj)]; exact k3.2⟩
  · have hen : e ≠ r q := fun q => by rw [q, hf] at hfe; cases hfe
    rw [hf2 e hen] at hfe
    obtain ⟨j, k1, k2, k3⟩ := g2 e he hfe
    unfold xsw
    by_cases hj : j = a
    · refine ⟨q, ?_, h2, ?_⟩
      · by_cases hq : q = a
        · exfalso
          rw [hq, ← hj] at hen
          exact hen k3.symm
        · omega
      · by_cases hq : q = a
        · exfalso
          rw [hq, ← hj] at hen
          exact hen k3.symm
        · rw [xup_ne _ _ hq, xup_eq, ← hj]
          exact k3
    · refine ⟨j, by omega, k2, ?_⟩
      have hjq : j ≠ q := fun z => hen (by rw [← k3, z])
      rw [xup_ne _ _ hj, xup_ne _ _ hjq]
      exact k3
  · have key : ∀ j, a + 1 ≤ j → j < b → xsw r a q j = r (if j = q then a else j) := by
      intro j k1 k2
      unfold xsw
      rw [xup_ne _ _ (show j ≠ a by omega)]
      by_cases hj : j = q
      · subst hj; rw [xup_eq, if_pos rfl]
      · rw [xup_ne _ _ hj, if_neg hj]
    rw [key i k1 k2, key j k3 k4] at hq
    have hz := g3 (if i = q then a else i) (if j = q then a else j) (by split <;> omega) (by split <;> omega) (by split <;> omega) (by split <;> omega) hq
    split at hz <;> split at hz <;> omega
/-- what stands of a good: the orders, the deliveries -/
def xgf (X : kt_X) (S : Nat → Bool) (g : Nat) (e : Nat) : Bool := S e && decide (xe X e 3 = g) && decide (xe X e 0 = 1)
def xgd (X : kt_X) (S : Nat → Bool) (g : Nat) (e : Nat) : Nat := if S e = true ∧ xe X e 3 = g ∧ xe X e 0 = 0 then xe X e 4 else 0
theorem xky_inj {X : kt_X} (hW : kt_wf X) {G : Nat → Nat} {a b : Nat} (ha : a < xn X) (hb : b < xn X) (h : xky X G a = xky X G b) : a = b := by
  have h1 := kt_el5 hW ha
  have h2 := kt_el5 hW hb
  have h3 := (hW.2.2.2.2.2.1 a ha).2.1
  have h4 := (hW.2.2.2.2.2.1 b hb).2.1
  have h5 := hW.2.1
  unfold xky at h
  have h6 : xe X a 2 * 5 + xe X a 1 = xe X b 2 * 5 + xe X b 1 := by omega
  have h7 : xe X a 1 = xe X b 1 := by omega
  have h8 : xe X a 2 = xe X b 2 := by omega
  by_cases hab : a < b
  · have := hW.2.2.2.2.2.2 a b hab hb h7
    omega
  · by_cases hba : b < a
    · have := hW.2.2.2.2.2.2 b a hba ha h7.symm
      omega
    · omega
theorem xky_lt {X : kt_X} (hW : kt_wf X) {G : Nat → Nat} (hG : ∀ p, p < 10 → G p < 10000) {a : Nat} (ha : a < xn X) (h1 : xe X a 0 = 1) : xky X G a < 100000000 := by
  have h2 := kt_el5 hW ha
  have hx := hW.2.2.2.2.2.1 a ha
  have h3 := hx.2.2.2.2.1.2
  have h4 := hx.2.2.2.2.2.1.2.1 (by omega)
  have h5 := hx.2.2.2.2.2.1.2.2
  have h6 := hG (xe X a 5 - 1) (by omega)
  have key : ∀ f r : Nat, f < 10000 → r < 305 → f * 305 + r < 100000000 := fun f r g1 g2 => Nat.lt_of_lt_of_le (by omega : f * 305 + r < 3050305) (by decide)
  unfold xky
  refine key _ _ ?_ h2
  split
  · decide
  · split
    · omega
    · exact h6
section CL
variable {P : kt_P} {N : Nat} {I : kt_I} {J : kt_J} {R : kt_R} {Q : Option Value → kt_I → kt_J → kt_R → Prop} {lo c : Nat} {X : kt_X}
theorem s_L_gather (hC : kt_isC P N R lo c) (hL : kt_isL P N R lo) (hV : kt_V c X I) (hW : kt_wf X) (hlc : lo = c + 1) {S : Nat → Bool} {g : Nat} (hg : g < 6)
    (k : ∀ I' r, (∀ a, a ≠ lo → a ≠ lo + 1 → I' a = I a) → I' lo 1 = nI (xct (xgf X S g) (xn X)) → I' lo 2 = nI (xsm (xgd X S g) (xn X)) → (∀ j, j < xct (xgf X S g) (xn X) → I' (lo + 1) j = nI (r j)) → xrow (xgf X S g) (xn X) 0 (xct (xgf X S g) (xn X)) r → Q none I' J R) :
    KW P i_L_gather N 0 [some (.ref lo), some (.ref (c + 4)), some (.long (kS S)), none, some (.int (nI g)), none] [] N I J R Q := by
  have hn := hW.2.2.1
  have loop : ∀ (d e : Nat) (I1 : kt_I) (r : Nat → Nat), e + d = xn X → (∀ a, a ≠ lo → a ≠ lo + 1 → I1 a = I a) → I1 lo 1 = nI (xct (xgf X S g) e) → I1 lo 2 = nI (xsm (xgd X S g) e) → (∀ j, j < xct (xgf X S g) e → I1 (lo + 1) j = nI (r j)) → xrow (xgf X S g) e 0 (xct (xgf X S g) e) r →
      KW P i_L_gather N 13 [some (.ref lo), some (.ref (c + 4)), some (.long (kS S)), none, some (.int (nI g)), some (.int (nI e))] [] N I1 J R Q := by
    intro d
    induction d with
    | zero =>
      intro e I1 r h1 h2 h3 h4 h5 h6
      have h7 : e = xn X := by omega
      subst h7
      have hV : kt_V c X I1 := hV.ext (fun a g1 g2 => h2 a (by omega) (by omega))
      refine kw_ild x_L_gather_13 rfl ?_
      refine kw_ald_n x_L_gather_15 rfl ?_
      refine kw_gi_e x_L_gather_16 (by exact isE_k hC) (by first | exact hV.1 | exact rfl) ?_
      first | refine kw_ic_ge_n x_L_gather_19 ⟨by omega, by omega⟩ (fun h19 => ?_) (fun h19 => ?_) | refine kw_ic_ge x_L_gather_19 (fun h19 => ?_) (fun h19 => ?_)
      · first
        | exfalso; omega
        | skip
          refine kw_vret x_L_gather_113 ?_
          exact k I1 r h2 h3 h4 h5 h6
      · first
        | exfalso; omega
        | skip
          skip
    | succ d ih =>
      intro e I1 r h1 h2 h3 h4 h5 h6
      have hV : kt_V c X I1 := hV.ext (fun a g1 g2 => h2 a (by omega) (by omega))
      have hx := hW.2.2.2.2.2.1 e (by omega)
      have hx0 := hx.1
      have hx3 := hx.2.2.2.1
      have hk0 : I1 (c + 5) e = nI (xe X e 0) := hV.2 e 0 (by omega) (by decide)
      have hk3 : I1 (c + 8) e = nI (xe X e 3) := hV.2 e 3 (by omega) (by decide)
      have hk4 : I1 (c + 9) e = nI (xe X e 4) := hV.2 e 4 (by omega) (by decide)
      have hxl := xct_le (xgf X S g) e
      refine kw_ild x_L_gather_13 rfl ?_
      refine kw_ald_n x_L_gather_15 rfl ?_
      refine kw_gi_e x_L_gather_16 (by exact isE_k hC) (by first | exact hV.1 | exact hk0 | exact hk3 | exact hk4 | exact h3 | exact h4 | exact kt_u1_na (by omega) h3 | exact rfl) ?_
      first | refine kw_ic_ge_n x_L_gather_19 ⟨by omega, by omega⟩ (fun h19 => ?_) (fun h19 => ?_) | refine kw_ic_ge x_L_gather_19 (fun h19 => ?_) (fun h19 => ?_)
      · first
        | exfalso; omega
        | skip
          skip
      · first
        | exfalso; omega
        | skip
          refine kw_lld_n x_L_gather_22 rfl ?_
          refine kw_ild x_L_gather_23 rfl ?_
          refine c_L_gather_25 (Nat.le_of_ble_eq_true rfl) ?_
          refine s_K_has (by omega) ?_
          first | refine kw_if_eq_b x_L_gather_28 (fun h28 => ?_) (fun h28 => ?_) | refine kw_if_eq_n x_L_gather_28 (by omega) (fun h28 => ?_) (fun h28 => ?_) | refine kw_if_eq x_L_gather_28 (fun h28 => ?_) (fun h28 => ?_)
          · first
            | exfalso; omega
            | skip
              first | refine kw_iinc_n x_L_gather_107 (by decide) rfl ?_ | refine kw_iinc x_L_gather_107 (by decide) rfl ?_
              refine kw_goto x_L_gather_110 ?_
              first
                | (have hf : xgf X S g e = true := (by simp [xgf, *])
                   have hd : xgd X S g e = 0 := (by unfold xgd; rw [if_neg (by omega)])
                   refine ih (e + 1) _ (xup r (xct (xgf X S g) e) e) (by omega) (fun a g1 g2 => by rw [kt_u1_ne _ _ _ g1, kt_u1_ne _ _ _ g2]; exact h2 a g1 g2) ?_ ?_ (fun j hj => ?_) ?_
                   · rw [kt_u1_eq, xct, if_pos hf]
                   · refine kt_u1_nj (by decide) (kt_u1_na (by omega) ?_)
                     rw [h4, xsm, hd]; rfl
                   · refine kt_u1_na (by omega) ?_
                     by_cases hje : j = xct (xgf X S g) e
                     · subst hje; rw [xup_eq]; exact kt_u1_eq
                     · rw [xup_ne _ _ hje]
                       refine kt_u1_nj hje (h5 j ?_)
                       rw [xct, if_pos hf] at hj
                       omega
                   · rw [xct, if_pos hf]; exact xrow_add h6 hf)
                | (have hf : xgf X S g e = false := (by simp [xgf, *]; done)
                   have hd : xgd X S g e = xe X e 4 := (by unfold xgd; rw [if_pos ⟨by assumption, by omega, by omega⟩])
                   refine ih (e + 1) _ r (by omega) (fun a g1 g2 => by rw [kt_u1_ne _ _ _ g1]; exact h2 a g1 g2) ?_ ?_ (fun j hj => ?_) ?_
                   · refine kt_u1_nj (by decide) ?_
                     rw [h3, xct, if_neg (by rw [hf]; decide)]; rfl
                   · rw [kt_u1_eq, xsm, hd]
                   · refine kt_u1_na (by omega) (h5 j ?_)
                     rw [xct, if_neg (by rw [hf]; decide)] at hj
                     omega
                   · rw [xct, if_neg (by rw [hf]; decide)]; exact xrow_skip h6 hf)
                | (have hf : xgf X S g e = false := (by simp [xgf, *]; done)
                   have hd : xgd X S g e = 0 := (by unfold xgd; rw [if_neg (fun q => by first | omega | simp_all)])
                   refine ih (e + 1) I1 r (by omega) h2 ?_ ?_ (fun j hj => ?_) ?_
                   · rw [h3, xct, if_neg (by rw [hf]; decide)]; rfl
                   · rw [h4, xsm, hd]; rfl
                   · refine h5 j ?_
                     rw [xct, if_neg (by rw [hf]; decide)] at hj
                     omega
                   · rw [xct, if_neg (by rw [hf]; decide)]; exact xrow_skip h6 hf)
          · first
            | exfalso; omega
            | skip
              refine kw_ald_n x_L_gather_31 rfl ?_
              refine kw_gr x_L_gather_32 (by exact isE_k hC) (by exact isE_r4 hC) ?_
              refine kw_ild x_L_gather_35 rfl ?_
              refine kw_iald_n x_L_gather_37 (by first | exact isC_a5 hC | exact isC_a6 hC | exact isC_a7 hC | exact isC_a8 hC | exact isC_a9 hC | exact isC_a10 hC | exact isC_a11 hC | exact isC_a12 hC | exact isL_a1 hL | exact isL_a2 hL) (by omega) (by omega) (by first | exact hV.1 | exact hk0 | exact hk3 | exact hk4 | exact h3 | exact h4 | exact kt_u1_na (by omega) h3 | exact rfl) ?_
              refine kw_ild x_L_gather_38 rfl ?_
              first | refine kw_ic_eq_n x_L_gather_40 ⟨by omega, by omega⟩ (fun h40 => ?_) (fun h40 => ?_) | refine kw_ic_eq x_L_gather_40 (fun h40 => ?_) (fun h40 => ?_)
              · first
                | exfalso; omega
                | skip
                  refine kw_ald_n x_L_gather_46 rfl ?_
                  refine kw_gr x_L_gather_47 (by exact isE_k hC) (by exact isE_r1 hC) ?_
                  refine kw_ild x_L_gather_50 rfl ?_
                  refine kw_iald_n x_L_gather_52 (by first | exact isC_a5 hC | exact isC_a6 hC | exact isC_a7 hC | exact isC_a8 hC | exact isC_a9 hC | exact isC_a10 hC | exact isC_a11 hC | exact isC_a12 hC | exact isL_a1 hL | exact isL_a2 hL) (by omega) (by omega) (by first | exact hV.1 | exact hk0 | exact hk3 | exact hk4 | exact h3 | exact h4 | exact kt_u1_na (by omega) h3 | exact rfl) ?_
                  first | refine kw_if_ne_b x_L_gather_53 (fun h53 => ?_) (fun h53 => ?_) | refine kw_if_ne_s x_L_gather_53 ⟨by omega, by omega⟩ (fun h53 => ?_) (fun h53 => ?_) | refine kw_if_ne_n x_L_gather_53 (by omega) (fun h53 => ?_) (fun h53 => ?_) | refine kw_if_ne x_L_gather_53 (fun h53 => ?_) (fun h53 => ?_)
                  · first
                    | exfalso; omega
                    | skip
                      refine kw_ald_n x_L_gather_75 rfl ?_
                      refine kw_gr x_L_gather_76 (by exact isE_k hC) (by exact isE_r1 hC) ?_
                      refine kw_ild x_L_gather_79 rfl ?_
                      refine kw_iald_n x_L_gather_81 (by first | exact isC_a5 hC | exact isC_a6 hC | exact isC_a7 hC | exact isC_a8 hC | exact isC_a9 hC | exact isC_a10 hC | exact isC_a11 hC | exact isC_a12 hC | exact isL_a1 hL | exact isL_a2 hL) (by omega) (by omega) (by first | exact hV.1 | exact hk0 | exact hk3 | exact hk4 | exact h3 | exact h4 | exact kt_u1_na (by omega) h3 | exact rfl) ?_
                      refine kw_icon x_L_gather_82 ?_
                      first | refine kw_ic_ne_n x_L_gather_83 ⟨by omega, by omega⟩ (fun h83 => ?_) (fun h83 => ?_) | refine kw_ic_ne x_L_gather_83 (fun h83 => ?_) (fun h83 => ?_)
                      · first
                        | exfalso; omega
                        | skip
                          first | refine kw_iinc_n x_L_gather_107 (by decide) rfl ?_ | refine kw_iinc x_L_gather_107 (by decide) rfl ?_
                          refine kw_goto x_L_gather_110 ?_
                          first
                            | (have hf : xgf X S g e = true := (by simp [xgf, *])
                               have hd : xgd X S g e = 0 := (by unfold xgd; rw [if_neg (by omega)])
                               refine ih (e + 1) _ (xup r (xct (xgf X S g) e) e) (by omega) (fun a g1 g2 => by rw [kt_u1_ne _ _ _ g1, kt_u1_ne _ _ _ g2]; exact h2 a g1 g2) ?_ ?_ (fun j hj => ?_) ?_
                               · rw [kt_u1_eq, xct, if_pos hf]
                               · refine kt_u1_nj (by decide) (kt_u1_na (by omega) ?_)
                                 rw [h4, xsm, hd]; rfl
                               · refine kt_u1_na (by omega) ?_
                                 by_cases hje : j = xct (xgf X S g) e
                                 · subst hje; rw [xup_eq]; exact kt_u1_eq
                                 · rw [xup_ne _ _ hje]
                                   refine kt_u1_nj hje (h5 j ?_)
                                   rw [xct, if_pos hf] at hj
                                   omega
                               · rw [xct, if_pos hf]; exact xrow_add h6 hf)
                            | (have hf : xgf X S g e = false := (by simp [xgf, *]; done)
                               have hd : xgd X S g e = xe X e 4 := (by unfold xgd; rw [if_pos ⟨by assumption, by omega, by omega⟩])
                               refine ih (e + 1) _ r (by omega) (fun a g1 g2 => by rw [kt_u1_ne _ _ _ g1]; exact h2 a g1 g2) ?_ ?_ (fun j hj => ?_) ?_
                               · refine kt_u1_nj (by decide) ?_
                                 rw [h3, xct, if_neg (by rw [hf]; decide)]; rfl
                               · rw [kt_u1_eq, xsm, hd]
                               · refine kt_u1_na (by omega) (h5 j ?_)
                                 rw [xct, if_neg (by rw [hf]; decide)] at hj
                                 omega
                               · rw [xct, if_neg (by rw [hf]; decide)]; exact xrow_skip h6 hf)
                            | (have hf : xgf X S g e = false := (by simp [xgf, *]; done)
                               have hd : xgd X S g e = 0 := (by unfold xgd; rw [if_neg (fun q => by first | omega | simp_all)])
                               refine ih (e + 1) I1 r (by omega) h2 ?_ ?_ (fun j hj => ?_) ?_
                               · rw [h3, xct, if_neg (by rw [hf]; decide)]; rfl
                               · rw [h4, xsm, hd]; rfl
                               · refine h5 j ?_
                                 rw [xct, if_neg (by rw [hf]; decide)] at hj
                                 omega
                               · rw [xct, if_neg (by rw [hf]; decide)]; exact xrow_skip h6 hf)
                      · first
                        | exfalso; omega
                        | skip
                          refine kw_ald_n x_L_gather_86 rfl ?_
                          refine kw_gr x_L_gather_87 (by exact isL_k hL) (by exact isL_r0 hL) ?_
                          refine kw_ald_n x_L_gather_90 rfl ?_
                          refine kw_gi_e x_L_gather_91 (by exact isL_k hL) (by first | exact hV.1 | exact hk0 | exact hk3 | exact hk4 | exact h3 | exact h4 | exact kt_u1_na (by omega) h3 | exact rfl) ?_
                          refine kw_ild x_L_gather_94 rfl ?_
                          refine kw_iast_n x_L_gather_96 (by first | exact isC_a5 hC | exact isC_a6 hC | exact isC_a7 hC | exact isC_a8 hC | exact isC_a9 hC | exact isC_a10 hC | exact isC_a11 hC | exact isC_a12 hC | exact isL_a1 hL | exact isL_a2 hL) (by omega) (by omega) ?_
                          refine kw_ald_n x_L_gather_97 rfl ?_
                          refine kw_dup x_L_gather_98 rfl ?_
                          refine kw_gi_e x_L_gather_99 (by exact isL_k hL) (by first | exact hV.1 | exact hk0 | exact hk3 | exact hk4 | exact h3 | exact h4 | exact kt_u1_na (by omega) h3 | exact rfl) ?_
                          refine kw_icon x_L_gather_102 ?_
                          first | refine kw_iadd_n x_L_gather_103 ?_ | refine kw_iadd x_L_gather_103 ?_
                          refine kw_pi x_L_gather_104 (by exact isL_k hL) ?_
                          first | refine kw_iinc_n x_L_gather_107 (by decide) rfl ?_ | refine kw_iinc x_L_gather_107 (by decide) rfl ?_
                          refine kw_goto x_L_gather_110 ?_
                          first
                            | (have hf : xgf X S g e = true := (by simp [xgf, *])
                               have hd : xgd X S g e = 0 := (by unfold xgd; rw [if_neg (by omega)])
                               refine ih (e + 1) _ (xup r (xct (xgf X S g) e) e) (by omega) (fun a g1 g2 => by rw [kt_u1_ne _ _ _ g1, kt_u1_ne _ _ _ g2]; exact h2 a g1 g2) ?_ ?_ (fun j hj => ?_) ?_
                               · rw [kt_u1_eq, xct, if_pos hf]
                               · refine kt_u1_nj (by decide) (kt_u1_na (by omega) ?_)
                                 rw [h4, xsm, hd]; rfl
                               · refine kt_u1_na (by omega) ?_
                                 by_cases hje : j = xct (xgf X S g) e
                                 · subst hje; rw [xup_eq]; exact kt_u1_eq
                                 · rw [xup_ne _ _ hje]
                                   refine kt_u1_nj hje (h5 j ?_)
                                   rw [xct, if_pos hf] at hj
                                   omega
                               · rw [xct, if_pos hf]; exact xrow_add h6 hf)
                            | (have hf : xgf X S g e = false := (by simp [xgf, *]; done)
                               have hd : xgd X S g e = xe X e 4 := (by unfold xgd; rw [if_pos ⟨by assumption, by omega, by omega⟩])
                               refine ih (e + 1) _ r (by omega) (fun a g1 g2 => by rw [kt_u1_ne _ _ _ g1]; exact h2 a g1 g2) ?_ ?_ (fun j hj => ?_) ?_
                               · refine kt_u1_nj (by decide) ?_
                                 rw [h3, xct, if_neg (by rw [hf]; decide)]; rfl
                               · rw [kt_u1_eq, xsm, hd]
                               · refine kt_u1_na (by omega) (h5 j ?_)
                                 rw [xct, if_neg (by rw [hf]; decide)] at hj
                                 omega
                               · rw [xct, if_neg (by rw [hf]; decide)]; exact xrow_skip h6 hf)
                            | (have hf : xgf X S g e = false := (by simp [xgf, *]; done)
                               have hd : xgd X S g e = 0 := (by unfold xgd; rw [if_neg (fun q => by first | omega | simp_all)])
                               refine ih (e + 1) I1 r (by omega) h2 ?_ ?_ (fun j hj => ?_) ?_
                               · rw [h3, xct, if_neg (by rw [hf]; decide)]; rfl
                               · rw [h4, xsm, hd]; rfl
                               · refine h5 j ?_
                                 rw [xct, if_neg (by rw [hf]; decide)] at hj
                                 omega
                               · rw [xct, if_neg (by rw [hf]; decide)]; exact xrow_skip h6 hf)
                  · first
                    | exfalso; omega
                    | skip
                      refine kw_ald_n x_L_gather_56 rfl ?_
                      refine kw_dup x_L_gather_57 rfl ?_
                      refine kw_gi_e x_L_gather_58 (by exact isL_k hL) (by first | exact hV.1 | exact hk0 | exact hk3 | exact hk4 | exact h3 | exact h4 | exact kt_u1_na (by omega) h3 | exact rfl) ?_
                      refine kw_ald_n x_L_gather_61 rfl ?_
                      refine kw_gr x_L_gather_62 (by exact isE_k hC) (by exact isE_r5 hC) ?_
                      refine kw_ild x_L_gather_65 rfl ?_
                      refine kw_iald_n x_L_gather_67 (by first | exact isC_a5 hC | exact isC_a6 hC | exact isC_a7 hC | exact isC_a8 hC | exact isC_a9 hC | exact isC_a10 hC | exact isC_a11 hC | exact isC_a12 hC | exact isL_a1 hL | exact isL_a2 hL) (by omega) (by omega) (by first | exact hV.1 | exact hk0 | exact hk3 | exact hk4 | exact h3 | exact h4 | exact kt_u1_na (by omega) h3 | exact rfl) ?_
                      first | refine kw_iadd_n x_L_gather_68 ?_ | refine kw_iadd x_L_gather_68 ?_
                      refine kw_pi x_L_gather_69 (by exact isL_k hL) ?_
                      refine kw_goto x_L_gather_72 ?_
                      first | refine kw_iinc_n x_L_gather_107 (by decide) rfl ?_ | refine kw_iinc x_L_gather_107 (by decide) rfl ?_
                      refine kw_goto x_L_gather_110 ?_
                      first
                        | (have hf : xgf X S g e = true := (by simp [xgf, *])
                           have hd : xgd X S g e = 0 := (by unfold xgd; rw [if_neg (by omega)])
                           refine ih (e + 1) _ (xup r (xct (xgf X S g) e) e) (by omega) (fun a g1 g2 => by rw [kt_u1_ne _ _ _ g1, kt_u1_ne _ _ _ g2]; exact h2 a g1 g2) ?_ ?_ (fun j hj => ?_) ?_
                           · rw [kt_u1_eq, xct, if_pos hf]
                           · refine kt_u1_nj (by decide) (kt_u1_na (by omega) ?_)
                             rw [h4, xsm, hd]; rfl
                           · refine kt_u1_na (by omega) ?_
                             by_cases hje : j = xct (xgf X S g) e
                             · subst hje; rw [xup_eq]; exact kt_u1_eq
                             · rw [xup_ne _ _ hje]
                               refine kt_u1_nj hje (h5 j ?_)
                               rw [xct, if_pos hf] at hj
                               omega
                           · rw [xct, if_pos hf]; exact xrow_add h6 hf)
                        | (have hf : xgf X S g e = false := (by simp [xgf, *]; done)
                           have hd : xgd X S g e = xe X e 4 := (by unfold xgd; rw [if_pos ⟨by assumption, by omega, by omega⟩])
                           refine ih (e + 1) _ r (by omega) (fun a g1 g2 => by rw [kt_u1_ne _ _ _ g1]; exact h2 a g1 g2) ?_ ?_ (fun j hj => ?_) ?_
                           · refine kt_u1_nj (by decide) ?_
                             rw [h3, xct, if_neg (by rw [hf]; decide)]; rfl
                           · rw [kt_u1_eq, xsm, hd]
                           · refine kt_u1_na (by omega) (h5 j ?_)
                             rw [xct, if_neg (by rw [hf]; decide)] at hj
                             omega
                           · rw [xct, if_neg (by rw [hf]; decide)]; exact xrow_skip h6 hf)
                        | (have hf : xgf X S g e = false := (by simp [xgf, *]; done)
                           have hd : xgd X S g e = 0 := (by unfold xgd; rw [if_neg (fun q => by first | omega | simp_all)])
                           refine ih (e + 1) I1 r (by omega) h2 ?_ ?_ (fun j hj => ?_) ?_
                           · rw [h3, xct, if_neg (by rw [hf]; decide)]; rfl
                           · rw [h4, xsm, hd]; rfl
                           · refine h5 j ?_
                             rw [xct, if_neg (by rw [hf]; decide)] at hj
                             omega
                           · rw [xct, if_neg (by rw [hf]; decide)]; exact xrow_skip h6 hf)
              · first
                | exfalso; omega
                | skip
                  refine kw_goto x_L_gather_43 ?_
                  first | refine kw_iinc_n x_L_gather_107 (by decide) rfl ?_ | refine kw_iinc x_L_gather_107 (by decide) rfl ?_
                  refine kw_goto x_L_gather_110 ?_
                  first
                    | (have hf : xgf X S g e = true := (by simp [xgf, *])
                       have hd : xgd X S g e = 0 := (by unfold xgd; rw [if_neg (by omega)])
                       refine ih (e + 1) _ (xup r (xct (xgf X S g) e) e) (by omega) (fun a g1 g2 => by rw [kt_u1_ne _ _ _ g1, kt_u1_ne _ _ _ g2]; exact h2 a g1 g2) ?_ ?_ (fun j hj => ?_) ?_
                       · rw [kt_u1_eq, xct, if_pos hf]
                       · refine kt_u1_nj (by decide) (kt_u1_na (by omega) ?_)
                         rw [h4, xsm, hd]; rfl
                       · refine kt_u1_na (by omega) ?_
                         by_cases hje : j = xct (xgf X S g) e
                         · subst hje; rw [xup_eq]; exact kt_u1_eq
                         · rw [xup_ne _ _ hje]
                           refine kt_u1_nj hje (h5 j ?_)
                           rw [xct, if_pos hf] at hj
                           omega
                       · rw [xct, if_pos hf]; exact xrow_add h6 hf)
                    | (have hf : xgf X S g e = false := (by simp [xgf, *]; done)
                       have hd : xgd X S g e = xe X e 4 := (by unfold xgd; rw [if_pos ⟨by assumption, by omega, by omega⟩])
                       refine ih (e + 1) _ r (by omega) (fun a g1 g2 => by rw [kt_u1_ne _ _ _ g1]; exact h2 a g1 g2) ?_ ?_ (fun j hj => ?_) ?_
                       · refine kt_u1_nj (by decide) ?_
                         rw [h3, xct, if_neg (by rw [hf]; decide)]; rfl
                       · rw [kt_u1_eq, xsm, hd]
                       · refine kt_u1_na (by omega) (h5 j ?_)
                         rw [xct, if_neg (by rw [hf]; decide)] at hj
                         omega
                       · rw [xct, if_neg (by rw [hf]; decide)]; exact xrow_skip h6 hf)
                    | (have hf : xgf X S g e = false := (by simp [xgf, *]; done)
                       have hd : xgd X S g e = 0 := (by unfold xgd; rw [if_neg (fun q => by first | omega | simp_all)])
                       refine ih (e + 1) I1 r (by omega) h2 ?_ ?_ (fun j hj => ?_) ?_
                       · rw [h3, xct, if_neg (by rw [hf]; decide)]; rfl
                       · rw [h4, xsm, hd]; rfl
                       · refine h5 j ?_
                         rw [xct, if_neg (by rw [hf]; decide)] at hj
                         omega
                       · rw [xct, if_neg (by rw [hf]; decide)]; exact xrow_skip h6 hf)
  refine kw_ald_n x_L_gather_0 rfl ?_
  refine kw_icon x_L_gather_1 ?_
  refine kw_pi x_L_gather_2 (by exact isL_k hL) ?_
  refine kw_ald_n x_L_gather_5 rfl ?_
  refine kw_icon x_L_gather_6 ?_
  refine kw_pi x_L_gather_7 (by exact isL_k hL) ?_
  refine kw_icon x_L_gather_10 ?_
  refine kw_ist x_L_gather_11 (by decide) ?_
  exact loop (xn X) 0 _ (fun _ => 0) (by omega) (fun a g1 g2 => by rw [kt_u1_ne _ _ _ g1, kt_u1_ne _ _ _ g1]) (kt_u1_nj (by decide) kt_u1_eq) kt_u1_eq (fun j hj => absurd hj (Nat.not_lt_zero j)) ⟨fun j _ h => absurd h (Nat.not_lt_zero j), fun e h => absurd h (Nat.not_lt_zero e), fun i j _ h => absurd h (Nat.not_lt_zero i)⟩
theorem s_L_weight (hC : kt_isC P N R lo c) (hL : kt_isL P N R lo) (hV : kt_V c X I) (hW : kt_wf X) {G : Nat → Nat} (hG : ∀ p, p < 10 → I (lo + 2) p = nI (G p)) {e : Nat} (he : e < xn X) (h1 : xe X e 0 = 1)
    (k : Q (some (.int (nI (xky X G e)))) I J R) : KW P i_L_weight N 0 [some (.ref lo), some (.ref (c + 4)), some (.int (nI (xr X))), some (.int (nI e)), none, none] [] N I J R Q := by
  have hn := hW.2.2.1
  have hr := hW.1
  have hx := hW.2.2.2.2.2.1 e he
  have hp := hx.2.2.2.2.2.1.2.1 (by omega)
  have hp2 := hx.2.2.2.2.2.1.2.2
  have hk1 : I (c + 6) e = nI (xe X e 1) := hV.2 e 1 he (by decide)
  have hk2 : I (c + 7) e = nI (xe X e 2) := hV.2 e 2 he (by decide)
  have hk4 : I (c + 9) e = nI (xe X e 4) := hV.2 e 4 he (by decide)
  have hk5 : I (c + 10) e = nI (xe X e 5 - 1) := by
    have h5 := hV.2 e 5 he (by decide)
    unfold kt_cd at h5
    rw [if_pos (Or.inl rfl), if_neg (by omega)] at h5
    exact h5
  unfold xky at k
  refine kw_ald_n x_L_weight_0 rfl ?_
  refine kw_gr x_L_weight_1 (by exact isE_k hC) (by exact isE_r6 hC) ?_
  refine kw_ild_n x_L_weight_4 rfl ?_
  refine kw_iald_n x_L_weight_5 (by first | exact isC_a5 hC | exact isC_a6 hC | exact isC_a7 hC | exact isC_a8 hC | exact isC_a9 hC | exact isC_a10 hC | exact isC_a11 hC | exact isC_a12 hC | exact isL_a1 hL | exact isL_a2 hL) (by omega) (by omega) (by first | exact hk1 | exact hk2 | exact hk4 | exact hk5 | exact hG _ (by omega) | exact rfl) ?_
  refine kw_ist x_L_weight_6 (by decide) ?_
  refine kw_icon x_L_weight_8 ?_
  refine kw_ist x_L_weight_9 (by decide) ?_
  refine kw_ild_n x_L_weight_11 rfl ?_
  refine kw_icon x_L_weight_12 ?_
  first | refine kw_ic_ne_n x_L_weight_13 ⟨by omega, by omega⟩ (fun h13 => ?_) (fun h13 => ?_) | refine kw_ic_ne x_L_weight_13 (fun h13 => ?_) (fun h13 => ?_)
  · first
    | exfalso; omega
    | skip
      refine kw_ild_n x_L_weight_27 rfl ?_
      refine kw_icon x_L_weight_28 ?_
      first | refine kw_ic_ne_n x_L_weight_29 ⟨by omega, by omega⟩ (fun h29 => ?_) (fun h29 => ?_) | refine kw_ic_ne x_L_weight_29 (fun h29 => ?_) (fun h29 => ?_)
      · first
        | exfalso; omega
        | skip
          refine kw_ild x_L_weight_53 rfl ?_
          refine kw_sip x_L_weight_55 ?_
          first | refine kw_imul_n x_L_weight_58 ?_ | refine kw_imul x_L_weight_58 ?_
          refine kw_ald_n x_L_weight_59 rfl ?_
          refine kw_gr x_L_weight_60 (by exact isE_k hC) (by exact isE_r3 hC) ?_
          refine kw_ild_n x_L_weight_63 rfl ?_
          refine kw_iald_n x_L_weight_64 (by first | exact isC_a5 hC | exact isC_a6 hC | exact isC_a7 hC | exact isC_a8 hC | exact isC_a9 hC | exact isC_a10 hC | exact isC_a11 hC | exact isC_a12 hC | exact isL_a1 hL | exact isL_a2 hL) (by omega) (by omega) (by first | exact hk1 | exact hk2 | exact hk4 | exact hk5 | exact hG _ (by omega) | exact rfl) ?_
          refine kw_icon x_L_weight_65 ?_
          first | refine kw_imul_n x_L_weight_66 ?_ | refine kw_imul x_L_weight_66 ?_
          first | refine kw_iadd_n x_L_weight_67 ?_ | refine kw_iadd x_L_weight_67 ?_
          refine kw_ald_n x_L_weight_68 rfl ?_
          refine kw_gr x_L_weight_69 (by exact isE_k hC) (by exact isE_r2 hC) ?_
          refine kw_ild_n x_L_weight_72 rfl ?_
          refine kw_iald_n x_L_weight_73 (by first | exact isC_a5 hC | exact isC_a6 hC | exact isC_a7 hC | exact isC_a8 hC | exact isC_a9 hC | exact isC_a10 hC | exact isC_a11 hC | exact isC_a12 hC | exact isL_a1 hL | exact isL_a2 hL) (by omega) (by omega) (by first | exact hk1 | exact hk2 | exact hk4 | exact hk5 | exact hG _ (by omega) | exact rfl) ?_
          first | refine kw_iadd_n x_L_weight_74 ?_ | refine kw_iadd x_L_weight_74 ?_
          refine kw_iret x_L_weight_75 ?_
          first
            | (rw [if_pos (show xr X = 0 by omega), ← Nat.add_assoc] at k
               exact k)
            | (rw [if_neg (show ¬ xr X = 0 by omega), if_pos (show xr X = 1 by omega), ← Nat.add_assoc] at k
               exact k)
            | (rw [if_neg (show ¬ xr X = 0 by omega), if_neg (show ¬ xr X = 1 by omega), ← Nat.add_assoc] at k
               exact k)
      · first
        | exfalso; omega
        | skip
          refine kw_ild x_L_weight_32 rfl ?_
          first | refine kw_if_lt_s x_L_weight_34 ⟨by omega, by omega⟩ (fun h34 => ?_) (fun h34 => ?_) | refine kw_if_lt_n x_L_weight_34 (by omega) (fun h34 => ?_) (fun h34 => ?_) | refine kw_if_lt x_L_weight_34 (fun h34 => ?_) (fun h34 => ?_)
          · first
            | exfalso; omega
            | skip
              refine kw_ild x_L_weight_53 rfl ?_
              refine kw_sip x_L_weight_55 ?_
              first | refine kw_imul_n x_L_weight_58 ?_ | refine kw_imul x_L_weight_58 ?_
              refine kw_ald_n x_L_weight_59 rfl ?_
              refine kw_gr x_L_weight_60 (by exact isE_k hC) (by exact isE_r3 hC) ?_
              refine kw_ild_n x_L_weight_63 rfl ?_
              refine kw_iald_n x_L_weight_64 (by first | exact isC_a5 hC | exact isC_a6 hC | exact isC_a7 hC | exact isC_a8 hC | exact isC_a9 hC | exact isC_a10 hC | exact isC_a11 hC | exact isC_a12 hC | exact isL_a1 hL | exact isL_a2 hL) (by omega) (by omega) (by first | exact hk1 | exact hk2 | exact hk4 | exact hk5 | exact hG _ (by omega) | exact rfl) ?_
              refine kw_icon x_L_weight_65 ?_
              first | refine kw_imul_n x_L_weight_66 ?_ | refine kw_imul x_L_weight_66 ?_
              first | refine kw_iadd_n x_L_weight_67 ?_ | refine kw_iadd x_L_weight_67 ?_
              refine kw_ald_n x_L_weight_68 rfl ?_
              refine kw_gr x_L_weight_69 (by exact isE_k hC) (by exact isE_r2 hC) ?_
              refine kw_ild_n x_L_weight_72 rfl ?_
              refine kw_iald_n x_L_weight_73 (by first | exact isC_a5 hC | exact isC_a6 hC | exact isC_a7 hC | exact isC_a8 hC | exact isC_a9 hC | exact isC_a10 hC | exact isC_a11 hC | exact isC_a12 hC | exact isL_a1 hL | exact isL_a2 hL) (by omega) (by omega) (by first | exact hk1 | exact hk2 | exact hk4 | exact hk5 | exact hG _ (by omega) | exact rfl) ?_
              first | refine kw_iadd_n x_L_weight_74 ?_ | refine kw_iadd x_L_weight_74 ?_
              refine kw_iret x_L_weight_75 ?_
              first
                | (rw [if_pos (show xr X = 0 by omega), ← Nat.add_assoc] at k
                   exact k)
                | (rw [if_neg (show ¬ xr X = 0 by omega), if_pos (show xr X = 1 by omega), ← Nat.add_assoc] at k
                   exact k)
                | (rw [if_neg (show ¬ xr X = 0 by omega), if_neg (show ¬ xr X = 1 by omega), ← Nat.add_assoc] at k
                   exact k)
          · first
            | exfalso; omega
            | skip
              refine kw_ild x_L_weight_37 rfl ?_
              refine kw_bip x_L_weight_39 ?_
              first | refine kw_ic_ge_n x_L_weight_41 ⟨by omega, by omega⟩ (fun h41 => ?_) (fun h41 => ?_) | refine kw_ic_ge x_L_weight_41 (fun h41 => ?_) (fun h41 => ?_)
              · first
                | exfalso; omega
                | skip
                  refine kw_ild x_L_weight_53 rfl ?_
                  refine kw_sip x_L_weight_55 ?_
                  first | refine kw_imul_n x_L_weight_58 ?_ | refine kw_imul x_L_weight_58 ?_
                  refine kw_ald_n x_L_weight_59 rfl ?_
                  refine kw_gr x_L_weight_60 (by exact isE_k hC) (by exact isE_r3 hC) ?_
                  refine kw_ild_n x_L_weight_63 rfl ?_
                  refine kw_iald_n x_L_weight_64 (by first | exact isC_a5 hC | exact isC_a6 hC | exact isC_a7 hC | exact isC_a8 hC | exact isC_a9 hC | exact isC_a10 hC | exact isC_a11 hC | exact isC_a12 hC | exact isL_a1 hL | exact isL_a2 hL) (by omega) (by omega) (by first | exact hk1 | exact hk2 | exact hk4 | exact hk5 | exact hG _ (by omega) | exact rfl) ?_
                  refine kw_icon x_L_weight_65 ?_
                  first | refine kw_imul_n x_L_weight_66 ?_ | refine kw_imul x_L_weight_66 ?_
                  first | refine kw_iadd_n x_L_weight_67 ?_ | refine kw_iadd x_L_weight_67 ?_
                  refine kw_ald_n x_L_weight_68 rfl ?_
                  refine kw_gr x_L_weight_69 (by exact isE_k hC) (by exact isE_r2 hC) ?_
                  refine kw_ild_n x_L_weight_72 rfl ?_
                  refine kw_iald_n x_L_weight_73 (by first | exact isC_a5 hC | exact isC_a6 hC | exact isC_a7 hC | exact isC_a8 hC | exact isC_a9 hC | exact isC_a10 hC | exact isC_a11 hC | exact isC_a12 hC | exact isL_a1 hL | exact isL_a2 hL) (by omega) (by omega) (by first | exact hk1 | exact hk2 | exact hk4 | exact hk5 | exact hG _ (by omega) | exact rfl) ?_
                  first | refine kw_iadd_n x_L_weight_74 ?_ | refine kw_iadd x_L_weight_74 ?_
                  refine kw_iret x_L_weight_75 ?_
                  first
                    | (rw [if_pos (show xr X = 0 by omega), ← Nat.add_assoc] at k
                       exact k)
                    | (rw [if_neg (show ¬ xr X = 0 by omega), if_pos (show xr X = 1 by omega), ← Nat.add_assoc] at k
                       exact k)
                    | (rw [if_neg (show ¬ xr X = 0 by omega), if_neg (show ¬ xr X = 1 by omega), ← Nat.add_assoc] at k
                       exact k)
              · first
                | exfalso; omega
                | skip
                  refine kw_ald_n x_L_weight_44 rfl ?_
                  refine kw_gr x_L_weight_45 (by exact isL_k hL) (by exact isL_r3 hL) ?_
                  refine kw_ild x_L_weight_48 rfl ?_
                  refine kw_iald_n x_L_weight_50 (by first | exact isC_a5 hC | exact isC_a6 hC | exact isC_a7 hC | exact isC_a8 hC | exact isC_a9 hC | exact isC_a10 hC | exact isC_a11 hC | exact isC_a12 hC | exact isL_a1 hL | exact isL_a2 hL) (by omega) (by omega) (by first | exact hk1 | exact hk2 | exact hk4 | exact hk5 | exact hG _ (by omega) | exact rfl) ?_
                  refine kw_ist x_L_weight_51 (by decide) ?_
                  refine kw_ild x_L_weight_53 rfl ?_
                  refine kw_sip x_L_weight_55 ?_
                  first | refine kw_imul_n x_L_weight_58 ?_ | refine kw_imul x_L_weight_58 ?_
                  refine kw_ald_n x_L_weight_59 rfl ?_
                  refine kw_gr x_L_weight_60 (by exact isE_k hC) (by exact isE_r3 hC) ?_
                  refine kw_ild_n x_L_weight_63 rfl ?_
                  refine kw_iald_n x_L_weight_64 (by first | exact isC_a5 hC | exact isC_a6 hC | exact isC_a7 hC | exact isC_a8 hC | exact isC_a9 hC | exact isC_a10 hC | exact isC_a11 hC | exact isC_a12 hC | exact isL_a1 hL | exact isL_a2 hL) (by omega) (by omega) (by first | exact hk1 | exact hk2 | exact hk4 | exact hk5 | exact hG _ (by omega) | exact rfl) ?_
                  refine kw_icon x_L_weight_65 ?_
                  first | refine kw_imul_n x_L_weight_66 ?_ | refine kw_imul x_L_weight_66 ?_
                  first | refine kw_iadd_n x_L_weight_67 ?_ | refine kw_iadd x_L_weight_67 ?_
                  refine kw_ald_n x_L_weight_68 rfl ?_
                  refine kw_gr x_L_weight_69 (by exact isE_k hC) (by exact isE_r2 hC) ?_
                  refine kw_ild_n x_L_weight_72 rfl ?_
                  refine kw_iald_n x_L_weight_73 (by first | exact isC_a5 hC | exact isC_a6 hC | exact isC_a7 hC | exact isC_a8 hC | exact isC_a9 hC | exact isC_a10 hC | exact isC_a11 hC | exact isC_a12 hC | exact isL_a1 hL | exact isL_a2 hL) (by omega) (by omega) (by first | exact hk1 | exact hk2 | exact hk4 | exact hk5 | exact hG _ (by omega) | exact rfl) ?_
                  first | refine kw_iadd_n x_L_weight_74 ?_ | refine kw_iadd x_L_weight_74 ?_
                  refine kw_iret x_L_weight_75 ?_
                  first
                    | (rw [if_pos (show xr X = 0 by omega), ← Nat.add_assoc] at k
                       exact k)
                    | (rw [if_neg (show ¬ xr X = 0 by omega), if_pos (show xr X = 1 by omega), ← Nat.add_assoc] at k
                       exact k)
                    | (rw [if_neg (show ¬ xr X = 0 by omega), if_neg (show ¬ xr X = 1 by omega), ← Nat.add_assoc] at k
                       exact k)
  · first
    | exfalso; omega
    | skip
      refine kw_ald_n x_L_weight_16 rfl ?_
      refine kw_gr x_L_weight_17 (by exact isE_k hC) (by exact isE_r5 hC) ?_
      refine kw_ild_n x_L_weight_20 rfl ?_
      refine kw_iald_n x_L_weight_21 (by first | exact isC_a5 hC | exact isC_a6 hC | exact isC_a7 hC | exact isC_a8 hC | exact isC_a9 hC | exact isC_a10 hC | exact isC_a11 hC | exact isC_a12 hC | exact isL_a1 hL | exact isL_a2 hL) (by omega) (by omega) (by first | exact hk1 | exact hk2 | exact hk4 | exact hk5 | exact hG _ (by omega) | exact rfl) ?_
      refine kw_ist x_L_weight_22 (by decide) ?_
      refine kw_goto x_L_weight_24 ?_
      refine kw_ild x_L_weight_53 rfl ?_
      refine kw_sip x_L_weight_55 ?_
      first | refine kw_imul_n x_L_weight_58 ?_ | refine kw_imul x_L_weight_58 ?_
      refine kw_ald_n x_L_weight_59 rfl ?_
      refine kw_gr x_L_weight_60 (by exact isE_k hC) (by exact isE_r3 hC) ?_
      refine kw_ild_n x_L_weight_63 rfl ?_
      refine kw_iald_n x_L_weight_64 (by first | exact isC_a5 hC | exact isC_a6 hC | exact isC_a7 hC | exact isC_a8 hC | exact isC_a9 hC | exact isC_a10 hC | exact isC_a11 hC | exact isC_a12 hC | exact isL_a1 hL | exact isL_a2 hL) (by omega) (by omega) (by first | exact hk1 | exact hk2 | exact hk4 | exact hk5 | exact hG _ (by omega) | exact rfl) ?_
      refine kw_icon x_L_weight_65 ?_
      first | refine kw_imul_n x_L_weight_66 ?_ | refine kw_imul x_L_weight_66 ?_
      first | refine kw_iadd_n x_L_weight_67 ?_ | refine kw_iadd x_L_weight_67 ?_
      refine kw_ald_n x_L_weight_68 rfl ?_
      refine kw_gr x_L_weight_69 (by exact isE_k hC) (by exact isE_r2 hC) ?_
      refine kw_ild_n x_L_weight_72 rfl ?_
      refine kw_iald_n x_L_weight_73 (by first | exact isC_a5 hC | exact isC_a6 hC | exact isC_a7 hC | exact isC_a8 hC | exact isC_a9 hC | exact isC_a10 hC | exact isC_a11 hC | exact isC_a12 hC | exact isL_a1 hL | exact isL_a2 hL) (by omega) (by omega) (by first | exact hk1 | exact hk2 | exact hk4 | exact hk5 | exact hG _ (by omega) | exact rfl) ?_
      first | refine kw_iadd_n x_L_weight_74 ?_ | refine kw_iadd x_L_weight_74 ?_
      refine kw_iret x_L_weight_75 ?_
      first
        | (rw [if_pos (show xr X = 0 by omega), ← Nat.add_assoc] at k
           exact k)
        | (rw [if_neg (show ¬ xr X = 0 by omega), if_pos (show xr X = 1 by omega), ← Nat.add_assoc] at k
           exact k)
        | (rw [if_neg (show ¬ xr X = 0 by omega), if_neg (show ¬ xr X = 1 by omega), ← Nat.add_assoc] at k
           exact k)
theorem s_L_nextPlace (hC : kt_isC P N R lo c) (hL : kt_isL P N R lo) (hV : kt_V c X I) (hW : kt_wf X) {G r : Nat → Nat} (hG : ∀ p, p < 10 → I (lo + 2) p = nI (G p)) (hG2 : ∀ p, p < 10 → G p < 10000) {a b : Nat} (hab : a < b) (hb : b ≤ 60) (hlen : I lo 1 = nI b) (hr : ∀ j, j < b → I (lo + 1) j = nI (r j)) (ho : ∀ j, a ≤ j → j < b → r j < xn X ∧ xe X (r j) 0 = 1)
    (k : ∀ q, a ≤ q → q < b → (∀ j, a ≤ j → j < b → xky X G (r q) ≤ xky X G (r j)) → Q (some (.int (nI q))) I J R) :
    KW P i_L_nextPlace N 0 [some (.ref lo), some (.ref (c + 4)), some (.int (nI (xr X))), some (.int (nI a)), none, none, none, none] [] N I J R Q := by
  have hn := hW.2.2.1
  have hky : ∀ j, a ≤ j → j < b → xky X G (r j) < 100000000 := fun j h1 h2 => xky_lt hW hG2 (ho j h1 h2).1 (ho j h1 h2).2
  have loop : ∀ (d q s : Nat) (v7 : Option Value), q + d = b → a ≤ s → s < q → (∀ j, a ≤ j → j < q → xky X G (r s) ≤ xky X G (r j)) → KW P i_L_nextPlace N 22 [some (.ref lo), some (.ref (c + 4)), some (.int (nI (xr X))), some (.int (nI a)), some (.int (nI s)), some (.int (nI (xky X G (r s)))), some (.int (nI q)), v7] [] N I J R Q := by
    intro d
    induction d with
    | zero =>
      intro q s v7 h1 h2 h3 h4
      have h5 : q = b := by omega
      subst h5
      refine kw_ild x_L_nextPlace_22 rfl ?_
      refine kw_ald_n x_L_nextPlace_24 rfl ?_
      refine kw_gi_e x_L_nextPlace_25 (by exact isL_k hL) (by first | exact hlen | exact hr _ (by omega) | exact rfl) ?_
      first | refine kw_ic_ge_n x_L_nextPlace_28 ⟨by omega, by omega⟩ (fun h28 => ?_) (fun h28 => ?_) | refine kw_ic_ge x_L_nextPlace_28 (fun h28 => ?_) (fun h28 => ?_)
      · first
        | exfalso; omega
        | skip
          refine kw_ild x_L_nextPlace_67 rfl ?_
          refine kw_iret x_L_nextPlace_69 ?_
          exact k s h2 h3 h4
      · first
        | exfalso; omega
        | skip
          skip
    | succ d ih =>
      intro q s v7 h1 h2 h3 h4
      have hkq := hky q (by omega) (by omega)
      have hks := hky s (by omega) (by omega)
      refine kw_ild x_L_nextPlace_22 rfl ?_
      refine kw_ald_n x_L_nextPlace_24 rfl ?_
      refine kw_gi_e x_L_nextPlace_25 (by exact isL_k hL) (by first | exact hlen | exact hr _ (by omega) | exact rfl) ?_
      first | refine kw_ic_ge_n x_L_nextPlace_28 ⟨by omega, by omega⟩ (fun h28 => ?_) (fun h28 => ?_) | refine kw_ic_ge x_L_nextPlace_28 (fun h28 => ?_) (fun h28 => ?_)
      · first
        | exfalso; omega
        | skip
          skip
      · first
        | exfalso; omega
        | skip
          refine kw_ald_n x_L_nextPlace_31 rfl ?_
          refine kw_ald_n x_L_nextPlace_32 rfl ?_
          refine kw_ild_n x_L_nextPlace_33 rfl ?_
          refine kw_ald_n x_L_nextPlace_34 rfl ?_
          refine kw_gr x_L_nextPlace_35 (by exact isL_k hL) (by exact isL_r0 hL) ?_
          refine kw_ild x_L_nextPlace_38 rfl ?_
          refine kw_iald_n x_L_nextPlace_40 (by first | exact isC_a5 hC | exact isC_a6 hC | exact isC_a7 hC | exact isC_a8 hC | exact isC_a9 hC | exact isC_a10 hC | exact isC_a11 hC | exact isC_a12 hC | exact isL_a1 hL | exact isL_a2 hL) (by omega) (by omega) (by first | exact hlen | exact hr _ (by omega) | exact rfl) ?_
          refine c_L_nextPlace_41 (by exact isL_k hL) (Nat.le_of_ble_eq_true rfl) ?_
          refine s_L_weight hC hL hV hW hG (ho _ (by omega) (by omega)).1 (ho _ (by omega) (by omega)).2 ?_
          refine kw_ist x_L_nextPlace_44 (by decide) ?_
          refine kw_ild x_L_nextPlace_46 rfl ?_
          refine kw_ild x_L_nextPlace_48 rfl ?_
          first | refine kw_ic_ge_n x_L_nextPlace_50 ⟨by omega, by omega⟩ (fun h50 => ?_) (fun h50 => ?_) | refine kw_ic_ge x_L_nextPlace_50 (fun h50 => ?_) (fun h50 => ?_)
          · first
            | exfalso; omega
            | skip
              first | refine kw_iinc_n x_L_nextPlace_61 (by decide) rfl ?_ | refine kw_iinc x_L_nextPlace_61 (by decide) rfl ?_
              refine kw_goto x_L_nextPlace_64 ?_
              first
                | (refine ih (q + 1) s _ (by omega) h2 (by omega) (fun j g1 g2 => ?_)
                   by_cases hj : j = q
                   · subst hj; omega
                   · exact h4 j g1 (by omega))
                | (refine ih (q + 1) q _ (by omega) (by omega) (by omega) (fun j g1 g2 => ?_)
                   by_cases hj : j = q
                   · subst hj; exact Nat.le_refl _
                   · have := h4 j g1 (by omega)
                     omega)
          · first
            | exfalso; omega
            | skip
              refine kw_ild x_L_nextPlace_53 rfl ?_
              refine kw_ist x_L_nextPlace_55 (by decide) ?_
              refine kw_ild x_L_nextPlace_57 rfl ?_
              refine kw_ist x_L_nextPlace_59 (by decide) ?_
              first | refine kw_iinc_n x_L_nextPlace_61 (by decide) rfl ?_ | refine kw_iinc x_L_nextPlace_61 (by decide) rfl ?_
              refine kw_goto x_L_nextPlace_64 ?_
              first
                | (refine ih (q + 1) s _ (by omega) h2 (by omega) (fun j g1 g2 => ?_)
                   by_cases hj : j = q
                   · subst hj; omega
                   · exact h4 j g1 (by omega))
                | (refine ih (q + 1) q _ (by omega) (by omega) (by omega) (fun j g1 g2 => ?_)
                   by_cases hj : j = q
                   · subst hj; exact Nat.le_refl _
                   · have := h4 j g1 (by omega)
                     omega)
  refine kw_ild_n x_L_nextPlace_0 rfl ?_
  refine kw_ist x_L_nextPlace_1 (by decide) ?_
  refine kw_ald_n x_L_nextPlace_3 rfl ?_
  refine kw_ald_n x_L_nextPlace_4 rfl ?_
  refine kw_ild_n x_L_nextPlace_5 rfl ?_
  refine kw_ald_n x_L_nextPlace_6 rfl ?_
  refine kw_gr x_L_nextPlace_7 (by exact isL_k hL) (by exact isL_r0 hL) ?_
  refine kw_ild_n x_L_nextPlace_10 rfl ?_
  refine kw_iald_n x_L_nextPlace_11 (by first | exact isC_a5 hC | exact isC_a6 hC | exact isC_a7 hC | exact isC_a8 hC | exact isC_a9 hC | exact isC_a10 hC | exact isC_a11 hC | exact isC_a12 hC | exact isL_a1 hL | exact isL_a2 hL) (by omega) (by omega) (by first | exact hlen | exact hr _ (by omega) | exact rfl) ?_
  refine c_L_nextPlace_12 (by exact isL_k hL) (Nat.le_of_ble_eq_true rfl) ?_
  refine s_L_weight hC hL hV hW hG (ho _ (by omega) (by omega)).1 (ho _ (by omega) (by omega)).2 ?_
  refine kw_ist x_L_nextPlace_15 (by decide) ?_
  refine kw_ild_n x_L_nextPlace_17 rfl ?_
  refine kw_icon x_L_nextPlace_18 ?_
  first | refine kw_iadd_n x_L_nextPlace_19 ?_ | refine kw_iadd x_L_nextPlace_19 ?_
  refine kw_ist x_L_nextPlace_20 (by decide) ?_
  exact loop (b - (a + 1)) (a + 1) a _ (by omega) (Nat.le_refl _) (by omega) (fun j g1 g2 => by rw [show j = a by omega]; exact Nat.le_refl _)
theorem s_L_decide (hL : kt_isL P N R lo) {le pi p e : Nat} (he : e < 60) (hp : p < 10) (hle : le < 1000000) (hpi : pi < 1000000) (h2 : I lo 2 = nI le) {G : Nat → Nat} (hG : ∀ p, p < 10 → I (lo + 2) p = nI (G p))
    (k0 : le < pi → Q none I (kt_uL J lo 5 (J lo 5 ||| kS (fun j => decide (j = e)))) R)
    (k : pi ≤ le → Q none (kt_u1 (kt_u1 I lo 2 (nI (le - pi))) (lo + 2) p (nI (G p + pi))) (kt_uL J lo 4 (J lo 4 ||| kS (fun j => decide (j = e)))) R) :
    KW P i_L_decide N 0 [some (.ref lo), some (.int (nI e)), some (.int (nI pi)), some (.int (nI p))] [] N I J R Q := by
  refine kw_ild_n x_L_decide_0 rfl ?_
  refine kw_ald_n x_L_decide_1 rfl ?_
  refine kw_gi_e x_L_decide_2 (by exact isL_k hL) (by first | exact h2 | exact kt_u1_na (by omega) (hG _ hp) | exact rfl) ?_
  first | refine kw_ic_le_n x_L_decide_5 ⟨by omega, by omega⟩ (fun h5 => ?_) (fun h5 => ?_) | refine kw_ic_le x_L_decide_5 (fun h5 => ?_) (fun h5 => ?_)
  · first
    | exfalso; omega
    | skip
      refine kw_ald_n x_L_decide_21 rfl ?_
      refine kw_dup x_L_decide_22 rfl ?_
      refine kw_gl_e x_L_decide_23 (by exact isL_k hL) (by first | exact h2 | exact kt_u1_na (by omega) (hG _ hp) | exact rfl) ?_
      refine kw_lconst x_L_decide_26 ?_
      refine kw_ild_n x_L_decide_27 rfl ?_
      refine kw_lshl x_L_decide_28 ?_
      rw [show (1 : Int64) = nJ 1 from rfl, kS_one he]
      refine kw_lor x_L_decide_29 ?_
      refine kw_pl x_L_decide_30 (by exact isL_k hL) ?_
      refine kw_ald_n x_L_decide_33 rfl ?_
      refine kw_dup x_L_decide_34 rfl ?_
      refine kw_gi_e x_L_decide_35 (by exact isL_k hL) (by first | exact h2 | exact kt_u1_na (by omega) (hG _ hp) | exact rfl) ?_
      refine kw_ild_n x_L_decide_38 rfl ?_
      first | refine kw_isub_n x_L_decide_39 (by omega) ?_ | refine kw_isub x_L_decide_39 ?_
      refine kw_pi x_L_decide_40 (by exact isL_k hL) ?_
      refine kw_ild_n x_L_decide_43 rfl ?_
      refine kw_bip x_L_decide_44 ?_
      refine c_L_decide_46 (Nat.le_of_ble_eq_true rfl) ?_
      refine s_K_isBelow (b := 10) ?_
      rw [decide_eq_true ((kt_isT (T := 10) (by decide)).mpr ⟨p, hp, rfl⟩)]
      first | refine kw_if_eq_b x_L_decide_49 (fun h49 => ?_) (fun h49 => ?_) | refine kw_if_eq_n x_L_decide_49 (by omega) (fun h49 => ?_) (fun h49 => ?_) | refine kw_if_eq x_L_decide_49 (fun h49 => ?_) (fun h49 => ?_)
      · exfalso; first | omega | contradiction | exact absurd (by decide) h49 | exact absurd h49 (by decide)
      · skip
        refine kw_ald_n x_L_decide_52 rfl ?_
        refine kw_gr x_L_decide_53 (by exact isL_k hL) (by exact isL_r3 hL) ?_
        refine kw_ild_n x_L_decide_56 rfl ?_
        refine kw_dup2 x_L_decide_57 rfl rfl ?_
        refine kw_iald_n x_L_decide_58 (by first | exact isC_a5 hC | exact isC_a6 hC | exact isC_a7 hC | exact isC_a8 hC | exact isC_a9 hC | exact isC_a10 hC | exact isC_a11 hC | exact isC_a12 hC | exact isL_a1 hL | exact isL_a2 hL) (by omega) (by omega) (by first | exact h2 | exact kt_u1_na (by omega) (hG _ hp) | exact rfl) ?_
        refine kw_ild_n x_L_decide_59 rfl ?_
        first | refine kw_iadd_n x_L_decide_60 ?_ | refine kw_iadd x_L_decide_60 ?_
        refine kw_iast_n x_L_decide_61 (by first | exact isC_a5 hC | exact isC_a6 hC | exact isC_a7 hC | exact isC_a8 hC | exact isC_a9 hC | exact isC_a10 hC | exact isC_a11 hC | exact isC_a12 hC | exact isL_a1 hL | exact isL_a2 hL) (by omega) (by omega) ?_
        refine kw_vret x_L_decide_62 ?_
        first | exact k0 (by omega) | exact k (by omega)
  · first
    | exfalso; omega
    | skip
      refine kw_ald_n x_L_decide_8 rfl ?_
      refine kw_dup x_L_decide_9 rfl ?_
      refine kw_gl_e x_L_decide_10 (by exact isL_k hL) (by first | exact h2 | exact kt_u1_na (by omega) (hG _ hp) | exact rfl) ?_
      refine kw_lconst x_L_decide_13 ?_
      refine kw_ild_n x_L_decide_14 rfl ?_
      refine kw_lshl x_L_decide_15 ?_
      rw [show (1 : Int64) = nJ 1 from rfl, kS_one he]
      refine kw_lor x_L_decide_16 ?_
      refine kw_pl x_L_decide_17 (by exact isL_k hL) ?_
      refine kw_vret x_L_decide_20 ?_
      first | exact k0 (by omega) | exact k (by omega)
end CL
