/-! the class: what a country holds, and how it is copied -/
theorem kt_cp_na {α : Type} {M : Nat → Nat → α} {a b n q k : Nat} {v : α} (h : q ≠ b) (e : M q k = v) : kt_cp M a b n q k = v := by rw [kt_cp_ne M h]; exact e
def xK (X : kt_X) (t e : Nat) : Bool := decide (e < xn X) && xk X t e
def xRf (X : kt_X) (t e : Nat) : Bool := decide (e < xn X) && decide (xst X t e = 1)
def xSy (X : kt_X) (t e : Nat) : Bool := decide (e < xn X) && (xe X e 8).testBit t
/-- the state that a country holds -/
def kt_B (c : Nat) (X : kt_X) (I : kt_I) (J : kt_J) : Prop := kt_V c X I ∧ I c 2 = nI (xT X) ∧ I c 3 = nI (xr X) ∧ (∀ t, t < 5 → I (c + 12) t = nI (xc X t)) ∧ (∀ t, t < 5 → J (c + 13) t = kS (xK X t)) ∧ ∀ t, t < 5 → J (c + 16) t = kS (xSy X t)
/-- what its towns thought, and of what -/
def kt_T (c : Nat) (X : kt_X) (I : kt_I) (J : kt_J) : Prop := I c 10 = nI (xr X) ∧ (∀ t, t < 5 → J (c + 14) t = kS (xac X t)) ∧ (∀ t, t < 5 → J (c + 15) t = kS (xRf X t)) ∧ ∀ t, t < 5 → J (c + 17) t = kS (xK X t)
/-- nothing else than the country at d has changed -/
def kt_fd {α : Type} (d : Nat) (M M' : Nat → Nat → α) : Prop := ∀ a, (a < d ∨ d + 17 < a) → M' a = M a
theorem kt_fd.rf {α : Type} {d : Nat} {M : Nat → Nat → α} : kt_fd d M M := fun _ _ => rfl
theorem kt_fd.tr {α : Type} {d : Nat} {M M' M'' : Nat → Nat → α} (h : kt_fd d M M') (h' : kt_fd d M' M'') : kt_fd d M M'' := fun a ha => (h' a ha).trans (h a ha)
theorem kt_V.ext {c : Nat} {X : kt_X} {I I' : kt_I} (h : ∀ a, c + 4 ≤ a → a ≤ c + 11 → I' a = I a) (hV : kt_V c X I) : kt_V c X I' := ⟨by rw [h _ (by omega) (by omega)]; exact hV.1, fun e f he hf => by rw [h _ (by omega) (by omega)]; exact hV.2 e f he hf⟩
theorem kt_B.ext {c : Nat} {X : kt_X} {I I' : kt_I} {J J' : kt_J} (h : ∀ a, (a = c ∨ c + 4 ≤ a) → a ≤ c + 17 → I' a = I a ∧ J' a = J a) (hB : kt_B c X I J) : kt_B c X I' J' := by
  obtain ⟨h1, h2, h3, h4, h5, h6⟩ := hB
  exact ⟨h1.ext (fun a g1 g2 => (h a (by omega) (by omega)).1), by rw [(h c (by omega) (by omega)).1]; exact h2, by rw [(h c (by omega) (by omega)).1]; exact h3, fun t ht => by rw [(h _ (by omega) (by omega)).1]; exact h4 t ht, fun t ht => by rw [(h _ (by omega) (by omega)).2]; exact h5 t ht, fun t ht => by rw [(h _ (by omega) (by omega)).2]; exact h6 t ht⟩
theorem kt_T.ext {c : Nat} {X : kt_X} {I I' : kt_I} {J J' : kt_J} (h : ∀ a, (a = c ∨ c + 4 ≤ a) → a ≤ c + 17 → I' a = I a ∧ J' a = J a) (hT : kt_T c X I J) : kt_T c X I' J' := by
  obtain ⟨h1, h2, h3, h4⟩ := hT
  exact ⟨by rw [(h c (by omega) (by omega)).1]; exact h1, fun t ht => by rw [(h _ (by omega) (by omega)).2]; exact h2 t ht, fun t ht => by rw [(h _ (by omega) (by omega)).2]; exact h3 t ht, fun t ht => by rw [(h _ (by omega) (by omega)).2]; exact h4 t ht⟩
section CC
variable {P : kt_P} {N : Nat} {I : kt_I} {J : kt_J} {R : kt_R} {Q : Option Value → kt_I → kt_J → kt_R → Prop} {lo lq c d : Nat} {X Xo : kt_X}
theorem s_J_fill {a n : Nat} (ha : kt_kd P N a = (6, n)) (hn : n < 2147483648) {v : Int32} (k : ∀ I', (∀ b, b ≠ a → I' b = I b) → (∀ j, j < n → I' a j = v) → Q none I' J R) : KW P i_J_fill N 0 [some (.ref a), some (.int v), none, none] [] N I J R Q := by
  have loop : ∀ (d e : Nat) (I1 : kt_I), e + d = n → (∀ b, b ≠ a → I1 b = I b) → (∀ j, j < e → I1 a j = v) → KW P i_J_fill N 5 [some (.ref a), some (.int v), some (.int (nI e)), some (.int (nI n))] [] N I1 J R Q := by
    intro d
    induction d with
    | zero =>
      intro e I1 h1 h2 h3
      have h4 : e = n := by omega
      subst h4
      refine kw_ild_n x_J_fill_5 rfl ?_
      refine kw_ild_n x_J_fill_6 rfl ?_
      first | refine kw_ic_ge_n x_J_fill_7 ⟨by omega, by omega⟩ (fun h7 => ?_) (fun h7 => ?_) | refine kw_ic_ge x_J_fill_7 (fun h7 => ?_) (fun h7 => ?_)
      · first
        | exfalso; omega
        | skip
          refine kw_vret x_J_fill_20 ?_
          exact k I1 h2 h3
      · first
        | exfalso; omega
        | skip
          skip
    | succ d ih =>
      intro e I1 h1 h2 h3
      refine kw_ild_n x_J_fill_5 rfl ?_
      refine kw_ild_n x_J_fill_6 rfl ?_
      first | refine kw_ic_ge_n x_J_fill_7 ⟨by omega, by omega⟩ (fun h7 => ?_) (fun h7 => ?_) | refine kw_ic_ge x_J_fill_7 (fun h7 => ?_) (fun h7 => ?_)
      · first
        | exfalso; omega
        | skip
          skip
      · first
        | exfalso; omega
        | skip
          refine kw_ald_n x_J_fill_10 rfl ?_
          refine kw_ild_n x_J_fill_11 rfl ?_
          refine kw_ild_n x_J_fill_12 rfl ?_
          refine kw_iast_n x_J_fill_13 (by exact ha) (by omega) (by omega) ?_
          first | refine kw_iinc_n x_J_fill_14 (by decide) rfl ?_ | refine kw_iinc x_J_fill_14 (by decide) rfl ?_
          refine kw_goto x_J_fill_17 ?_
          refine ih (e + 1) _ (by omega) (fun b hb => by rw [kt_u1_ne _ _ _ hb]; exact h2 b hb) (fun j hj => ?_)
          by_cases hje : j = e
          · subst hje
            exact kt_u1_eq
          · exact kt_u1_nj hje (h3 j (by omega))
  refine kw_icon x_J_fill_0 ?_
  refine kw_ist_n x_J_fill_1 (by decide) ?_
  refine kw_ald_n x_J_fill_2 rfl ?_
  refine kw_alen x_J_fill_3 (by exact ha) ?_
  refine kw_ist_n x_J_fill_4 (by decide) ?_
  exact loop n 0 I (by omega) (fun _ _ => rfl) (fun j hj => absurd hj (Nat.not_lt_zero j))
theorem s_E_copyFrom (hC : kt_isC P N R lo c) (hD : kt_isC P N R lq d) (hV : kt_V c X I) (hn : xn X ≤ 60) (hcd : c + 18 ≤ d ∨ d + 18 ≤ c)
    (k : ∀ I', (∀ a, (a < d + 4 ∨ d + 11 < a) → I' a = I a) → kt_V d X I' → Q none I' J R) : KW P i_E_copyFrom N 0 [some (.ref (d + 4)), some (.ref (c + 4))] [] N I J R Q := by
  refine kw_ald_n x_E_copyFrom_0 rfl ?_
  refine kw_ald_n x_E_copyFrom_1 rfl ?_
  refine kw_gi_e x_E_copyFrom_2 (by first | exact isE_k hC | exact isE_k hD) (by first | exact hV.1 | exact kt_u1_eq | exact kt_cp_na (by omega) (kt_u1_eq) | exact kt_cp_na (by omega) (kt_cp_na (by omega) (kt_u1_eq)) | exact kt_cp_na (by omega) (kt_cp_na (by omega) (kt_cp_na (by omega) (kt_u1_eq))) | exact kt_cp_na (by omega) (kt_cp_na (by omega) (kt_cp_na (by omega) (kt_cp_na (by omega) (kt_u1_eq)))) | exact kt_cp_na (by omega) (kt_cp_na (by omega) (kt_cp_na (by omega) (kt_cp_na (by omega) (kt_cp_na (by omega) (kt_u1_eq))))) | exact kt_cp_na (by omega) (kt_cp_na (by omega) (kt_cp_na (by omega) (kt_cp_na (by omega) (kt_cp_na (by omega) (kt_cp_na (by omega) (kt_u1_eq)))))) | exact kt_cp_na (by omega) (kt_cp_na (by omega) (kt_cp_na (by omega) (kt_cp_na (by omega) (kt_cp_na (by omega) (kt_cp_na (by omega) (kt_cp_na (by omega) (kt_u1_eq))))))) | exact rfl) ?_
  refine kw_pi x_E_copyFrom_5 (by first | exact isE_k hC | exact isE_k hD) ?_
  refine kw_ald_n x_E_copyFrom_8 rfl ?_
  refine kw_gr x_E_copyFrom_9 (by first | exact isE_k hC | exact isE_k hD) (by first | exact isE_r1 hC | exact isE_r1 hD) ?_
  refine kw_icon x_E_copyFrom_12 ?_
  refine kw_ald_n x_E_copyFrom_13 rfl ?_
  refine kw_gr x_E_copyFrom_14 (by first | exact isE_k hC | exact isE_k hD) (by first | exact isE_r1 hC | exact isE_r1 hD) ?_
  refine kw_icon x_E_copyFrom_17 ?_
  refine kw_ald_n x_E_copyFrom_18 rfl ?_
  refine kw_gi_e x_E_copyFrom_19 (by first | exact isE_k hC | exact isE_k hD) (by first | exact hV.1 | exact kt_u1_eq | exact kt_cp_na (by omega) (kt_u1_eq) | exact kt_cp_na (by omega) (kt_cp_na (by omega) (kt_u1_eq)) | exact kt_cp_na (by omega) (kt_cp_na (by omega) (kt_cp_na (by omega) (kt_u1_eq))) | exact kt_cp_na (by omega) (kt_cp_na (by omega) (kt_cp_na (by omega) (kt_cp_na (by omega) (kt_u1_eq)))) | exact kt_cp_na (by omega) (kt_cp_na (by omega) (kt_cp_na (by omega) (kt_cp_na (by omega) (kt_cp_na (by omega) (kt_u1_eq))))) | exact kt_cp_na (by omega) (kt_cp_na (by omega) (kt_cp_na (by omega) (kt_cp_na (by omega) (kt_cp_na (by omega) (kt_cp_na (by omega) (kt_u1_eq)))))) | exact kt_cp_na (by omega) (kt_cp_na (by omega) (kt_cp_na (by omega) (kt_cp_na (by omega) (kt_cp_na (by omega) (kt_cp_na (by omega) (kt_cp_na (by omega) (kt_u1_eq))))))) | exact rfl) ?_
  first | refine kw_cpi_n x_E_copyFrom_22 (by first | exact isC_a5 hC | exact isC_a6 hC | exact isC_a7 hC | exact isC_a8 hC | exact isC_a9 hC | exact isC_a10 hC | exact isC_a11 hC | exact isC_a12 hC | exact isC_a5 hD | exact isC_a6 hD | exact isC_a7 hD | exact isC_a8 hD | exact isC_a9 hD | exact isC_a10 hD | exact isC_a11 hD | exact isC_a12 hD) (by first | exact isC_a5 hC | exact isC_a6 hC | exact isC_a7 hC | exact isC_a8 hC | exact isC_a9 hC | exact isC_a10 hC | exact isC_a11 hC | exact isC_a12 hC | exact isC_a5 hD | exact isC_a6 hD | exact isC_a7 hD | exact isC_a8 hD | exact isC_a9 hD | exact isC_a10 hD | exact isC_a11 hD | exact isC_a12 hD) (by omega) ?_ | refine kw_cpl_n x_E_copyFrom_22 (by first | exact isC_a13 hC | exact isC_a14 hC | exact isC_a15 hC | exact isC_a16 hC | exact isC_a17 hC | exact isC_a13 hD | exact isC_a14 hD | exact isC_a15 hD | exact isC_a16 hD | exact isC_a17 hD) (by first | exact isC_a13 hC | exact isC_a14 hC | exact isC_a15 hC | exact isC_a16 hC | exact isC_a17 hC | exact isC_a13 hD | exact isC_a14 hD | exact isC_a15 hD | exact isC_a16 hD | exact isC_a17 hD) (by omega) ?_
  refine kw_ald_n x_E_copyFrom_25 rfl ?_
  refine kw_gr x_E_copyFrom_26 (by first | exact isE_k hC | exact isE_k hD) (by first | exact isE_r2 hC | exact isE_r2 hD) ?_
  refine kw_icon x_E_copyFrom_29 ?_
  refine kw_ald_n x_E_copyFrom_30 rfl ?_
  refine kw_gr x_E_copyFrom_31 (by first | exact isE_k hC | exact isE_k hD) (by first | exact isE_r2 hC | exact isE_r2 hD) ?_
  refine kw_icon x_E_copyFrom_34 ?_
  refine kw_ald_n x_E_copyFrom_35 rfl ?_
  refine kw_gi_e x_E_copyFrom_36 (by first | exact isE_k hC | exact isE_k hD) (by first | exact hV.1 | exact kt_u1_eq | exact kt_cp_na (by omega) (kt_u1_eq) | exact kt_cp_na (by omega) (kt_cp_na (by omega) (kt_u1_eq)) | exact kt_cp_na (by omega) (kt_cp_na (by omega) (kt_cp_na (by omega) (kt_u1_eq))) | exact kt_cp_na (by omega) (kt_cp_na (by omega) (kt_cp_na (by omega) (kt_cp_na (by omega) (kt_u1_eq)))) | exact kt_cp_na (by omega) (kt_cp_na (by omega) (kt_cp_na (by omega) (kt_cp_na (by omega) (kt_cp_na (by omega) (kt_u1_eq))))) | exact kt_cp_na (by omega) (kt_cp_na (by omega) (kt_cp_na (by omega) (kt_cp_na (by omega) (kt_cp_na (by omega) (kt_cp_na (by omega) (kt_u1_eq)))))) | exact kt_cp_na (by omega) (kt_cp_na (by omega) (kt_cp_na (by omega) (kt_cp_na (by omega) (kt_cp_na (by omega) (kt_cp_na (by omega) (kt_cp_na (by omega) (kt_u1_eq))))))) | exact rfl) ?_
  first | refine kw_cpi_n x_E_copyFrom_39 (by first | exact isC_a5 hC | exact isC_a6 hC | exact isC_a7 hC | exact isC_a8 hC | exact isC_a9 hC | exact isC_a10 hC | exact isC_a11 hC | exact isC_a12 hC | exact isC_a5 hD | exact isC_a6 hD | exact isC_a7 hD | exact isC_a8 hD | exact isC_a9 hD | exact isC_a10 hD | exact isC_a11 hD | exact isC_a12 hD) (by first | exact isC_a5 hC | exact isC_a6 hC | exact isC_a7 hC | exact isC_a8 hC | exact isC_a9 hC | exact isC_a10 hC | exact isC_a11 hC | exact isC_a12 hC | exact isC_a5 hD | exact isC_a6 hD | exact isC_a7 hD | exact isC_a8 hD | exact isC_a9 hD | exact isC_a10 hD | exact isC_a11 hD | exact isC_a12 hD) (by omega) ?_ | refine kw_cpl_n x_E_copyFrom_39 (by first | exact isC_a13 hC | exact isC_a14 hC | exact isC_a15 hC | exact isC_a16 hC | exact isC_a17 hC | exact isC_a13 hD | exact isC_a14 hD | exact isC_a15 hD | exact isC_a16 hD | exact isC_a17 hD) (by first | exact isC_a13 hC | exact isC_a14 hC | exact isC_a15 hC | exact isC_a16 hC | exact isC_a17 hC | exact isC_a13 hD | exact isC_a14 hD | exact isC_a15 hD | exact isC_a16 hD | exact isC_a17 hD) (by omega) ?_
  refine kw_ald_n x_E_copyFrom_42 rfl ?_
  refine kw_gr x_E_copyFrom_43 (by first | exact isE_k hC | exact isE_k hD) (by first | exact isE_r3 hC | exact isE_r3 hD) ?_
  refine kw_icon x_E_copyFrom_46 ?_
  refine kw_ald_n x_E_copyFrom_47 rfl ?_
  refine kw_gr x_E_copyFrom_48 (by first | exact isE_k hC | exact isE_k hD) (by first | exact isE_r3 hC | exact isE_r3 hD) ?_
  refine kw_icon x_E_copyFrom_51 ?_
  refine kw_ald_n x_E_copyFrom_52 rfl ?_
  refine kw_gi_e x_E_copyFrom_53 (by first | exact isE_k hC | exact isE_k hD) (by first | exact hV.1 | exact kt_u1_eq | exact kt_cp_na (by omega) (kt_u1_eq) | exact kt_cp_na (by omega) (kt_cp_na (by omega) (kt_u1_eq)) | exact kt_cp_na (by omega) (kt_cp_na (by omega) (kt_cp_na (by omega) (kt_u1_eq))) | exact kt_cp_na (by omega) (kt_cp_na (by omega) (kt_cp_na (by omega) (kt_cp_na (by omega) (kt_u1_eq)))) | exact kt_cp_na (by omega) (kt_cp_na (by omega) (kt_cp_na (by omega) (kt_cp_na (by omega) (kt_cp_na (by omega) (kt_u1_eq))))) | exact kt_cp_na (by omega) (kt_cp_na (by omega) (kt_cp_na (by omega) (kt_cp_na (by omega) (kt_cp_na (by omega) (kt_cp_na (by omega) (kt_u1_eq)))))) | exact kt_cp_na (by omega) (kt_cp_na (by omega) (kt_cp_na (by omega) (kt_cp_na (by omega) (kt_cp_na (by omega) (kt_cp_na (by omega) (kt_cp_na (by omega) (kt_u1_eq))))))) | exact rfl) ?_
  first | refine kw_cpi_n x_E_copyFrom_56 (by first | exact isC_a5 hC | exact isC_a6 hC | exact isC_a7 hC | exact isC_a8 hC | exact isC_a9 hC | exact isC_a10 hC | exact isC_a11 hC | exact isC_a12 hC | exact isC_a5 hD | exact isC_a6 hD | exact isC_a7 hD | exact isC_a8 hD | exact isC_a9 hD | exact isC_a10 hD | exact isC_a11 hD | exact isC_a12 hD) (by first | exact isC_a5 hC | exact isC_a6 hC | exact isC_a7 hC | exact isC_a8 hC | exact isC_a9 hC | exact isC_a10 hC | exact isC_a11 hC | exact isC_a12 hC | exact isC_a5 hD | exact isC_a6 hD | exact isC_a7 hD | exact isC_a8 hD | exact isC_a9 hD | exact isC_a10 hD | exact isC_a11 hD | exact isC_a12 hD) (by omega) ?_ | refine kw_cpl_n x_E_copyFrom_56 (by first | exact isC_a13 hC | exact isC_a14 hC | exact isC_a15 hC | exact isC_a16 hC | exact isC_a17 hC | exact isC_a13 hD | exact isC_a14 hD | exact isC_a15 hD | exact isC_a16 hD | exact isC_a17 hD) (by first | exact isC_a13 hC | exact isC_a14 hC | exact isC_a15 hC | exact isC_a16 hC | exact isC_a17 hC | exact isC_a13 hD | exact isC_a14 hD | exact isC_a15 hD | exact isC_a16 hD | exact isC_a17 hD) (by omega) ?_
  refine kw_ald_n x_E_copyFrom_59 rfl ?_
  refine kw_gr x_E_copyFrom_60 (by first | exact isE_k hC | exact isE_k hD) (by first | exact isE_r4 hC | exact isE_r4 hD) ?_
  refine kw_icon x_E_copyFrom_63 ?_
  refine kw_ald_n x_E_copyFrom_64 rfl ?_
  refine kw_gr x_E_copyFrom_65 (by first | exact isE_k hC | exact isE_k hD) (by first | exact isE_r4 hC | exact isE_r4 hD) ?_
  refine kw_icon x_E_copyFrom_68 ?_
  refine kw_ald_n x_E_copyFrom_69 rfl ?_
  refine kw_gi_e x_E_copyFrom_70 (by first | exact isE_k hC | exact isE_k hD) (by first | exact hV.1 | exact kt_u1_eq | exact kt_cp_na (by omega) (kt_u1_eq) | exact kt_cp_na (by omega) (kt_cp_na (by omega) (kt_u1_eq)) | exact kt_cp_na (by omega) (kt_cp_na (by omega) (kt_cp_na (by omega) (kt_u1_eq))) | exact kt_cp_na (by omega) (kt_cp_na (by omega) (kt_cp_na (by omega) (kt_cp_na (by omega) (kt_u1_eq)))) | exact kt_cp_na (by omega) (kt_cp_na (by omega) (kt_cp_na (by omega) (kt_cp_na (by omega) (kt_cp_na (by omega) (kt_u1_eq))))) | exact kt_cp_na (by omega) (kt_cp_na (by omega) (kt_cp_na (by omega) (kt_cp_na (by omega) (kt_cp_na (by omega) (kt_cp_na (by omega) (kt_u1_eq)))))) | exact kt_cp_na (by omega) (kt_cp_na (by omega) (kt_cp_na (by omega) (kt_cp_na (by omega) (kt_cp_na (by omega) (kt_cp_na (by omega) (kt_cp_na (by omega) (kt_u1_eq))))))) | exact rfl) ?_
  first | refine kw_cpi_n x_E_copyFrom_73 (by first | exact isC_a5 hC | exact isC_a6 hC | exact isC_a7 hC | exact isC_a8 hC | exact isC_a9 hC | exact isC_a10 hC | exact isC_a11 hC | exact isC_a12 hC | exact isC_a5 hD | exact isC_a6 hD | exact isC_a7 hD | exact isC_a8 hD | exact isC_a9 hD | exact isC_a10 hD | exact isC_a11 hD | exact isC_a12 hD) (by first | exact isC_a5 hC | exact isC_a6 hC | exact isC_a7 hC | exact isC_a8 hC | exact isC_a9 hC | exact isC_a10 hC | exact isC_a11 hC | exact isC_a12 hC | exact isC_a5 hD | exact isC_a6 hD | exact isC_a7 hD | exact isC_a8 hD | exact isC_a9 hD | exact isC_a10 hD | exact isC_a11 hD | exact isC_a12 hD) (by omega) ?_ | refine kw_cpl_n x_E_copyFrom_73 (by first | exact isC_a13 hC | exact isC_a14 hC | exact isC_a15 hC | exact isC_a16 hC | exact isC_a17 hC | exact isC_a13 hD | exact isC_a14 hD | exact isC_a15 hD | exact isC_a16 hD | exact isC_a17 hD) (by first | exact isC_a13 hC | exact isC_a14 hC | exact isC_a15 hC | exact isC_a16 hC | exact isC_a17 hC | exact isC_a13 hD | exact isC_a14 hD | exact isC_a15 hD | exact isC_a16 hD | exact isC_a17 hD) (by omega) ?_
  refine kw_ald_n x_E_copyFrom_76 rfl ?_
  refine kw_gr x_E_copyFrom_77 (by first | exact isE_k hC | exact isE_k hD) (by first | exact isE_r5 hC | exact isE_r5 hD) ?_
  refine kw_icon x_E_copyFrom_80 ?_
  refine kw_ald_n x_E_copyFrom_81 rfl ?_
  refine kw_gr x_E_copyFrom_82 (by first | exact isE_k hC | exact isE_k hD) (by first | exact isE_r5 hC | exact isE_r5 hD) ?_
  refine kw_icon x_E_copyFrom_85 ?_
  refine kw_ald_n x_E_copyFrom_86 rfl ?_
  refine kw_gi_e x_E_copyFrom_87 (by first | exact isE_k hC | exact isE_k hD) (by first | exact hV.1 | exact kt_u1_eq | exact kt_cp_na (by omega) (kt_u1_eq) | exact kt_cp_na (by omega) (kt_cp_na (by omega) (kt_u1_eq)) | exact kt_cp_na (by omega) (kt_cp_na (by omega) (kt_cp_na (by omega) (kt_u1_eq))) | exact kt_cp_na (by omega) (kt_cp_na (by omega) (kt_cp_na (by omega) (kt_cp_na (by omega) (kt_u1_eq)))) | exact kt_cp_na (by omega) (kt_cp_na (by omega) (kt_cp_na (by omega) (kt_cp_na (by omega) (kt_cp_na (by omega) (kt_u1_eq))))) | exact kt_cp_na (by omega) (kt_cp_na (by omega) (kt_cp_na (by omega) (kt_cp_na (by omega) (kt_cp_na (by omega) (kt_cp_na (by omega) (kt_u1_eq)))))) | exact kt_cp_na (by omega) (kt_cp_na (by omega) (kt_cp_na (by omega) (kt_cp_na (by omega) (kt_cp_na (by omega) (kt_cp_na (by omega) (kt_cp_na (by omega) (kt_u1_eq))))))) | exact rfl) ?_
  first | refine kw_cpi_n x_E_copyFrom_90 (by first | exact isC_a5 hC | exact isC_a6 hC | exact isC_a7 hC | exact isC_a8 hC | exact isC_a9 hC | exact isC_a10 hC | exact isC_a11 hC | exact isC_a12 hC | exact isC_a5 hD | exact isC_a6 hD | exact isC_a7 hD | exact isC_a8 hD | exact isC_a9 hD | exact isC_a10 hD | exact isC_a11 hD | exact isC_a12 hD) (by first | exact isC_a5 hC | exact isC_a6 hC | exact isC_a7 hC | exact isC_a8 hC | exact isC_a9 hC | exact isC_a10 hC | exact isC_a11 hC | exact isC_a12 hC | exact isC_a5 hD | exact isC_a6 hD | exact isC_a7 hD | exact isC_a8 hD | exact isC_a9 hD | exact isC_a10 hD | exact isC_a11 hD | exact isC_a12 hD) (by omega) ?_ | refine kw_cpl_n x_E_copyFrom_90 (by first | exact isC_a13 hC | exact isC_a14 hC | exact isC_a15 hC | exact isC_a16 hC | exact isC_a17 hC | exact isC_a13 hD | exact isC_a14 hD | exact isC_a15 hD | exact isC_a16 hD | exact isC_a17 hD) (by first | exact isC_a13 hC | exact isC_a14 hC | exact isC_a15 hC | exact isC_a16 hC | exact isC_a17 hC | exact isC_a13 hD | exact isC_a14 hD | exact isC_a15 hD | exact isC_a16 hD | exact isC_a17 hD) (by omega) ?_
  refine kw_ald_n x_E_copyFrom_93 rfl ?_
  refine kw_gr x_E_copyFrom_94 (by first | exact isE_k hC | exact isE_k hD) (by first | exact isE_r6 hC | exact isE_r6 hD) ?_
  refine kw_icon x_E_copyFrom_97 ?_
  refine kw_ald_n x_E_copyFrom_98 rfl ?_
  refine kw_gr x_E_copyFrom_99 (by first | exact isE_k hC | exact isE_k hD) (by first | exact isE_r6 hC | exact isE_r6 hD) ?_
  refine kw_icon x_E_copyFrom_102 ?_
  refine kw_ald_n x_E_copyFrom_103 rfl ?_
  refine kw_gi_e x_E_copyFrom_104 (by first | exact isE_k hC | exact isE_k hD) (by first | exact hV.1 | exact kt_u1_eq | exact kt_cp_na (by omega) (kt_u1_eq) | exact kt_cp_na (by omega) (kt_cp_na (by omega) (kt_u1_eq)) | exact kt_cp_na (by omega) (kt_cp_na (by omega) (kt_cp_na (by omega) (kt_u1_eq))) | exact kt_cp_na (by omega) (kt_cp_na (by omega) (kt_cp_na (by omega) (kt_cp_na (by omega) (kt_u1_eq)))) | exact kt_cp_na (by omega) (kt_cp_na (by omega) (kt_cp_na (by omega) (kt_cp_na (by omega) (kt_cp_na (by omega) (kt_u1_eq))))) | exact kt_cp_na (by omega) (kt_cp_na (by omega) (kt_cp_na (by omega) (kt_cp_na (by omega) (kt_cp_na (by omega) (kt_cp_na (by omega) (kt_u1_eq)))))) | exact kt_cp_na (by omega) (kt_cp_na (by omega) (kt_cp_na (by omega) (kt_cp_na (by omega) (kt_cp_na (by omega) (kt_cp_na (by omega) (kt_cp_na (by omega) (kt_u1_eq))))))) | exact rfl) ?_
  first | refine kw_cpi_n x_E_copyFrom_107 (by first | exact isC_a5 hC | exact isC_a6 hC | exact isC_a7 hC | exact isC_a8 hC | exact isC_a9 hC | exact isC_a10 hC | exact isC_a11 hC | exact isC_a12 hC | exact isC_a5 hD | exact isC_a6 hD | exact isC_a7 hD | exact isC_a8 hD | exact isC_a9 hD | exact isC_a10 hD | exact isC_a11 hD | exact isC_a12 hD) (by first | exact isC_a5 hC | exact isC_a6 hC | exact isC_a7 hC | exact isC_a8 hC | exact isC_a9 hC | exact isC_a10 hC | exact isC_a11 hC | exact isC_a12 hC | exact isC_a5 hD | exact isC_a6 hD | exact isC_a7 hD | exact isC_a8 hD | exact isC_a9 hD | exact isC_a10 hD | exact isC_a11 hD | exact isC_a12 hD) (by omega) ?_ | refine kw_cpl_n x_E_copyFrom_107 (by first | exact isC_a13 hC | exact isC_a14 hC | exact isC_a15 hC | exact isC_a16 hC | exact isC_a17 hC | exact isC_a13 hD | exact isC_a14 hD | exact isC_a15 hD | exact isC_a16 hD | exact isC_a17 hD) (by first | exact isC_a13 hC | exact isC_a14 hC | exact isC_a15 hC | exact isC_a16 hC | exact isC_a17 hC | exact isC_a13 hD | exact isC_a14 hD | exact isC_a15 hD | exact isC_a16 hD | exact isC_a17 hD) (by omega) ?_
  refine kw_ald_n x_E_copyFrom_110 rfl ?_
  refine kw_gr x_E_copyFrom_111 (by first | exact isE_k hC | exact isE_k hD) (by first | exact isE_r7 hC | exact isE_r7 hD) ?_
  refine kw_icon x_E_copyFrom_114 ?_
  refine kw_ald_n x_E_copyFrom_115 rfl ?_
  refine kw_gr x_E_copyFrom_116 (by first | exact isE_k hC | exact isE_k hD) (by first | exact isE_r7 hC | exact isE_r7 hD) ?_
  refine kw_icon x_E_copyFrom_119 ?_
  refine kw_ald_n x_E_copyFrom_120 rfl ?_
  refine kw_gi_e x_E_copyFrom_121 (by first | exact isE_k hC | exact isE_k hD) (by first | exact hV.1 | exact kt_u1_eq | exact kt_cp_na (by omega) (kt_u1_eq) | exact kt_cp_na (by omega) (kt_cp_na (by omega) (kt_u1_eq)) | exact kt_cp_na (by omega) (kt_cp_na (by omega) (kt_cp_na (by omega) (kt_u1_eq))) | exact kt_cp_na (by omega) (kt_cp_na (by omega) (kt_cp_na (by omega) (kt_cp_na (by omega) (kt_u1_eq)))) | exact kt_cp_na (by omega) (kt_cp_na (by omega) (kt_cp_na (by omega) (kt_cp_na (by omega) (kt_cp_na (by omega) (kt_u1_eq))))) | exact kt_cp_na (by omega) (kt_cp_na (by omega) (kt_cp_na (by omega) (kt_cp_na (by omega) (kt_cp_na (by omega) (kt_cp_na (by omega) (kt_u1_eq)))))) | exact kt_cp_na (by omega) (kt_cp_na (by omega) (kt_cp_na (by omega) (kt_cp_na (by omega) (kt_cp_na (by omega) (kt_cp_na (by omega) (kt_cp_na (by omega) (kt_u1_eq))))))) | exact rfl) ?_
  first | refine kw_cpi_n x_E_copyFrom_124 (by first | exact isC_a5 hC | exact isC_a6 hC | exact isC_a7 hC | exact isC_a8 hC | exact isC_a9 hC | exact isC_a10 hC | exact isC_a11 hC | exact isC_a12 hC | exact isC_a5 hD | exact isC_a6 hD | exact isC_a7 hD | exact isC_a8 hD | exact isC_a9 hD | exact isC_a10 hD | exact isC_a11 hD | exact isC_a12 hD) (by first | exact isC_a5 hC | exact isC_a6 hC | exact isC_a7 hC | exact isC_a8 hC | exact isC_a9 hC | exact isC_a10 hC | exact isC_a11 hC | exact isC_a12 hC | exact isC_a5 hD | exact isC_a6 hD | exact isC_a7 hD | exact isC_a8 hD | exact isC_a9 hD | exact isC_a10 hD | exact isC_a11 hD | exact isC_a12 hD) (by omega) ?_ | refine kw_cpl_n x_E_copyFrom_124 (by first | exact isC_a13 hC | exact isC_a14 hC | exact isC_a15 hC | exact isC_a16 hC | exact isC_a17 hC | exact isC_a13 hD | exact isC_a14 hD | exact isC_a15 hD | exact isC_a16 hD | exact isC_a17 hD) (by first | exact isC_a13 hC | exact isC_a14 hC | exact isC_a15 hC | exact isC_a16 hC | exact isC_a17 hC | exact isC_a13 hD | exact isC_a14 hD | exact isC_a15 hD | exact isC_a16 hD | exact isC_a17 hD) (by omega) ?_
  refine kw_vret x_E_copyFrom_127 ?_
  refine k _ (fun a ha => ?_) ⟨?_, fun e f he hf => ?_⟩
  · rw [kt_cp_ne _ (by omega), kt_cp_ne _ (by omega), kt_cp_ne _ (by omega), kt_cp_ne _ (by omega), kt_cp_ne _ (by omega), kt_cp_ne _ (by omega), kt_cp_ne _ (by omega), kt_u1_ne _ _ _ (by omega)]
  · exact kt_cp_na (by omega) (kt_cp_na (by omega) (kt_cp_na (by omega) (kt_cp_na (by omega) (kt_cp_na (by omega) (kt_cp_na (by omega) (kt_cp_na (by omega) (kt_u1_eq)))))))
  · have hf7 : f = 0 ∨ f = 1 ∨ f = 2 ∨ f = 3 ∨ f = 4 ∨ f = 5 ∨ f = 6 := (by omega)
    have hv := hV.2 e f he hf
    rcases hf7 with rfl | rfl | rfl | rfl | rfl | rfl | rfl
    · exact kt_cp_na (by omega) (kt_cp_na (by omega) (kt_cp_na (by omega) (kt_cp_na (by omega) (kt_cp_na (by omega) (kt_cp_na (by omega) ((by rw [kt_cp_eq, if_pos he]; exact kt_u1_na (by omega) hv)))))))
    · exact kt_cp_na (by omega) (kt_cp_na (by omega) (kt_cp_na (by omega) (kt_cp_na (by omega) (kt_cp_na (by omega) ((by rw [kt_cp_eq, if_pos he]; exact kt_cp_na (by omega) (kt_u1_na (by omega) hv)))))))
    · exact kt_cp_na (by omega) (kt_cp_na (by omega) (kt_cp_na (by omega) (kt_cp_na (by omega) ((by rw [kt_cp_eq, if_pos he]; exact kt_cp_na (by omega) (kt_cp_na (by omega) (kt_u1_na (by omega) hv)))))))
    · exact kt_cp_na (by omega) (kt_cp_na (by omega) (kt_cp_na (by omega) ((by rw [kt_cp_eq, if_pos he]; exact kt_cp_na (by omega) (kt_cp_na (by omega) (kt_cp_na (by omega) (kt_u1_na (by omega) hv)))))))
    · exact kt_cp_na (by omega) (kt_cp_na (by omega) ((by rw [kt_cp_eq, if_pos he]; exact kt_cp_na (by omega) (kt_cp_na (by omega) (kt_cp_na (by omega) (kt_cp_na (by omega) (kt_u1_na (by omega) hv)))))))
    · exact kt_cp_na (by omega) ((by rw [kt_cp_eq, if_pos he]; exact kt_cp_na (by omega) (kt_cp_na (by omega) (kt_cp_na (by omega) (kt_cp_na (by omega) (kt_cp_na (by omega) (kt_u1_na (by omega) hv)))))))
    · exact (by rw [kt_cp_eq, if_pos he]; exact kt_cp_na (by omega) (kt_cp_na (by omega) (kt_cp_na (by omega) (kt_cp_na (by omega) (kt_cp_na (by omega) (kt_cp_na (by omega) (kt_u1_na (by omega) hv)))))))
theorem s_C_copyFrom (hC : kt_isC P N R lo c) (hD : kt_isC P N R lq d) (hB : kt_B c X I J) (hTh : kt_T c Xo I J) (hn : xn X ≤ 60) (hcd : c + 18 ≤ d ∨ d + 18 ≤ c)
    (k : ∀ I' J', kt_fd d I I' → kt_fd d J J' → kt_B d X I' J' → kt_T d Xo I' J' → Q none I' J' R) : KW P i_C_copyFrom N 0 [some (.ref d), some (.ref c)] [] N I J R Q := by
  obtain ⟨hV, b2, b3, b9, b10, b13⟩ := hB
  obtain ⟨o10, o11, o12, o14⟩ := hTh
  refine kw_ald_n x_C_copyFrom_0 rfl ?_
  refine kw_gr x_C_copyFrom_1 (by first | exact isC_k hC | exact isC_k hD) (by first | exact isC_r1 hC | exact isC_r1 hD) ?_
  refine kw_ald_n x_C_copyFrom_4 rfl ?_
  refine kw_gr x_C_copyFrom_5 (by first | exact isC_k hC | exact isC_k hD) (by first | exact isC_r1 hC | exact isC_r1 hD) ?_
  refine c_C_copyFrom_8 (by first | exact isE_k hC | exact isE_k hD) (Nat.le_of_ble_eq_true rfl) ?_
  refine s_E_copyFrom hC hD hV hn hcd (fun I1 g1 g2 => ?_)
  have gc : I1 c = I c := g1 c (by omega)
  have c2 : I1 c 2 = nI (xT X) := (by rw [gc]; exact b2)
  have c3 : I1 c 3 = nI (xr X) := (by rw [gc]; exact b3)
  have c10 : I1 c 10 = nI (xr Xo) := (by rw [gc]; exact o10)
  refine kw_ald_n x_C_copyFrom_11 rfl ?_
  refine kw_ald_n x_C_copyFrom_12 rfl ?_
  refine kw_gi_e x_C_copyFrom_13 (by first | exact isC_k hC | exact isC_k hD) (by first | exact c2 | exact c3 | exact c10 | exact kt_u1_na (by omega) c3 | exact kt_u1_na (by omega) (kt_u1_na (by omega) c10) | exact rfl) ?_
  refine kw_pi x_C_copyFrom_16 (by first | exact isC_k hC | exact isC_k hD) ?_
  refine kw_ald_n x_C_copyFrom_19 rfl ?_
  refine kw_ald_n x_C_copyFrom_20 rfl ?_
  refine kw_gi_e x_C_copyFrom_21 (by first | exact isC_k hC | exact isC_k hD) (by first | exact c2 | exact c3 | exact c10 | exact kt_u1_na (by omega) c3 | exact kt_u1_na (by omega) (kt_u1_na (by omega) c10) | exact rfl) ?_
  refine kw_pi x_C_copyFrom_24 (by first | exact isC_k hC | exact isC_k hD) ?_
  refine kw_ald_n x_C_copyFrom_27 rfl ?_
  refine kw_ald_n x_C_copyFrom_28 rfl ?_
  refine kw_gi_e x_C_copyFrom_29 (by first | exact isC_k hC | exact isC_k hD) (by first | exact c2 | exact c3 | exact c10 | exact kt_u1_na (by omega) c3 | exact kt_u1_na (by omega) (kt_u1_na (by omega) c10) | exact rfl) ?_
  refine kw_pi x_C_copyFrom_32 (by first | exact isC_k hC | exact isC_k hD) ?_
  refine kw_ald_n x_C_copyFrom_35 rfl ?_
  refine kw_gr x_C_copyFrom_36 (by first | exact isC_k hC | exact isC_k hD) (by first | exact isC_r4 hC | exact isC_r4 hD) ?_
  refine kw_icon x_C_copyFrom_39 ?_
  refine kw_ald_n x_C_copyFrom_40 rfl ?_
  refine kw_gr x_C_copyFrom_41 (by first | exact isC_k hC | exact isC_k hD) (by first | exact isC_r4 hC | exact isC_r4 hD) ?_
  refine kw_icon x_C_copyFrom_44 ?_
  refine kw_icon x_C_copyFrom_45 ?_
  first | refine kw_cpi_n x_C_copyFrom_46 (by first | exact isC_a5 hC | exact isC_a6 hC | exact isC_a7 hC | exact isC_a8 hC | exact isC_a9 hC | exact isC_a10 hC | exact isC_a11 hC | exact isC_a12 hC | exact isC_a5 hD | exact isC_a6 hD | exact isC_a7 hD | exact isC_a8 hD | exact isC_a9 hD | exact isC_a10 hD | exact isC_a11 hD | exact isC_a12 hD) (by first | exact isC_a5 hC | exact isC_a6 hC | exact isC_a7 hC | exact isC_a8 hC | exact isC_a9 hC | exact isC_a10 hC | exact isC_a11 hC | exact isC_a12 hC | exact isC_a5 hD | exact isC_a6 hD | exact isC_a7 hD | exact isC_a8 hD | exact isC_a9 hD | exact isC_a10 hD | exact isC_a11 hD | exact isC_a12 hD) (by omega) ?_ | refine kw_cpl_n x_C_copyFrom_46 (by first | exact isC_a13 hC | exact isC_a14 hC | exact isC_a15 hC | exact isC_a16 hC | exact isC_a17 hC | exact isC_a13 hD | exact isC_a14 hD | exact isC_a15 hD | exact isC_a16 hD | exact isC_a17 hD) (by first | exact isC_a13 hC | exact isC_a14 hC | exact isC_a15 hC | exact isC_a16 hC | exact isC_a17 hC | exact isC_a13 hD | exact isC_a14 hD | exact isC_a15 hD | exact isC_a16 hD | exact isC_a17 hD) (by omega) ?_
  refine kw_ald_n x_C_copyFrom_49 rfl ?_
  refine kw_gr x_C_copyFrom_50 (by first | exact isC_k hC | exact isC_k hD) (by first | exact isC_r5 hC | exact isC_r5 hD) ?_
  refine kw_icon x_C_copyFrom_53 ?_
  refine kw_ald_n x_C_copyFrom_54 rfl ?_
  refine kw_gr x_C_copyFrom_55 (by first | exact isC_k hC | exact isC_k hD) (by first | exact isC_r5 hC | exact isC_r5 hD) ?_
  refine kw_icon x_C_copyFrom_58 ?_
  refine kw_icon x_C_copyFrom_59 ?_
  first | refine kw_cpi_n x_C_copyFrom_60 (by first | exact isC_a5 hC | exact isC_a6 hC | exact isC_a7 hC | exact isC_a8 hC | exact isC_a9 hC | exact isC_a10 hC | exact isC_a11 hC | exact isC_a12 hC | exact isC_a5 hD | exact isC_a6 hD | exact isC_a7 hD | exact isC_a8 hD | exact isC_a9 hD | exact isC_a10 hD | exact isC_a11 hD | exact isC_a12 hD) (by first | exact isC_a5 hC | exact isC_a6 hC | exact isC_a7 hC | exact isC_a8 hC | exact isC_a9 hC | exact isC_a10 hC | exact isC_a11 hC | exact isC_a12 hC | exact isC_a5 hD | exact isC_a6 hD | exact isC_a7 hD | exact isC_a8 hD | exact isC_a9 hD | exact isC_a10 hD | exact isC_a11 hD | exact isC_a12 hD) (by omega) ?_ | refine kw_cpl_n x_C_copyFrom_60 (by first | exact isC_a13 hC | exact isC_a14 hC | exact isC_a15 hC | exact isC_a16 hC | exact isC_a17 hC | exact isC_a13 hD | exact isC_a14 hD | exact isC_a15 hD | exact isC_a16 hD | exact isC_a17 hD) (by first | exact isC_a13 hC | exact isC_a14 hC | exact isC_a15 hC | exact isC_a16 hC | exact isC_a17 hC | exact isC_a13 hD | exact isC_a14 hD | exact isC_a15 hD | exact isC_a16 hD | exact isC_a17 hD) (by omega) ?_
  refine kw_ald_n x_C_copyFrom_63 rfl ?_
  refine kw_gr x_C_copyFrom_64 (by first | exact isC_k hC | exact isC_k hD) (by first | exact isC_r6 hC | exact isC_r6 hD) ?_
  refine kw_icon x_C_copyFrom_67 ?_
  refine kw_ald_n x_C_copyFrom_68 rfl ?_
  refine kw_gr x_C_copyFrom_69 (by first | exact isC_k hC | exact isC_k hD) (by first | exact isC_r6 hC | exact isC_r6 hD) ?_
  refine kw_icon x_C_copyFrom_72 ?_
  refine kw_icon x_C_copyFrom_73 ?_
  first | refine kw_cpi_n x_C_copyFrom_74 (by first | exact isC_a5 hC | exact isC_a6 hC | exact isC_a7 hC | exact isC_a8 hC | exact isC_a9 hC | exact isC_a10 hC | exact isC_a11 hC | exact isC_a12 hC | exact isC_a5 hD | exact isC_a6 hD | exact isC_a7 hD | exact isC_a8 hD | exact isC_a9 hD | exact isC_a10 hD | exact isC_a11 hD | exact isC_a12 hD) (by first | exact isC_a5 hC | exact isC_a6 hC | exact isC_a7 hC | exact isC_a8 hC | exact isC_a9 hC | exact isC_a10 hC | exact isC_a11 hC | exact isC_a12 hC | exact isC_a5 hD | exact isC_a6 hD | exact isC_a7 hD | exact isC_a8 hD | exact isC_a9 hD | exact isC_a10 hD | exact isC_a11 hD | exact isC_a12 hD) (by omega) ?_ | refine kw_cpl_n x_C_copyFrom_74 (by first | exact isC_a13 hC | exact isC_a14 hC | exact isC_a15 hC | exact isC_a16 hC | exact isC_a17 hC | exact isC_a13 hD | exact isC_a14 hD | exact isC_a15 hD | exact isC_a16 hD | exact isC_a17 hD) (by first | exact isC_a13 hC | exact isC_a14 hC | exact isC_a15 hC | exact isC_a16 hC | exact isC_a17 hC | exact isC_a13 hD | exact isC_a14 hD | exact isC_a15 hD | exact isC_a16 hD | exact isC_a17 hD) (by omega) ?_
  refine kw_ald_n x_C_copyFrom_77 rfl ?_
  refine kw_gr x_C_copyFrom_78 (by first | exact isC_k hC | exact isC_k hD) (by first | exact isC_r7 hC | exact isC_r7 hD) ?_
  refine kw_icon x_C_copyFrom_81 ?_
  refine kw_ald_n x_C_copyFrom_82 rfl ?_
  refine kw_gr x_C_copyFrom_83 (by first | exact isC_k hC | exact isC_k hD) (by first | exact isC_r7 hC | exact isC_r7 hD) ?_
  refine kw_icon x_C_copyFrom_86 ?_
  refine kw_icon x_C_copyFrom_87 ?_
  first | refine kw_cpi_n x_C_copyFrom_88 (by first | exact isC_a5 hC | exact isC_a6 hC | exact isC_a7 hC | exact isC_a8 hC | exact isC_a9 hC | exact isC_a10 hC | exact isC_a11 hC | exact isC_a12 hC | exact isC_a5 hD | exact isC_a6 hD | exact isC_a7 hD | exact isC_a8 hD | exact isC_a9 hD | exact isC_a10 hD | exact isC_a11 hD | exact isC_a12 hD) (by first | exact isC_a5 hC | exact isC_a6 hC | exact isC_a7 hC | exact isC_a8 hC | exact isC_a9 hC | exact isC_a10 hC | exact isC_a11 hC | exact isC_a12 hC | exact isC_a5 hD | exact isC_a6 hD | exact isC_a7 hD | exact isC_a8 hD | exact isC_a9 hD | exact isC_a10 hD | exact isC_a11 hD | exact isC_a12 hD) (by omega) ?_ | refine kw_cpl_n x_C_copyFrom_88 (by first | exact isC_a13 hC | exact isC_a14 hC | exact isC_a15 hC | exact isC_a16 hC | exact isC_a17 hC | exact isC_a13 hD | exact isC_a14 hD | exact isC_a15 hD | exact isC_a16 hD | exact isC_a17 hD) (by first | exact isC_a13 hC | exact isC_a14 hC | exact isC_a15 hC | exact isC_a16 hC | exact isC_a17 hC | exact isC_a13 hD | exact isC_a14 hD | exact isC_a15 hD | exact isC_a16 hD | exact isC_a17 hD) (by omega) ?_
  refine kw_ald_n x_C_copyFrom_91 rfl ?_
  refine kw_gr x_C_copyFrom_92 (by first | exact isC_k hC | exact isC_k hD) (by first | exact isC_r8 hC | exact isC_r8 hD) ?_
  refine kw_icon x_C_copyFrom_95 ?_
  refine kw_ald_n x_C_copyFrom_96 rfl ?_
  refine kw_gr x_C_copyFrom_97 (by first | exact isC_k hC | exact isC_k hD) (by first | exact isC_r8 hC | exact isC_r8 hD) ?_
  refine kw_icon x_C_copyFrom_100 ?_
  refine kw_icon x_C_copyFrom_101 ?_
  first | refine kw_cpi_n x_C_copyFrom_102 (by first | exact isC_a5 hC | exact isC_a6 hC | exact isC_a7 hC | exact isC_a8 hC | exact isC_a9 hC | exact isC_a10 hC | exact isC_a11 hC | exact isC_a12 hC | exact isC_a5 hD | exact isC_a6 hD | exact isC_a7 hD | exact isC_a8 hD | exact isC_a9 hD | exact isC_a10 hD | exact isC_a11 hD | exact isC_a12 hD) (by first | exact isC_a5 hC | exact isC_a6 hC | exact isC_a7 hC | exact isC_a8 hC | exact isC_a9 hC | exact isC_a10 hC | exact isC_a11 hC | exact isC_a12 hC | exact isC_a5 hD | exact isC_a6 hD | exact isC_a7 hD | exact isC_a8 hD | exact isC_a9 hD | exact isC_a10 hD | exact isC_a11 hD | exact isC_a12 hD) (by omega) ?_ | refine kw_cpl_n x_C_copyFrom_102 (by first | exact isC_a13 hC | exact isC_a14 hC | exact isC_a15 hC | exact isC_a16 hC | exact isC_a17 hC | exact isC_a13 hD | exact isC_a14 hD | exact isC_a15 hD | exact isC_a16 hD | exact isC_a17 hD) (by first | exact isC_a13 hC | exact isC_a14 hC | exact isC_a15 hC | exact isC_a16 hC | exact isC_a17 hC | exact isC_a13 hD | exact isC_a14 hD | exact isC_a15 hD | exact isC_a16 hD | exact isC_a17 hD) (by omega) ?_
  refine kw_ald_n x_C_copyFrom_105 rfl ?_
  refine kw_gr x_C_copyFrom_106 (by first | exact isC_k hC | exact isC_k hD) (by first | exact isC_r9 hC | exact isC_r9 hD) ?_
  refine kw_icon x_C_copyFrom_109 ?_
  refine kw_ald_n x_C_copyFrom_110 rfl ?_
  refine kw_gr x_C_copyFrom_111 (by first | exact isC_k hC | exact isC_k hD) (by first | exact isC_r9 hC | exact isC_r9 hD) ?_
  refine kw_icon x_C_copyFrom_114 ?_
  refine kw_icon x_C_copyFrom_115 ?_
  first | refine kw_cpi_n x_C_copyFrom_116 (by first | exact isC_a5 hC | exact isC_a6 hC | exact isC_a7 hC | exact isC_a8 hC | exact isC_a9 hC | exact isC_a10 hC | exact isC_a11 hC | exact isC_a12 hC | exact isC_a5 hD | exact isC_a6 hD | exact isC_a7 hD | exact isC_a8 hD | exact isC_a9 hD | exact isC_a10 hD | exact isC_a11 hD | exact isC_a12 hD) (by first | exact isC_a5 hC | exact isC_a6 hC | exact isC_a7 hC | exact isC_a8 hC | exact isC_a9 hC | exact isC_a10 hC | exact isC_a11 hC | exact isC_a12 hC | exact isC_a5 hD | exact isC_a6 hD | exact isC_a7 hD | exact isC_a8 hD | exact isC_a9 hD | exact isC_a10 hD | exact isC_a11 hD | exact isC_a12 hD) (by omega) ?_ | refine kw_cpl_n x_C_copyFrom_116 (by first | exact isC_a13 hC | exact isC_a14 hC | exact isC_a15 hC | exact isC_a16 hC | exact isC_a17 hC | exact isC_a13 hD | exact isC_a14 hD | exact isC_a15 hD | exact isC_a16 hD | exact isC_a17 hD) (by first | exact isC_a13 hC | exact isC_a14 hC | exact isC_a15 hC | exact isC_a16 hC | exact isC_a17 hC | exact isC_a13 hD | exact isC_a14 hD | exact isC_a15 hD | exact isC_a16 hD | exact isC_a17 hD) (by omega) ?_
  refine kw_vret x_C_copyFrom_119 ?_
  refine k _ _ (fun a ha => ?_) (fun a ha => by rw [kt_cp_ne _ (by omega), kt_cp_ne _ (by omega), kt_cp_ne _ (by omega), kt_cp_ne _ (by omega), kt_cp_ne _ (by omega)]) ⟨g2.ext (fun a h1 h2 => ?_), ?_, ?_, fun t ht => ?_, fun t ht => kt_cp_na (by omega) (kt_cp_na (by omega) (kt_cp_na (by omega) (kt_cp_na (by omega) ((by rw [kt_cp_eq, if_pos ht]; exact (b10 t ht)))))), fun t ht => kt_cp_na (by omega) ((by rw [kt_cp_eq, if_pos ht]; exact kt_cp_na (by omega) (kt_cp_na (by omega) (kt_cp_na (by omega) ((b13 t ht))))))⟩ ⟨?_, fun t ht => kt_cp_na (by omega) (kt_cp_na (by omega) (kt_cp_na (by omega) ((by rw [kt_cp_eq, if_pos ht]; exact kt_cp_na (by omega) ((o11 t ht)))))), fun t ht => kt_cp_na (by omega) (kt_cp_na (by omega) ((by rw [kt_cp_eq, if_pos ht]; exact kt_cp_na (by omega) (kt_cp_na (by omega) ((o12 t ht)))))), fun t ht => (by rw [kt_cp_eq, if_pos ht]; exact kt_cp_na (by omega) (kt_cp_na (by omega) (kt_cp_na (by omega) (kt_cp_na (by omega) ((o14 t ht))))))⟩
  · rw [kt_cp_ne _ (by omega), kt_u1_ne _ _ _ (by omega), kt_u1_ne _ _ _ (by omega), kt_u1_ne _ _ _ (by omega)]
    exact g1 a (by omega)
  · rw [kt_cp_ne _ (by omega), kt_u1_ne _ _ _ (by omega), kt_u1_ne _ _ _ (by omega), kt_u1_ne _ _ _ (by omega)]
  · exact kt_cp_na (by omega) (kt_u1_nj (by decide) (kt_u1_nj (by decide) kt_u1_eq))
  · exact kt_cp_na (by omega) (kt_u1_nj (by decide) kt_u1_eq)
  · rw [kt_cp_eq, if_pos ht]
    exact kt_u1_na (by omega) (kt_u1_na (by omega) (kt_u1_na (by omega) (by rw [g1 _ (by omega)]; exact b9 t ht)))
  · exact kt_cp_na (by omega) kt_u1_eq
end CC
