/-! the reference: what would be -/
def xoe (X : kt_X) (b s : Nat → Nat) (m0 : Nat) : Nat → Nat
  | 0 => m0
  | e + 1 => xoe X b s m0 e ||| (if s e ≠ b e ∧ (s e ≤ 1 ∨ b e ≤ 1) then 2 ^ xe X e 3 else 0)
theorem xoe_lt {X : kt_X} {b s : Nat → Nat} {m0 : Nat} (hX : ∀ e, e < xn X → xe X e 3 < 6) (h0 : m0 < 64) : ∀ e, e ≤ xn X → xoe X b s m0 e < 64
  | 0, _ => h0
  | e + 1, he => by
    have h := xoe_lt (b := b) (s := s) hX h0 e (by omega)
    have h3 := hX e (by omega)
    have h2 : (2 : Nat) ^ xe X e 3 < 2 ^ 6 := Nat.pow_lt_pow_right (by decide) h3
    unfold xoe
    refine Nat.or_lt_two_pow (n := 6) h ?_
    split
    · exact h2
    · decide
/-- the goods of which two towns would think otherwise -/
def xoth (X Y : kt_X) (t u : Nat) : Nat := xoe Y (xst X u) (xst Y u) (xoe Y (xst X t) (xst Y t) 0 (xn Y)) (xn Y)
def kt_ly (m : Nat) (I I' : kt_I) : Prop := (∀ a, a ≠ m → a ≠ m + 1 → a ≠ m + 4 → a ≠ m + 6 → a ≠ m + 7 → a ≠ m + 8 → a ≠ m + 9 → a ≠ m + 10 → I' a = I a) ∧ ∀ j, j ≠ 10 → I' m j = I m j
theorem kt_ly.rf {m : Nat} {I : kt_I} : kt_ly m I I := ⟨fun _ _ _ _ _ _ _ _ _ => rfl, fun _ _ => rfl⟩
theorem kt_ly.tr {m : Nat} {I I' I'' : kt_I} (h : kt_ly m I I') (h' : kt_ly m I' I'') : kt_ly m I I'' := ⟨fun a h1 h2 h3 h4 h5 h6 h7 h8 => (h'.1 a h1 h2 h3 h4 h5 h6 h7 h8).trans (h.1 a h1 h2 h3 h4 h5 h6 h7 h8), fun j h2 => (h'.2 j h2).trans (h.2 j h2)⟩
theorem kt_l2.ly {m : Nat} {I I' : kt_I} (h : kt_l2 m I I') : kt_ly m I I' := ⟨fun a h1 _ _ h4 h5 h6 h7 _ => h.1 a h1 h4 h5 h6 h7, h.2⟩
theorem kt_l3.ly {m : Nat} {I I' : kt_I} (h : kt_l3 m I I') : kt_ly m I I' := ⟨fun a h1 h2 _ h4 h5 h6 _ _ => h.1 a h1 h2 h4 h5 h6, h.2⟩
theorem kt_lm.ly {m : Nat} {I I' : kt_I} (h : kt_lm m I I') : kt_ly m I I' := h.l3.ly
theorem kt_ly.one {m : Nat} {I I' : kt_I} {b : Nat} (hb : b ≠ m) (hq : b = m + 1 ∨ b = m + 4 ∨ b = m + 10) (h : ∀ c, c ≠ b → I' c = I c) : kt_ly m I I' := ⟨fun a h1 h2 h3 h4 h5 h6 h7 h8 => h a (by omega), fun j _ => by rw [h m (by omega)]⟩
section MO
variable {P : kt_P} {N : Nat} {I : kt_I} {J : kt_J} {R : kt_R} {Q : Option Value → kt_I → kt_J → kt_R → Prop} {m : Nat} {X : kt_X}
theorem s_M_tb_in (hM : kt_isM P N R m) (hE : kt_enc (I (m + 1)) X) (hW : kt_wf X) {S : Nat → Nat} (hS : ∀ e, e < xn X → I (m + 6) e = kt_sc (S e)) {t u i : Nat} (hi : i < 2)
    (k : ∀ I', (∀ a, a ≠ m + 10 → I' a = I a) → (∀ j, I' (m + 10) j = if 60 * i ≤ j ∧ j < 60 * i + xn X then kt_sc (S (j - 60 * i)) else I (m + 10) j) → KW P i_M_thinksBoth N 59 [some (.ref m), some (.int (nI t)), some (.int (nI u)), some (.int (nI i)), some (.int (nI (xn X)))] [] N I' J R Q) :
    ∀ (d e : Nat) (I1 : kt_I), e + d = xn X → (∀ a, a ≠ m + 10 → I1 a = I a) → (∀ j, I1 (m + 10) j = if 60 * i ≤ j ∧ j < 60 * i + e then kt_sc (S (j - 60 * i)) else I (m + 10) j) → KW P i_M_thinksBoth N 23 [some (.ref m), some (.int (nI t)), some (.int (nI u)), some (.int (nI i)), some (.int (nI e))] [] N I1 J R Q := by
  have hn := hW.2.2.1
  intro d
  induction d with
  | zero =>
    intro e I1 h1 h2 h3
    have h4 : e = xn X := by omega
    subst h4
    have hE : kt_enc (I1 (m + 1)) X := by rw [h2 _ (by omega)]; exact hE
    refine kw_ild x_M_thinksBoth_23 rfl ?_
    refine kw_ald_n x_M_thinksBoth_25 rfl ?_
    refine kw_gr x_M_thinksBoth_26 (by exact isM_k hM) (by exact isM_r0 hM) ?_
    refine kw_icon x_M_thinksBoth_29 ?_
    refine kw_iald_n x_M_thinksBoth_30 (by first | exact isM_a1 hM | exact isM_a2 hM | exact isM_a3 hM | exact isM_a4 hM | exact isM_a5 hM | exact isM_a6 hM | exact isM_a7 hM | exact isM_a8 hM | exact isM_a10 hM | exact isM_a11 hM) (by omega) (by omega) (by first | exact hE.1 | exact hE.2.1 | exact hE.2.2.1 | exact hS1 | exact rfl) ?_
    first | refine kw_ic_ge_n x_M_thinksBoth_31 ⟨by omega, by omega⟩ (fun h31 => ?_) (fun h31 => ?_) | refine kw_ic_ge x_M_thinksBoth_31 (fun h31 => ?_) (fun h31 => ?_)
    · first
      | exfalso; omega
      | skip
        exact k I1 h2 h3
    · first
      | exfalso; omega
      | skip
        skip
  | succ d ih =>
    intro e I1 h1 h2 h3
    have hE : kt_enc (I1 (m + 1)) X := by rw [h2 _ (by omega)]; exact hE
    have hS1 : I1 (m + 6) e = kt_sc (S e) := by rw [h2 _ (by omega)]; exact hS e (by omega)
    refine kw_ild x_M_thinksBoth_23 rfl ?_
    refine kw_ald_n x_M_thinksBoth_25 rfl ?_
    refine kw_gr x_M_thinksBoth_26 (by exact isM_k hM) (by exact isM_r0 hM) ?_
    refine kw_icon x_M_thinksBoth_29 ?_
    refine kw_iald_n x_M_thinksBoth_30 (by first | exact isM_a1 hM | exact isM_a2 hM | exact isM_a3 hM | exact isM_a4 hM | exact isM_a5 hM | exact isM_a6 hM | exact isM_a7 hM | exact isM_a8 hM | exact isM_a10 hM | exact isM_a11 hM) (by omega) (by omega) (by first | exact hE.1 | exact hE.2.1 | exact hE.2.2.1 | exact hS1 | exact rfl) ?_
    first | refine kw_ic_ge_n x_M_thinksBoth_31 ⟨by omega, by omega⟩ (fun h31 => ?_) (fun h31 => ?_) | refine kw_ic_ge x_M_thinksBoth_31 (fun h31 => ?_) (fun h31 => ?_)
    · first
      | exfalso; omega
      | skip
        skip
    · first
      | exfalso; omega
      | skip
        refine kw_ald_n x_M_thinksBoth_34 rfl ?_
        refine kw_gr x_M_thinksBoth_35 (by exact isM_k hM) (by exact isM_r13 hM) ?_
        refine kw_bip x_M_thinksBoth_38 ?_
        refine kw_ild_n x_M_thinksBoth_40 rfl ?_
        first | refine kw_imul_n x_M_thinksBoth_41 ?_ | refine kw_imul x_M_thinksBoth_41 ?_
        refine kw_ild x_M_thinksBoth_42 rfl ?_
        first | refine kw_iadd_n x_M_thinksBoth_44 ?_ | refine kw_iadd x_M_thinksBoth_44 ?_
        refine kw_ald_n x_M_thinksBoth_45 rfl ?_
        refine kw_gr x_M_thinksBoth_46 (by exact isM_k hM) (by exact isM_r8 hM) ?_
        refine kw_ild x_M_thinksBoth_49 rfl ?_
        refine kw_iald_n x_M_thinksBoth_51 (by first | exact isM_a1 hM | exact isM_a2 hM | exact isM_a3 hM | exact isM_a4 hM | exact isM_a5 hM | exact isM_a6 hM | exact isM_a7 hM | exact isM_a8 hM | exact isM_a10 hM | exact isM_a11 hM) (by omega) (by omega) (by first | exact hE.1 | exact hE.2.1 | exact hE.2.2.1 | exact hS1 | exact rfl) ?_
        refine kw_iast_n x_M_thinksBoth_52 (by first | exact isM_a1 hM | exact isM_a2 hM | exact isM_a3 hM | exact isM_a4 hM | exact isM_a5 hM | exact isM_a6 hM | exact isM_a7 hM | exact isM_a8 hM | exact isM_a10 hM | exact isM_a11 hM) (by omega) (by omega) ?_
        first | refine kw_iinc_n x_M_thinksBoth_53 (by decide) rfl ?_ | refine kw_iinc x_M_thinksBoth_53 (by decide) rfl ?_
        refine kw_goto x_M_thinksBoth_56 ?_
        refine ih (e + 1) _ (by omega) (fun a ha => by rw [kt_u1_ne _ _ _ ha]; exact h2 a ha) (fun j => ?_)
        by_cases hj : j = 60 * i + e
        · subst hj
          rw [if_pos (by omega), show 60 * i + e - 60 * i = e by omega]
          simp [kt_u1]
        · simp only [kt_u1, hj, and_false, if_false]
          rw [h3 j]
          by_cases hc : 60 * i ≤ j ∧ j < 60 * i + e
          · rw [if_pos hc, if_pos (by omega)]
          · rw [if_neg hc, if_neg (by omega)]
theorem s_M_thinksBoth (hM : kt_isM P N R m) (hE : kt_enc (I (m + 1)) X) (hW : kt_wf X) {t u : Nat} (ht : t ≤ 5) (hu : u ≤ 5)
    (k : ∀ I', (∀ a, a ≠ m → a ≠ m + 6 → a ≠ m + 7 → a ≠ m + 8 → a ≠ m + 10 → I' a = I a) → (∀ j, j ≠ 10 → I' m j = I m j) → (∀ e, e < xn X → I' (m + 10) e = kt_sc (xst X t e)) → (∀ e, e < xn X → I' (m + 10) (60 + e) = kt_sc (xst X u e)) → Q none I' J R) :
    KW P i_M_thinksBoth N 0 [some (.ref m), some (.int (nI t)), some (.int (nI u)), none, none] [] N I J R Q := by
  have hn := hW.2.2.1
  refine kw_icon x_M_thinksBoth_0 ?_
  refine kw_ist_n x_M_thinksBoth_1 (by decide) ?_
  refine kw_ild_n x_M_thinksBoth_2 rfl ?_
  refine kw_icon x_M_thinksBoth_3 ?_
  first | refine kw_ic_ge_n x_M_thinksBoth_4 ⟨by omega, by omega⟩ (fun h4 => ?_) (fun h4 => ?_) | refine kw_ic_ge x_M_thinksBoth_4 (fun h4 => ?_) (fun h4 => ?_)
  · first
    | exfalso; omega
    | skip
      refine kw_vret x_M_thinksBoth_65 ?_
      skip
  · first
    | exfalso; omega
    | skip
      refine kw_ald_n x_M_thinksBoth_7 rfl ?_
      refine kw_ild_n x_M_thinksBoth_8 rfl ?_
      first | refine kw_if_ne_b x_M_thinksBoth_9 (fun h9 => ?_) (fun h9 => ?_) | refine kw_if_ne_s x_M_thinksBoth_9 ⟨by omega, by omega⟩ (fun h9 => ?_) (fun h9 => ?_) | refine kw_if_ne_n x_M_thinksBoth_9 (by omega) (fun h9 => ?_) (fun h9 => ?_) | refine kw_if_ne x_M_thinksBoth_9 (fun h9 => ?_) (fun h9 => ?_)
      · first
        | exfalso; omega
        | skip
          refine kw_ild_n x_M_thinksBoth_16 rfl ?_
          refine c_M_thinksBoth_17 (by exact isM_k hM) (Nat.le_of_ble_eq_true rfl) ?_
          refine s_M_thinksAll hM hE hW (by omega) (fun I2 hl2 hS2 => ?_)
          have hE2 := hl2.enc hE
          refine kw_icon x_M_thinksBoth_20 ?_
          refine kw_ist x_M_thinksBoth_21 (by decide) ?_
          refine s_M_tb_in hM hE2 hW hS2 (i := 0) (by decide) (fun I3 g1 g2 => ?_) (xn X) 0 _ (by omega) (fun _ _ => rfl) (fun j => by rw [if_neg (by omega)])
          have hE3 : kt_enc (I3 (m + 1)) X := (by rw [g1 _ (by omega)]; exact hE2)
          first | refine kw_iinc_n x_M_thinksBoth_59 (by decide) rfl ?_ | refine kw_iinc x_M_thinksBoth_59 (by decide) rfl ?_
          refine kw_goto x_M_thinksBoth_62 ?_
          refine kw_ild_n x_M_thinksBoth_2 rfl ?_
          refine kw_icon x_M_thinksBoth_3 ?_
          first | refine kw_ic_ge_n x_M_thinksBoth_4 ⟨by omega, by omega⟩ (fun h4 => ?_) (fun h4 => ?_) | refine kw_ic_ge x_M_thinksBoth_4 (fun h4 => ?_) (fun h4 => ?_)
          · first
            | exfalso; omega
            | skip
              refine kw_vret x_M_thinksBoth_65 ?_
              skip
          · first
            | exfalso; omega
            | skip
              refine kw_ald_n x_M_thinksBoth_7 rfl ?_
              refine kw_ild_n x_M_thinksBoth_8 rfl ?_
              first | refine kw_if_ne_b x_M_thinksBoth_9 (fun h9 => ?_) (fun h9 => ?_) | refine kw_if_ne_s x_M_thinksBoth_9 ⟨by omega, by omega⟩ (fun h9 => ?_) (fun h9 => ?_) | refine kw_if_ne_n x_M_thinksBoth_9 (by omega) (fun h9 => ?_) (fun h9 => ?_) | refine kw_if_ne x_M_thinksBoth_9 (fun h9 => ?_) (fun h9 => ?_)
              · first
                | exfalso; omega
                | skip
                  refine kw_ild_n x_M_thinksBoth_16 rfl ?_
                  refine c_M_thinksBoth_17 (by exact isM_k hM) (Nat.le_of_ble_eq_true rfl) ?_
                  refine s_M_thinksAll hM hE3 hW (by omega) (fun I4 hl4 hS4 => ?_)
                  have hE4 := hl4.enc hE3
                  refine kw_icon x_M_thinksBoth_20 ?_
                  refine kw_ist x_M_thinksBoth_21 (by decide) ?_
                  refine s_M_tb_in hM hE4 hW hS4 (i := 1) (by decide) (fun I5 g3 g4 => ?_) (xn X) 0 _ (by omega) (fun _ _ => rfl) (fun j => by rw [if_neg (by omega)])
                  first | refine kw_iinc_n x_M_thinksBoth_59 (by decide) rfl ?_ | refine kw_iinc x_M_thinksBoth_59 (by decide) rfl ?_
                  refine kw_goto x_M_thinksBoth_62 ?_
                  refine kw_ild_n x_M_thinksBoth_2 rfl ?_
                  refine kw_icon x_M_thinksBoth_3 ?_
                  first | refine kw_ic_ge_n x_M_thinksBoth_4 ⟨by omega, by omega⟩ (fun h4 => ?_) (fun h4 => ?_) | refine kw_ic_ge x_M_thinksBoth_4 (fun h4 => ?_) (fun h4 => ?_)
                  · first
                    | exfalso; omega
                    | skip
                      refine kw_vret x_M_thinksBoth_65 ?_
                      exact k I5 (fun a h1 h2 h3 h4 h5 => by rw [g3 a h5, hl4.1 a h1 h2 h3 h4, g1 a h5, hl2.1 a h1 h2 h3 h4]) (fun j hj => by rw [g3 m (by omega), hl4.2 j hj, g1 m (by omega), hl2.2 j hj])
                        (fun e he => by rw [g4 e, if_neg (by omega), hl4.1 _ (by omega) (by omega) (by omega) (by omega), g2 e, if_pos (by omega)]; rfl)
                        (fun e he => by rw [g4 (60 + e), if_pos (by omega), show 60 + e - 60 * 1 = e by omega])
                  · first
                    | exfalso; omega
                    | skip
                      skip
              · first
                | exfalso; omega
                | skip
                  refine kw_ild_n x_M_thinksBoth_12 rfl ?_
                  refine kw_goto x_M_thinksBoth_13 ?_
                  refine c_M_thinksBoth_17 (by exact isM_k hM) (Nat.le_of_ble_eq_true rfl) ?_
                  refine s_M_thinksAll hM hE3 hW (by omega) (fun I4 hl4 hS4 => ?_)
                  have hE4 := hl4.enc hE3
                  refine kw_icon x_M_thinksBoth_20 ?_
                  refine kw_ist x_M_thinksBoth_21 (by decide) ?_
                  refine s_M_tb_in hM hE4 hW hS4 (i := 1) (by decide) (fun I5 g3 g4 => ?_) (xn X) 0 _ (by omega) (fun _ _ => rfl) (fun j => by rw [if_neg (by omega)])
                  first | refine kw_iinc_n x_M_thinksBoth_59 (by decide) rfl ?_ | refine kw_iinc x_M_thinksBoth_59 (by decide) rfl ?_
                  refine kw_goto x_M_thinksBoth_62 ?_
                  refine kw_ild_n x_M_thinksBoth_2 rfl ?_
                  refine kw_icon x_M_thinksBoth_3 ?_
                  first | refine kw_ic_ge_n x_M_thinksBoth_4 ⟨by omega, by omega⟩ (fun h4 => ?_) (fun h4 => ?_) | refine kw_ic_ge x_M_thinksBoth_4 (fun h4 => ?_) (fun h4 => ?_)
                  · first
                    | exfalso; omega
                    | skip
                      refine kw_vret x_M_thinksBoth_65 ?_
                      exact k I5 (fun a h1 h2 h3 h4 h5 => by rw [g3 a h5, hl4.1 a h1 h2 h3 h4, g1 a h5, hl2.1 a h1 h2 h3 h4]) (fun j hj => by rw [g3 m (by omega), hl4.2 j hj, g1 m (by omega), hl2.2 j hj])
                        (fun e he => by rw [g4 e, if_neg (by omega), hl4.1 _ (by omega) (by omega) (by omega) (by omega), g2 e, if_pos (by omega)]; rfl)
                        (fun e he => by rw [g4 (60 + e), if_pos (by omega), show 60 + e - 60 * 1 = e by omega])
                  · first
                    | exfalso; omega
                    | skip
                      skip
      · first
        | exfalso; omega
        | skip
          refine kw_ild_n x_M_thinksBoth_12 rfl ?_
          refine kw_goto x_M_thinksBoth_13 ?_
          refine c_M_thinksBoth_17 (by exact isM_k hM) (Nat.le_of_ble_eq_true rfl) ?_
          refine s_M_thinksAll hM hE hW (by omega) (fun I2 hl2 hS2 => ?_)
          have hE2 := hl2.enc hE
          refine kw_icon x_M_thinksBoth_20 ?_
          refine kw_ist x_M_thinksBoth_21 (by decide) ?_
          refine s_M_tb_in hM hE2 hW hS2 (i := 0) (by decide) (fun I3 g1 g2 => ?_) (xn X) 0 _ (by omega) (fun _ _ => rfl) (fun j => by rw [if_neg (by omega)])
          have hE3 : kt_enc (I3 (m + 1)) X := (by rw [g1 _ (by omega)]; exact hE2)
          first | refine kw_iinc_n x_M_thinksBoth_59 (by decide) rfl ?_ | refine kw_iinc x_M_thinksBoth_59 (by decide) rfl ?_
          refine kw_goto x_M_thinksBoth_62 ?_
          refine kw_ild_n x_M_thinksBoth_2 rfl ?_
          refine kw_icon x_M_thinksBoth_3 ?_
          first | refine kw_ic_ge_n x_M_thinksBoth_4 ⟨by omega, by omega⟩ (fun h4 => ?_) (fun h4 => ?_) | refine kw_ic_ge x_M_thinksBoth_4 (fun h4 => ?_) (fun h4 => ?_)
          · first
            | exfalso; omega
            | skip
              refine kw_vret x_M_thinksBoth_65 ?_
              skip
          · first
            | exfalso; omega
            | skip
              refine kw_ald_n x_M_thinksBoth_7 rfl ?_
              refine kw_ild_n x_M_thinksBoth_8 rfl ?_
              first | refine kw_if_ne_b x_M_thinksBoth_9 (fun h9 => ?_) (fun h9 => ?_) | refine kw_if_ne_s x_M_thinksBoth_9 ⟨by omega, by omega⟩ (fun h9 => ?_) (fun h9 => ?_) | refine kw_if_ne_n x_M_thinksBoth_9 (by omega) (fun h9 => ?_) (fun h9 => ?_) | refine kw_if_ne x_M_thinksBoth_9 (fun h9 => ?_) (fun h9 => ?_)
              · first
                | exfalso; omega
                | skip
                  refine kw_ild_n x_M_thinksBoth_16 rfl ?_
                  refine c_M_thinksBoth_17 (by exact isM_k hM) (Nat.le_of_ble_eq_true rfl) ?_
                  refine s_M_thinksAll hM hE3 hW (by omega) (fun I4 hl4 hS4 => ?_)
                  have hE4 := hl4.enc hE3
                  refine kw_icon x_M_thinksBoth_20 ?_
                  refine kw_ist x_M_thinksBoth_21 (by decide) ?_
                  refine s_M_tb_in hM hE4 hW hS4 (i := 1) (by decide) (fun I5 g3 g4 => ?_) (xn X) 0 _ (by omega) (fun _ _ => rfl) (fun j => by rw [if_neg (by omega)])
                  first | refine kw_iinc_n x_M_thinksBoth_59 (by decide) rfl ?_ | refine kw_iinc x_M_thinksBoth_59 (by decide) rfl ?_
                  refine kw_goto x_M_thinksBoth_62 ?_
                  refine kw_ild_n x_M_thinksBoth_2 rfl ?_
                  refine kw_icon x_M_thinksBoth_3 ?_
                  first | refine kw_ic_ge_n x_M_thinksBoth_4 ⟨by omega, by omega⟩ (fun h4 => ?_) (fun h4 => ?_) | refine kw_ic_ge x_M_thinksBoth_4 (fun h4 => ?_) (fun h4 => ?_)
                  · first
                    | exfalso; omega
                    | skip
                      refine kw_vret x_M_thinksBoth_65 ?_
                      exact k I5 (fun a h1 h2 h3 h4 h5 => by rw [g3 a h5, hl4.1 a h1 h2 h3 h4, g1 a h5, hl2.1 a h1 h2 h3 h4]) (fun j hj => by rw [g3 m (by omega), hl4.2 j hj, g1 m (by omega), hl2.2 j hj])
                        (fun e he => by rw [g4 e, if_neg (by omega), hl4.1 _ (by omega) (by omega) (by omega) (by omega), g2 e, if_pos (by omega)]; rfl)
                        (fun e he => by rw [g4 (60 + e), if_pos (by omega), show 60 + e - 60 * 1 = e by omega])
                  · first
                    | exfalso; omega
                    | skip
                      skip
              · first
                | exfalso; omega
                | skip
                  refine kw_ild_n x_M_thinksBoth_12 rfl ?_
                  refine kw_goto x_M_thinksBoth_13 ?_
                  refine c_M_thinksBoth_17 (by exact isM_k hM) (Nat.le_of_ble_eq_true rfl) ?_
                  refine s_M_thinksAll hM hE3 hW (by omega) (fun I4 hl4 hS4 => ?_)
                  have hE4 := hl4.enc hE3
                  refine kw_icon x_M_thinksBoth_20 ?_
                  refine kw_ist x_M_thinksBoth_21 (by decide) ?_
                  refine s_M_tb_in hM hE4 hW hS4 (i := 1) (by decide) (fun I5 g3 g4 => ?_) (xn X) 0 _ (by omega) (fun _ _ => rfl) (fun j => by rw [if_neg (by omega)])
                  first | refine kw_iinc_n x_M_thinksBoth_59 (by decide) rfl ?_ | refine kw_iinc x_M_thinksBoth_59 (by decide) rfl ?_
                  refine kw_goto x_M_thinksBoth_62 ?_
                  refine kw_ild_n x_M_thinksBoth_2 rfl ?_
                  refine kw_icon x_M_thinksBoth_3 ?_
                  first | refine kw_ic_ge_n x_M_thinksBoth_4 ⟨by omega, by omega⟩ (fun h4 => ?_) (fun h4 => ?_) | refine kw_ic_ge x_M_thinksBoth_4 (fun h4 => ?_) (fun h4 => ?_)
                  · first
                    | exfalso; omega
                    | skip
                      refine kw_vret x_M_thinksBoth_65 ?_
                      exact k I5 (fun a h1 h2 h3 h4 h5 => by rw [g3 a h5, hl4.1 a h1 h2 h3 h4, g1 a h5, hl2.1 a h1 h2 h3 h4]) (fun j hj => by rw [g3 m (by omega), hl4.2 j hj, g1 m (by omega), hl2.2 j hj])
                        (fun e he => by rw [g4 e, if_neg (by omega), hl4.1 _ (by omega) (by omega) (by omega) (by omega), g2 e, if_pos (by omega)]; rfl)
                        (fun e he => by rw [g4 (60 + e), if_pos (by omega), show 60 + e - 60 * 1 = e by omega])
                  · first
                    | exfalso; omega
                    | skip
                      skip
theorem s_M_oth_in (hM : kt_isM P N R m) (hE : kt_enc (I (m + 1)) X) (hW : kt_wf X) {B S : Nat → Nat} {i : Nat} (hi : i < 2) (hS : ∀ e, e < xn X → I (m + 6) e = kt_sc (S e)) (hS4 : ∀ e, S e < 4) (hB : ∀ e, e < xn X → I (m + 10) (60 * i + e) = kt_sc (B e)) (hB4 : ∀ e, B e < 4) {t u m0 : Nat} (hm0 : m0 < 64)
    (k : ∀ v6 v7, KW P i_M_others N 125 [some (.ref m), some (.int (nI t)), some (.int (nI u)), some (.int (nI (xoe X B S m0 (xn X)))), some (.int (nI i)), some (.int (nI (xn X))), v6, v7] [] N I J R Q) :
    ∀ (d e s : Nat) (v6 v7 : Option Value), e + d = xn X → s = xoe X B S m0 e → KW P i_M_others N 28 [some (.ref m), some (.int (nI t)), some (.int (nI u)), some (.int (nI s)), some (.int (nI i)), some (.int (nI e)), v6, v7] [] N I J R Q := by
  have hn := hW.2.2.1
  intro d
  induction d with
  | zero =>
    intro e s v6 v7 h1 h2
    have h4 : e = xn X := by omega
    subst h4; subst h2
    refine kw_ild x_M_others_28 rfl ?_
    refine kw_ald_n x_M_others_30 rfl ?_
    refine kw_gr x_M_others_31 (by exact isM_k hM) (by exact isM_r0 hM) ?_
    refine kw_icon x_M_others_34 ?_
    refine kw_iald_n x_M_others_35 (by first | exact isM_a1 hM | exact isM_a2 hM | exact isM_a3 hM | exact isM_a4 hM | exact isM_a5 hM | exact isM_a6 hM | exact isM_a7 hM | exact isM_a8 hM | exact isM_a10 hM | exact isM_a11 hM) (by omega) (by omega) (by first | exact hE.1 | exact hE.2.1 | exact hE.2.2.1 | exact hS _ (by omega) | exact hB _ (by omega) | exact rfl) ?_
    first | refine kw_ic_ge_n x_M_others_36 ⟨by omega, by omega⟩ (fun h36 => ?_) (fun h36 => ?_) | refine kw_ic_ge x_M_others_36 (fun h36 => ?_) (fun h36 => ?_)
    · first
      | exfalso; omega
      | skip
        exact k _ _
    · first
      | exfalso; omega
      | skip
        skip
  | succ d ih =>
    intro e s v6 v7 h1 h2
    have hx3 := (hW.2.2.2.2.2.1 e (by omega)).2.2.2.1
    have hlt : s < 64 := by rw [h2]; exact xoe_lt (fun e he => (hW.2.2.2.2.2.1 e he).2.2.2.1) hm0 e (by omega)
    refine kw_ild x_M_others_28 rfl ?_
    refine kw_ald_n x_M_others_30 rfl ?_
    refine kw_gr x_M_others_31 (by exact isM_k hM) (by exact isM_r0 hM) ?_
    refine kw_icon x_M_others_34 ?_
    refine kw_iald_n x_M_others_35 (by first | exact isM_a1 hM | exact isM_a2 hM | exact isM_a3 hM | exact isM_a4 hM | exact isM_a5 hM | exact isM_a6 hM | exact isM_a7 hM | exact isM_a8 hM | exact isM_a10 hM | exact isM_a11 hM) (by omega) (by omega) (by first | exact hE.1 | exact hE.2.1 | exact hE.2.2.1 | exact hS _ (by omega) | exact hB _ (by omega) | exact rfl) ?_
    first | refine kw_ic_ge_n x_M_others_36 ⟨by omega, by omega⟩ (fun h36 => ?_) (fun h36 => ?_) | refine kw_ic_ge x_M_others_36 (fun h36 => ?_) (fun h36 => ?_)
    · first
      | exfalso; omega
      | skip
        skip
    · first
      | exfalso; omega
      | skip
        refine kw_ald_n x_M_others_39 rfl ?_
        refine kw_gr x_M_others_40 (by exact isM_k hM) (by exact isM_r13 hM) ?_
        refine kw_bip x_M_others_43 ?_
        refine kw_ild x_M_others_45 rfl ?_
        first | refine kw_imul_n x_M_others_47 ?_ | refine kw_imul x_M_others_47 ?_
        refine kw_ild x_M_others_48 rfl ?_
        first | refine kw_iadd_n x_M_others_50 ?_ | refine kw_iadd x_M_others_50 ?_
        refine kw_iald_n x_M_others_51 (by first | exact isM_a1 hM | exact isM_a2 hM | exact isM_a3 hM | exact isM_a4 hM | exact isM_a5 hM | exact isM_a6 hM | exact isM_a7 hM | exact isM_a8 hM | exact isM_a10 hM | exact isM_a11 hM) (by omega) (by omega) (by first | exact hE.1 | exact hE.2.1 | exact hE.2.2.1 | exact hS _ (by omega) | exact hB _ (by omega) | exact rfl) ?_
        refine kw_ist x_M_others_52 (by decide) ?_
        refine kw_ald_n x_M_others_54 rfl ?_
        refine kw_gr x_M_others_55 (by exact isM_k hM) (by exact isM_r8 hM) ?_
        refine kw_ild x_M_others_58 rfl ?_
        refine kw_iald_n x_M_others_60 (by first | exact isM_a1 hM | exact isM_a2 hM | exact isM_a3 hM | exact isM_a4 hM | exact isM_a5 hM | exact isM_a6 hM | exact isM_a7 hM | exact isM_a8 hM | exact isM_a10 hM | exact isM_a11 hM) (by omega) (by omega) (by first | exact hE.1 | exact hE.2.1 | exact hE.2.2.1 | exact hS _ (by omega) | exact hB _ (by omega) | exact rfl) ?_
        refine kw_ild x_M_others_61 rfl ?_
        first | refine kw_ic_eq_cc x_M_others_63 (hS4 e) (hB4 e) (fun h63 => ?_) (fun h63 => ?_) | refine kw_ic_eq_n x_M_others_63 ⟨by omega, by omega⟩ (fun h63 => ?_) (fun h63 => ?_) | refine kw_ic_eq x_M_others_63 (fun h63 => ?_) (fun h63 => ?_)
        · first
          | exfalso; omega
          | skip
            refine kw_icon x_M_others_95 ?_
            refine kw_ist x_M_others_96 (by decide) ?_
            refine kw_ild_n x_M_others_98 rfl ?_
            refine kw_ild x_M_others_99 rfl ?_
            first | refine kw_if_eq_b x_M_others_101 (fun h101 => ?_) (fun h101 => ?_) | refine kw_if_eq_n x_M_others_101 (by omega) (fun h101 => ?_) (fun h101 => ?_) | refine kw_if_eq x_M_others_101 (fun h101 => ?_) (fun h101 => ?_)
            · first
              | exfalso; omega
              | skip
                refine kw_icon x_M_others_116 ?_
                refine kw_ior x_M_others_117 ?_
                first | rw [kt_or64 _ hlt _ (by omega)] | rw [kt_or0]
                refine kw_ist_n x_M_others_118 (by decide) ?_
                first | refine kw_iinc_n x_M_others_119 (by decide) rfl ?_ | refine kw_iinc x_M_others_119 (by decide) rfl ?_
                refine kw_goto x_M_others_122 ?_
                refine ih (e + 1) _ _ _ (by omega) ?_
                rw [h2, show xoe X B S m0 (e + 1) = xoe X B S m0 e ||| (if S e ≠ B e ∧ (S e ≤ 1 ∨ B e ≤ 1) then 2 ^ xe X e 3 else 0) from rfl]
                clear h2
                first
                  | (rw [if_neg (by simp only [decide_eq_true_eq, decide_eq_false_iff_not] at *; omega)]; exact (Nat.or_zero _).symm)
                  | (rw [if_pos (by simp only [decide_eq_true_eq, decide_eq_false_iff_not] at *; omega)])
            · first
              | exfalso; omega
              | skip
                refine kw_icon x_M_others_104 ?_
                refine kw_ald_n x_M_others_105 rfl ?_
                refine kw_ild x_M_others_106 rfl ?_
                refine kw_icon x_M_others_108 ?_
                refine c_M_others_109 (by exact isM_k hM) (Nat.le_of_ble_eq_true rfl) ?_
                refine s_M_ofn hM hE hn (by omega) (by decide) ?_
                refine kw_ishl x_M_others_112 ?_
                refine kw_goto x_M_others_113 ?_
                refine kw_ior x_M_others_117 ?_
                first | rw [kt_or64 _ hlt _ (by omega)] | rw [kt_or0]
                refine kw_ist_n x_M_others_118 (by decide) ?_
                first | refine kw_iinc_n x_M_others_119 (by decide) rfl ?_ | refine kw_iinc x_M_others_119 (by decide) rfl ?_
                refine kw_goto x_M_others_122 ?_
                refine ih (e + 1) _ _ _ (by omega) ?_
                rw [h2, show xoe X B S m0 (e + 1) = xoe X B S m0 e ||| (if S e ≠ B e ∧ (S e ≤ 1 ∨ B e ≤ 1) then 2 ^ xe X e 3 else 0) from rfl]
                clear h2
                first
                  | (rw [if_neg (by simp only [decide_eq_true_eq, decide_eq_false_iff_not] at *; omega)]; exact (Nat.or_zero _).symm)
                  | (rw [if_pos (by simp only [decide_eq_true_eq, decide_eq_false_iff_not] at *; omega)])
        · first
          | exfalso; omega
          | skip
            refine kw_ald_n x_M_others_66 rfl ?_
            refine kw_gr x_M_others_67 (by exact isM_k hM) (by exact isM_r8 hM) ?_
            refine kw_ild x_M_others_70 rfl ?_
            refine kw_iald_n x_M_others_72 (by first | exact isM_a1 hM | exact isM_a2 hM | exact isM_a3 hM | exact isM_a4 hM | exact isM_a5 hM | exact isM_a6 hM | exact isM_a7 hM | exact isM_a8 hM | exact isM_a10 hM | exact isM_a11 hM) (by omega) (by omega) (by first | exact hE.1 | exact hE.2.1 | exact hE.2.2.1 | exact hS _ (by omega) | exact hB _ (by omega) | exact rfl) ?_
            refine kw_icon x_M_others_73 ?_
            refine kw_icon x_M_others_74 ?_
            refine c_M_others_75 (Nat.le_of_ble_eq_true rfl) ?_
            refine s_M_in ?_
            first | rw [kt_in01 _ (hS4 e)] | rw [kt_in01 _ (hB4 e)]
            first | refine kw_if_ne_b x_M_others_78 (fun h78 => ?_) (fun h78 => ?_) | refine kw_if_ne_s x_M_others_78 ⟨by omega, by omega⟩ (fun h78 => ?_) (fun h78 => ?_) | refine kw_if_ne_n x_M_others_78 (by omega) (fun h78 => ?_) (fun h78 => ?_) | refine kw_if_ne x_M_others_78 (fun h78 => ?_) (fun h78 => ?_)
            · first
              | exfalso; omega
              | skip
                refine kw_icon x_M_others_91 ?_
                refine kw_goto x_M_others_92 ?_
                refine kw_ist x_M_others_96 (by decide) ?_
                refine kw_ild_n x_M_others_98 rfl ?_
                refine kw_ild x_M_others_99 rfl ?_
                first | refine kw_if_eq_b x_M_others_101 (fun h101 => ?_) (fun h101 => ?_) | refine kw_if_eq_n x_M_others_101 (by omega) (fun h101 => ?_) (fun h101 => ?_) | refine kw_if_eq x_M_others_101 (fun h101 => ?_) (fun h101 => ?_)
                · first
                  | exfalso; omega
                  | skip
                    refine kw_icon x_M_others_116 ?_
                    refine kw_ior x_M_others_117 ?_
                    first | rw [kt_or64 _ hlt _ (by omega)] | rw [kt_or0]
                    refine kw_ist_n x_M_others_118 (by decide) ?_
                    first | refine kw_iinc_n x_M_others_119 (by decide) rfl ?_ | refine kw_iinc x_M_others_119 (by decide) rfl ?_
                    refine kw_goto x_M_others_122 ?_
                    refine ih (e + 1) _ _ _ (by omega) ?_
                    rw [h2, show xoe X B S m0 (e + 1) = xoe X B S m0 e ||| (if S e ≠ B e ∧ (S e ≤ 1 ∨ B e ≤ 1) then 2 ^ xe X e 3 else 0) from rfl]
                    clear h2
                    first
                      | (rw [if_neg (by simp only [decide_eq_true_eq, decide_eq_false_iff_not] at *; omega)]; exact (Nat.or_zero _).symm)
                      | (rw [if_pos (by simp only [decide_eq_true_eq, decide_eq_false_iff_not] at *; omega)])
                · first
                  | exfalso; omega
                  | skip
                    refine kw_icon x_M_others_104 ?_
                    refine kw_ald_n x_M_others_105 rfl ?_
                    refine kw_ild x_M_others_106 rfl ?_
                    refine kw_icon x_M_others_108 ?_
                    refine c_M_others_109 (by exact isM_k hM) (Nat.le_of_ble_eq_true rfl) ?_
                    refine s_M_ofn hM hE hn (by omega) (by decide) ?_
                    refine kw_ishl x_M_others_112 ?_
                    refine kw_goto x_M_others_113 ?_
                    refine kw_ior x_M_others_117 ?_
                    first | rw [kt_or64 _ hlt _ (by omega)] | rw [kt_or0]
                    refine kw_ist_n x_M_others_118 (by decide) ?_
                    first | refine kw_iinc_n x_M_others_119 (by decide) rfl ?_ | refine kw_iinc x_M_others_119 (by decide) rfl ?_
                    refine kw_goto x_M_others_122 ?_
                    refine ih (e + 1) _ _ _ (by omega) ?_
                    rw [h2, show xoe X B S m0 (e + 1) = xoe X B S m0 e ||| (if S e ≠ B e ∧ (S e ≤ 1 ∨ B e ≤ 1) then 2 ^ xe X e 3 else 0) from rfl]
                    clear h2
                    first
                      | (rw [if_neg (by simp only [decide_eq_true_eq, decide_eq_false_iff_not] at *; omega)]; exact (Nat.or_zero _).symm)
                      | (rw [if_pos (by simp only [decide_eq_true_eq, decide_eq_false_iff_not] at *; omega)])
            · first
              | exfalso; omega
              | skip
                refine kw_ild x_M_others_81 rfl ?_
                refine kw_icon x_M_others_83 ?_
                refine kw_icon x_M_others_84 ?_
                refine c_M_others_85 (Nat.le_of_ble_eq_true rfl) ?_
                refine s_M_in ?_
                first | rw [kt_in01 _ (hS4 e)] | rw [kt_in01 _ (hB4 e)]
                first | refine kw_if_eq_b x_M_others_88 (fun h88 => ?_) (fun h88 => ?_) | refine kw_if_eq_n x_M_others_88 (by omega) (fun h88 => ?_) (fun h88 => ?_) | refine kw_if_eq x_M_others_88 (fun h88 => ?_) (fun h88 => ?_)
                · first
                  | exfalso; omega
                  | skip
                    refine kw_icon x_M_others_95 ?_
                    refine kw_ist x_M_others_96 (by decide) ?_
                    refine kw_ild_n x_M_others_98 rfl ?_
                    refine kw_ild x_M_others_99 rfl ?_
                    first | refine kw_if_eq_b x_M_others_101 (fun h101 => ?_) (fun h101 => ?_) | refine kw_if_eq_n x_M_others_101 (by omega) (fun h101 => ?_) (fun h101 => ?_) | refine kw_if_eq x_M_others_101 (fun h101 => ?_) (fun h101 => ?_)
                    · first
                      | exfalso; omega
                      | skip
                        refine kw_icon x_M_others_116 ?_
                        refine kw_ior x_M_others_117 ?_
                        first | rw [kt_or64 _ hlt _ (by omega)] | rw [kt_or0]
                        refine kw_ist_n x_M_others_118 (by decide) ?_
                        first | refine kw_iinc_n x_M_others_119 (by decide) rfl ?_ | refine kw_iinc x_M_others_119 (by decide) rfl ?_
                        refine kw_goto x_M_others_122 ?_
                        refine ih (e + 1) _ _ _ (by omega) ?_
                        rw [h2, show xoe X B S m0 (e + 1) = xoe X B S m0 e ||| (if S e ≠ B e ∧ (S e ≤ 1 ∨ B e ≤ 1) then 2 ^ xe X e 3 else 0) from rfl]
                        clear h2
                        first
                          | (rw [if_neg (by simp only [decide_eq_true_eq, decide_eq_false_iff_not] at *; omega)]; exact (Nat.or_zero _).symm)
                          | (rw [if_pos (by simp only [decide_eq_true_eq, decide_eq_false_iff_not] at *; omega)])
                    · first
                      | exfalso; omega
                      | skip
                        refine kw_icon x_M_others_104 ?_
                        refine kw_ald_n x_M_others_105 rfl ?_
                        refine kw_ild x_M_others_106 rfl ?_
                        refine kw_icon x_M_others_108 ?_
                        refine c_M_others_109 (by exact isM_k hM) (Nat.le_of_ble_eq_true rfl) ?_
                        refine s_M_ofn hM hE hn (by omega) (by decide) ?_
                        refine kw_ishl x_M_others_112 ?_
                        refine kw_goto x_M_others_113 ?_
                        refine kw_ior x_M_others_117 ?_
                        first | rw [kt_or64 _ hlt _ (by omega)] | rw [kt_or0]
                        refine kw_ist_n x_M_others_118 (by decide) ?_
                        first | refine kw_iinc_n x_M_others_119 (by decide) rfl ?_ | refine kw_iinc x_M_others_119 (by decide) rfl ?_
                        refine kw_goto x_M_others_122 ?_
                        refine ih (e + 1) _ _ _ (by omega) ?_
                        rw [h2, show xoe X B S m0 (e + 1) = xoe X B S m0 e ||| (if S e ≠ B e ∧ (S e ≤ 1 ∨ B e ≤ 1) then 2 ^ xe X e 3 else 0) from rfl]
                        clear h2
                        first
                          | (rw [if_neg (by simp only [decide_eq_true_eq, decide_eq_false_iff_not] at *; omega)]; exact (Nat.or_zero _).symm)
                          | (rw [if_pos (by simp only [decide_eq_true_eq, decide_eq_false_iff_not] at *; omega)])
                · first
                  | exfalso; omega
                  | skip
                    refine kw_icon x_M_others_91 ?_
                    refine kw_goto x_M_others_92 ?_
                    refine kw_ist x_M_others_96 (by decide) ?_
                    refine kw_ild_n x_M_others_98 rfl ?_
                    refine kw_ild x_M_others_99 rfl ?_
                    first | refine kw_if_eq_b x_M_others_101 (fun h101 => ?_) (fun h101 => ?_) | refine kw_if_eq_n x_M_others_101 (by omega) (fun h101 => ?_) (fun h101 => ?_) | refine kw_if_eq x_M_others_101 (fun h101 => ?_) (fun h101 => ?_)
                    · first
                      | exfalso; omega
                      | skip
                        refine kw_icon x_M_others_116 ?_
                        refine kw_ior x_M_others_117 ?_
                        first | rw [kt_or64 _ hlt _ (by omega)] | rw [kt_or0]
                        refine kw_ist_n x_M_others_118 (by decide) ?_
                        first | refine kw_iinc_n x_M_others_119 (by decide) rfl ?_ | refine kw_iinc x_M_others_119 (by decide) rfl ?_
                        refine kw_goto x_M_others_122 ?_
                        refine ih (e + 1) _ _ _ (by omega) ?_
                        rw [h2, show xoe X B S m0 (e + 1) = xoe X B S m0 e ||| (if S e ≠ B e ∧ (S e ≤ 1 ∨ B e ≤ 1) then 2 ^ xe X e 3 else 0) from rfl]
                        clear h2
                        first
                          | (rw [if_neg (by simp only [decide_eq_true_eq, decide_eq_false_iff_not] at *; omega)]; exact (Nat.or_zero _).symm)
                          | (rw [if_pos (by simp only [decide_eq_true_eq, decide_eq_false_iff_not] at *; omega)])
                    · first
                      | exfalso; omega
                      | skip
                        refine kw_icon x_M_others_104 ?_
                        refine kw_ald_n x_M_others_105 rfl ?_
                        refine kw_ild x_M_others_106 rfl ?_
                        refine kw_icon x_M_others_108 ?_
                        refine c_M_others_109 (by exact isM_k hM) (Nat.le_of_ble_eq_true rfl) ?_
                        refine s_M_ofn hM hE hn (by omega) (by decide) ?_
                        refine kw_ishl x_M_others_112 ?_
                        refine kw_goto x_M_others_113 ?_
                        refine kw_ior x_M_others_117 ?_
                        first | rw [kt_or64 _ hlt _ (by omega)] | rw [kt_or0]
                        refine kw_ist_n x_M_others_118 (by decide) ?_
                        first | refine kw_iinc_n x_M_others_119 (by decide) rfl ?_ | refine kw_iinc x_M_others_119 (by decide) rfl ?_
                        refine kw_goto x_M_others_122 ?_
                        refine ih (e + 1) _ _ _ (by omega) ?_
                        rw [h2, show xoe X B S m0 (e + 1) = xoe X B S m0 e ||| (if S e ≠ B e ∧ (S e ≤ 1 ∨ B e ≤ 1) then 2 ^ xe X e 3 else 0) from rfl]
                        clear h2
                        first
                          | (rw [if_neg (by simp only [decide_eq_true_eq, decide_eq_false_iff_not] at *; omega)]; exact (Nat.or_zero _).symm)
                          | (rw [if_pos (by simp only [decide_eq_true_eq, decide_eq_false_iff_not] at *; omega)])
theorem s_M_others {Y : kt_X} (hM : kt_isM P N R m) (hE : kt_enc (I (m + 1)) Y) (hW : kt_wf Y) (hxn : xn Y = xn X) {t u : Nat} (ht : t ≤ 5) (hu : u ≤ 5) (hB0 : ∀ e, e < xn X → I (m + 10) e = kt_sc (xst X t e)) (hB1 : ∀ e, e < xn X → I (m + 10) (60 + e) = kt_sc (xst X u e))
    (k : ∀ I', kt_lm m I I' → Q (some (.int (nI (xoth X Y t u)))) I' J R) :
    KW P i_M_others N 0 [some (.ref m), some (.int (nI t)), some (.int (nI u)), none, none, none, none, none] [] N I J R Q := by
  have hn := hW.2.2.1
  have hxl := xoe_lt (X := Y) (b := xst X t) (s := xst Y t) (m0 := 0) (fun e he => (hW.2.2.2.2.2.1 e he).2.2.2.1) (by decide) (xn Y) (Nat.le_refl _)
  refine kw_icon x_M_others_0 ?_
  refine kw_ist_n x_M_others_1 (by decide) ?_
  refine kw_icon x_M_others_2 ?_
  refine kw_ist x_M_others_3 (by decide) ?_
  refine kw_ild x_M_others_5 rfl ?_
  refine kw_icon x_M_others_7 ?_
  first | refine kw_ic_ge_n x_M_others_8 ⟨by omega, by omega⟩ (fun h8 => ?_) (fun h8 => ?_) | refine kw_ic_ge x_M_others_8 (fun h8 => ?_) (fun h8 => ?_)
  · first
    | exfalso; omega
    | skip
      refine kw_ild_n x_M_others_131 rfl ?_
      refine kw_iret x_M_others_132 ?_
      skip
  · first
    | exfalso; omega
    | skip
      refine kw_ald_n x_M_others_11 rfl ?_
      refine kw_ild x_M_others_12 rfl ?_
      first | refine kw_if_ne_b x_M_others_14 (fun h14 => ?_) (fun h14 => ?_) | refine kw_if_ne_s x_M_others_14 ⟨by omega, by omega⟩ (fun h14 => ?_) (fun h14 => ?_) | refine kw_if_ne_n x_M_others_14 (by omega) (fun h14 => ?_) (fun h14 => ?_) | refine kw_if_ne x_M_others_14 (fun h14 => ?_) (fun h14 => ?_)
      · first
        | exfalso; omega
        | skip
          refine kw_ild_n x_M_others_21 rfl ?_
          refine c_M_others_22 (by exact isM_k hM) (Nat.le_of_ble_eq_true rfl) ?_
          refine s_M_thinksAll hM hE hW (by omega) (fun I2 hl2 hS2 => ?_)
          have hE2 := hl2.enc hE
          refine kw_icon x_M_others_25 ?_
          refine kw_ist x_M_others_26 (by decide) ?_
          refine s_M_oth_in (B := xst X t) hM hE2 hW (i := 0) (by decide) hS2 (xst_4 _ _) (fun e he => by rw [hl2.1 _ (by omega) (by omega) (by omega) (by omega), show 60 * 0 + e = e by omega]; exact hB0 e (by omega)) (xst_4 _ _) (by decide : 0 < 64) (fun v6 v7 => ?_) (xn Y) 0 _ _ _ (by omega) rfl
          first | refine kw_iinc_n x_M_others_125 (by decide) rfl ?_ | refine kw_iinc x_M_others_125 (by decide) rfl ?_
          refine kw_goto x_M_others_128 ?_
          refine kw_ild x_M_others_5 rfl ?_
          refine kw_icon x_M_others_7 ?_
          first | refine kw_ic_ge_n x_M_others_8 ⟨by omega, by omega⟩ (fun h8 => ?_) (fun h8 => ?_) | refine kw_ic_ge x_M_others_8 (fun h8 => ?_) (fun h8 => ?_)
          · first
            | exfalso; omega
            | skip
              refine kw_ild_n x_M_others_131 rfl ?_
              refine kw_iret x_M_others_132 ?_
              skip
          · first
            | exfalso; omega
            | skip
              refine kw_ald_n x_M_others_11 rfl ?_
              refine kw_ild x_M_others_12 rfl ?_
              first | refine kw_if_ne_b x_M_others_14 (fun h14 => ?_) (fun h14 => ?_) | refine kw_if_ne_s x_M_others_14 ⟨by omega, by omega⟩ (fun h14 => ?_) (fun h14 => ?_) | refine kw_if_ne_n x_M_others_14 (by omega) (fun h14 => ?_) (fun h14 => ?_) | refine kw_if_ne x_M_others_14 (fun h14 => ?_) (fun h14 => ?_)
              · first
                | exfalso; omega
                | skip
                  refine kw_ild_n x_M_others_21 rfl ?_
                  refine c_M_others_22 (by exact isM_k hM) (Nat.le_of_ble_eq_true rfl) ?_
                  refine s_M_thinksAll hM hE2 hW (by omega) (fun I4 hl4 hS4 => ?_)
                  have hE4 := hl4.enc hE2
                  refine kw_icon x_M_others_25 ?_
                  refine kw_ist x_M_others_26 (by decide) ?_
                  refine s_M_oth_in (B := xst X u) hM hE4 hW (i := 1) (by decide) hS4 (xst_4 _ _) (fun e he => by rw [hl4.1 _ (by omega) (by omega) (by omega) (by omega), hl2.1 _ (by omega) (by omega) (by omega) (by omega)]; exact hB1 e (by omega)) (xst_4 _ _) hxl (fun v6 v7 => ?_) (xn Y) 0 _ _ _ (by omega) rfl
                  first | refine kw_iinc_n x_M_others_125 (by decide) rfl ?_ | refine kw_iinc x_M_others_125 (by decide) rfl ?_
                  refine kw_goto x_M_others_128 ?_
                  refine kw_ild x_M_others_5 rfl ?_
                  refine kw_icon x_M_others_7 ?_
                  first | refine kw_ic_ge_n x_M_others_8 ⟨by omega, by omega⟩ (fun h8 => ?_) (fun h8 => ?_) | refine kw_ic_ge x_M_others_8 (fun h8 => ?_) (fun h8 => ?_)
                  · first
                    | exfalso; omega
                    | skip
                      refine kw_ild_n x_M_others_131 rfl ?_
                      refine kw_iret x_M_others_132 ?_
                      exact k I4 (hl2.tr hl4)
                  · first
                    | exfalso; omega
                    | skip
                      skip
              · first
                | exfalso; omega
                | skip
                  refine kw_ild_n x_M_others_17 rfl ?_
                  refine kw_goto x_M_others_18 ?_
                  refine c_M_others_22 (by exact isM_k hM) (Nat.le_of_ble_eq_true rfl) ?_
                  refine s_M_thinksAll hM hE2 hW (by omega) (fun I4 hl4 hS4 => ?_)
                  have hE4 := hl4.enc hE2
                  refine kw_icon x_M_others_25 ?_
                  refine kw_ist x_M_others_26 (by decide) ?_
                  refine s_M_oth_in (B := xst X u) hM hE4 hW (i := 1) (by decide) hS4 (xst_4 _ _) (fun e he => by rw [hl4.1 _ (by omega) (by omega) (by omega) (by omega), hl2.1 _ (by omega) (by omega) (by omega) (by omega)]; exact hB1 e (by omega)) (xst_4 _ _) hxl (fun v6 v7 => ?_) (xn Y) 0 _ _ _ (by omega) rfl
                  first | refine kw_iinc_n x_M_others_125 (by decide) rfl ?_ | refine kw_iinc x_M_others_125 (by decide) rfl ?_
                  refine kw_goto x_M_others_128 ?_
                  refine kw_ild x_M_others_5 rfl ?_
                  refine kw_icon x_M_others_7 ?_
                  first | refine kw_ic_ge_n x_M_others_8 ⟨by omega, by omega⟩ (fun h8 => ?_) (fun h8 => ?_) | refine kw_ic_ge x_M_others_8 (fun h8 => ?_) (fun h8 => ?_)
                  · first
                    | exfalso; omega
                    | skip
                      refine kw_ild_n x_M_others_131 rfl ?_
                      refine kw_iret x_M_others_132 ?_
                      exact k I4 (hl2.tr hl4)
                  · first
                    | exfalso; omega
                    | skip
                      skip
      · first
        | exfalso; omega
        | skip
          refine kw_ild_n x_M_others_17 rfl ?_
          refine kw_goto x_M_others_18 ?_
          refine c_M_others_22 (by exact isM_k hM) (Nat.le_of_ble_eq_true rfl) ?_
          refine s_M_thinksAll hM hE hW (by omega) (fun I2 hl2 hS2 => ?_)
          have hE2 := hl2.enc hE
          refine kw_icon x_M_others_25 ?_
          refine kw_ist x_M_others_26 (by decide) ?_
          refine s_M_oth_in (B := xst X t) hM hE2 hW (i := 0) (by decide) hS2 (xst_4 _ _) (fun e he => by rw [hl2.1 _ (by omega) (by omega) (by omega) (by omega), show 60 * 0 + e = e by omega]; exact hB0 e (by omega)) (xst_4 _ _) (by decide : 0 < 64) (fun v6 v7 => ?_) (xn Y) 0 _ _ _ (by omega) rfl
          first | refine kw_iinc_n x_M_others_125 (by decide) rfl ?_ | refine kw_iinc x_M_others_125 (by decide) rfl ?_
          refine kw_goto x_M_others_128 ?_
          refine kw_ild x_M_others_5 rfl ?_
          refine kw_icon x_M_others_7 ?_
          first | refine kw_ic_ge_n x_M_others_8 ⟨by omega, by omega⟩ (fun h8 => ?_) (fun h8 => ?_) | refine kw_ic_ge x_M_others_8 (fun h8 => ?_) (fun h8 => ?_)
          · first
            | exfalso; omega
            | skip
              refine kw_ild_n x_M_others_131 rfl ?_
              refine kw_iret x_M_others_132 ?_
              skip
          · first
            | exfalso; omega
            | skip
              refine kw_ald_n x_M_others_11 rfl ?_
              refine kw_ild x_M_others_12 rfl ?_
              first | refine kw_if_ne_b x_M_others_14 (fun h14 => ?_) (fun h14 => ?_) | refine kw_if_ne_s x_M_others_14 ⟨by omega, by omega⟩ (fun h14 => ?_) (fun h14 => ?_) | refine kw_if_ne_n x_M_others_14 (by omega) (fun h14 => ?_) (fun h14 => ?_) | refine kw_if_ne x_M_others_14 (fun h14 => ?_) (fun h14 => ?_)
              · first
                | exfalso; omega
                | skip
                  refine kw_ild_n x_M_others_21 rfl ?_
                  refine c_M_others_22 (by exact isM_k hM) (Nat.le_of_ble_eq_true rfl) ?_
                  refine s_M_thinksAll hM hE2 hW (by omega) (fun I4 hl4 hS4 => ?_)
                  have hE4 := hl4.enc hE2
                  refine kw_icon x_M_others_25 ?_
                  refine kw_ist x_M_others_26 (by decide) ?_
                  refine s_M_oth_in (B := xst X u) hM hE4 hW (i := 1) (by decide) hS4 (xst_4 _ _) (fun e he => by rw [hl4.1 _ (by omega) (by omega) (by omega) (by omega), hl2.1 _ (by omega) (by omega) (by omega) (by omega)]; exact hB1 e (by omega)) (xst_4 _ _) hxl (fun v6 v7 => ?_) (xn Y) 0 _ _ _ (by omega) rfl
                  first | refine kw_iinc_n x_M_others_125 (by decide) rfl ?_ | refine kw_iinc x_M_others_125 (by decide) rfl ?_
                  refine kw_goto x_M_others_128 ?_
                  refine kw_ild x_M_others_5 rfl ?_
                  refine kw_icon x_M_others_7 ?_
                  first | refine kw_ic_ge_n x_M_others_8 ⟨by omega, by omega⟩ (fun h8 => ?_) (fun h8 => ?_) | refine kw_ic_ge x_M_others_8 (fun h8 => ?_) (fun h8 => ?_)
                  · first
                    | exfalso; omega
                    | skip
                      refine kw_ild_n x_M_others_131 rfl ?_
                      refine kw_iret x_M_others_132 ?_
                      exact k I4 (hl2.tr hl4)
                  · first
                    | exfalso; omega
                    | skip
                      skip
              · first
                | exfalso; omega
                | skip
                  refine kw_ild_n x_M_others_17 rfl ?_
                  refine kw_goto x_M_others_18 ?_
                  refine c_M_others_22 (by exact isM_k hM) (Nat.le_of_ble_eq_true rfl) ?_
                  refine s_M_thinksAll hM hE2 hW (by omega) (fun I4 hl4 hS4 => ?_)
                  have hE4 := hl4.enc hE2
                  refine kw_icon x_M_others_25 ?_
                  refine kw_ist x_M_others_26 (by decide) ?_
                  refine s_M_oth_in (B := xst X u) hM hE4 hW (i := 1) (by decide) hS4 (xst_4 _ _) (fun e he => by rw [hl4.1 _ (by omega) (by omega) (by omega) (by omega), hl2.1 _ (by omega) (by omega) (by omega) (by omega)]; exact hB1 e (by omega)) (xst_4 _ _) hxl (fun v6 v7 => ?_) (xn Y) 0 _ _ _ (by omega) rfl
                  first | refine kw_iinc_n x_M_others_125 (by decide) rfl ?_ | refine kw_iinc x_M_others_125 (by decide) rfl ?_
                  refine kw_goto x_M_others_128 ?_
                  refine kw_ild x_M_others_5 rfl ?_
                  refine kw_icon x_M_others_7 ?_
                  first | refine kw_ic_ge_n x_M_others_8 ⟨by omega, by omega⟩ (fun h8 => ?_) (fun h8 => ?_) | refine kw_ic_ge x_M_others_8 (fun h8 => ?_) (fun h8 => ?_)
                  · first
                    | exfalso; omega
                    | skip
                      refine kw_ild_n x_M_others_131 rfl ?_
                      refine kw_iret x_M_others_132 ?_
                      exact k I4 (hl2.tr hl4)
                  · first
                    | exfalso; omega
                    | skip
                      skip
end MO
