/-! the reference: the rounds -/
def xcv (X : kt_X) : Nat → kt_X
  | 0 => X
  | j + 1 => xhear true j (j + 1) (xcv X j)
def fcv : Nat → Nat → Nat
  | 0, M => M
  | j + 1, M => xhm true j (j + 1) (fcv j M)
def fit (T : Nat) : Nat → Nat → Nat
  | 0, M => M
  | k + 1, M => fit T k (fcv (T - 1) M)
theorem fit4 : ∀ T, T < 6 → ∀ M, M < 32 → M < 2 ^ T → 1 ≤ M → fit T 4 M = 2 ^ T - 1 := by decide +kernel
def xall (X : kt_X) : Nat := xct (fun e => decide (xe X e 7 = 2 ^ xT X - 1)) (xn X)
def xrn : Nat → kt_X → Nat
  | 0, _ => 0
  | k + 1, X => if xall X = xn X then 0 else xrn k (xcv X (xT X - 1)) + 1
theorem xct_all {f : Nat → Bool} : ∀ n, (∀ e, e < n → f e = true) → xct f n = n
  | 0, _ => rfl
  | n + 1, h => by
    unfold xct
    rw [xct_all n (fun e he => h e (by omega)), if_pos (h n (by omega))]
theorem xcv_k (X : kt_X) : ∀ j, xr (xcv X j) = xr X ∧ xT (xcv X j) = xT X ∧ xn (xcv X j) = xn X ∧ ∀ e, e < xn X → xe (xcv X j) e 7 = fcv j (xe X e 7)
  | 0 => ⟨rfl, rfl, rfl, fun _ _ => rfl⟩
  | j + 1 => by
    obtain ⟨h1, h2, h3, h4⟩ := xcv_k X j
    refine ⟨h1, h2, h3, fun e he => ?_⟩
    show xe (xhear true j (j + 1) (xcv X j)) e 7 = xhm true j (j + 1) (fcv j (xe X e 7))
    rw [xhear_e, if_pos ⟨rfl, by omega⟩, h4 e he]
theorem xcv_wf {X : kt_X} (h : kt_wf X) : ∀ j, j + 1 ≤ xT X ∨ j = 0 → kt_wf (xcv X j)
  | 0, _ => h
  | j + 1, hj => by
    have h2 := (xcv_k X j).2.1
    exact kt_wf_hear (xcv_wf h j (by omega)) true (by omega) (by omega)
def kt_lh (m : Nat) (I I' : kt_I) : Prop := kt_lc m I I' ∧ I' m = I m ∧ I' (m + 2) = I (m + 2)
theorem kt_lh.rf {m : Nat} {I : kt_I} : kt_lh m I I := ⟨kt_lc.rf, rfl, rfl⟩
theorem kt_lh.tr {m : Nat} {I I' I'' : kt_I} (h : kt_lh m I I') (h' : kt_lh m I' I'') : kt_lh m I I'' := ⟨h.1.tr h'.1, h'.2.1.trans h.2.1, h'.2.2.trans h.2.2⟩
theorem kt_lh.ly {m : Nat} {I I' : kt_I} (h : kt_lh m I I') : kt_ly m I I' :=
  ⟨fun a h1 h2' h3 h4 h5 h6 h7 h8 => (by by_cases h9 : a = m + 2; (rw [h9, h.2.2]); exact h.1.1 a h1 h2' h9 h4 h5 h6 h7), fun j hj => by rw [h.2.1]⟩
theorem kt_lh.a4 {m : Nat} {I I' : kt_I} (h : kt_lh m I I') : I' (m + 4) = I (m + 4) := h.1.1 _ (by omega) (by omega) (by omega) (by omega) (by omega) (by omega) (by omega)
section MO
variable {P : kt_P} {N : Nat} {I : kt_I} {J : kt_J} {R : kt_R} {Q : Option Value → kt_I → kt_J → kt_R → Prop} {m : Nat} {X : kt_X}
theorem s_M_rnd_in (hM : kt_isM P N R m) (hW : kt_wf X) {c : Nat} (k : ∀ I' v2, kt_lh m I I' → kt_enc (I' (m + 1)) (xcv X (xT X - 1)) → KW P i_M_rounds N 58 [some (.ref m), some (.int (nI c)), v2] [] N I' J R Q) :
    ∀ (d j : Nat) (I1 : kt_I), j + d = xT X - 1 → kt_lh m I I1 → kt_enc (I1 (m + 1)) (xcv X j) → KW P i_M_rounds N 32 [some (.ref m), some (.int (nI c)), some (.int (nI (j + 1)))] [] N I1 J R Q := by
  have hT := hW.2.1
  intro d
  induction d with
  | zero =>
    intro j I1 h1 hl hE
    have h4 : j = xT X - 1 := by omega
    subst h4
    have hk := xcv_k X (xT X - 1)
    have hkT := hk.2.1
    refine kw_ild_n x_M_rounds_32 rfl ?_
    refine kw_ald_n x_M_rounds_33 rfl ?_
    refine kw_gr x_M_rounds_34 (by exact isM_k hM) (by exact isM_r0 hM) ?_
    refine kw_icon x_M_rounds_37 ?_
    refine kw_iald_n x_M_rounds_38 (by first | exact isM_a1 hM | exact isM_a2 hM | exact isM_a3 hM | exact isM_a4 hM | exact isM_a5 hM | exact isM_a6 hM | exact isM_a7 hM | exact isM_a8 hM | exact isM_a10 hM | exact isM_a11 hM) (by omega) (by omega) (by first | exact hE.1 | exact hE.2.1 | exact hE.2.2.1 | exact rfl) ?_
    first | refine kw_ic_ge_n x_M_rounds_39 ⟨by omega, by omega⟩ (fun h39 => ?_) (fun h39 => ?_) | refine kw_ic_ge x_M_rounds_39 (fun h39 => ?_) (fun h39 => ?_)
    · first
      | exfalso; omega
      | skip
        exact k I1 _ hl hE
    · first
      | exfalso; omega
      | skip
        skip
  | succ d ih =>
    intro j I1 h1 hl hE
    have hk := xcv_k X j
    have hkT := hk.2.1
    refine kw_ild_n x_M_rounds_32 rfl ?_
    refine kw_ald_n x_M_rounds_33 rfl ?_
    refine kw_gr x_M_rounds_34 (by exact isM_k hM) (by exact isM_r0 hM) ?_
    refine kw_icon x_M_rounds_37 ?_
    refine kw_iald_n x_M_rounds_38 (by first | exact isM_a1 hM | exact isM_a2 hM | exact isM_a3 hM | exact isM_a4 hM | exact isM_a5 hM | exact isM_a6 hM | exact isM_a7 hM | exact isM_a8 hM | exact isM_a10 hM | exact isM_a11 hM) (by omega) (by omega) (by first | exact hE.1 | exact hE.2.1 | exact hE.2.2.1 | exact rfl) ?_
    first | refine kw_ic_ge_n x_M_rounds_39 ⟨by omega, by omega⟩ (fun h39 => ?_) (fun h39 => ?_) | refine kw_ic_ge x_M_rounds_39 (fun h39 => ?_) (fun h39 => ?_)
    · first
      | exfalso; omega
      | skip
        skip
    · first
      | exfalso; omega
      | skip
        refine kw_ald_n x_M_rounds_42 rfl ?_
        refine kw_ild_n x_M_rounds_43 rfl ?_
        refine kw_icon x_M_rounds_44 ?_
        first | refine kw_isub_n x_M_rounds_45 (by omega) ?_ | refine kw_isub x_M_rounds_45 ?_
        refine kw_ild_n x_M_rounds_46 rfl ?_
        refine kw_icon x_M_rounds_47 ?_
        refine c_M_rounds_48 (by exact isM_k hM) (Nat.le_of_ble_eq_true rfl) ?_
        refine s_M_hears hM hE (xcv_wf hW j (by omega)) (a := j) (bo := true) (by omega) (by omega) (by omega) (fun I4 hl4 h40 h42 h49 hE4 => ?_)
        refine kw_pop x_M_rounds_51 rfl ?_
        first | refine kw_iinc_n x_M_rounds_52 (by decide) rfl ?_ | refine kw_iinc x_M_rounds_52 (by decide) rfl ?_
        refine kw_goto x_M_rounds_55 ?_
        exact ih (j + 1) I4 (by omega) (hl.tr (⟨hl4, h40, h42⟩)) hE4
theorem s_M_rnd_lp (hM : kt_isM P N R m) (k : ∀ I' v2 c, kt_lh m I I' → c = xrn 5 X → KW P i_M_rounds N 64 [some (.ref m), some (.int (nI c)), v2] [] N I' J R Q) :
    ∀ (f : Nat) (X' : kt_X) (c : Nat) (I1 : kt_I) (v2 : Option Value), (∀ e, e < xn X' → fit (xT X') f (xe X' e 7) = 2 ^ xT X' - 1) → kt_wf X' → kt_lh m I I1 → kt_enc (I1 (m + 1)) X' → c + xrn (f + 1) X' = xrn 5 X → KW P i_M_rounds N 13 [some (.ref m), some (.int (nI c)), v2] [] N I1 J R Q := by
  intro f
  induction f with
  | zero =>
    intro X' c I1 v2 hf hW hl hE hc
    have hn := hW.2.2.1
    have hT := hW.2.1
    have hp5 : (2 : Nat) ^ xT X' ≤ 2 ^ 5 := Nat.pow_le_pow_right (by decide) hT
    have hal : xall X' = xn X' := xct_all _ (fun e he => decide_eq_true (hf e he))
    have hr : xrn (0 + 1) X' = 0 := by unfold xrn; rw [if_pos hal]
    refine kw_ald_n x_M_rounds_13 rfl ?_
    refine kw_ald_n x_M_rounds_14 rfl ?_
    refine c_M_rounds_15 (by exact isM_k hM) (Nat.le_of_ble_eq_true rfl) ?_
    refine s_M_everyone hM hE hW ?_
    refine c_M_rounds_18 (by exact isM_k hM) (Nat.le_of_ble_eq_true rfl) ?_
    refine s_M_known hM hE hW (by omega) (show KW P i_M_rounds N 21 _ [.int (nI (xall X'))] N I1 J R Q from ?_)
    refine kw_ald_n x_M_rounds_21 rfl ?_
    refine kw_gr x_M_rounds_22 (by exact isM_k hM) (by exact isM_r0 hM) ?_
    refine kw_icon x_M_rounds_25 ?_
    refine kw_iald_n x_M_rounds_26 (by first | exact isM_a1 hM | exact isM_a2 hM | exact isM_a3 hM | exact isM_a4 hM | exact isM_a5 hM | exact isM_a6 hM | exact isM_a7 hM | exact isM_a8 hM | exact isM_a10 hM | exact isM_a11 hM) (by omega) (by omega) (by first | exact hE.1 | exact hE.2.1 | exact hE.2.2.1 | exact rfl) ?_
    first | refine kw_ic_ge_n x_M_rounds_27 ⟨by omega, by omega⟩ (fun h27 => ?_) (fun h27 => ?_) | refine kw_ic_ge x_M_rounds_27 (fun h27 => ?_) (fun h27 => ?_)
    · first
      | exfalso; omega
      | skip
        exact k I1 _ c hl (by omega)
    · first
      | exfalso; omega
      | skip
        skip
  | succ f ih =>
    intro X' c I1 v2 hf hW hl hE hc
    have hn := hW.2.2.1
    have hT := hW.2.1
    have hp5 : (2 : Nat) ^ xT X' ≤ 2 ^ 5 := Nat.pow_le_pow_right (by decide) hT
    have hal : xall X' ≤ xn X' := xct_le _ _
    have hkk := xcv_k X' (xT X' - 1)
    refine kw_ald_n x_M_rounds_13 rfl ?_
    refine kw_ald_n x_M_rounds_14 rfl ?_
    refine c_M_rounds_15 (by exact isM_k hM) (Nat.le_of_ble_eq_true rfl) ?_
    refine s_M_everyone hM hE hW ?_
    refine c_M_rounds_18 (by exact isM_k hM) (Nat.le_of_ble_eq_true rfl) ?_
    refine s_M_known hM hE hW (by omega) (show KW P i_M_rounds N 21 _ [.int (nI (xall X'))] N I1 J R Q from ?_)
    refine kw_ald_n x_M_rounds_21 rfl ?_
    refine kw_gr x_M_rounds_22 (by exact isM_k hM) (by exact isM_r0 hM) ?_
    refine kw_icon x_M_rounds_25 ?_
    refine kw_iald_n x_M_rounds_26 (by first | exact isM_a1 hM | exact isM_a2 hM | exact isM_a3 hM | exact isM_a4 hM | exact isM_a5 hM | exact isM_a6 hM | exact isM_a7 hM | exact isM_a8 hM | exact isM_a10 hM | exact isM_a11 hM) (by omega) (by omega) (by first | exact hE.1 | exact hE.2.1 | exact hE.2.2.1 | exact rfl) ?_
    first | refine kw_ic_ge_n x_M_rounds_27 ⟨by omega, by omega⟩ (fun h27 => ?_) (fun h27 => ?_) | refine kw_ic_ge x_M_rounds_27 (fun h27 => ?_) (fun h27 => ?_)
    · first
      | exfalso; omega
      | skip
        exact k I1 _ c hl (by
          have hr : xrn (f + 1 + 1) X' = 0 := (by unfold xrn; rw [if_pos (show xall X' = xn X' by omega)])
          omega)
    · first
      | exfalso; omega
      | skip
        refine kw_icon x_M_rounds_30 ?_
        refine kw_ist_n x_M_rounds_31 (by decide) ?_
        refine s_M_rnd_in hM hW (fun I3 w2 hl3 hE3 => ?_) (xT X' - 1) 0 I1 (by omega) kt_lh.rf hE
        first | refine kw_iinc_n x_M_rounds_58 (by decide) rfl ?_ | refine kw_iinc x_M_rounds_58 (by decide) rfl ?_
        refine kw_goto x_M_rounds_61 ?_
        refine ih (xcv X' (xT X' - 1)) (c + 1) I3 _ (fun e he => ?_) (xcv_wf hW _ (by omega)) (hl.tr hl3) hE3 (by
          have hr : xrn (f + 1 + 1) X' = xrn (f + 1) (xcv X' (xT X' - 1)) + 1 := (by rw [xrn, if_neg (show ¬ xall X' = xn X' by omega)])
          omega)
        rw [hkk.2.1, hkk.2.2.2 e (by omega)]
        exact hf e (by omega)
theorem s_M_rounds (hM : kt_isM P N R m) (hE : kt_enc (I (m + 1)) X) (hW : kt_wf X) (k : ∀ I', kt_ly m I I' → kt_enc (I' (m + 1)) X → Q (some (.int (nI (xrn 5 X)))) I' J R) : KW P i_M_rounds N 0 [some (.ref m), none, none] [] N I J R Q := by
  have hn := hW.2.2.1
  refine kw_ald_n x_M_rounds_0 rfl ?_
  refine kw_gr x_M_rounds_1 (by exact isM_k hM) (by exact isM_r0 hM) ?_
  refine kw_ald_n x_M_rounds_4 rfl ?_
  refine kw_gr x_M_rounds_5 (by exact isM_k hM) (by exact isM_r3 hM) ?_
  refine c_M_rounds_8 (Nat.le_of_ble_eq_true rfl) ?_
  refine s_M_copies (isM_a1 hM) (isM_a4 hM) (by omega) (fun I1 f1 f2 => ?_)
  have hE1 : kt_enc (I1 (m + 1)) X := (by rw [f1 _ (by omega)]; exact hE)
  refine kw_icon x_M_rounds_11 ?_
  refine kw_ist_n x_M_rounds_12 (by decide) ?_
  refine s_M_rnd_lp hM (I := I1) (X := X) (fun I6 v2 c hl6 hc => ?_) 4 X 0 I1 _ (fun e he => ?_) hW kt_lh.rf hE1 (Nat.zero_add _)
  · have hq : I6 (m + 4) = I1 (m + 4) := hl6.a4
    refine kw_ald_n x_M_rounds_64 rfl ?_
    refine kw_gr x_M_rounds_65 (by exact isM_k hM) (by exact isM_r3 hM) ?_
    refine kw_ald_n x_M_rounds_68 rfl ?_
    refine kw_gr x_M_rounds_69 (by exact isM_k hM) (by exact isM_r0 hM) ?_
    refine c_M_rounds_72 (Nat.le_of_ble_eq_true rfl) ?_
    refine s_M_copies (isM_a4 hM) (isM_a1 hM) (by omega) (fun I7 f3 f4 => ?_)
    have hb := kt_rest hn hE f2 hq f4
    have hly := (kt_ly.one (b := m + 4) (by omega) (Or.inr (Or.inl rfl)) f1).tr (hl6.ly.tr (kt_ly.one (b := m + 1) (by omega) (Or.inl rfl) f3))
    refine kw_ild_n x_M_rounds_75 rfl ?_
    refine kw_iret x_M_rounds_76 ?_
    subst hc
    exact k I7 hly hb
  · have h7 := (hW.2.2.2.2.2.1 e he).2.2.2.2.2.2.2.1
    have hp5 : (2 : Nat) ^ xT X ≤ 2 ^ 5 := Nat.pow_le_pow_right (by decide) hW.2.1
    exact fit4 _ (by have := hW.2.1; omega) _ (by omega) h7.2 h7.1
end MO
