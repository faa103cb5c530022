/-! the class: a country changes -/
theorem kt_uL_eq {J : kt_J} {a j : Nat} {x : Int64} : kt_uL J a j x a j = x := by simp [kt_uL]
theorem kt_uL_nj {J : kt_J} {a j k : Nat} {x v : Int64} (h : k ≠ j) (e : J a k = v) : kt_uL J a j x a k = v := by simp [kt_uL, h]; exact e
theorem kt_uL_na {J : kt_J} {a b j k : Nat} {x v : Int64} (h : a ≠ b) (e : J a k = v) : kt_uL J b j x a k = v := by rw [kt_uL_ne _ _ _ h]; exact e
theorem vTR {n : Nat} {v : Int32} (h : vT (n + 1) v) : vR 0 n v := by obtain ⟨t, ht, e⟩ := h; exact ⟨t, Nat.zero_le _, by omega, e⟩
theorem vRT {n : Nat} {v : Int32} (h : vR 0 n v) : vT (n + 1) v := by obtain ⟨t, _, ht, e⟩ := h; exact ⟨t, by omega, e⟩
theorem vPT {v : Int32} : vT 99 (v - nI 1) ↔ vR 1 99 v := by
  constructor
  · rintro ⟨j, hj, e⟩
    refine ⟨j + 1, by omega, by omega, ?_⟩
    rw [← nI_add, ← e]
    exact (Int32.sub_add_cancel v (nI 1)).symm
  · rintro ⟨g, h1, h2, rfl⟩
    exact ⟨g - 1, by omega, pk_sub h1⟩
theorem kt_nP {v : Int32} (h : decide (0 ≤ v - nI 1 ∧ v - nI 1 < nI 99) = false) : ¬ vR 1 99 v := fun q => kt_nT (by decide) h (vPT.mpr q)
theorem kt_yP {v : Int32} (h : decide (0 ≤ v - nI 1 ∧ v - nI 1 < nI 99) = true) : vR 1 99 v := vPT.mp (kt_yT (by decide) h)
/-- a change of a country that thinks as before -/
def kt_cg (c : Nat) (Y : kt_X) (I : kt_I) (J : kt_J) (I' : kt_I) (J' : kt_J) : Prop := kt_fd c I I' ∧ kt_fd c J J' ∧ kt_B c Y I' J' ∧ I' c 10 = I c 10 ∧ J' (c + 14) = J (c + 14) ∧ J' (c + 15) = J (c + 15) ∧ J' (c + 17) = J (c + 17)
theorem kt_cg.T {c : Nat} {Y X : kt_X} {I I' : kt_I} {J J' : kt_J} (h : kt_cg c Y I J I' J') (hT : kt_T c X I J) : kt_T c X I' J' := by
  obtain ⟨_, _, _, h4, h5, h6, h7⟩ := h
  exact ⟨h4.trans hT.1, fun t ht => by rw [h5]; exact hT.2.1 t ht, fun t ht => by rw [h6]; exact hT.2.2.1 t ht, fun t ht => by rw [h7]; exact hT.2.2.2 t ht⟩
theorem xnew_e (X : kt_X) (t kd gd pi pe wh e f : Nat) : xe (xnew X t kd gd pi pe wh) e f = if e = xn X then xnv X t kd gd pi pe wh f else xe X e f := rfl
theorem xnew_c (X : kt_X) (t kd gd pi pe wh t' : Nat) : xc (xnew X t kd gd pi pe wh) t' = xup (xc X) t (xc X t + 1) t' := rfl
theorem xK_new {X : kt_X} {t kd gd pi pe wh t' : Nat} (ht' : t' < 5) (e : Nat) : xK (xnew X t kd gd pi pe wh) t' e = (xK X t' e || (decide (t' = t) && decide (e = xn X))) := by
  unfold xK
  rw [show xn (xnew X t kd gd pi pe wh) = xn X + 1 from rfl, kt_xkb ht', kt_xkb ht', xnew_e]
  by_cases he : e = xn X
  · rw [if_pos he]
    show (decide (e < xn X + 1) && (2 ^ t).testBit t') = _
    rw [Nat.testBit_two_pow, decide_eq_true (show e < xn X + 1 by omega), decide_eq_false (show ¬ e < xn X by omega), decide_eq_true he]
    by_cases h : t' = t
    · rw [decide_eq_true h, decide_eq_true h.symm]; rfl
    · rw [decide_eq_false h, decide_eq_false (fun q => h q.symm)]; rfl
  · rw [if_neg he, decide_eq_false he, Bool.and_false, Bool.or_false]
    by_cases h : e < xn X
    · rw [decide_eq_true h, decide_eq_true (show e < xn X + 1 by omega)]
    · rw [decide_eq_false h, decide_eq_false (show ¬ e < xn X + 1 by omega)]
theorem xSy_new {X : kt_X} {t kd gd pi pe wh t' : Nat} (e : Nat) : xSy (xnew X t kd gd pi pe wh) t' e = xSy X t' e := by
  unfold xSy
  rw [show xn (xnew X t kd gd pi pe wh) = xn X + 1 from rfl, xnew_e]
  by_cases he : e = xn X
  · rw [if_pos he, decide_eq_false (show ¬ e < xn X by omega)]
    show (_ && (0 : Nat).testBit t') = _
    rw [Nat.zero_testBit, Bool.and_false]; rfl
  · rw [if_neg he]
    by_cases h : e < xn X
    · rw [decide_eq_true h, decide_eq_true (show e < xn X + 1 by omega)]
    · rw [decide_eq_false h, decide_eq_false (show ¬ e < xn X + 1 by omega)]
theorem kt_B_new {c t kd g p : Nat} {X : kt_X} {I I2 : kt_I} {J : kt_J} (hB : kt_B c X I J) (ht : t < 5) (hn : xn X < 60)
    (f1 : ∀ a, a ≠ c + 4 → (a < c + 5 ∨ c + 11 < a) → I2 a = I a) (f3 : I2 (c + 4) 0 = nI (xn X + 1)) (f4 : ∀ f e, f < 7 → I2 (c + 5 + f) e = if e = xn X then kt_av (nI kd) (nI t) (nI (xc X t + 1)) (nI g) (nI p) f else I (c + 5 + f) e) :
    kt_B c (xnew X t kd g p 0 0) (kt_u1 I2 (c + 12) t (nI (xc X t + 1))) (kt_uL J (c + 13) t (kS (fun j => xK X t j || decide (j = xn X)))) := by
  obtain ⟨hV, b2, b3, b9, b10, b13⟩ := hB
  refine ⟨⟨kt_u1_na (by omega) f3, fun e f he hf => kt_u1_na (by omega) ?_⟩, kt_u1_na (by omega) (by rw [f1 c (by omega) (by omega)]; exact b2), kt_u1_na (by omega) (by rw [f1 c (by omega) (by omega)]; exact b3), fun t' ht' => ?_, fun t' ht' => ?_, fun t' ht' => ?_⟩
  · rw [f4 f e hf, xnew_e]
    by_cases hc : e = xn X
    · rw [if_pos hc, if_pos hc]
      have hf7 : f = 0 ∨ f = 1 ∨ f = 2 ∨ f = 3 ∨ f = 4 ∨ f = 5 ∨ f = 6 := (by omega)
      rcases hf7 with rfl | rfl | rfl | rfl | rfl | rfl | rfl <;> simp [kt_av, kt_cd, xnv]
    · rw [if_neg hc, if_neg hc]
      have he2 : e < xn X + 1 := he
      exact hV.2 e f (by omega) hf
  · rw [xnew_c]
    by_cases hc : t' = t
    · subst hc; rw [xup_eq]; exact kt_u1_eq
    · rw [xup_ne _ _ hc]
      exact kt_u1_nj hc (by rw [f1 _ (by omega) (by omega)]; exact b9 t' ht')
  · by_cases hc : t' = t
    · subst hc
      rw [kt_uL_eq]
      refine kS_cg (fun e _ => ?_)
      rw [xK_new ht', decide_eq_true rfl, Bool.true_and]
    · refine kt_uL_nj hc ((b10 t' ht').trans (kS_cg (fun e _ => ?_)))
      rw [xK_new ht', decide_eq_false hc, Bool.false_and, Bool.or_false]
  · exact kt_uL_na (by omega) ((b13 t' ht').trans (kS_cg (fun e _ => (xSy_new e).symm)))
theorem kt_V_set {c e f : Nat} {X Y : kt_X} {I : kt_I} {v : Int32} (hV : kt_V c X I) (hf : f < 7) (hn : xn Y = xn X) (h : ∀ e' f', ¬ (e' = e ∧ f' = f) → f' < 7 → xe Y e' f' = xe X e' f') (hv : v = kt_cd f (xe Y e f)) : kt_V c Y (kt_u1 I (c + 5 + f) e v) := by
  refine ⟨by rw [hn]; exact kt_u1_na (by omega) hV.1, fun e' f' he' hf' => ?_⟩
  rw [hn] at he'
  by_cases hc : e' = e ∧ f' = f
  · obtain ⟨rfl, rfl⟩ := hc
    rw [hv]; exact kt_u1_eq
  · rw [h e' f' hc hf']
    have h2 := hV.2 e' f' he' hf'
    simp only [kt_u1]
    rw [if_neg (by omega)]
    exact h2
theorem xnv_f {X : kt_X} {t kd gd pi pe wh pe' wh' f : Nat} (h : f ≠ 5) (h2 : f ≠ 6) : xnv X t kd gd pi pe wh f = xnv X t kd gd pi pe' wh' f := by
  unfold xnv
  split <;> first | rfl | omega
theorem kt_B_pe {c t kd g p pe : Nat} {X : kt_X} {I : kt_I} {J : kt_J} {v : Int32} (hB : kt_B c (xnew X t kd g p 0 0) I J) (hv : v = kt_cd 5 pe) : kt_B c (xnew X t kd g p pe 0) (kt_u1 I (c + 10) (xn X) v) J := by
  obtain ⟨hV, b2, b3, b9, b10, b13⟩ := hB
  refine ⟨kt_V_set (f := 5) (e := xn X) hV (by decide) rfl (fun e' f' hne hf => ?_) (by rw [xnew_e, if_pos rfl]; exact hv), kt_u1_na (by omega) b2, kt_u1_na (by omega) b3, fun t' ht' => kt_u1_na (by omega) (b9 t' ht'), fun t' ht' => (b10 t' ht').trans (kS_cg (fun e _ => by rw [xK_new ht', xK_new ht'])), fun t' ht' => (b13 t' ht').trans (kS_cg (fun e _ => by rw [xSy_new, xSy_new]))⟩
  rw [xnew_e, xnew_e]
  by_cases hc : e' = xn X
  · rw [if_pos hc, if_pos hc]
    by_cases h6 : f' = 6
    · subst h6; rfl
    · exact xnv_f (fun q => hne ⟨hc, q⟩) h6
  · rw [if_neg hc, if_neg hc]
theorem kt_B_wh {c t kd g p pe wh : Nat} {X : kt_X} {I : kt_I} {J : kt_J} {v : Int32} (hB : kt_B c (xnew X t kd g p pe 0) I J) (hv : v = kt_cd 6 wh) : kt_B c (xnew X t kd g p pe wh) (kt_u1 I (c + 11) (xn X) v) J := by
  obtain ⟨hV, b2, b3, b9, b10, b13⟩ := hB
  refine ⟨kt_V_set (f := 6) (e := xn X) hV (by decide) rfl (fun e' f' hne hf => ?_) (by rw [xnew_e, if_pos rfl]; exact hv), kt_u1_na (by omega) b2, kt_u1_na (by omega) b3, fun t' ht' => kt_u1_na (by omega) (b9 t' ht'), fun t' ht' => (b10 t' ht').trans (kS_cg (fun e _ => by rw [xK_new ht', xK_new ht'])), fun t' ht' => (b13 t' ht').trans (kS_cg (fun e _ => by rw [xSy_new, xSy_new]))⟩
  rw [xnew_e, xnew_e]
  by_cases hc : e' = xn X
  · rw [if_pos hc, if_pos hc]
    by_cases h5 : f' = 5
    · subst h5; rfl
    · exact xnv_f h5 (fun q => hne ⟨hc, q⟩)
  · rw [if_neg hc, if_neg hc]
theorem kt_cg.pe {c t kd g p pe : Nat} {X : kt_X} {I I' : kt_I} {J J' : kt_J} {v : Int32} (h : kt_cg c (xnew X t kd g p 0 0) I J I' J') (hv : v = kt_cd 5 pe) : kt_cg c (xnew X t kd g p pe 0) I J (kt_u1 I' (c + 10) (xn X) v) J' :=
  ⟨fun a ha => by rw [kt_u1_ne _ _ _ (by omega)]; exact h.1 a ha, h.2.1, kt_B_pe h.2.2.1 hv, kt_u1_na (by omega) h.2.2.2.1, h.2.2.2.2⟩
theorem kt_cg.wh {c t kd g p pe wh : Nat} {X : kt_X} {I I' : kt_I} {J J' : kt_J} {v : Int32} (h : kt_cg c (xnew X t kd g p pe 0) I J I' J') (hv : v = kt_cd 6 wh) : kt_cg c (xnew X t kd g p pe wh) I J (kt_u1 I' (c + 11) (xn X) v) J' :=
  ⟨fun a ha => by rw [kt_u1_ne _ _ _ (by omega)]; exact h.1 a ha, h.2.1, kt_B_wh h.2.2.1 hv, kt_u1_na (by omega) h.2.2.2.1, h.2.2.2.2⟩
section CG
variable {P : kt_P} {N : Nat} {I : kt_I} {J : kt_J} {R : kt_R} {Q : Option Value → kt_I → kt_J → kt_R → Prop} {lo c : Nat} {X : kt_X}
theorem s_C_addTown (hC : kt_isC P N R lo c) (hB : kt_B c X I J) (hW : kt_wf X) (kl : xT X = 5 → Q (some (.int (-3))) I J R) (k : xT X < 5 → ∀ I', kt_cg c (xtow X) I J I' J → Q (some (.int (nI (xT X)))) I' J R) : KW P i_C_addTown N 0 [some (.ref c)] [] N I J R Q := by
  have hn := hW.2.2.1
  have hT5 := hW.2.1
  obtain ⟨hV, b2, b3, b9, b10, b13⟩ := id hB
  refine kw_ald_n x_C_addTown_0 rfl ?_
  refine kw_gi_e x_C_addTown_1 (by exact isC_k hC) (by first | exact b2 | exact kt_u1_eq | exact rfl) ?_
  refine kw_icon x_C_addTown_4 ?_
  refine c_C_addTown_5 (Nat.le_of_ble_eq_true rfl) ?_
  refine s_K_isBelow (b := 5) ?_
  first | refine kw_if_ne_b x_C_addTown_8 (fun h8 => ?_) (fun h8 => ?_) | refine kw_if_ne_s x_C_addTown_8 ⟨by omega, by omega⟩ (fun h8 => ?_) (fun h8 => ?_) | refine kw_if_ne_n x_C_addTown_8 (by omega) (fun h8 => ?_) (fun h8 => ?_) | refine kw_if_ne x_C_addTown_8 (fun h8 => ?_) (fun h8 => ?_)
  · first
    | exfalso; omega
    | skip
      refine kw_ald_n x_C_addTown_14 rfl ?_
      refine kw_dup x_C_addTown_15 rfl ?_
      refine kw_gi_e x_C_addTown_16 (by exact isC_k hC) (by first | exact b2 | exact kt_u1_eq | exact rfl) ?_
      refine kw_icon x_C_addTown_19 ?_
      first | refine kw_iadd_n x_C_addTown_20 ?_ | refine kw_iadd x_C_addTown_20 ?_
      refine kw_pi x_C_addTown_21 (by exact isC_k hC) ?_
      refine kw_ald_n x_C_addTown_24 rfl ?_
      refine kw_gi_e x_C_addTown_25 (by exact isC_k hC) (by first | exact b2 | exact kt_u1_eq | exact rfl) ?_
      refine kw_icon x_C_addTown_28 ?_
      first | refine kw_isub_n x_C_addTown_29 (by omega) ?_ | refine kw_isub x_C_addTown_29 ?_
      refine kw_iret x_C_addTown_30 ?_
      first
        | exact kl (Nat.le_antisymm hT5 (Nat.not_lt.mp fun q => kt_nT (T := 5) (by decide) h8 ⟨xT X, q, rfl⟩))
        | (obtain ⟨tq, htq, hq⟩ := kt_yT (T := 5) (by decide) h8
           have := kt_inj hq (by omega) (by omega)
           refine k (by omega) _ ⟨fun a ha => kt_u1_ne _ _ _ (by omega), kt_fd.rf, ⟨⟨kt_u1_na (by omega) hV.1, fun e f he hf => kt_u1_na (by omega) (hV.2 e f he hf)⟩, kt_u1_eq, kt_u1_nj (by decide) b3, fun t ht => kt_u1_na (by omega) (b9 t ht), b10, b13⟩, kt_u1_nj (by decide) rfl, rfl, rfl, rfl⟩)
  · first
    | exfalso; omega
    | skip
      refine kw_bip x_C_addTown_11 ?_
      refine kw_iret x_C_addTown_13 ?_
      first
        | exact kl (Nat.le_antisymm hT5 (Nat.not_lt.mp fun q => kt_nT (T := 5) (by decide) h8 ⟨xT X, q, rfl⟩))
        | (obtain ⟨tq, htq, hq⟩ := kt_yT (T := 5) (by decide) h8
           have := kt_inj hq (by omega) (by omega)
           refine k (by omega) _ ⟨fun a ha => kt_u1_ne _ _ _ (by omega), kt_fd.rf, ⟨⟨kt_u1_na (by omega) hV.1, fun e f he hf => kt_u1_na (by omega) (hV.2 e f he hf)⟩, kt_u1_eq, kt_u1_nj (by decide) b3, fun t ht => kt_u1_na (by omega) (b9 t ht), b10, b13⟩, kt_u1_nj (by decide) rfl, rfl, rfl, rfl⟩)
theorem s_C_make (hC : kt_isC P N R lo c) (hB : kt_B c X I J) (hW : kt_wf X) {t kd g p : Nat} (ht : t < xT X) (k0 : xn X = 60 → Q (some (.int (-3))) I J R) (k : xn X < 60 → ∀ I' J', kt_cg c (xnew X t kd g p 0 0) I J I' J' → Q (some (.int (nI (xn X)))) I' J' R) :
    KW P i_C_make N 0 [some (.ref c), some (.int (nI kd)), some (.int (nI t)), some (.int (nI g)), some (.int (nI p)), none] [] N I J R Q := by
  have hn := hW.2.2.1
  have hT5 := hW.2.1
  obtain ⟨hV, b2, b3, b9, b10, b13⟩ := id hB
  refine kw_ald_n x_C_make_0 rfl ?_
  refine kw_gr x_C_make_1 (by exact isC_k hC) (by exact isC_r1 hC) ?_
  refine kw_ild_n x_C_make_4 rfl ?_
  refine kw_ild_n x_C_make_5 rfl ?_
  refine kw_ald_n x_C_make_6 rfl ?_
  refine kw_gr x_C_make_7 (by exact isC_k hC) (by exact isC_r4 hC) ?_
  refine kw_ild_n x_C_make_10 rfl ?_
  refine kw_iald_n x_C_make_11 (by first | exact isC_a5 hC | exact isC_a6 hC | exact isC_a7 hC | exact isC_a8 hC | exact isC_a9 hC | exact isC_a10 hC | exact isC_a11 hC | exact isC_a12 hC | exact isL_a1 hL | exact isL_a2 hL) (by omega) (by omega) (by first | exact b9 _ (by omega) | exact b10 _ (by omega) | exact q9 | exact rfl) ?_
  refine kw_icon x_C_make_12 ?_
  first | refine kw_iadd_n x_C_make_13 ?_ | refine kw_iadd x_C_make_13 ?_
  refine kw_ild_n x_C_make_14 rfl ?_
  refine kw_ild x_C_make_15 rfl ?_
  refine c_C_make_17 (by exact isE_k hC) (Nat.le_of_ble_eq_true rfl) ?_
  refine s_E_add hC hV hW (fun h60 => ?_) (fun hlt I2 f1 f2 f3 f4 => ?_)
  · refine kw_ist x_C_make_20 (by decide) ?_
    refine kw_ild x_C_make_22 rfl ?_
    first | refine kw_if_lt_s x_C_make_24 ⟨by omega, by omega⟩ (fun h24 => ?_) (fun h24 => ?_) | refine kw_if_lt_n x_C_make_24 (by omega) (fun h24 => ?_) (fun h24 => ?_) | refine kw_if_lt x_C_make_24 (fun h24 => ?_) (fun h24 => ?_)
    · skip
      refine kw_ild x_C_make_50 rfl ?_
      refine kw_iret x_C_make_52 ?_
      exact k0 h60
    · exfalso; first | omega | contradiction | exact absurd (by decide) h24 | exact absurd h24 (by decide)
  have q9 : I2 (c + 12) t = nI (xc X t) := (by rw [f1 _ (by omega) (by omega)]; exact b9 t (by omega))
  refine kw_ist x_C_make_20 (by decide) ?_
  refine kw_ild x_C_make_22 rfl ?_
  first | refine kw_if_lt_s x_C_make_24 ⟨by omega, by omega⟩ (fun h24 => ?_) (fun h24 => ?_) | refine kw_if_lt_n x_C_make_24 (by omega) (fun h24 => ?_) (fun h24 => ?_) | refine kw_if_lt x_C_make_24 (fun h24 => ?_) (fun h24 => ?_)
  · first
    | exfalso; omega
    | skip
      refine kw_ild x_C_make_50 rfl ?_
      refine kw_iret x_C_make_52 ?_
      refine k hlt _ _ ⟨fun a ha => by rw [kt_u1_ne _ _ _ (by omega)]; exact f1 a (by omega) (by omega), fun a ha => kt_uL_ne _ _ _ (by omega), ?_, kt_u1_na (by omega) (by rw [f1 c (by omega) (by omega)]), kt_uL_ne _ _ _ (by omega), kt_uL_ne _ _ _ (by omega), kt_uL_ne _ _ _ (by omega)⟩
      exact kt_B_new hB (by omega) hlt f1 f3 f4
  · first
    | exfalso; omega
    | skip
      refine kw_ald_n x_C_make_27 rfl ?_
      refine kw_gr x_C_make_28 (by exact isC_k hC) (by exact isC_r4 hC) ?_
      refine kw_ild_n x_C_make_31 rfl ?_
      refine kw_dup2 x_C_make_32 rfl rfl ?_
      refine kw_iald_n x_C_make_33 (by first | exact isC_a5 hC | exact isC_a6 hC | exact isC_a7 hC | exact isC_a8 hC | exact isC_a9 hC | exact isC_a10 hC | exact isC_a11 hC | exact isC_a12 hC | exact isL_a1 hL | exact isL_a2 hL) (by omega) (by omega) (by first | exact b9 _ (by omega) | exact b10 _ (by omega) | exact q9 | exact rfl) ?_
      refine kw_icon x_C_make_34 ?_
      first | refine kw_iadd_n x_C_make_35 ?_ | refine kw_iadd x_C_make_35 ?_
      refine kw_iast_n x_C_make_36 (by first | exact isC_a5 hC | exact isC_a6 hC | exact isC_a7 hC | exact isC_a8 hC | exact isC_a9 hC | exact isC_a10 hC | exact isC_a11 hC | exact isC_a12 hC | exact isL_a1 hL | exact isL_a2 hL) (by omega) (by omega) ?_
      refine kw_ald_n x_C_make_37 rfl ?_
      refine kw_gr x_C_make_38 (by exact isC_k hC) (by exact isC_r5 hC) ?_
      refine kw_ild_n x_C_make_41 rfl ?_
      refine kw_dup2 x_C_make_42 rfl rfl ?_
      refine kw_lald_n x_C_make_43 (by first | exact isC_a13 hC | exact isC_a14 hC | exact isC_a15 hC | exact isC_a16 hC | exact isC_a17 hC) (by omega) (by omega) (by first | exact b9 _ (by omega) | exact b10 _ (by omega) | exact q9 | exact rfl) ?_
      refine kw_lconst x_C_make_44 ?_
      refine kw_ild x_C_make_45 rfl ?_
      refine kw_lshl x_C_make_47 ?_
      refine kw_lor x_C_make_48 ?_
      rw [show (1 : Int64) = nJ 1 from rfl, kS_add _ (by omega)]
      refine kw_last_n x_C_make_49 (by first | exact isC_a13 hC | exact isC_a14 hC | exact isC_a15 hC | exact isC_a16 hC | exact isC_a17 hC) (by omega) (by omega) ?_
      refine kw_ild x_C_make_50 rfl ?_
      refine kw_iret x_C_make_52 ?_
      refine k hlt _ _ ⟨fun a ha => by rw [kt_u1_ne _ _ _ (by omega)]; exact f1 a (by omega) (by omega), fun a ha => kt_uL_ne _ _ _ (by omega), ?_, kt_u1_na (by omega) (by rw [f1 c (by omega) (by omega)]), kt_uL_ne _ _ _ (by omega), kt_uL_ne _ _ _ (by omega), kt_uL_ne _ _ _ (by omega)⟩
      exact kt_B_new hB (by omega) hlt f1 f3 f4
theorem s_C_makeDelivery (hC : kt_isC P N R lo c) (hB : kt_B c X I J) (hW : kt_wf X) {a b d : Int32} (kf : ¬ (vT (xT X) a ∧ vR 0 5 b ∧ vR 1 99 d) → Q (some (.int (-1))) I J R) (kl : vT (xT X) a ∧ vR 0 5 b ∧ vR 1 99 d → xn X = 60 → Q (some (.int (-3))) I J R)
    (k : ∀ t g p, a = nI t → b = nI g → d = nI p → t < xT X → g ≤ 5 → 1 ≤ p → p ≤ 99 → xn X < 60 → ∀ I' J', kt_cg c (xnew X t 0 g p 0 0) I J I' J' → Q (some (.int (nI (xn X)))) I' J' R) : KW P i_C_makeDelivery N 0 [some (.ref c), some (.int a), some (.int b), some (.int d)] [] N I J R Q := by
  have hn := hW.2.2.1
  have hT5 := hW.2.1
  obtain ⟨hV, b2, b3, b9, b10, b13⟩ := id hB
  refine kw_ald_n x_C_makeDelivery_0 rfl ?_
  refine kw_ild_n x_C_makeDelivery_1 rfl ?_
  refine c_C_makeDelivery_2 (by exact isC_k hC) (Nat.le_of_ble_eq_true rfl) ?_
  refine s_C_isTown hC b2 ?_
  first | refine kw_if_eq_b x_C_makeDelivery_5 (fun h5 => ?_) (fun h5 => ?_) | refine kw_if_eq_n x_C_makeDelivery_5 (by omega) (fun h5 => ?_) (fun h5 => ?_) | refine kw_if_eq x_C_makeDelivery_5 (fun h5 => ?_) (fun h5 => ?_)
  · first
    | exfalso; omega
    | skip
      refine kw_icon x_C_makeDelivery_28 ?_
      refine kw_iret x_C_makeDelivery_29 ?_
      exact kf (fun h => by first | exact kt_nT (by omega) h5 h.1 | exact kt_nT (by decide) h14 (vRT h.2.1) | exact kt_nP h25 h.2.2)
  · first
    | exfalso; omega
    | skip
      obtain ⟨t, ht, rfl⟩ := kt_yT (by omega) h5
      refine kw_ild_n x_C_makeDelivery_8 rfl ?_
      refine kw_bip x_C_makeDelivery_9 ?_
      refine c_C_makeDelivery_11 (Nat.le_of_ble_eq_true rfl) ?_
      refine s_K_isBelow ?_
      first | refine kw_if_eq_b x_C_makeDelivery_14 (fun h14 => ?_) (fun h14 => ?_) | refine kw_if_eq_n x_C_makeDelivery_14 (by omega) (fun h14 => ?_) (fun h14 => ?_) | refine kw_if_eq x_C_makeDelivery_14 (fun h14 => ?_) (fun h14 => ?_)
      · first
        | exfalso; omega
        | skip
          refine kw_icon x_C_makeDelivery_28 ?_
          refine kw_iret x_C_makeDelivery_29 ?_
          exact kf (fun h => by first | exact kt_nT (by omega) h5 h.1 | exact kt_nT (by decide) h14 (vRT h.2.1) | exact kt_nP h25 h.2.2)
      · first
        | exfalso; omega
        | skip
          obtain ⟨g, hg1, hg2, rfl⟩ := vTR (kt_yT (by decide) h14)
          refine kw_ild_n x_C_makeDelivery_17 rfl ?_
          refine kw_icon x_C_makeDelivery_18 ?_
          first | refine kw_isub_n x_C_makeDelivery_19 (by omega) ?_ | refine kw_isub x_C_makeDelivery_19 ?_
          refine kw_bip x_C_makeDelivery_20 ?_
          refine c_C_makeDelivery_22 (Nat.le_of_ble_eq_true rfl) ?_
          refine s_K_isBelow ?_
          first | refine kw_if_ne_b x_C_makeDelivery_25 (fun h25 => ?_) (fun h25 => ?_) | refine kw_if_ne_s x_C_makeDelivery_25 ⟨by omega, by omega⟩ (fun h25 => ?_) (fun h25 => ?_) | refine kw_if_ne_n x_C_makeDelivery_25 (by omega) (fun h25 => ?_) (fun h25 => ?_) | refine kw_if_ne x_C_makeDelivery_25 (fun h25 => ?_) (fun h25 => ?_)
          · first
            | exfalso; omega
            | skip
              obtain ⟨p, hp1, hp2, rfl⟩ := kt_yP h25
              refine kw_ald_n x_C_makeDelivery_30 rfl ?_
              refine kw_icon x_C_makeDelivery_31 ?_
              refine kw_ild_n x_C_makeDelivery_32 rfl ?_
              refine kw_ild_n x_C_makeDelivery_33 rfl ?_
              refine kw_ild_n x_C_makeDelivery_34 rfl ?_
              refine c_C_makeDelivery_35 (by exact isC_k hC) (Nat.le_of_ble_eq_true rfl) ?_
              refine s_C_make hC hB hW ht (fun h60 => ?_) (fun hlt I2 J2 hc => ?_)
              · refine kw_iret x_C_makeDelivery_38 ?_
                exact kl ⟨⟨t, ht, rfl⟩, ⟨g, hg1, hg2, rfl⟩, ⟨p, hp1, hp2, rfl⟩⟩ h60
              refine kw_iret x_C_makeDelivery_38 ?_
              exact k t g p rfl rfl rfl ht hg2 hp1 hp2 hlt I2 J2 hc
          · first
            | exfalso; omega
            | skip
              refine kw_icon x_C_makeDelivery_28 ?_
              refine kw_iret x_C_makeDelivery_29 ?_
              exact kf (fun h => by first | exact kt_nT (by omega) h5 h.1 | exact kt_nT (by decide) h14 (vRT h.2.1) | exact kt_nP h25 h.2.2)
theorem s_C_makeOrder (hC : kt_isC P N R lo c) (hB : kt_B c X I J) (hW : kt_wf X) {a b d f : Int32} (kf : ¬ (vT (xT X) a ∧ vR 0 9 b ∧ vR 0 5 d ∧ vR 1 99 f) → Q (some (.int (-1))) I J R) (kl : vT (xT X) a ∧ vR 0 9 b ∧ vR 0 5 d ∧ vR 1 99 f → xn X = 60 → Q (some (.int (-3))) I J R)
    (k : ∀ t q g p, a = nI t → b = nI q → d = nI g → f = nI p → t < xT X → q ≤ 9 → g ≤ 5 → 1 ≤ p → p ≤ 99 → xn X < 60 → ∀ I' J', kt_cg c (xnew X t 1 g p (q + 1) 0) I J I' J' → Q (some (.int (nI (xn X)))) I' J' R) : KW P i_C_makeOrder N 0 [some (.ref c), some (.int a), some (.int b), some (.int d), some (.int f), none] [] N I J R Q := by
  have hn := hW.2.2.1
  have hT5 := hW.2.1
  obtain ⟨hV, b2, b3, b9, b10, b13⟩ := id hB
  refine kw_ald_n x_C_makeOrder_0 rfl ?_
  refine kw_ild_n x_C_makeOrder_1 rfl ?_
  refine c_C_makeOrder_2 (by exact isC_k hC) (Nat.le_of_ble_eq_true rfl) ?_
  refine s_C_isTown hC b2 ?_
  first | refine kw_if_eq_b x_C_makeOrder_5 (fun h5 => ?_) (fun h5 => ?_) | refine kw_if_eq_n x_C_makeOrder_5 (by omega) (fun h5 => ?_) (fun h5 => ?_) | refine kw_if_eq x_C_makeOrder_5 (fun h5 => ?_) (fun h5 => ?_)
  · first
    | exfalso; omega
    | skip
      refine kw_icon x_C_makeOrder_38 ?_
      refine kw_iret x_C_makeOrder_39 ?_
      exact kf (fun h => by first | exact kt_nT (by omega) h5 h.1 | exact kt_nT (by decide) h14 (vRT h.2.1) | exact kt_nT (by decide) h23 (vRT h.2.2.1) | exact kt_nP h35 h.2.2.2)
  · first
    | exfalso; omega
    | skip
      obtain ⟨t, ht, rfl⟩ := kt_yT (by omega) h5
      refine kw_ild_n x_C_makeOrder_8 rfl ?_
      refine kw_bip x_C_makeOrder_9 ?_
      refine c_C_makeOrder_11 (Nat.le_of_ble_eq_true rfl) ?_
      refine s_K_isBelow ?_
      first | refine kw_if_eq_b x_C_makeOrder_14 (fun h14 => ?_) (fun h14 => ?_) | refine kw_if_eq_n x_C_makeOrder_14 (by omega) (fun h14 => ?_) (fun h14 => ?_) | refine kw_if_eq x_C_makeOrder_14 (fun h14 => ?_) (fun h14 => ?_)
      · first
        | exfalso; omega
        | skip
          refine kw_icon x_C_makeOrder_38 ?_
          refine kw_iret x_C_makeOrder_39 ?_
          exact kf (fun h => by first | exact kt_nT (by omega) h5 h.1 | exact kt_nT (by decide) h14 (vRT h.2.1) | exact kt_nT (by decide) h23 (vRT h.2.2.1) | exact kt_nP h35 h.2.2.2)
      · first
        | exfalso; omega
        | skip
          obtain ⟨q, hq1, hq2, rfl⟩ := vTR (kt_yT (by decide) h14)
          refine kw_ild_n x_C_makeOrder_17 rfl ?_
          refine kw_bip x_C_makeOrder_18 ?_
          refine c_C_makeOrder_20 (Nat.le_of_ble_eq_true rfl) ?_
          refine s_K_isBelow ?_
          first | refine kw_if_eq_b x_C_makeOrder_23 (fun h23 => ?_) (fun h23 => ?_) | refine kw_if_eq_n x_C_makeOrder_23 (by omega) (fun h23 => ?_) (fun h23 => ?_) | refine kw_if_eq x_C_makeOrder_23 (fun h23 => ?_) (fun h23 => ?_)
          · first
            | exfalso; omega
            | skip
              refine kw_icon x_C_makeOrder_38 ?_
              refine kw_iret x_C_makeOrder_39 ?_
              exact kf (fun h => by first | exact kt_nT (by omega) h5 h.1 | exact kt_nT (by decide) h14 (vRT h.2.1) | exact kt_nT (by decide) h23 (vRT h.2.2.1) | exact kt_nP h35 h.2.2.2)
          · first
            | exfalso; omega
            | skip
              obtain ⟨g, hg1, hg2, rfl⟩ := vTR (kt_yT (by decide) h23)
              refine kw_ild x_C_makeOrder_26 rfl ?_
              refine kw_icon x_C_makeOrder_28 ?_
              first | refine kw_isub_n x_C_makeOrder_29 (by omega) ?_ | refine kw_isub x_C_makeOrder_29 ?_
              refine kw_bip x_C_makeOrder_30 ?_
              refine c_C_makeOrder_32 (Nat.le_of_ble_eq_true rfl) ?_
              refine s_K_isBelow ?_
              first | refine kw_if_ne_b x_C_makeOrder_35 (fun h35 => ?_) (fun h35 => ?_) | refine kw_if_ne_s x_C_makeOrder_35 ⟨by omega, by omega⟩ (fun h35 => ?_) (fun h35 => ?_) | refine kw_if_ne_n x_C_makeOrder_35 (by omega) (fun h35 => ?_) (fun h35 => ?_) | refine kw_if_ne x_C_makeOrder_35 (fun h35 => ?_) (fun h35 => ?_)
              · first
                | exfalso; omega
                | skip
                  obtain ⟨p, hp1, hp2, rfl⟩ := kt_yP h35
                  refine kw_ald_n x_C_makeOrder_40 rfl ?_
                  refine kw_icon x_C_makeOrder_41 ?_
                  refine kw_ild_n x_C_makeOrder_42 rfl ?_
                  refine kw_ild_n x_C_makeOrder_43 rfl ?_
                  refine kw_ild x_C_makeOrder_44 rfl ?_
                  refine c_C_makeOrder_46 (by exact isC_k hC) (Nat.le_of_ble_eq_true rfl) ?_
                  refine s_C_make hC hB hW ht (fun h60 => ?_) (fun hlt I2 J2 hc => ?_)
                  · refine kw_ist x_C_makeOrder_49 (by decide) ?_
                    refine kw_ild x_C_makeOrder_51 rfl ?_
                    first | refine kw_if_lt_s x_C_makeOrder_53 ⟨by omega, by omega⟩ (fun h53 => ?_) (fun h53 => ?_) | refine kw_if_lt_n x_C_makeOrder_53 (by omega) (fun h53 => ?_) (fun h53 => ?_) | refine kw_if_lt x_C_makeOrder_53 (fun h53 => ?_) (fun h53 => ?_)
                    · skip
                      refine kw_ild x_C_makeOrder_67 rfl ?_
                      refine kw_iret x_C_makeOrder_69 ?_
                      exact kl ⟨⟨t, ht, rfl⟩, ⟨q, hq1, hq2, rfl⟩, ⟨g, hg1, hg2, rfl⟩, ⟨p, hp1, hp2, rfl⟩⟩ h60
                    · exfalso; first | omega | contradiction | exact absurd (by decide) h53 | exact absurd h53 (by decide)
                  refine kw_ist x_C_makeOrder_49 (by decide) ?_
                  refine kw_ild x_C_makeOrder_51 rfl ?_
                  first | refine kw_if_lt_s x_C_makeOrder_53 ⟨by omega, by omega⟩ (fun h53 => ?_) (fun h53 => ?_) | refine kw_if_lt_n x_C_makeOrder_53 (by omega) (fun h53 => ?_) (fun h53 => ?_) | refine kw_if_lt x_C_makeOrder_53 (fun h53 => ?_) (fun h53 => ?_)
                  · first
                    | exfalso; omega
                    | skip
                      refine kw_ild x_C_makeOrder_67 rfl ?_
                      refine kw_iret x_C_makeOrder_69 ?_
                      exact k t q g p rfl rfl rfl rfl ht hq2 hg2 hp1 hp2 hlt _ _ (hc.pe (pe := q + 1) (by simp [kt_cd]))
                  · first
                    | exfalso; omega
                    | skip
                      refine kw_ald_n x_C_makeOrder_56 rfl ?_
                      refine kw_gr x_C_makeOrder_57 (by exact isC_k hC) (by exact isC_r1 hC) ?_
                      refine kw_gr x_C_makeOrder_60 (by exact isE_k hC) (by exact isE_r6 hC) ?_
                      refine kw_ild x_C_makeOrder_63 rfl ?_
                      refine kw_ild_n x_C_makeOrder_65 rfl ?_
                      refine kw_iast_n x_C_makeOrder_66 (by first | exact isC_a5 hC | exact isC_a6 hC | exact isC_a7 hC | exact isC_a8 hC | exact isC_a9 hC | exact isC_a10 hC | exact isC_a11 hC | exact isC_a12 hC | exact isL_a1 hL | exact isL_a2 hL) (by omega) (by omega) ?_
                      refine kw_ild x_C_makeOrder_67 rfl ?_
                      refine kw_iret x_C_makeOrder_69 ?_
                      exact k t q g p rfl rfl rfl rfl ht hq2 hg2 hp1 hp2 hlt _ _ (hc.pe (pe := q + 1) (by simp [kt_cd]))
              · first
                | exfalso; omega
                | skip
                  refine kw_icon x_C_makeOrder_38 ?_
                  refine kw_iret x_C_makeOrder_39 ?_
                  exact kf (fun h => by first | exact kt_nT (by omega) h5 h.1 | exact kt_nT (by decide) h14 (vRT h.2.1) | exact kt_nT (by decide) h23 (vRT h.2.2.1) | exact kt_nP h35 h.2.2.2)
theorem s_E_stand (hC : kt_isC P N R lo c) (hV : kt_V c X I) (hW : kt_wf X) {t : Nat} (k : Q (some (.long (kS (xSt X t)))) I J R) : KW P i_E_standingIn N 0 [some (.ref (c + 4)), some (.long (kS (xK X t))), none] [] N I J R Q := s_E_standingIn hC hV hW k
theorem s_C_makeCancellation (hC : kt_isC P N R lo c) (hB : kt_B c X I J) (hW : kt_wf X) {a b : Int32} (kf : ¬ (vT (xT X) a ∧ vT (xn X) b) → Q (some (.int (-1))) I J R)
    (kp : ∀ t e, a = nI t → b = nI e → t < xT X → e < xn X → ¬ (xe X e 0 = 1 ∧ xk X t e = true ∧ xcn X t e (xn X) = false) → Q (some (.int (-2))) I J R)
    (kl : ∀ t e, a = nI t → b = nI e → t < xT X → e < xn X → (xe X e 0 = 1 ∧ xk X t e = true ∧ xcn X t e (xn X) = false) → xn X = 60 → Q (some (.int (-3))) I J R)
    (k : ∀ t e, a = nI t → b = nI e → t < xT X → e < xn X → (xe X e 0 = 1 ∧ xk X t e = true ∧ xcn X t e (xn X) = false) → xn X < 60 → ∀ I' J', kt_cg c (xnew X t 2 (xe X e 3) (xe X e 4) (xe X e 5) (e + 1)) I J I' J' → Q (some (.int (nI (xn X)))) I' J' R) : KW P i_C_makeCancellation N 0 [some (.ref c), some (.int a), some (.int b), none] [] N I J R Q := by
  have hn := hW.2.2.1
  have hT5 := hW.2.1
  obtain ⟨hV, b2, b3, b9, b10, b13⟩ := id hB
  refine kw_ald_n x_C_makeCancellation_0 rfl ?_
  refine kw_ild_n x_C_makeCancellation_1 rfl ?_
  refine c_C_makeCancellation_2 (by exact isC_k hC) (Nat.le_of_ble_eq_true rfl) ?_
  refine s_C_isTown hC b2 ?_
  first | refine kw_if_eq_b x_C_makeCancellation_5 (fun h5 => ?_) (fun h5 => ?_) | refine kw_if_eq_n x_C_makeCancellation_5 (by omega) (fun h5 => ?_) (fun h5 => ?_) | refine kw_if_eq x_C_makeCancellation_5 (fun h5 => ?_) (fun h5 => ?_)
  · first
    | exfalso; omega
    | skip
      refine kw_icon x_C_makeCancellation_22 ?_
      refine kw_iret x_C_makeCancellation_23 ?_
      exact kf (fun h => by first | exact kt_nT (by omega) h5 h.1 | exact kt_nT (by omega) h19 h.2)
  · first
    | exfalso; omega
    | skip
      obtain ⟨t, ht, rfl⟩ := kt_yT (by omega) h5
      refine kw_ild_n x_C_makeCancellation_8 rfl ?_
      refine kw_ald_n x_C_makeCancellation_9 rfl ?_
      refine kw_gr x_C_makeCancellation_10 (by exact isC_k hC) (by exact isC_r1 hC) ?_
      refine kw_gi_e x_C_makeCancellation_13 (by exact isE_k hC) (by first | exact b2 | exact hV.1 | exact b10 _ (by omega) | exact k3 | exact k4 | exact q7 | exact rfl) ?_
      refine c_C_makeCancellation_16 (Nat.le_of_ble_eq_true rfl) ?_
      refine s_K_isBelow ?_
      first | refine kw_if_ne_b x_C_makeCancellation_19 (fun h19 => ?_) (fun h19 => ?_) | refine kw_if_ne_s x_C_makeCancellation_19 ⟨by omega, by omega⟩ (fun h19 => ?_) (fun h19 => ?_) | refine kw_if_ne_n x_C_makeCancellation_19 (by omega) (fun h19 => ?_) (fun h19 => ?_) | refine kw_if_ne x_C_makeCancellation_19 (fun h19 => ?_) (fun h19 => ?_)
      · first
        | exfalso; omega
        | skip
          obtain ⟨e, he, rfl⟩ := kt_yT (by omega) h19
          have k3 : I (c + 8) e = nI (xe X e 3) := hV.2 e 3 he (by decide)
          have k4 : I (c + 9) e = nI (xe X e 4) := hV.2 e 4 he (by decide)
          refine kw_ald_n x_C_makeCancellation_24 rfl ?_
          refine kw_gr x_C_makeCancellation_25 (by exact isC_k hC) (by exact isC_r1 hC) ?_
          refine kw_ild_n x_C_makeCancellation_28 rfl ?_
          refine c_C_makeCancellation_29 (by exact isE_k hC) (Nat.le_of_ble_eq_true rfl) ?_
          refine s_E_isOrder hC hV hW (fun q => absurd ⟨e, he, rfl⟩ q) (fun e2 hq2 he2 => ?_)
          obtain rfl : e = e2 := (kt_inj hq2 (by omega) (by omega)).symm
          first | refine kw_if_eq_b x_C_makeCancellation_32 (fun h32 => ?_) (fun h32 => ?_) | refine kw_if_eq_n x_C_makeCancellation_32 (by omega) (fun h32 => ?_) (fun h32 => ?_) | refine kw_if_eq x_C_makeCancellation_32 (fun h32 => ?_) (fun h32 => ?_)
          · first
            | exfalso; omega
            | skip
              refine kw_bip x_C_makeCancellation_55 ?_
              refine kw_iret x_C_makeCancellation_57 ?_
              exact kp t e rfl rfl ht he (fun h => by
                first
                  | exact (of_decide_eq_false h32) h.1
                  | (rw [h.2.1, h.2.2] at h52; simp at h52))
          · first
            | exfalso; omega
            | skip
              refine kw_ald_n x_C_makeCancellation_35 rfl ?_
              refine kw_gr x_C_makeCancellation_36 (by exact isC_k hC) (by exact isC_r1 hC) ?_
              refine kw_ald_n x_C_makeCancellation_39 rfl ?_
              refine kw_gr x_C_makeCancellation_40 (by exact isC_k hC) (by exact isC_r5 hC) ?_
              refine kw_ild_n x_C_makeCancellation_43 rfl ?_
              refine kw_lald_n x_C_makeCancellation_44 (by first | exact isC_a13 hC | exact isC_a14 hC | exact isC_a15 hC | exact isC_a16 hC | exact isC_a17 hC) (by omega) (by omega) (by first | exact b2 | exact hV.1 | exact b10 _ (by omega) | exact k3 | exact k4 | exact q7 | exact rfl) ?_
              refine c_C_makeCancellation_45 (by exact isE_k hC) (Nat.le_of_ble_eq_true rfl) ?_
              refine s_E_stand hC hV hW ?_
              refine kw_ild_n x_C_makeCancellation_48 rfl ?_
              refine c_C_makeCancellation_49 (Nat.le_of_ble_eq_true rfl) ?_
              refine s_K_has (by omega) ?_
              rw [xSt_e hW he]
              first | refine kw_if_ne_b x_C_makeCancellation_52 (fun h52 => ?_) (fun h52 => ?_) | refine kw_if_ne_s x_C_makeCancellation_52 ⟨by omega, by omega⟩ (fun h52 => ?_) (fun h52 => ?_) | refine kw_if_ne_n x_C_makeCancellation_52 (by omega) (fun h52 => ?_) (fun h52 => ?_) | refine kw_if_ne x_C_makeCancellation_52 (fun h52 => ?_) (fun h52 => ?_)
              · first
                | exfalso; omega
                | skip
                  refine kw_ald_n x_C_makeCancellation_58 rfl ?_
                  refine kw_icon x_C_makeCancellation_59 ?_
                  refine kw_ild_n x_C_makeCancellation_60 rfl ?_
                  refine kw_ald_n x_C_makeCancellation_61 rfl ?_
                  refine kw_gr x_C_makeCancellation_62 (by exact isC_k hC) (by exact isC_r1 hC) ?_
                  refine kw_gr x_C_makeCancellation_65 (by exact isE_k hC) (by exact isE_r4 hC) ?_
                  refine kw_ild_n x_C_makeCancellation_68 rfl ?_
                  refine kw_iald_n x_C_makeCancellation_69 (by first | exact isC_a5 hC | exact isC_a6 hC | exact isC_a7 hC | exact isC_a8 hC | exact isC_a9 hC | exact isC_a10 hC | exact isC_a11 hC | exact isC_a12 hC | exact isL_a1 hL | exact isL_a2 hL) (by omega) (by omega) (by first | exact b2 | exact hV.1 | exact b10 _ (by omega) | exact k3 | exact k4 | exact q7 | exact rfl) ?_
                  refine kw_ald_n x_C_makeCancellation_70 rfl ?_
                  refine kw_gr x_C_makeCancellation_71 (by exact isC_k hC) (by exact isC_r1 hC) ?_
                  refine kw_gr x_C_makeCancellation_74 (by exact isE_k hC) (by exact isE_r5 hC) ?_
                  refine kw_ild_n x_C_makeCancellation_77 rfl ?_
                  refine kw_iald_n x_C_makeCancellation_78 (by first | exact isC_a5 hC | exact isC_a6 hC | exact isC_a7 hC | exact isC_a8 hC | exact isC_a9 hC | exact isC_a10 hC | exact isC_a11 hC | exact isC_a12 hC | exact isL_a1 hL | exact isL_a2 hL) (by omega) (by omega) (by first | exact b2 | exact hV.1 | exact b10 _ (by omega) | exact k3 | exact k4 | exact q7 | exact rfl) ?_
                  refine c_C_makeCancellation_79 (by exact isC_k hC) (Nat.le_of_ble_eq_true rfl) ?_
                  have hcon : xe X e 0 = 1 ∧ xk X t e = true ∧ xcn X t e (xn X) = false := ⟨of_decide_eq_true h32, by
                    cases h1 : xk X t e with
                    | true => rfl
                    | false => rw [h1] at h52; simp at h52, by
                    cases h1 : xcn X t e (xn X) with
                    | false => rfl
                    | true => rw [h1] at h52; simp at h52⟩
                  refine s_C_make hC hB hW ht (fun h60 => ?_) (fun hlt I2 J2 hc => ?_)
                  · refine kw_ist_n x_C_makeCancellation_82 (by decide) ?_
                    refine kw_ild_n x_C_makeCancellation_83 rfl ?_
                    first | refine kw_if_lt_s x_C_makeCancellation_84 ⟨by omega, by omega⟩ (fun h84 => ?_) (fun h84 => ?_) | refine kw_if_lt_n x_C_makeCancellation_84 (by omega) (fun h84 => ?_) (fun h84 => ?_) | refine kw_if_lt x_C_makeCancellation_84 (fun h84 => ?_) (fun h84 => ?_)
                    · skip
                      refine kw_ild_n x_C_makeCancellation_115 rfl ?_
                      refine kw_iret x_C_makeCancellation_116 ?_
                      exact kl t e rfl rfl ht he hcon h60
                    · exfalso; first | omega | contradiction | exact absurd (by decide) h84 | exact absurd h84 (by decide)
                  have q7 : I2 (c + 10) e = kt_cd 5 (xe X e 5) := (by
                    have h1 := hc.2.2.1.1.2 e 5 (Nat.lt_succ_of_lt he) (by decide)
                    rw [xnew_e, if_neg (by omega)] at h1
                    exact h1)
                  refine kw_ist_n x_C_makeCancellation_82 (by decide) ?_
                  refine kw_ild_n x_C_makeCancellation_83 rfl ?_
                  first | refine kw_if_lt_s x_C_makeCancellation_84 ⟨by omega, by omega⟩ (fun h84 => ?_) (fun h84 => ?_) | refine kw_if_lt_n x_C_makeCancellation_84 (by omega) (fun h84 => ?_) (fun h84 => ?_) | refine kw_if_lt x_C_makeCancellation_84 (fun h84 => ?_) (fun h84 => ?_)
                  · first
                    | exfalso; omega
                    | skip
                      refine kw_ild_n x_C_makeCancellation_115 rfl ?_
                      refine kw_iret x_C_makeCancellation_116 ?_
                      exact k t e rfl rfl ht he hcon hlt _ _ ((hc.pe (pe := xe X e 5) rfl).wh (wh := e + 1) (by simp [kt_cd]))
                  · first
                    | exfalso; omega
                    | skip
                      refine kw_ald_n x_C_makeCancellation_87 rfl ?_
                      refine kw_gr x_C_makeCancellation_88 (by exact isC_k hC) (by exact isC_r1 hC) ?_
                      refine kw_gr x_C_makeCancellation_91 (by exact isE_k hC) (by exact isE_r6 hC) ?_
                      refine kw_ild_n x_C_makeCancellation_94 rfl ?_
                      refine kw_ald_n x_C_makeCancellation_95 rfl ?_
                      refine kw_gr x_C_makeCancellation_96 (by exact isC_k hC) (by exact isC_r1 hC) ?_
                      refine kw_gr x_C_makeCancellation_99 (by exact isE_k hC) (by exact isE_r6 hC) ?_
                      refine kw_ild_n x_C_makeCancellation_102 rfl ?_
                      refine kw_iald_n x_C_makeCancellation_103 (by first | exact isC_a5 hC | exact isC_a6 hC | exact isC_a7 hC | exact isC_a8 hC | exact isC_a9 hC | exact isC_a10 hC | exact isC_a11 hC | exact isC_a12 hC | exact isL_a1 hL | exact isL_a2 hL) (by omega) (by omega) (by first | exact b2 | exact hV.1 | exact b10 _ (by omega) | exact k3 | exact k4 | exact q7 | exact rfl) ?_
                      refine kw_iast_n x_C_makeCancellation_104 (by first | exact isC_a5 hC | exact isC_a6 hC | exact isC_a7 hC | exact isC_a8 hC | exact isC_a9 hC | exact isC_a10 hC | exact isC_a11 hC | exact isC_a12 hC | exact isL_a1 hL | exact isL_a2 hL) (by omega) (by omega) ?_
                      refine kw_ald_n x_C_makeCancellation_105 rfl ?_
                      refine kw_gr x_C_makeCancellation_106 (by exact isC_k hC) (by exact isC_r1 hC) ?_
                      refine kw_gr x_C_makeCancellation_109 (by exact isE_k hC) (by exact isE_r7 hC) ?_
                      refine kw_ild_n x_C_makeCancellation_112 rfl ?_
                      refine kw_ild_n x_C_makeCancellation_113 rfl ?_
                      refine kw_iast_n x_C_makeCancellation_114 (by first | exact isC_a5 hC | exact isC_a6 hC | exact isC_a7 hC | exact isC_a8 hC | exact isC_a9 hC | exact isC_a10 hC | exact isC_a11 hC | exact isC_a12 hC | exact isL_a1 hL | exact isL_a2 hL) (by omega) (by omega) ?_
                      refine kw_ild_n x_C_makeCancellation_115 rfl ?_
                      refine kw_iret x_C_makeCancellation_116 ?_
                      exact k t e rfl rfl ht he hcon hlt _ _ ((hc.pe (pe := xe X e 5) rfl).wh (wh := e + 1) (by simp [kt_cd]))
              · first
                | exfalso; omega
                | skip
                  refine kw_bip x_C_makeCancellation_55 ?_
                  refine kw_iret x_C_makeCancellation_57 ?_
                  exact kp t e rfl rfl ht he (fun h => by
                    first
                      | exact (of_decide_eq_false h32) h.1
                      | (rw [h.2.1, h.2.2] at h52; simp at h52))
      · first
        | exfalso; omega
        | skip
          refine kw_icon x_C_makeCancellation_22 ?_
          refine kw_iret x_C_makeCancellation_23 ?_
          exact kf (fun h => by first | exact kt_nT (by omega) h5 h.1 | exact kt_nT (by omega) h19 h.2)
theorem s_C_setRule (hC : kt_isC P N R lo c) (hB : kt_B c X I J) (hW : kt_wf X) {a : Int32} (kf : ¬ vR 0 2 a → Q (some (.int (-1))) I J R)
    (k : ∀ r, a = nI r → r ≤ 2 → ∀ I', kt_cg c (xrul X r) I J I' J → Q (some (.int (nI (xr X)))) I' J R) : KW P i_C_setRule N 0 [some (.ref c), some (.int a), none] [] N I J R Q := by
  have hn := hW.2.2.1
  have hT5 := hW.2.1
  obtain ⟨hV, b2, b3, b9, b10, b13⟩ := id hB
  refine kw_ild_n x_C_setRule_0 rfl ?_
  refine kw_icon x_C_setRule_1 ?_
  refine c_C_setRule_2 (Nat.le_of_ble_eq_true rfl) ?_
  refine s_K_isBelow (b := 3) ?_
  first | refine kw_if_ne_b x_C_setRule_5 (fun h5 => ?_) (fun h5 => ?_) | refine kw_if_ne_s x_C_setRule_5 ⟨by omega, by omega⟩ (fun h5 => ?_) (fun h5 => ?_) | refine kw_if_ne_n x_C_setRule_5 (by omega) (fun h5 => ?_) (fun h5 => ?_) | refine kw_if_ne x_C_setRule_5 (fun h5 => ?_) (fun h5 => ?_)
  · first
    | exfalso; omega
    | skip
      obtain ⟨r, hr1, hr2, rfl⟩ := vTR (kt_yT (by decide) h5)
      refine kw_ald_n x_C_setRule_10 rfl ?_
      refine kw_gi_e x_C_setRule_11 (by exact isC_k hC) (by first | exact b3 | exact rfl) ?_
      refine kw_ist_n x_C_setRule_14 (by decide) ?_
      refine kw_ald_n x_C_setRule_15 rfl ?_
      refine kw_ild_n x_C_setRule_16 rfl ?_
      refine kw_pi x_C_setRule_17 (by exact isC_k hC) ?_
      refine kw_ild_n x_C_setRule_20 rfl ?_
      refine kw_iret x_C_setRule_21 ?_
      exact k r rfl hr2 _ ⟨fun a ha => kt_u1_ne _ _ _ (by omega), kt_fd.rf, ⟨⟨kt_u1_na (by omega) hV.1, fun e f he hf => kt_u1_na (by omega) (hV.2 e f he hf)⟩, kt_u1_nj (by decide) b2, kt_u1_eq, fun t ht => kt_u1_na (by omega) (b9 t ht), b10, b13⟩, kt_u1_nj (by decide) rfl, rfl, rfl, rfl⟩
  · first
    | exfalso; omega
    | skip
      refine kw_icon x_C_setRule_8 ?_
      refine kw_iret x_C_setRule_9 ?_
      exact kf (fun h => kt_nT (by decide) h5 (vRT h))
end CG
