/-! the class: looking at all goods -/
theorem xcn_ord {X : kt_X} (hW : kt_wf X) {t o : Nat} : ∀ e, e ≤ xn X → xcn X t o e = true → xe X o 0 = 1
  | 0, _, h => by cases h
  | e + 1, he, h => by
    have h1 : (xcn X t o e || (decide (o < e) && decide (xe X e 0 = 2) && decide (xe X e 6 = o + 1) && xk X t e)) = true := h
    cases h2 : xcn X t o e with
    | true => exact xcn_ord hW e (by omega) h2
    | false =>
      rw [h2] at h1
      simp only [Bool.false_or, Bool.and_eq_true, decide_eq_true_eq] at h1
      have h3 := ((hW.2.2.2.2.2.1 e (by omega)).2.2.2.2.2.2.1.2 h1.1.1.2).2.2.1
      rw [h1.1.2] at h3
      exact h3
theorem xsp_c (X : kt_X) (s : kt_σ) (p : Nat) : (xsp X s p).2.2.2.1 = s.2.2.2.1 + 1 := by unfold xsp; split <;> rfl
theorem xsp_r (X : kt_X) (s : kt_σ) (p : Nat) : (xsp X s p).2.2.2.2 = xup s.2.2.2.2 s.2.2.2.1 p := by unfold xsp; split <;> rfl
theorem xsp_st (X : kt_X) (s : kt_σ) (p : Nat) : (xsp X s p).2.2.1 = xup s.2.2.1 p (if xe X p 4 ≤ s.1 then 0 else 1) := by unfold xsp; split <;> rfl
theorem xlk_c {X : kt_X} {t g : Nat} : ∀ (k : Nat) (s : kt_σ) (e : Nat), (xlk X t g k s).2.2.1 e = s.2.2.1 e ∨ (s.2.2.1 e = 3 ∧ (xlk X t g k s).2.2.1 e ≤ 1 ∧ xe X e 3 = g ∧ e < xn X)
  | 0, s, e => Or.inl rfl
  | k + 1, s, e => by
    unfold xlk
    cases hp : xpk X t g s.2.1 s.2.2.1 (xn X) with
    | none => exact Or.inl rfl
    | some p =>
      have hpp := xpk_some hp
      have ho := hpp.2
      unfold xop at ho
      simp only [Bool.and_eq_true, decide_eq_true_eq] at ho
      have h := xlk_c (X := X) (t := t) (g := g) k (xsp X s p) e
      by_cases hep : e = p
      · subst hep
        have h1 : (xsp X s e).2.2.1 e ≤ 1 := by rw [xsp_st, xup_eq]; split <;> omega
        rcases h with h | h
        · exact Or.inr ⟨ho.1.1.1, by rw [h]; exact h1, ho.1.2, hpp.1⟩
        · omega
      · have h1 : (xsp X s p).2.2.1 e = s.2.2.1 e := by rw [xsp_st, xup_ne _ _ hep]
        rw [h1] at h
        exact h
theorem xga_g {X : kt_X} {t e : Nat} : ∀ g, g ≤ xe X e 3 → xga X t g e = xs0 X t e
  | 0, _ => rfl
  | g + 1, h => by
    have h1 := xga_g (X := X) (t := t) (e := e) g (by omega)
    have h2 := xlk_c (X := X) (t := t) (g := g) 60 (xstk X t g (xn X), fun _ => 0, xga X t g, 0, fun _ => 0) e
    rcases h2 with h2 | h2
    · show (xlk X t g 60 (xstk X t g (xn X), fun _ => 0, xga X t g, 0, fun _ => 0)).2.2.1 e = _
      rw [h2]
      exact h1
    · omega
theorem xga_lt {X : kt_X} {t e : Nat} : ∀ g, xga X t g e ≤ 1 → e < xn X
  | 0, h => by
    have h1 : xs0 X t e ≤ 1 := h
    unfold xs0 at h1
    split at h1 <;> omega
  | g + 1, h => by
    have h2 := xlk_c (X := X) (t := t) (g := g) 60 (xstk X t g (xn X), fun _ => 0, xga X t g, 0, fun _ => 0) e
    have h3 : (xlk X t g 60 (xstk X t g (xn X), fun _ => 0, xga X t g, 0, fun _ => 0)).2.2.1 e ≤ 1 := h
    rcases h2 with h2 | h2
    · rw [h2] at h3
      exact xga_lt g h3
    · exact h2.2.2.2
theorem xga_s {X : kt_X} {t e v : Nat} (hv : v < 2) (g : Nat) : (decide (xga X t g e = v) || (decide (xga X t g e = 3) && decide (xga X t (g + 1) e = v))) = decide (xga X t (g + 1) e = v) := by
  have h2 : xga X t (g + 1) e = xga X t g e ∨ (xga X t g e = 3 ∧ xga X t (g + 1) e ≤ 1 ∧ xe X e 3 = g ∧ e < xn X) := xlk_c (X := X) (t := t) (g := g) 60 (xstk X t g (xn X), fun _ => 0, xga X t g, 0, fun _ => 0) e
  rcases h2 with h2 | ⟨h2, h3, -⟩
  · rw [h2]
    cases decide (xga X t g e = v) <;> simp
  · rw [h2, decide_eq_false (show ¬ 3 = v by omega)]
    simp
theorem xrow_cg {f f' : Nat → Bool} {n a b : Nat} {r : Nat → Nat} (h : ∀ e, e < n → f e = f' e) (hr : xrow f n a b r) : xrow f' n a b r :=
  ⟨fun j h1 h2 => ⟨(hr.1 j h1 h2).1, by rw [← h _ (hr.1 j h1 h2).1]; exact (hr.1 j h1 h2).2⟩, fun e he hf => hr.2.1 e he (by rw [h e he]; exact hf), hr.2.2⟩
/-- what of the known stands -/
def xSt (X : kt_X) (t e : Nat) : Bool := xK X t e && !xcs X (xK X t) e (xn X)
theorem xSt_e {X : kt_X} (hW : kt_wf X) {t e : Nat} (he : e < xn X) : xSt X t e = (xk X t e && !xcn X t e (xn X)) := by
  unfold xSt
  rw [show xK X t = (fun e => decide (e < xn X) && xk X t e) from rfl, xcs_cn hW e (xn X) (Nat.le_refl _)]
  simp [he]
theorem xgf_o {X : kt_X} (hW : kt_wf X) {t g : Nat} {st : Nat → Nat} (hst : ∀ e, e < xn X → xe X e 3 = g → st e = xs0 X t e) {e : Nat} (he : e < xn X) : xgf X (xSt X t) g e = xop X t g st e := by
  unfold xgf xop
  rw [xSt_e hW he]
  by_cases h3 : xe X e 3 = g
  · rw [hst e he h3]
    unfold xs0
    by_cases h0 : xe X e 0 = 1
    · cases hk : xk X t e
      · simp
      · cases hc : xcn X t e (xn X) <;> simp [h0, h3]
    · simp [h0]
  · simp [h3]
theorem xgd_o {X : kt_X} (hW : kt_wf X) {t g : Nat} : ∀ e, e ≤ xn X → xsm (xgd X (xSt X t) g) e = xstk X t g e
  | 0, _ => rfl
  | e + 1, he => by
    show xsm (xgd X (xSt X t) g) e + xgd X (xSt X t) g e = xstk X t g e + _
    rw [xgd_o hW e (by omega)]
    congr 1
    unfold xgd
    rw [xSt_e hW (by omega)]
    by_cases h0 : xe X e 0 = 0
    · have hc : xcn X t e (xn X) = false := by
        cases hq : xcn X t e (xn X) with
        | false => rfl
        | true => have := xcn_ord hW (xn X) (Nat.le_refl _) hq; omega
      rw [hc]
      by_cases h3 : xe X e 3 = g
      · cases hk : xk X t e <;> simp [h0, h3]
      · simp [h3]
    · simp [h0]
def kt_f3 {α : Type} (lo : Nat) (M M' : Nat → Nat → α) : Prop := ∀ a, (a < lo ∨ lo + 2 < a) → M' a = M a
theorem kt_f3.rf {α : Type} {lo : Nat} {M : Nat → Nat → α} : kt_f3 lo M M := fun _ _ => rfl
theorem kt_f3.tr {α : Type} {lo : Nat} {M M' M'' : Nat → Nat → α} (h : kt_f3 lo M M') (h' : kt_f3 lo M' M'') : kt_f3 lo M M'' := fun a ha => (h' a ha).trans (h a ha)
theorem kt_or_0 (x : Int64) : x ||| kS (fun _ => false) = x := by
  rw [← kS_0, show nJ 0 = 0 from rfl]
  exact Int64.or_zero
section CL
variable {P : kt_P} {N : Nat} {I : kt_I} {J : kt_J} {R : kt_R} {Q : Option Value → kt_I → kt_J → kt_R → Prop} {lo c : Nat} {X : kt_X}
theorem s_L_decide2 (hL : kt_isL P N R lo) {s : kt_σ} {p : Nat} (he : p < 60) (hp5 : 1 ≤ xe X p 5 ∧ xe X p 5 ≤ 10) (hle : s.1 < 1000000) (hpi : xe X p 4 < 1000000) (h2 : I lo 2 = nI s.1) (hG : ∀ p, p < 10 → I (lo + 2) p = nI (s.2.1 p))
    (k : ∀ I' J', (∀ a, a ≠ lo → a ≠ lo + 2 → I' a = I a) → (∀ j, j ≠ 2 → I' lo j = I lo j) → (∀ a, a ≠ lo → J' a = J a) → I' lo 2 = nI (xsp X s p).1 → (∀ q, q < 10 → I' (lo + 2) q = nI ((xsp X s p).2.1 q)) → J' lo 4 = (J lo 4 ||| kS (fun j => decide (j = p) && decide (xe X p 4 ≤ s.1))) → J' lo 5 = (J lo 5 ||| kS (fun j => decide (j = p) && decide (s.1 < xe X p 4))) → Q none I' J' R) :
    KW P i_L_decide N 0 [some (.ref lo), some (.int (nI p)), some (.int (nI (xe X p 4))), some (.int (nI (xe X p 5 - 1)))] [] N I J R Q := by
  refine s_L_decide hL he (by omega) hle hpi h2 hG (fun hlt => ?_) (fun hlt => ?_)
  · have hs : xsp X s p = (s.1, s.2.1, xup s.2.2.1 p 1, s.2.2.2.1 + 1, xup s.2.2.2.2 s.2.2.2.1 p) := by unfold xsp; rw [if_neg (by omega)]
    rw [hs] at k
    refine k _ _ (fun _ _ _ => rfl) (fun _ _ => rfl) (fun a ha => kt_uL_ne _ _ _ ha) h2 hG ?_ ?_
    · rw [show (fun j => decide (j = p) && decide (xe X p 4 ≤ s.1)) = fun _ => false from by funext j; rw [decide_eq_false (show ¬ xe X p 4 ≤ s.1 by omega)]; exact Bool.and_false _, kt_or_0]
      simp [kt_uL]
    · rw [show (fun j => decide (j = p) && decide (s.1 < xe X p 4)) = fun j => decide (j = p) from by funext j; rw [decide_eq_true hlt]; exact Bool.and_true _]
      simp [kt_uL]
  · have hs : xsp X s p = (s.1 - xe X p 4, xup s.2.1 (xe X p 5 - 1) (s.2.1 (xe X p 5 - 1) + xe X p 4), xup s.2.2.1 p 0, s.2.2.2.1 + 1, xup s.2.2.2.2 s.2.2.2.1 p) := by unfold xsp; rw [if_pos hlt]
    rw [hs] at k
    refine k _ _ (fun a h1 h2 => by rw [kt_u1_ne _ _ _ h2, kt_u1_ne _ _ _ h1]) (fun j hj => kt_u1_na (by omega) (kt_u1_nj hj rfl)) (fun a ha => kt_uL_ne _ _ _ ha) (kt_u1_na (by omega) kt_u1_eq) (fun q hq => ?_) ?_ ?_
    · by_cases hqp : q = xe X p 5 - 1
      · simp only [hqp, xup_eq]; exact kt_u1_eq
      · simp only [xup_ne _ _ hqp]
        exact kt_u1_nj hqp (kt_u1_na (by omega) (hG q hq))
    · rw [show (fun j => decide (j = p) && decide (xe X p 4 ≤ s.1)) = fun j => decide (j = p) from by funext j; rw [decide_eq_true hlt]; exact Bool.and_true _]
      simp [kt_uL]
    · rw [show (fun j => decide (j = p) && decide (s.1 < xe X p 4)) = fun _ => false from by funext j; rw [decide_eq_false (show ¬ s.1 < xe X p 4 by omega)]; exact Bool.and_false _, kt_or_0]
      simp [kt_uL]
theorem s_L_lag_lp (hC : kt_isC P N R lo c) (hL : kt_isL P N R lo) (hV : kt_V c X I) (hW : kt_wf X) (hlc : lo = c + 1) {t g : Nat} {st : Nat → Nat} {x y : Int64} {len : Nat} (hlen : len ≤ 60) {sf : kt_σ} {S : Int64}
    (k : ∀ I' J', kt_f3 lo I I' → kt_f3 lo J J' → I' lo 1 = nI sf.2.2.2.1 → (∀ j, j < sf.2.2.2.1 → I' (lo + 1) j = nI (sf.2.2.2.2 j)) → J' lo 4 = (x ||| kS (fun e => decide (st e = 3) && decide (sf.2.2.1 e = 0))) → J' lo 5 = (y ||| kS (fun e => decide (st e = 3) && decide (sf.2.2.1 e = 1))) → Q none I' J' R) :
    ∀ (d : Nat) (s : kt_σ) (I1 : kt_I) (J1 : kt_J) (r : Nat → Nat) (kk : Nat) (v7 v8 : Option Value), s.2.2.2.1 + d = len → d ≤ kk → kt_lw X t g s → xlk X t g kk s = sf → kt_f3 lo I I1 → kt_f3 lo J J1 → I1 lo 1 = nI len → I1 lo 2 = nI s.1 → (∀ p, p < 10 → I1 (lo + 2) p = nI (s.2.1 p)) → (∀ j, j < len → I1 (lo + 1) j = nI (r j)) →
      xrow (xop X t g s.2.2.1) (xn X) s.2.2.2.1 len r → (∀ j, j < s.2.2.2.1 → r j = s.2.2.2.2 j) → (∀ e, s.2.2.1 e = 3 → st e = 3) → J1 lo 4 = (x ||| kS (fun e => decide (st e = 3) && decide (s.2.2.1 e = 0))) → J1 lo 5 = (y ||| kS (fun e => decide (st e = 3) && decide (s.2.2.1 e = 1))) →
      KW P i_L_lookAtGood N 19 [some (.ref lo), some (.ref (c + 4)), some (.long S), none, some (.int (nI (xr X))), some (.int (nI g)), some (.int (nI s.2.2.2.1)), v7, v8] [] N I1 J1 R Q := by
  have hn := hW.2.2.1
  intro d
  induction d with
  | zero =>
    intro s I1 J1 r kk v7 v8 h1 h2 hlw hxl hf hfJ m1 m2 m3 m4 hrow hr0 hst mJ mK
    have hp : xpk X t g s.2.1 s.2.2.1 (xn X) = none := by
      cases hq : xpk X t g s.2.1 s.2.2.1 (xn X) with
      | none => rfl
      | some p =>
        have hpp := xpk_some hq
        obtain ⟨j, g1, g2, -⟩ := hrow.2.1 p hpp.1 hpp.2
        omega
    have hsf : xlk X t g kk s = s := by
      cases kk with
      | zero => rfl
      | succ kk => simp only [xlk, hp]
    rw [hsf] at hxl
    subst hxl
    have hl2 : s.2.2.2.1 = len := by omega
    refine kw_ild x_L_lookAtGood_19 rfl ?_
    refine kw_ald_n x_L_lookAtGood_21 rfl ?_
    refine kw_gi_e x_L_lookAtGood_22 (by exact isL_k hL) (by first | exact m1 | exact rfl) ?_
    first | refine kw_ic_ge_n x_L_lookAtGood_25 ⟨by omega, by omega⟩ (fun h25 => ?_) (fun h25 => ?_) | refine kw_ic_ge x_L_lookAtGood_25 (fun h25 => ?_) (fun h25 => ?_)
    · first
      | exfalso; omega
      | skip
        refine kw_vret x_L_lookAtGood_97 ?_
        exact k I1 J1 hf hfJ (by rw [hl2]; exact m1) (fun j hj => by rw [m4 j (by omega), hr0 j hj]) mJ mK
    · first
      | exfalso; omega
      | skip
        skip
  | succ d ih =>
    intro s I1 J1 r kk v7 v8 h1 h2 hlw hxl hf hfJ m1 m2 m3 m4 hrow hr0 hst mJ mK
    have hV1 : kt_V c X I1 := hV.ext (fun a g1 g2 => hf a (by omega))
    have hopn : ∀ j, s.2.2.2.1 ≤ j → j < len → r j < xn X ∧ xe X (r j) 0 = 1 := by
      intro j g1 g2
      have g3 := hrow.1 j g1 g2
      have g4 := g3.2
      unfold xop at g4
      simp only [Bool.and_eq_true, decide_eq_true_eq] at g4
      exact ⟨g3.1, g4.1.1.2⟩
    have hG2 : ∀ p, p < 10 → s.2.1 p < 10000 := fun p _ => by have := hlw.2.1 p; omega
    refine kw_ild x_L_lookAtGood_19 rfl ?_
    refine kw_ald_n x_L_lookAtGood_21 rfl ?_
    refine kw_gi_e x_L_lookAtGood_22 (by exact isL_k hL) (by first | exact m1 | exact m4 _ (by omega) | exact kt_u1_na (by omega) (kt_u1_na (by omega) hk4) | exact kt_u1_na (by omega) (kt_u1_na (by omega) hk5) | exact rfl) ?_
    first | refine kw_ic_ge_n x_L_lookAtGood_25 ⟨by omega, by omega⟩ (fun h25 => ?_) (fun h25 => ?_) | refine kw_ic_ge x_L_lookAtGood_25 (fun h25 => ?_) (fun h25 => ?_)
    · first
      | exfalso; omega
      | skip
        skip
    · first
      | exfalso; omega
      | skip
        refine kw_ald_n x_L_lookAtGood_28 rfl ?_
        refine kw_ald_n x_L_lookAtGood_29 rfl ?_
        refine kw_ild x_L_lookAtGood_30 rfl ?_
        refine kw_ild x_L_lookAtGood_32 rfl ?_
        refine c_L_lookAtGood_34 (by exact isL_k hL) (Nat.le_of_ble_eq_true rfl) ?_
        refine s_L_nextPlace hC hL hV1 hW m3 hG2 (a := s.2.2.2.1) (b := len) (by omega) hlen m1 m4 hopn (fun q q1 q2 q3 => ?_)
        have hpq := hrow.1 q q1 q2
        have ho1 := hopn q q1 q2
        have hpk : xpk X t g s.2.1 s.2.2.1 (xn X) = some (r q) := by
          cases hq : xpk X t g s.2.1 s.2.2.1 (xn X) with
          | none => have := xpk_none hq _ hpq.1; rw [hpq.2] at this; cases this
          | some p' =>
            have hpp := xpk_some hq
            have hlow := xpk_low hq _ hpq.1 hpq.2
            obtain ⟨j, g1, g2, g3⟩ := hrow.2.1 p' hpp.1 hpp.2
            have := q3 j g1 g2
            rw [g3] at this
            rw [xky_inj hW hpp.1 hpq.1 (Nat.le_antisymm hlow this)]
        have hx := hW.2.2.2.2.2.1 (r q) ho1.1
        have hx4 := hx.2.2.2.2.1
        have hx5 : 1 ≤ xe X (r q) 5 ∧ xe X (r q) 5 ≤ 10 := ⟨hx.2.2.2.2.2.1.2.1 (by omega), hx.2.2.2.2.2.1.2.2⟩
        have hk4 : I1 (c + 9) (r q) = nI (xe X (r q) 4) := hV1.2 _ 4 ho1.1 (by decide)
        have hk5 : I1 (c + 10) (r q) = nI (xe X (r q) 5 - 1) := by
          have h5 := hV1.2 _ 5 ho1.1 (by decide)
          unfold kt_cd at h5
          rw [if_pos (Or.inl rfl), if_neg (by omega)] at h5
          exact h5
        have hs3 : s.2.2.1 (r q) = 3 := by
          have g4 := hpq.2
          unfold xop at g4
          simp only [Bool.and_eq_true, decide_eq_true_eq] at g4
          exact g4.1.1.1
        have hs1 := hlw.2.1 0
        refine kw_ist x_L_lookAtGood_37 (by decide) ?_
        refine kw_ald_n x_L_lookAtGood_39 rfl ?_
        refine kw_gr x_L_lookAtGood_40 (by exact isL_k hL) (by exact isL_r0 hL) ?_
        refine kw_ild x_L_lookAtGood_43 rfl ?_
        refine kw_iald_n x_L_lookAtGood_45 (by first | exact isC_a5 hC | exact isC_a6 hC | exact isC_a7 hC | exact isC_a8 hC | exact isC_a9 hC | exact isC_a10 hC | exact isC_a11 hC | exact isC_a12 hC | exact isL_a1 hL | exact isL_a2 hL) (by omega) (by omega) (by first | exact m1 | exact m4 _ (by omega) | exact kt_u1_na (by omega) (kt_u1_na (by omega) hk4) | exact kt_u1_na (by omega) (kt_u1_na (by omega) hk5) | exact rfl) ?_
        refine kw_ist x_L_lookAtGood_46 (by decide) ?_
        refine kw_ald_n x_L_lookAtGood_48 rfl ?_
        refine kw_gr x_L_lookAtGood_49 (by exact isL_k hL) (by exact isL_r0 hL) ?_
        refine kw_ild x_L_lookAtGood_52 rfl ?_
        refine kw_ald_n x_L_lookAtGood_54 rfl ?_
        refine kw_gr x_L_lookAtGood_55 (by exact isL_k hL) (by exact isL_r0 hL) ?_
        refine kw_ild x_L_lookAtGood_58 rfl ?_
        refine kw_iald_n x_L_lookAtGood_60 (by first | exact isC_a5 hC | exact isC_a6 hC | exact isC_a7 hC | exact isC_a8 hC | exact isC_a9 hC | exact isC_a10 hC | exact isC_a11 hC | exact isC_a12 hC | exact isL_a1 hL | exact isL_a2 hL) (by omega) (by omega) (by first | exact m1 | exact m4 _ (by omega) | exact kt_u1_na (by omega) (kt_u1_na (by omega) hk4) | exact kt_u1_na (by omega) (kt_u1_na (by omega) hk5) | exact rfl) ?_
        refine kw_iast_n x_L_lookAtGood_61 (by first | exact isC_a5 hC | exact isC_a6 hC | exact isC_a7 hC | exact isC_a8 hC | exact isC_a9 hC | exact isC_a10 hC | exact isC_a11 hC | exact isC_a12 hC | exact isL_a1 hL | exact isL_a2 hL) (by omega) (by omega) ?_
        refine kw_ald_n x_L_lookAtGood_62 rfl ?_
        refine kw_gr x_L_lookAtGood_63 (by exact isL_k hL) (by exact isL_r0 hL) ?_
        refine kw_ild x_L_lookAtGood_66 rfl ?_
        refine kw_ild x_L_lookAtGood_68 rfl ?_
        refine kw_iast_n x_L_lookAtGood_70 (by first | exact isC_a5 hC | exact isC_a6 hC | exact isC_a7 hC | exact isC_a8 hC | exact isC_a9 hC | exact isC_a10 hC | exact isC_a11 hC | exact isC_a12 hC | exact isL_a1 hL | exact isL_a2 hL) (by omega) (by omega) ?_
        refine kw_ald_n x_L_lookAtGood_71 rfl ?_
        refine kw_ild x_L_lookAtGood_72 rfl ?_
        refine kw_ald_n x_L_lookAtGood_74 rfl ?_
        refine kw_gr x_L_lookAtGood_75 (by exact isE_k hC) (by exact isE_r5 hC) ?_
        refine kw_ild x_L_lookAtGood_78 rfl ?_
        refine kw_iald_n x_L_lookAtGood_80 (by first | exact isC_a5 hC | exact isC_a6 hC | exact isC_a7 hC | exact isC_a8 hC | exact isC_a9 hC | exact isC_a10 hC | exact isC_a11 hC | exact isC_a12 hC | exact isL_a1 hL | exact isL_a2 hL) (by omega) (by omega) (by first | exact m1 | exact m4 _ (by omega) | exact kt_u1_na (by omega) (kt_u1_na (by omega) hk4) | exact kt_u1_na (by omega) (kt_u1_na (by omega) hk5) | exact rfl) ?_
        refine kw_ald_n x_L_lookAtGood_81 rfl ?_
        refine kw_gr x_L_lookAtGood_82 (by exact isE_k hC) (by exact isE_r6 hC) ?_
        refine kw_ild x_L_lookAtGood_85 rfl ?_
        refine kw_iald_n x_L_lookAtGood_87 (by first | exact isC_a5 hC | exact isC_a6 hC | exact isC_a7 hC | exact isC_a8 hC | exact isC_a9 hC | exact isC_a10 hC | exact isC_a11 hC | exact isC_a12 hC | exact isL_a1 hL | exact isL_a2 hL) (by omega) (by omega) (by first | exact m1 | exact m4 _ (by omega) | exact kt_u1_na (by omega) (kt_u1_na (by omega) hk4) | exact kt_u1_na (by omega) (kt_u1_na (by omega) hk5) | exact rfl) ?_
        refine c_L_lookAtGood_88 (by exact isL_k hL) (Nat.le_of_ble_eq_true rfl) ?_
        refine s_L_decide2 (X := X) hL (s := s) (p := r q) (by omega) hx5 (by omega) (by omega) (kt_u1_na (by omega) (kt_u1_na (by omega) m2)) (fun p hp => kt_u1_na (by omega) (kt_u1_na (by omega) (m3 p hp))) (fun I3 J3 f1 f2 f3 f4 f5 f6 f7 => ?_)
        first | refine kw_iinc_n x_L_lookAtGood_91 (by decide) rfl ?_ | refine kw_iinc x_L_lookAtGood_91 (by decide) rfl ?_
        refine kw_goto x_L_lookAtGood_94 ?_
        obtain ⟨kq, rfl⟩ : ∃ kq, kk = kq + 1 := ⟨kk - 1, by omega⟩
        have hxl2 : xlk X t g kq (xsp X s (r q)) = sf := by rw [← hxl]; simp only [xlk, hpk]
        have hih := ih (xsp X s (r q)) I3 J3 (xsw r s.2.2.2.1 q) kq (some (.int (nI q))) (some (.int (nI (r q)))) (by rw [xsp_c]; omega) (by omega) (xsp_lw hlw hpk) hxl2
        rw [xsp_c] at hih
        refine hih (fun a ha => ?_) (fun a ha => ?_) ?_ f4 f5 (fun j hj => ?_) ?_ (fun j hj => ?_) (fun e he => ?_) ?_ ?_
        · rw [f1 a (by omega) (by omega), kt_u1_ne _ _ _ (by omega), kt_u1_ne _ _ _ (by omega)]
          exact hf a ha
        · rw [f3 a (by omega)]
          exact hfJ a ha
        · rw [f2 1 (by decide)]
          exact kt_u1_na (by omega) (kt_u1_na (by omega) m1)
        · rw [f1 (lo + 1) (by omega) (by omega)]
          unfold xsw
          by_cases hja : j = s.2.2.2.1
          · subst hja; rw [xup_eq]; exact kt_u1_eq
          · rw [xup_ne _ _ hja]
            refine kt_u1_nj hja ?_
            by_cases hjq : j = q
            · subst hjq; rw [xup_eq]; exact kt_u1_eq
            · rw [xup_ne _ _ hjq]
              exact kt_u1_nj hjq (m4 j hj)
        · refine xrow_take hrow q1 q2 ?_ (fun e he => ?_)
          · unfold xop
            rw [xsp_st, xup_eq]
            have : ¬ (if xe X (r q) 4 ≤ s.1 then 0 else 1) = 3 := by split <;> omega
            rw [decide_eq_false this]
            rfl
          · unfold xop
            rw [xsp_st, xup_ne _ _ he]
        · rw [xsp_r]
          unfold xsw
          by_cases hja : j = s.2.2.2.1
          · subst hja; rw [xup_eq, xup_eq]
          · rw [xup_ne _ _ hja, xup_ne _ _ (by omega), xup_ne _ _ hja]
            exact hr0 j (by omega)
        · rw [xsp_st] at he
          by_cases her : e = r q
          · rw [her]; exact hst _ hs3
          · rw [xup_ne _ _ her] at he; exact hst e he
        · rw [f6, mJ, Int64.or_assoc, kS_or]
          congr 1
          refine kS_cg (fun e _ => ?_)
          rw [xsp_st]
          by_cases her : e = r q
          · subst her
            rw [xup_eq, hst _ hs3, hs3]
            by_cases hc : xe X (r q) 4 ≤ s.1
            · simp [hc]
            · simp [hc]
          · rw [xup_ne _ _ her, decide_eq_false her]
            simp
        · rw [f7, mK, Int64.or_assoc, kS_or]
          congr 1
          refine kS_cg (fun e _ => ?_)
          rw [xsp_st]
          by_cases her : e = r q
          · subst her
            rw [xup_eq, hst _ hs3, hs3]
            by_cases hc : xe X (r q) 4 ≤ s.1
            · simp [hc, show ¬ s.1 < xe X (r q) 4 by omega]
            · simp [hc, show s.1 < xe X (r q) 4 by omega]
          · rw [xup_ne _ _ her, decide_eq_false her]
            simp
theorem s_L_lookAtGood (hC : kt_isC P N R lo c) (hL : kt_isL P N R lo) (hV : kt_V c X I) (hW : kt_wf X) (hlc : lo = c + 1) {t g : Nat} (hg : g < 6) {st : Nat → Nat} (hs4 : ∀ e, st e < 4) (hst : ∀ e, e < xn X → xe X e 3 = g → st e = xs0 X t e)
    (k : ∀ I' J' sf, sf = xlk X t g 60 (xstk X t g (xn X), fun _ => 0, st, 0, fun _ => 0) → kt_f3 lo I I' → kt_f3 lo J J' → I' lo 1 = nI sf.2.2.2.1 → (∀ j, j < sf.2.2.2.1 → I' (lo + 1) j = nI (sf.2.2.2.2 j)) → J' lo 4 = (J lo 4 ||| kS (fun e => decide (st e = 3) && decide (sf.2.2.1 e = 0))) → J' lo 5 = (J lo 5 ||| kS (fun e => decide (st e = 3) && decide (sf.2.2.1 e = 1))) → Q none I' J' R) :
    KW P i_L_lookAtGood N 0 [some (.ref lo), some (.ref (c + 4)), some (.long (kS (xSt X t))), none, some (.int (nI (xr X))), some (.int (nI g)), none, none, none] [] N I J R Q := by
  have hn := hW.2.2.1
  have hsl := xstk_le hW t g (xn X) (Nat.le_refl _)
  have hcl := xct_le (xop X t g st) (xn X)
  have hcg : xct (xgf X (xSt X t) g) (xn X) = xct (xop X t g st) (xn X) := xct_cg _ (fun e he => xgf_o hW hst he)
  refine kw_ald_n x_L_lookAtGood_0 rfl ?_
  refine kw_ald_n x_L_lookAtGood_1 rfl ?_
  refine kw_lld_n x_L_lookAtGood_2 rfl ?_
  refine kw_ild x_L_lookAtGood_3 rfl ?_
  refine c_L_lookAtGood_5 (by exact isL_k hL) (Nat.le_of_ble_eq_true rfl) ?_
  refine s_L_gather hC hL hV hW hlc hg (fun I2 r g1 g2 g3 g4 g5 => ?_)
  rw [hcg] at g2 g4 g5
  rw [xgd_o hW (xn X) (Nat.le_refl _)] at g3
  refine kw_ald_n x_L_lookAtGood_8 rfl ?_
  refine kw_gr x_L_lookAtGood_9 (by exact isL_k hL) (by exact isL_r3 hL) ?_
  refine kw_icon x_L_lookAtGood_12 ?_
  refine c_L_lookAtGood_13 (Nat.le_of_ble_eq_true rfl) ?_
  refine s_J_fill (isL_a2 hL) (by decide) (fun I3 f1 f2 => ?_)
  refine kw_icon x_L_lookAtGood_16 ?_
  refine kw_ist x_L_lookAtGood_17 (by decide) ?_
  refine s_L_lag_lp hC hL hV hW hlc (x := J lo 4) (y := J lo 5) (st := st) (t := t) (g := g) (len := xct (xop X t g st) (xn X)) (by omega) (sf := xlk X t g 60 (xstk X t g (xn X), fun _ => 0, st, 0, fun _ => 0)) (fun I' J' z1 z2 z3 z4 z5 z6 => k I' J' _ rfl z1 z2 z3 z4 z5 z6) (xct (xop X t g st) (xn X)) (xstk X t g (xn X), fun _ => 0, st, 0, fun _ => 0) I3 J r 60 _ _ (by simp only; omega) (by omega) ⟨hs4, fun p => by simp only; omega, by simp only; omega⟩ rfl
    (fun a ha => by rw [f1 a (by omega)]; exact g1 a (by omega) (by omega)) kt_f3.rf (by rw [f1 lo (by omega)]; exact g2) (by rw [f1 lo (by omega)]; exact g3) f2 (fun j hj => by rw [f1 (lo + 1) (by omega)]; exact g4 j hj) (xrow_cg (fun e he => xgf_o hW hst he) g5) (fun j hj => absurd hj (Nat.not_lt_zero j)) (fun _ h => h) ?_ ?_
  · rw [show (fun e => decide (st e = 3) && decide (st e = 0)) = fun _ => false from by funext e; by_cases hq : st e = 3; (simp [hq]); (simp [hq])]
    exact (kt_or_0 _).symm
  · rw [show (fun e => decide (st e = 3) && decide (st e = 1)) = fun _ => false from by funext e; by_cases hq : st e = 3; (simp [hq]); (simp [hq])]
    exact (kt_or_0 _).symm
theorem s_L_lookAtAll (hC : kt_isC P N R lo c) (hL : kt_isL P N R lo) (hV : kt_V c X I) (hW : kt_wf X) (hlc : lo = c + 1) {t : Nat} (k : ∀ I' J', kt_f3 lo I I' → kt_f3 lo J J' → J' lo 4 = kS (xac X t) → J' lo 5 = kS (xRf X t) → Q none I' J' R) :
    KW P i_L_lookAtAll N 0 [some (.ref lo), some (.ref (c + 4)), some (.long (kS (xK X t))), none, some (.int (nI (xr X))), none, none, none] [] N I J R Q := by
  have loop : ∀ (d g : Nat) (I1 : kt_I) (J1 : kt_J), g + d = 6 → kt_f3 lo I I1 → kt_f3 lo J J1 → J1 lo 4 = kS (fun e => decide (xga X t g e = 0)) → J1 lo 5 = kS (fun e => decide (xga X t g e = 1)) →
      KW P i_L_lookAtAll N 20 [some (.ref lo), some (.ref (c + 4)), some (.long (kS (xK X t))), none, some (.int (nI (xr X))), some (.long (kS (xSt X t))), none, some (.int (nI g))] [] N I1 J1 R Q := by
    intro d
    induction d with
    | zero =>
      intro g I1 J1 h1 hf hfJ h4 h5
      have h6 : g = 6 := by omega
      subst h6
      refine kw_ild x_L_lookAtAll_20 rfl ?_
      refine kw_bip x_L_lookAtAll_22 ?_
      first | refine kw_ic_ge_n x_L_lookAtAll_24 ⟨by omega, by omega⟩ (fun h24 => ?_) (fun h24 => ?_) | refine kw_ic_ge x_L_lookAtAll_24 (fun h24 => ?_) (fun h24 => ?_)
      · first
        | exfalso; omega
        | skip
          refine kw_vret x_L_lookAtAll_44 ?_
          refine k I1 J1 hf hfJ (h4.trans (kS_cg (fun e _ => ?_))) (h5.trans (kS_cg (fun e _ => ?_)))
          · show decide (xga X t 6 e = 0) = (decide (e < xn X) && decide (xst X t e = 0))
            by_cases hq : xga X t 6 e = 0
            · have := xga_lt (X := X) (t := t) (e := e) 6 (by omega)
              rw [decide_eq_true this, Bool.true_and]
              rfl
            · simp [hq, xst]
          · show decide (xga X t 6 e = 1) = (decide (e < xn X) && decide (xst X t e = 1))
            by_cases hq : xga X t 6 e = 1
            · have := xga_lt (X := X) (t := t) (e := e) 6 (by omega)
              rw [decide_eq_true this, Bool.true_and]
              rfl
            · simp [hq, xst]
      · first
        | exfalso; omega
        | skip
          skip
    | succ d ih =>
      intro g I1 J1 h1 hf hfJ h4 h5
      refine kw_ild x_L_lookAtAll_20 rfl ?_
      refine kw_bip x_L_lookAtAll_22 ?_
      first | refine kw_ic_ge_n x_L_lookAtAll_24 ⟨by omega, by omega⟩ (fun h24 => ?_) (fun h24 => ?_) | refine kw_ic_ge x_L_lookAtAll_24 (fun h24 => ?_) (fun h24 => ?_)
      · first
        | exfalso; omega
        | skip
          skip
      · first
        | exfalso; omega
        | skip
          refine kw_ald_n x_L_lookAtAll_27 rfl ?_
          refine kw_ald_n x_L_lookAtAll_28 rfl ?_
          refine kw_lld x_L_lookAtAll_29 rfl ?_
          refine kw_ild x_L_lookAtAll_31 rfl ?_
          refine kw_ild x_L_lookAtAll_33 rfl ?_
          refine c_L_lookAtAll_35 (by exact isL_k hL) (Nat.le_of_ble_eq_true rfl) ?_
          refine s_L_lookAtGood hC hL (hV.ext (fun a g1 g2 => hf a (by omega))) hW hlc (t := t) (g := g) (by omega) (st := xga X t g) (xga_4 X t g) (fun e he h3 => xga_g g (by omega)) (fun I2 J2 sf hsf z1 z2 z3 z4 z5 z6 => ?_)
          first | refine kw_iinc_n x_L_lookAtAll_38 (by decide) rfl ?_ | refine kw_iinc x_L_lookAtAll_38 (by decide) rfl ?_
          refine kw_goto x_L_lookAtAll_41 ?_
          have hx : sf.2.2.1 = xga X t (g + 1) := by rw [hsf]; rfl
          rw [hx, h4, kS_or] at z5
          rw [hx, h5, kS_or] at z6
          exact ih (g + 1) I2 J2 (by omega) (hf.tr z1) (hfJ.tr z2) (z5.trans (kS_cg (fun e _ => xga_s (by decide) g))) (z6.trans (kS_cg (fun e _ => xga_s (by decide) g)))
  refine kw_ald_n x_L_lookAtAll_0 rfl ?_
  refine kw_lconst x_L_lookAtAll_1 ?_
  refine kw_pl x_L_lookAtAll_2 (by exact isL_k hL) ?_
  refine kw_ald_n x_L_lookAtAll_5 rfl ?_
  refine kw_lconst x_L_lookAtAll_6 ?_
  refine kw_pl x_L_lookAtAll_7 (by exact isL_k hL) ?_
  refine kw_ald_n x_L_lookAtAll_10 rfl ?_
  refine kw_lld_n x_L_lookAtAll_11 rfl ?_
  refine c_L_lookAtAll_12 (by exact isE_k hC) (Nat.le_of_ble_eq_true rfl) ?_
  refine s_E_standingIn hC hV hW ?_
  refine kw_lst x_L_lookAtAll_15 (by decide) ?_
  refine kw_icon x_L_lookAtAll_17 ?_
  refine kw_ist x_L_lookAtAll_18 (by decide) ?_
  refine loop 6 0 _ _ (by omega) kt_f3.rf (fun a ha => by rw [kt_uL_ne _ _ _ (by omega), kt_uL_ne _ _ _ (by omega)]) ?_ ?_
  · have hz : kS (fun e => decide (xga X t 0 e = 0)) = nJ 0 := by
      rw [kS_0]
      refine kS_cg (fun e _ => decide_eq_false (fun q => ?_))
      have q2 : xs0 X t e = 0 := q
      unfold xs0 at q2
      split at q2 <;> omega
    rw [hz]
    simp [kt_uL]
    rfl
  · have hz : kS (fun e => decide (xga X t 0 e = 1)) = nJ 0 := by
      rw [kS_0]
      refine kS_cg (fun e _ => decide_eq_false (fun q => ?_))
      have q2 : xs0 X t e = 1 := q
      unfold xs0 at q2
      split at q2 <;> omega
    rw [hz]
    simp [kt_uL]
    rfl
end CL
