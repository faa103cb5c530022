/-! the class's answers and the reference's, as numbers -/
theorem xlk_done {X : kt_X} {t g : Nat} : ∀ (k : Nat) (s : kt_σ), xct (xop X t g s.2.2.1) (xn X) ≤ k → ∀ e, e < xn X → xop X t g (xlk X t g k s).2.2.1 e = false
  | 0, s, h, e, he => by
    show xop X t g s.2.2.1 e = false
    cases hq : xop X t g s.2.2.1 e with
    | false => rfl
    | true => have := xct_pos he hq; omega
  | k + 1, s, h, e, he => by
    unfold xlk
    cases hp : xpk X t g s.2.1 s.2.2.1 (xn X) with
    | none => exact xpk_none hp e he
    | some p =>
      have hpp := xpk_some hp
      refine xlk_done k (xsp X s p) ?_ e he
      have h9 := xct_drop (f := xop X t g s.2.2.1) (g := xop X t g (xsp X s p).2.2.1) hpp.1 hpp.2 (by unfold xsp; split <;> simp [xop, xup]) (fun e he => by unfold xsp; split <;> simp [xop, xup, he])
      omega
theorem xga_or {X : kt_X} {t e : Nat} (g : Nat) : xga X t (g + 1) e = xga X t g e ∨ (xga X t g e = 3 ∧ xga X t (g + 1) e ≤ 1) := by
  rcases xlk_c (X := X) (t := t) (g := g) 60 (xstk X t g (xn X), fun _ => 0, xga X t g, 0, fun _ => 0) e with h | ⟨h1, h2, -⟩
  · exact Or.inl h
  · exact Or.inr ⟨h1, h2⟩
theorem xga_2 {X : kt_X} {t e : Nat} : ∀ g, xga X t g e = 2 ↔ xs0 X t e = 2
  | 0 => Iff.rfl
  | g + 1 => by
    have ih := xga_2 (X := X) (t := t) (e := e) g
    rcases xga_or (X := X) (t := t) (e := e) g with h | ⟨h1, h2⟩
    · rw [h]; exact ih
    · rw [← ih]; omega
theorem xga_n3 {X : kt_X} {t e g : Nat} (h : xga X t g e ≠ 3) : ∀ d, xga X t (g + d) e ≠ 3
  | 0 => h
  | d + 1 => by
    have ih := xga_n3 h d
    rcases xga_or (X := X) (t := t) (e := e) (g + d) with h | ⟨h1, h2⟩
    · show xga X t (g + d + 1) e ≠ 3
      rw [h]; exact ih
    · exact absurd h1 ih
theorem xst_d {X : kt_X} (hW : kt_wf X) {t e : Nat} (he : e < xn X) (h0 : xe X e 0 = 1) (hk : xk X t e = true) : xst X t e ≠ 3 := by
  have hn := hW.2.2.1
  have h3 := (hW.2.2.2.2.2.1 e he).2.2.2.1
  have h1 := xlk_done (X := X) (t := t) (g := xe X e 3) 60 (xstk X t (xe X e 3) (xn X), fun _ => 0, xga X t (xe X e 3), 0, fun _ => 0) (Nat.le_trans (xct_le _ _) hn) e he
  have h2 : xga X t (xe X e 3 + 1) e ≠ 3 := by
    intro q
    have q2 : (xlk X t (xe X e 3) 60 (xstk X t (xe X e 3) (xn X), fun _ => 0, xga X t (xe X e 3), 0, fun _ => 0)).2.2.1 e = 3 := q
    unfold xop at h1
    rw [q2, h0, hk] at h1
    simp at h1
  have h4 := xga_n3 h2 (6 - (xe X e 3 + 1))
  rw [show xe X e 3 + 1 + (6 - (xe X e 3 + 1)) = 6 by omega] at h4
  exact h4
theorem xst_u {X : kt_X} {t e : Nat} (hk : xk X t e = false) : xst X t e = 3 := by
  have h1 : ∀ g, xga X t g e = 3 := by
    intro g
    induction g with
    | zero =>
      show xs0 X t e = 3
      unfold xs0
      rw [if_neg (fun q => by rw [hk] at q; exact absurd q.2.1 (by decide))]
    | succ g ih =>
      rcases xga_or (X := X) (t := t) (e := e) g with h | ⟨h1, h2⟩
      · rw [h]; exact ih
      · have := xga_kn (g + 1) e h2
        rw [hk] at this
        cases this
  exact h1 6
theorem xcn_out {X : kt_X} {t o : Nat} : ∀ e, xcn X t o e = true → o < e
  | 0, h => by cases h
  | e + 1, h => by
    have h1 : (xcn X t o e || (decide (o < e) && decide (xe X e 0 = 2) && decide (xe X e 6 = o + 1) && xk X t e)) = true := h
    cases h2 : xcn X t o e with
    | true => have := xcn_out e h2; omega
    | false =>
      rw [h2] at h1
      simp only [Bool.false_or, Bool.and_eq_true, decide_eq_true_eq] at h1
      omega
theorem xcn_kn {X : kt_X} (hW : kt_wf X) {t o : Nat} (ht : t < 5) : ∀ e, e ≤ xn X → xcn X t o e = true → xk X t o = true
  | 0, _, h => by cases h
  | e + 1, he, h => by
    have h1 : (xcn X t o e || (decide (o < e) && decide (xe X e 0 = 2) && decide (xe X e 6 = o + 1) && xk X t e)) = true := h
    cases h2 : xcn X t o e with
    | true => exact xcn_kn hW ht e (by omega) h2
    | false =>
      rw [h2] at h1
      simp only [Bool.false_or, Bool.and_eq_true, decide_eq_true_eq] at h1
      have h3 := ((hW.2.2.2.2.2.1 e (by omega)).2.2.2.2.2.2.1.2 h1.1.1.2).2.2.2 t (by rw [← kt_xkb ht]; exact h1.2)
      rw [h1.1.2] at h3
      rw [kt_xkb ht]
      exact h3
theorem xcs_2 {X : kt_X} (hW : kt_wf X) {t : Nat} (ht : t < 5) : xct (fun o => xcs X (xK X t) o (xn X)) 60 = xct (fun e => decide (xst X t e = 2)) (xn X) := by
  rw [← xct_60 hW.2.2.1]
  refine xct_cg 60 (fun o _ => ?_)
  show xcs X (fun e => decide (e < xn X) && xk X t e) o (xn X) = _
  rw [xcs_cn hW o (xn X) (Nat.le_refl _)]
  have h2 : xst X t o = 2 ↔ xs0 X t o = 2 := xga_2 6
  cases hc : xcn X t o (xn X) with
  | true =>
    have ho := xcn_out _ hc
    have h0 := xcn_ord hW (xn X) (Nat.le_refl _) hc
    have hk := xcn_kn hW ht (xn X) (Nat.le_refl _) hc
    have hs : xs0 X t o = 2 := by unfold xs0; rw [if_pos ⟨h0, hk, hc⟩]
    rw [decide_eq_true ho, decide_eq_true (h2.mpr hs)]; rfl
  | false =>
    have hs : ¬ xs0 X t o = 2 := by
      unfold xs0
      rw [if_neg (fun q => by rw [hc] at q; exact absurd q.2.2 (by decide))]
      decide
    rw [decide_eq_false (fun q => hs (h2.mp q)), Bool.and_false]
theorem kt_cdi {f v w : Nat} (h5 : f ≠ 5) (h6 : f ≠ 6) (hv : v < 2147483648) (hw : w < 2147483648) : decide (kt_cd f v = nI w) = decide (v = w) := by
  rw [kt_cd_n h5 h6]
  by_cases h : v = w
  · rw [decide_eq_true h, decide_eq_true (by rw [h])]
  · rw [decide_eq_false h, decide_eq_false (fun q => h ((nI_eq (kt_p31 hv) (kt_p31 hw)).mp q))]
theorem kt_cdp : ∀ v, v < 11 → ∀ p, p < 10 → decide (kt_cd 5 v = nI p) = decide (v = p + 1) := by decide +kernel
theorem xct_hav {X : kt_X} (hW : kt_wf X) {f w : Nat} (hf : f = 0 ∨ f = 1) (hw : w < 100) : xct (fun e => decide (e < xn X) && decide (kt_cd f (xe X e f) = nI w)) 60 = xct (fun e => decide (xe X e f = w)) (xn X) := by
  rw [xct_60 hW.2.2.1]
  refine xct_cg _ (fun e he => ?_)
  have hx := hW.2.2.2.2.2.1 e he
  have h0 := hx.1
  have h1 := hx.2.1
  have hT := hW.2.1
  rcases hf with rfl | rfl
  · exact kt_cdi (by decide) (by decide) (by omega) (by omega)
  · exact kt_cdi (by decide) (by decide) (by omega) (by omega)
theorem xct_kt {X : kt_X} (hn : xn X ≤ 60) (t : Nat) : xct (xK X t) 60 = xct (fun e => xk X t e) (xn X) := xct_60 hn
theorem xct_ac {X : kt_X} (hn : xn X ≤ 60) (t : Nat) : xct (xac X t) 60 = xct (fun e => decide (xst X t e = 0)) (xn X) := xct_60 hn
theorem xct_rf {X : kt_X} (hn : xn X ≤ 60) (t : Nat) : xct (xRf X t) 60 = xct (fun e => decide (xst X t e = 1)) (xn X) := xct_60 hn
theorem xct_sy {X : kt_X} (hn : xn X ≤ 60) (t : Nat) : xct (xSy X t) 60 = xct (fun e => (xe X e 8).testBit t) (xn X) := xct_60 hn
theorem xct_un {X : kt_X} (hn : xn X ≤ 60) (t u : Nat) : xct (fun e => xK X t e && !xK X u e) 60 = xct (fun e => xk X t e && !xk X u e) (xn X) := by
  rw [← xct_60 hn]
  refine xct_cg 60 (fun e _ => ?_)
  unfold xK
  cases decide (e < xn X) <;> simp
theorem nS_cg {f g : Nat → Bool} : ∀ n, (∀ e, e < n → f e = g e) → nS f n = nS g n
  | 0, _ => rfl
  | n + 1, h => by
    unfold nS
    rw [nS_cg n (fun e he => h e (by omega)), h n (by omega)]
theorem nS_7 {X : kt_X} (hW : kt_wf X) {e : Nat} (he : e < xn X) : nS (fun t => xK X t e) (xT X) = xe X e 7 := by
  have hT := hW.2.1
  rw [← nS_of ((hW.2.2.2.2.2.1 e he).2.2.2.2.2.2.2.1.2)]
  refine nS_cg _ (fun t ht => ?_)
  unfold xK
  rw [decide_eq_true he, kt_xkb (by omega), Bool.true_and]
theorem nS_8 {X : kt_X} (hW : kt_wf X) {e : Nat} (he : e < xn X) : nS (fun t => xSy X t e) (xT X) = xe X e 8 := by
  have h8 := (hW.2.2.2.2.2.1 e he).2.2.2.2.2.2.2.2
  have h := nS_of h8
  refine Eq.trans (nS_cg _ (fun t ht => ?_)) h
  unfold xSy
  rw [decide_eq_true he, Bool.true_and]
theorem xstk_sm {X : kt_X} {t g : Nat} : ∀ n, xstk X t g n = xsm (fun e => if xe X e 0 = 0 ∧ xe X e 3 = g ∧ xk X t e = true then xe X e 4 else 0) n
  | 0 => rfl
  | n + 1 => by
    unfold xstk xsm
    rw [xstk_sm n]
theorem kt_g3 {X : kt_X} (hW : kt_wf X) {e g : Nat} (he : e < xn X) (hg : g < 6) : decide (kt_cd 3 (xe X e 3) = nI g) = decide (xe X e 3 = g) := by
  have h3 := (hW.2.2.2.2.2.1 e he).2.2.2.1
  exact kt_cdi (by decide) (by decide) (by omega) (by omega)
theorem kt_g0 {X : kt_X} (hW : kt_wf X) {e w : Nat} (he : e < xn X) (hw : w < 6) : decide (kt_cd 0 (xe X e 0) = nI w) = decide (xe X e 0 = w) := by
  have h0 := (hW.2.2.2.2.2.1 e he).1
  exact kt_cdi (by decide) (by decide) (by omega) (by omega)
theorem xgo_0 {X : kt_X} (hW : kt_wf X) {t g : Nat} (hg : g < 6) : xsm (xps2 X (fun e => (xK X t e && (decide (e < xn X) && decide (kt_cd 3 (xe X e 3) = nI g))) && (decide (e < xn X) && decide (kt_cd 0 (xe X e 0) = nI 0)))) (xn X) = xstk X t g (xn X) := by
  rw [xstk_sm]
  refine xsm_cg _ (fun e he => ?_)
  unfold xps2 xK
  simp only [kt_g3 hW he hg, kt_g0 hW he (by decide : 0 < 6), decide_eq_true he]
  by_cases h0 : xe X e 0 = 0
  · by_cases h3 : xe X e 3 = g
    · cases hk : xk X t e <;> simp [h0, h3]
    · simp [h3]
  · simp [h0]
theorem xgo_1 {X : kt_X} (hW : kt_wf X) {t g : Nat} (hg : g < 6) : xsm (xps2 X (fun e => xac X t e && (decide (e < xn X) && decide (kt_cd 3 (xe X e 3) = nI g)))) (xn X) = xsm (xacc X t g 0) (xn X) := by
  refine xsm_cg _ (fun e he => ?_)
  unfold xps2 xac xacc
  simp only [kt_g3 hW he hg, decide_eq_true he]
  by_cases h3 : xe X e 3 = g <;> by_cases h1 : xst X t e = 0 <;> simp [h3, h1]
theorem xgo_3 {X : kt_X} (hW : kt_wf X) {t g : Nat} (hg : g < 6) : xsm (xps2 X (fun e => xRf X t e && (decide (e < xn X) && decide (kt_cd 3 (xe X e 3) = nI g)))) (xn X) = xsm (xacc X t g 1) (xn X) := by
  refine xsm_cg _ (fun e he => ?_)
  unfold xps2 xRf xacc
  simp only [kt_g3 hW he hg, decide_eq_true he]
  by_cases h3 : xe X e 3 = g <;> by_cases h1 : xst X t e = 1 <;> simp [h3, h1]
/-- the orders of a person, as the class finds them -/
def xop5 (X : kt_X) (p e : Nat) : Bool := (decide (e < xn X) && decide (kt_cd 5 (xe X e 5) = nI p)) && (decide (e < xn X) && decide (kt_cd 0 (xe X e 0) = nI 1))
theorem xop5_e {X : kt_X} (hW : kt_wf X) {p e : Nat} (hp : p < 10) (he : e < xn X) : xop5 X p e = (decide (xe X e 0 = 1) && decide (xe X e 5 = p + 1)) := by
  unfold xop5
  have h5 := (hW.2.2.2.2.2.1 e he).2.2.2.2.2.1.2.2
  rw [kt_g0 hW he (by decide), kt_cdp _ (by omega) p hp, decide_eq_true he, Bool.true_and, Bool.true_and, Bool.and_comm]
theorem xop5_n {X : kt_X} {p e : Nat} (he : ¬ e < xn X) : xop5 X p e = false := by
  unfold xop5
  rw [decide_eq_false he]; rfl
theorem xct_sm (f : Nat → Bool) : ∀ n, xct f n = xsm (fun e => if f e = true then 1 else 0) n
  | 0 => rfl
  | n + 1 => by
    unfold xct xsm
    rw [xct_sm f n]
theorem xpo_0 {X : kt_X} (hW : kt_wf X) {t p : Nat} (hp : p < 10) : xct (fun e => xK X t e && xop5 X p e) 60 = xsm (xpo X t p 0) (xn X) := by
  have h1 : xct (fun e => xK X t e && xop5 X p e) 60 = xct (fun e => xk X t e && xop5 X p e) (xn X) := by
    rw [← xct_60 hW.2.2.1]
    exact xct_cg 60 (fun e _ => by unfold xK; cases decide (e < xn X) <;> simp)
  rw [h1, xct_sm]
  refine xsm_cg _ (fun e he => ?_)
  unfold xpo
  simp only [xop5_e hW hp he]
  by_cases h0 : xe X e 0 = 1 <;> by_cases h5 : xe X e 5 = p + 1 <;> simp [h0, h5]
theorem xpo_1 {X : kt_X} (hW : kt_wf X) {t p : Nat} (hp : p < 10) : xct (fun e => xac X t e && xop5 X p e) 60 = xsm (xpo X t p 1) (xn X) := by
  have h1 : xct (fun e => xac X t e && xop5 X p e) 60 = xct (fun e => decide (xst X t e = 0) && xop5 X p e) (xn X) := by
    rw [← xct_60 hW.2.2.1]
    exact xct_cg 60 (fun e _ => by unfold xac; cases decide (e < xn X) <;> simp)
  rw [h1, xct_sm]
  refine xsm_cg _ (fun e he => ?_)
  unfold xpo
  simp only [xop5_e hW hp he]
  by_cases h0 : xe X e 0 = 1 <;> by_cases h5 : xe X e 5 = p + 1 <;> by_cases hs : xst X t e = 0 <;> simp [h0, h5, hs]
theorem xpo_2 {X : kt_X} (hW : kt_wf X) {t p : Nat} (hp : p < 10) : xsm (xps2 X (fun e => xac X t e && xop5 X p e)) (xn X) = xsm (xpo X t p 2) (xn X) := by
  refine xsm_cg _ (fun e he => ?_)
  unfold xps2 xac xpo
  simp only [xop5_e hW hp he, decide_eq_true he]
  by_cases h0 : xe X e 0 = 1 <;> by_cases h5 : xe X e 5 = p + 1 <;> by_cases hs : xst X t e = 0 <;> simp [h0, h5, hs]
theorem xsm_0 : ∀ n, xsm (fun _ => 0) n = 0
  | 0 => rfl
  | n + 1 => by unfold xsm; rw [xsm_0 n]
theorem xsm_swap (F : Nat → Nat → Bool) (n : Nat) : ∀ T, xsm (fun t => xct (fun e => F t e) n) T = xsm (fun e => xct (fun t => F t e) T) n
  | 0 => (xsm_0 n).symm
  | T + 1 => by
    have h := xsm_add (f := fun e => xct (fun t => F t e) T) (g := fun e => if F T e = true then 1 else 0) (h := fun e => xct (fun t => F t e) (T + 1)) n (fun t _ => rfl)
    show xsm (fun t => xct (fun e => F t e) n) T + xct (fun e => F T e) n = _
    rw [xsm_swap F n T, xct_sm, h]
theorem xbits_T {M T : Nat} (hT : T ≤ 5) (hM : M < 2 ^ T) : xct (fun t => M.testBit t) T = xbits M := by
  unfold xbits
  have h : ∀ d, xct (fun t => M.testBit t) (T + d) = xct (fun t => M.testBit t) T := by
    intro d
    induction d with
    | zero => rfl
    | succ d ih =>
      show xct (fun t => M.testBit t) (T + d) + (if M.testBit (T + d) = true then 1 else 0) = _
      rw [ih, Nat.testBit_lt_two_pow (Nat.lt_of_lt_of_le hM (Nat.pow_le_pow_right (by decide) (by omega)))]
      rfl
  have := h (5 - T)
  rw [show T + (5 - T) = 5 by omega] at this
  exact this.symm
theorem xct_and (b : Bool) (f : Nat → Bool) : ∀ n, xct (fun t => f t && b) n = if b = true then xct f n else 0 := by
  intro n
  cases b with
  | true => rw [if_pos rfl]; exact xct_cg n (fun e _ => Bool.and_true _)
  | false =>
    rw [if_neg (by decide)]
    induction n with
    | zero => rfl
    | succ n ih => unfold xct; rw [ih]; simp
theorem xap_S {X : kt_X} (hW : kt_wf X) (S : Nat → Bool) : xsm (fun t => xct (fun e => xSy X t e && S e) 60) (xT X) = xsm (fun e => if S e = true then xbits (xe X e 8) else 0) (xn X) := by
  have h1 : ∀ t, xct (fun e => xSy X t e && S e) 60 = xct (fun e => (xe X e 8).testBit t && S e) (xn X) := fun t => by
    rw [← xct_60 hW.2.2.1]
    exact xct_cg 60 (fun e _ => by unfold xSy; cases decide (e < xn X) <;> simp)
  rw [xsm_cg _ (fun t _ => h1 t), xsm_swap (fun t e => (xe X e 8).testBit t && S e)]
  refine xsm_cg _ (fun e he => ?_)
  rw [xct_and (S e), xbits_T hW.2.1 (hW.2.2.2.2.2.1 e he).2.2.2.2.2.2.2.2]
theorem xpo_3 {X : kt_X} (hW : kt_wf X) {t p : Nat} (hp : p < 10) : xsm (fun t => xct (fun e => xSy X t e && xop5 X p e) 60) (xT X) = xsm (xpo X t p 3) (xn X) := by
  rw [xap_S hW]
  refine xsm_cg _ (fun e he => ?_)
  unfold xpo
  simp only [xop5_e hW hp he]
  by_cases h0 : xe X e 0 = 1 <;> by_cases h5 : xe X e 5 = p + 1 <;> simp [h0, h5]
theorem xap_all {X : kt_X} (hW : kt_wf X) : xsm (fun t => xct (fun e => xSy X t e && decide (e < xn X)) 60) (xT X) = xsm (fun e => xbits (xe X e 8)) (xn X) := by
  rw [xap_S hW]
  exact xsm_cg _ (fun e he => by rw [decide_eq_true he, if_pos rfl])
theorem xka_iff {X : kt_X} {e : Nat} : ∀ T, xka X T e = true ↔ e < xn X ∧ ∀ t, t < T → xK X t e = true
  | 0 => ⟨fun h => ⟨of_decide_eq_true h, fun t ht => absurd ht (Nat.not_lt_zero t)⟩, fun h => decide_eq_true h.1⟩
  | T + 1 => by
    show (xka X T e && xK X T e) = true ↔ _
    rw [Bool.and_eq_true, xka_iff T]
    constructor
    · rintro ⟨⟨h1, h2⟩, h3⟩
      refine ⟨h1, fun t ht => ?_⟩
      by_cases h : t = T
      · rw [h]; exact h3
      · exact h2 t (by omega)
    · rintro ⟨h1, h2⟩
      exact ⟨⟨h1, fun t ht => h2 t (by omega)⟩, h2 T (by omega)⟩
theorem xka_7 {X : kt_X} (hW : kt_wf X) : xct (xka X (xT X)) 60 = xct (fun e => decide (xe X e 7 = 2 ^ xT X - 1)) (xn X) := by
  have hT := hW.2.1
  rw [← xct_60 hW.2.2.1]
  refine xct_cg 60 (fun e _ => ?_)
  by_cases he : e < xn X
  · rw [decide_eq_true he, Bool.true_and]
    have hx := (hW.2.2.2.2.2.1 e he).2.2.2.2.2.2.2.1
    have h1 := (hW.2.2.2.2.2.1 e he).2.1
    by_cases hM : xe X e 7 = 2 ^ xT X - 1
    · rw [decide_eq_true hM]
      refine (xka_iff _).mpr ⟨he, fun t ht => ?_⟩
      unfold xK
      rw [decide_eq_true he, kt_xkb (by omega), hM, Nat.testBit_two_pow_sub_one, decide_eq_true ht]; rfl
    · rw [decide_eq_false hM]
      cases hq : xka X (xT X) e with
      | false => rfl
      | true =>
        exfalso
        have h2 := ((xka_iff _).mp hq).2
        have h3 : ∀ t, t < xT X → (xe X e 7).testBit t = true := fun t ht => by
          have := h2 t ht
          unfold xK at this
          rw [decide_eq_true he, kt_xkb (by omega), Bool.true_and] at this
          exact this
        exact hM (kt_full (xT X) (by omega) _ (kt_m32 hW he).1 hx.2 hx.1 (fun t ht => by rw [h3 t ht, h3 0 (by omega)]))
  · rw [decide_eq_false he, Bool.false_and]
    cases hq : xka X (xT X) e with
    | false => rfl
    | true => exact absurd ((xka_iff _).mp hq).1 he
theorem xany_60 {f : Nat → Bool} {n : Nat} (hn : n ≤ 60) : xany (fun e => decide (e < n) && f e) 60 = xany f n := by
  have h0 : xany (fun e => decide (e < n) && f e) n = xany f n := by
    have h : ∀ k, k ≤ n → xany (fun e => decide (e < n) && f e) k = xany f k := by
      intro k
      induction k with
      | zero => intro _; rfl
      | succ k ih =>
        intro hk
        unfold xany
        rw [ih (by omega), decide_eq_true (show k < n by omega), Bool.true_and]
    exact h n (Nat.le_refl _)
  have h : ∀ d, xany (fun e => decide (e < n) && f e) (n + d) = xany f n := by
    intro d
    induction d with
    | zero => exact h0
    | succ d ih =>
      show (xany (fun e => decide (e < n) && f e) (n + d) || (decide (n + d < n) && f (n + d))) = _
      rw [ih, decide_eq_false (show ¬ n + d < n by omega), Bool.false_and, Bool.or_false]
  have := h (60 - n)
  rw [show n + (60 - n) = 60 by omega] at this
  exact this
theorem xany_cg {f g : Nat → Bool} : ∀ n, (∀ e, e < n → f e = g e) → xany f n = xany g n
  | 0, _ => rfl
  | n + 1, h => by
    unfold xany
    rw [xany_cg n (fun e he => h e (by omega)), h n (by omega)]
theorem xpm_bit {X : kt_X} {p : Nat} : ∀ k, (xpm X k).testBit p = xany (fun e => decide (xst X 5 e = 0) && decide (xe X e 5 - 1 = p)) k
  | 0 => by simp [xpm, xany]
  | k + 1 => by
    unfold xpm xany
    rw [Nat.testBit_or, xpm_bit k]
    congr 1
    by_cases h : xst X 5 k = 0
    · rw [if_pos h, Nat.testBit_two_pow, decide_eq_true h, Bool.true_and]
    · rw [if_neg h, decide_eq_false h, Bool.false_and, Nat.zero_testBit]
theorem xpin_h {X : kt_X} (hW : kt_wf X) : xct (xpin X (xac X 5)) 10 = xhp X := by
  refine xct_cg 10 (fun p hp => ?_)
  unfold xpin
  rw [xpm_bit]
  have h1 : ∀ e, (xac X 5 e && (decide (e < xn X) && decide (kt_cd 5 (xe X e 5) = nI p))) = (decide (e < xn X) && (decide (xst X 5 e = 0) && decide (kt_cd 5 (xe X e 5) = nI p))) := fun e => by
    unfold xac
    cases decide (e < xn X) <;> simp
  rw [xany_cg 60 (fun e _ => h1 e), xany_60 hW.2.2.1]
  refine xany_cg _ (fun e he => ?_)
  have hx5 := (hW.2.2.2.2.2.1 e he).2.2.2.2.2.1
  by_cases hs : xst X 5 e = 0
  · have ho := @xst_o X 5 e (by omega)
    have h51 := hx5.2.1 (by omega)
    rw [kt_cdp _ (by omega) p hp]
    congr 1
    by_cases hq : xe X e 5 = p + 1
    · rw [decide_eq_true hq, decide_eq_true (by omega)]
    · rw [decide_eq_false hq, decide_eq_false (by omega)]
  · rw [decide_eq_false hs]; rfl
