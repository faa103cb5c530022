/-! what a town thinks depends on what it knows alone -/
theorem xlk_kn {X : kt_X} {t g : Nat} : ∀ (k : Nat) (s : kt_σ), (∀ e, s.2.2.1 e ≤ 1 → xk X t e = true) → ∀ e, (xlk X t g k s).2.2.1 e ≤ 1 → xk X t e = true
  | 0, s, h => h
  | k + 1, s, h => by
    unfold xlk
    cases hp : xpk X t g s.2.1 s.2.2.1 (xn X) with
    | none => exact h
    | some p =>
      refine xlk_kn k _ (fun e he => ?_)
      by_cases hep : e = p
      · rw [hep]
        have ho := (xpk_some hp).2
        unfold xop at ho
        simp only [Bool.and_eq_true] at ho
        exact ho.2
      · rw [xsp_st, xup_ne _ _ hep] at he
        exact h e he
theorem xga_kn {X : kt_X} {t : Nat} : ∀ g e, xga X t g e ≤ 1 → xk X t e = true
  | 0, e, h => by
    have h1 : xs0 X t e ≤ 1 := h
    unfold xs0 at h1
    split at h1 <;> omega
  | g + 1, e, h => xlk_kn 60 _ (xga_kn g) e h
/-- X's events are the first ones of Y -/
def kt_ev (X Y : kt_X) : Prop := xn X ≤ xn Y ∧ xT X ≤ xT Y ∧ ∀ e f, e < xn X → f < 7 → xe Y e f = xe X e f
/-- both know the same in a town -/
def kt_sk (X Y : kt_X) (t : Nat) : Prop := xr X = xr Y ∧ (∀ e, e < xn X → xk Y t e = xk X t e) ∧ ∀ e, xn X ≤ e → e < xn Y → xk Y t e = false
section SK
variable {X Y : kt_X} {t : Nat}
theorem xstk_sk (h : kt_ev X Y) (hk : kt_sk X Y t) (g : Nat) : ∀ d, xn X + d ≤ xn Y → xstk Y t g (xn X + d) = xstk X t g (xn X)
  | 0, _ => by
    have h1 : ∀ e, e ≤ xn X → xstk Y t g e = xstk X t g e := by
      intro e
      induction e with
      | zero => intro _; rfl
      | succ e ih =>
        intro he
        unfold xstk
        rw [ih (by omega), h.2.2 e 0 (by omega) (by decide), h.2.2 e 3 (by omega) (by decide), h.2.2 e 4 (by omega) (by decide), hk.2.1 e (by omega)]
    exact h1 _ (Nat.le_refl _)
  | d + 1, hd => by
    have hf := hk.2.2 (xn X + d) (by omega) (by omega)
    show xstk Y t g (xn X + d) + (if xe Y (xn X + d) 0 = 0 ∧ xe Y (xn X + d) 3 = g ∧ xk Y t (xn X + d) = true then xe Y (xn X + d) 4 else 0) = _
    rw [xstk_sk h hk g d (by omega), if_neg (fun q => by rw [hf] at q; exact absurd q.2.2 (by decide))]
    rfl
theorem xcn_sk (h : kt_ev X Y) (hk : kt_sk X Y t) (o : Nat) : ∀ d, xn X + d ≤ xn Y → xcn Y t o (xn X + d) = xcn X t o (xn X)
  | 0, _ => by
    have h1 : ∀ e, e ≤ xn X → xcn Y t o e = xcn X t o e := by
      intro e
      induction e with
      | zero => intro _; rfl
      | succ e ih =>
        intro he
        unfold xcn
        rw [ih (by omega), h.2.2 e 0 (by omega) (by decide), h.2.2 e 6 (by omega) (by decide), hk.2.1 e (by omega)]
    exact h1 _ (Nat.le_refl _)
  | d + 1, hd => by
    have hf := hk.2.2 (xn X + d) (by omega) (by omega)
    show (xcn Y t o (xn X + d) || (decide (o < xn X + d) && decide (xe Y (xn X + d) 0 = 2) && decide (xe Y (xn X + d) 6 = o + 1) && xk Y t (xn X + d))) = _
    rw [xcn_sk h hk o d (by omega), hf, Bool.and_false, Bool.or_false]
theorem xky_sk (h : kt_ev X Y) (hk : kt_sk X Y t) (G : Nat → Nat) {e : Nat} (he : e < xn X) : xky Y G e = xky X G e := by
  unfold xky
  rw [← hk.1, h.2.2 e 4 he (by decide), h.2.2 e 5 he (by decide), h.2.2 e 2 he (by decide), h.2.2 e 1 he (by decide)]
theorem xop_sk (h : kt_ev X Y) (hk : kt_sk X Y t) (g : Nat) {st st' : Nat → Nat} {e : Nat} (he : e < xn X) (hs : st' e = st e) : xop Y t g st' e = xop X t g st e := by
  unfold xop
  rw [h.2.2 e 0 he (by decide), h.2.2 e 3 he (by decide), hk.2.1 e he, hs]
theorem xpk_sk (h : kt_ev X Y) (hk : kt_sk X Y t) (g : Nat) {G st st' : Nat → Nat} (hs : ∀ e, e < xn X → st' e = st e) : ∀ d, xn X + d ≤ xn Y → xpk Y t g G st' (xn X + d) = xpk X t g G st (xn X)
  | 0, _ => by
    have h1 : ∀ e, e ≤ xn X → xpk Y t g G st' e = xpk X t g G st e := by
      intro e
      induction e with
      | zero => intro _; rfl
      | succ e ih =>
        intro he
        unfold xpk
        rw [ih (by omega), xop_sk h hk g (by omega) (hs e (by omega))]
        cases hp : xpk X t g G st e with
        | none => rfl
        | some p =>
          have hpp := (xpk_some hp).1
          simp only [xky_sk h hk G (show e < xn X by omega), xky_sk h hk G (show p < xn X by omega)]
    exact h1 _ (Nat.le_refl _)
  | d + 1, hd => by
    have ho : xop Y t g st' (xn X + d) = false := by unfold xop; rw [hk.2.2 _ (by omega) (by omega), Bool.and_false]
    show (if xop Y t g st' (xn X + d) = true then _ else _) = _
    rw [ho]
    exact xpk_sk h hk g hs d (by omega)
theorem xlk_sk (h : kt_ev X Y) (hk : kt_sk X Y t) (g : Nat) : ∀ (k : Nat) (s s' : kt_σ), s'.1 = s.1 → s'.2.1 = s.2.1 → (∀ e, e < xn X → s'.2.2.1 e = s.2.2.1 e) → ∀ e, e < xn X → (xlk Y t g k s').2.2.1 e = (xlk X t g k s).2.2.1 e
  | 0, s, s', _, _, h3, e, he => h3 e he
  | k + 1, s, s', h1, h2, h3, e, he => by
    have hn : xn X + (xn Y - xn X) = xn Y := by have := h.1; omega
    have hp := xpk_sk h hk g (G := s.2.1) h3 (xn Y - xn X) (by omega)
    rw [hn] at hp
    unfold xlk
    rw [h2, hp]
    cases hq : xpk X t g s.2.1 s.2.2.1 (xn X) with
    | none => exact h3 e he
    | some p =>
      have hpl := (xpk_some hq).1
      have e4 := h.2.2 p 4 hpl (by decide)
      have e5 := h.2.2 p 5 hpl (by decide)
      refine xlk_sk h hk g k (xsp X s p) (xsp Y s' p) ?_ ?_ (fun e' he' => ?_) e he
      · unfold xsp
        rw [e4, e5, h1, h2]
        split <;> rfl
      · unfold xsp
        rw [e4, e5, h1, h2]
        split <;> rfl
      · rw [xsp_st, xsp_st, e4, h1]
        by_cases hep : e' = p
        · rw [hep, xup_eq, xup_eq]
        · rw [xup_ne _ _ hep, xup_ne _ _ hep]; exact h3 e' he'
theorem xga_sk (h : kt_ev X Y) (hk : kt_sk X Y t) : ∀ g e, e < xn X → xga Y t g e = xga X t g e
  | 0, e, he => by
    have hn : xn X + (xn Y - xn X) = xn Y := by have := h.1; omega
    have hc := xcn_sk h hk e (xn Y - xn X) (by omega)
    rw [hn] at hc
    show xs0 Y t e = xs0 X t e
    unfold xs0
    rw [h.2.2 e 0 he (by decide), hk.2.1 e he, hc]
  | g + 1, e, he => by
    have hn : xn X + (xn Y - xn X) = xn Y := by have := h.1; omega
    have hs := xstk_sk h hk g (xn Y - xn X) (by omega)
    rw [hn] at hs
    unfold xga
    rw [hs]
    exact xlk_sk h hk g 60 (xstk X t g (xn X), fun _ => 0, xga X t g, 0, fun _ => 0) (xstk X t g (xn X), fun _ => 0, xga Y t g, 0, fun _ => 0) rfl rfl (fun e' he' => xga_sk h hk g e' he') e he
theorem xac_sk (h : kt_ev X Y) (hk : kt_sk X Y t) (e : Nat) : xac Y t e = xac X t e ∧ xRf Y t e = xRf X t e := by
  unfold xac xRf
  by_cases he : e < xn X
  · rw [show xst Y t e = xst X t e from xga_sk h hk 6 e he, decide_eq_true he, decide_eq_true (show e < xn Y by have := h.1; omega)]
    exact ⟨rfl, rfl⟩
  · rw [decide_eq_false he, Bool.false_and, Bool.false_and]
    by_cases he2 : e < xn Y
    · have hkn := fun q => xga_kn (X := Y) (t := t) 6 e q
      rw [hk.2.2 e (by omega) he2] at hkn
      have h0 : ¬ xst Y t e ≤ 1 := fun q => absurd (hkn q) (by decide)
      rw [decide_eq_false (show ¬ xst Y t e = 0 by omega), decide_eq_false (show ¬ xst Y t e = 1 by omega), Bool.and_false]
      exact ⟨rfl, rfl⟩
    · rw [decide_eq_false he2]
      exact ⟨rfl, rfl⟩
theorem kt_sk_of (hr : xr X = xr Y) (h : kt_ev X Y) (hn : xn Y ≤ 60) (hK : kS (xK X t) = kS (xK Y t)) : kt_sk X Y t := by
  have hk := (kS_eq _ _).mp hK
  have h1 := h.1
  refine ⟨hr, fun e he => ?_, fun e he he2 => ?_⟩
  · have := hk e (by omega)
    unfold xK at this
    rw [decide_eq_true he, decide_eq_true (show e < xn Y by omega), Bool.true_and, Bool.true_and] at this
    exact this.symm
  · have := hk e (by omega)
    unfold xK at this
    rw [decide_eq_false (show ¬ e < xn X by omega), decide_eq_true he2, Bool.true_and, Bool.false_and] at this
    exact this.symm
/-- towns that aren't there know nothing -/
theorem xk_none (hW : kt_wf X) {e : Nat} (ht : xT X ≤ t) (ht5 : t < 5) (he : e < xn X) : xk X t e = false := by
  rw [kt_xkb ht5]
  have h1 := (hW.2.2.2.2.2.1 e he).2.2.2.2.2.2.2.1.2
  exact Nat.testBit_lt_two_pow (Nat.lt_of_lt_of_le h1 (Nat.pow_le_pow_right (by decide) ht))
theorem xac_none (hW : kt_wf X) (ht : xT X ≤ t) (ht5 : t < 5) (e : Nat) : xac X t e = false ∧ xRf X t e = false ∧ xK X t e = false := by
  unfold xac xRf xK
  by_cases he : e < xn X
  · have hkn := fun q => xga_kn (X := X) (t := t) 6 e q
    rw [xk_none hW ht ht5 he] at hkn ⊢
    have h0 : ¬ xst X t e ≤ 1 := fun q => absurd (hkn q) (by decide)
    rw [decide_eq_false (show ¬ xst X t e = 0 by omega), decide_eq_false (show ¬ xst X t e = 1 by omega), Bool.and_false]
    exact ⟨rfl, rfl, rfl⟩
  · rw [decide_eq_false he]
    exact ⟨rfl, rfl, rfl⟩
end SK
/-! which apologies are made -/
theorem xae_bit {a s : Nat → Bool} {t : Nat} {X : kt_X} (u e : Nat) : ∀ k, (xe (xae a s t k X).1 e 8).testBit u = ((xe X e 8).testBit u || (decide (u = t) && decide (e < k) && a e && s e))
  | 0 => by simp [xae]
  | k + 1 => by
    have ih := xae_bit (a := a) (s := s) (t := t) (X := X) u e k
    have ihk : u = t → e = k → (xe (xae a s t k X).1 k 8).testBit t = (xe X k 8).testBit t := by
      rintro rfl rfl
      rw [ih]; simp
    unfold xae
    split
    · rename_i hc
      rw [xso_e]
      by_cases he : e = k
      · subst he
        rw [if_pos ⟨rfl, rfl⟩, Nat.testBit_or, ih, Nat.testBit_two_pow, hc.1, hc.2.1]
        by_cases hu : u = t
        · subst hu; simp
        · rw [decide_eq_false hu, decide_eq_false (show ¬ t = u from fun q => hu q.symm)]; simp
      · rw [if_neg (fun q => he q.1), ih]
        have h2 : decide (e < k + 1) = decide (e < k) := by
          by_cases hk : e < k
          · rw [decide_eq_true hk, decide_eq_true (show e < k + 1 by omega)]
          · rw [decide_eq_false hk, decide_eq_false (show ¬ e < k + 1 by omega)]
        rw [h2]
    · rename_i hc
      rw [ih]
      by_cases he : e = k
      · subst he
        rw [decide_eq_false (show ¬ e < e by omega), decide_eq_true (show e < e + 1 by omega)]
        by_cases hu : u = t
        · subst hu
          rw [ihk rfl rfl] at hc
          cases ha : a e <;> cases hs : s e <;> cases hb : (xe X e 8).testBit u <;> simp [ha, hs, hb] at hc ⊢
        · rw [decide_eq_false hu]; simp
      · have h2 : decide (e < k + 1) = decide (e < k) := by
          by_cases hk : e < k
          · rw [decide_eq_true hk, decide_eq_true (show e < k + 1 by omega)]
          · rw [decide_eq_false hk, decide_eq_false (show ¬ e < k + 1 by omega)]
        rw [h2]
theorem xat_bit {ac : Nat → Nat → Bool} {X : kt_X} (u e : Nat) : ∀ T, (xe (xat ac T X).1 e 8).testBit u = ((xe X e 8).testBit u || (decide (u < T) && decide (e < xn X) && ac u e && decide (xst X u e = 1)))
  | 0 => by simp [xat]
  | T + 1 => by
    show (xe (xae (ac T) (fun e => decide (xst X T e = 1)) T (xn X) (xat ac T X).1).1 e 8).testBit u = _
    rw [xae_bit, xat_bit u e T]
    by_cases hu : u = T
    · subst hu
      rw [decide_eq_true rfl, decide_eq_false (show ¬ u < u by omega), decide_eq_true (show u < u + 1 by omega)]
      simp
    · rw [decide_eq_false hu]
      by_cases h : u < T
      · rw [decide_eq_true h, decide_eq_true (show u < T + 1 by omega)]; simp
      · rw [decide_eq_false h, decide_eq_false (show ¬ u < T + 1 by omega)]; simp
section AP
variable {X Y : kt_X} {t : Nat}
theorem kt_apo7 (X Y : kt_X) : kt_e7 Y (xapo X Y) := xat_7 (xT Y)
theorem xac_apo : xac (xapo X Y) t = xac Y t := by
  funext e
  unfold xac
  rw [xst_7 (kt_apo7 X Y), (kt_apo7 X Y).2.2.1]
theorem xRf_apo : xRf (xapo X Y) t = xRf Y t := by
  funext e
  unfold xRf
  rw [xst_7 (kt_apo7 X Y), (kt_apo7 X Y).2.2.1]
theorem xK_apo : xK (xapo X Y) t = xK Y t := by
  funext e
  unfold xK
  rw [xk_7 (kt_apo7 X Y), (kt_apo7 X Y).2.2.1]
theorem xSy_apo (e : Nat) : xSy (xapo X Y) t e = (xSy Y t e || (decide (t < xT Y) && (xac X t e && xRf Y t e))) := by
  unfold xSy
  rw [(kt_apo7 X Y).2.2.1, show xe (xapo X Y) e 8 = xe (xat (xac X) (xT Y) Y).1 e 8 from rfl, xat_bit]
  unfold xRf
  cases decide (e < xn Y) <;> cases decide (t < xT Y) <;> cases xac X t e <;> cases decide (xst Y t e = 1) <;> simp
end AP
