/-! states stay in bounds -/
theorem kt_wf_new {X : kt_X} (h : kt_wf X) {t kd gd pi pe wh : Nat} (ht : t < xT X) (hn : xn X < 60) (hk : kd < 3) (hg : gd < 6) (hp : 1 ≤ pi ∧ pi ≤ 99) (hpe : (kd = 0 → pe = 0) ∧ (kd ≠ 0 → 1 ≤ pe) ∧ pe ≤ 10)
    (hw : (kd ≠ 2 → wh = 0) ∧ (kd = 2 → 1 ≤ wh ∧ wh ≤ xn X ∧ xe X (wh - 1) 0 = 1 ∧ (xe X (wh - 1) 7).testBit t = true)) : kt_wf (xnew X t kd gd pi pe wh) := by
  obtain ⟨h1, h2, h3, h4, h5, h6, h7⟩ := h
  have hE : ∀ e f, xe (xnew X t kd gd pi pe wh) e f = if e = xn X then xnv X t kd gd pi pe wh f else xe X e f := fun _ _ => rfl
  have hC : ∀ t', xc (xnew X t kd gd pi pe wh) t' = xup (xc X) t (xc X t + 1) t' := fun _ => rfl
  have hN : xn (xnew X t kd gd pi pe wh) = xn X + 1 := rfl
  have hT : xT (xnew X t kd gd pi pe wh) = xT X := rfl
  have hR : xr (xnew X t kd gd pi pe wh) = xr X := rfl
  have hup : ∀ t', xc X t' ≤ xup (xc X) t (xc X t + 1) t' := by
    intro t'
    by_cases hc : t' = t
    · subst hc; rw [xup_eq]; omega
    · rw [xup_ne _ _ hc]; exact Nat.le_refl _
  refine ⟨by rw [hR]; exact h1, by rw [hT]; exact h2, by rw [hN]; omega, fun t' => ?_, fun t' ht' => ?_, fun e he => ?_, fun e f hef hf => ?_⟩
  · rw [hC, hN]
    by_cases hc : t' = t
    · subst hc; rw [xup_eq]; have := h4 t'; omega
    · rw [xup_ne _ _ hc]; have := h4 t'; omega
  · rw [hC, xup_ne _ _ (by rw [hT] at ht'; omega)]
    rw [hT] at ht'
    exact h5 t' ht'
  · rw [hN] at he
    unfold kt_ew
    by_cases hc : e = xn X
    · subst hc
      simp only [hE, if_pos rfl, hT, hC]
      refine ⟨hk, ht, ⟨?_, ?_⟩, hg, hp, hpe, ⟨hw.1, fun q => ?_⟩, ⟨Nat.two_pow_pos t, Nat.pow_lt_pow_right (by decide) ht⟩, Nat.two_pow_pos _⟩
      · show 1 ≤ xc X t + 1; omega
      · show xc X t + 1 ≤ xup (xc X) t (xc X t + 1) t; rw [xup_eq]; exact Nat.le_refl _
      · obtain ⟨g1, g2, g3, g4⟩ := hw.2 q
        refine ⟨g1, g2, ?_, fun t' ht' => ?_⟩
        · show (if wh - 1 = xn X then _ else _) = 1
          rw [if_neg (by omega)]
          exact g3
        · show (if wh - 1 = xn X then _ else xe X (wh - 1) 7).testBit t' = true
          rw [if_neg (by omega)]
          have ht2 : (2 ^ t).testBit t' = true := ht'
          rw [Nat.testBit_two_pow] at ht2
          have := of_decide_eq_true ht2
          subst this
          exact g4
    · have h9 := h6 e (by omega)
      unfold kt_ew at h9
      simp only [hE, if_neg hc, hT, hC]
      refine ⟨h9.1, h9.2.1, ⟨h9.2.2.1.1, Nat.le_trans h9.2.2.1.2 (hup _)⟩, h9.2.2.2.1, h9.2.2.2.2.1, h9.2.2.2.2.2.1, ⟨h9.2.2.2.2.2.2.1.1, fun q => ?_⟩, h9.2.2.2.2.2.2.2.1, h9.2.2.2.2.2.2.2.2⟩
      obtain ⟨g1, g2, g3, g4⟩ := h9.2.2.2.2.2.2.1.2 q
      rw [if_neg (by omega), if_neg (by omega)]
      exact ⟨g1, g2, g3, g4⟩
  · rw [hN] at hf
    by_cases hc : f = xn X
    · subst hc
      rw [hE, hE, hE, hE, if_neg (by omega), if_pos rfl, if_neg (by omega), if_pos rfl]
      intro hq
      have h8 := (h6 e (by omega)).2.2.1.2
      have hq2 : xe X e 1 = t := hq
      rw [hq2] at h8
      show xe X e 2 < xc X t + 1
      omega
    · rw [hE, hE, hE, hE, if_neg (by omega), if_neg hc, if_neg (by omega), if_neg hc]
      exact h7 e f hef (by omega)
theorem xhm_bit (bo : Bool) (a b M t : Nat) : (xhm bo a b M).testBit t = (M.testBit t || (decide (a = t) && M.testBit b) || (bo && decide (b = t) && M.testBit a)) := by
  unfold xhm
  rw [Nat.testBit_or]
  by_cases h1 : a = t
  · subst h1
    by_cases h2 : b = a
    · subst h2
      cases hb : M.testBit b <;> cases bo <;> simp [hb]
    · cases hb : M.testBit b <;> cases ha : M.testBit a <;> cases bo <;> simp [hb, ha, h2, Nat.testBit_or, Nat.testBit_two_pow]
  · by_cases h2 : b = t
    · subst h2
      cases hb : M.testBit b <;> cases ha : M.testBit a <;> cases bo <;> simp [hb, ha, h1, Nat.testBit_or, Nat.testBit_two_pow]
    · cases hb : M.testBit b <;> cases ha : M.testBit a <;> cases bo <;> simp [hb, ha, h1, h2, Nat.testBit_or, Nat.testBit_two_pow]
theorem xhm_le (bo : Bool) (a b M : Nat) : M ≤ xhm bo a b M := by
  unfold xhm
  refine Nat.le_trans ?_ Nat.left_le_or
  split
  · exact Nat.left_le_or
  · exact Nat.le_refl _
theorem xhm_lt2 {bo : Bool} {a b M T : Nat} (ha : a < T) (hb : b < T) (hM : M < 2 ^ T) : xhm bo a b M < 2 ^ T := by
  unfold xhm
  have h1 : (2 : Nat) ^ a < 2 ^ T := Nat.pow_lt_pow_right (by decide) ha
  have h2 : (2 : Nat) ^ b < 2 ^ T := Nat.pow_lt_pow_right (by decide) hb
  refine Nat.or_lt_two_pow ?_ ?_
  · split
    · exact Nat.or_lt_two_pow hM h1
    · exact hM
  · split
    · exact h2
    · exact Nat.two_pow_pos T
theorem xhear_e (bo : Bool) (a b : Nat) (X : kt_X) (e f : Nat) : xe (xhear bo a b X) e f = if f = 7 ∧ e < xn X then xhm bo a b (xe X e 7) else xe X e f := rfl
theorem xhear_c (bo : Bool) (a b : Nat) (X : kt_X) (t : Nat) : xc (xhear bo a b X) t = xup (xup (xc X) a (if xc X b < xc X a then xc X a else xc X b)) b (if bo = true then (if xc X b < xc X a then xc X a else xc X b) else xc X b) t := rfl
theorem xhear_ge (bo : Bool) (a b : Nat) (X : kt_X) (t : Nat) : xc X t ≤ xc (xhear bo a b X) t := by
  rw [xhear_c]
  by_cases h2 : t = b
  · subst h2
    rw [xup_eq]
    split
    · split <;> omega
    · exact Nat.le_refl _
  · rw [xup_ne _ _ h2]
    by_cases h1 : t = a
    · subst h1
      rw [xup_eq]
      split <;> omega
    · rw [xup_ne _ _ h1]; exact Nat.le_refl _
theorem kt_wf_hear {X : kt_X} (h : kt_wf X) {a b : Nat} (bo : Bool) (ha : a < xT X) (hb : b < xT X) : kt_wf (xhear bo a b X) := by
  obtain ⟨h1, h2, h3, h4, h5, h6, h7⟩ := h
  have hN : xn (xhear bo a b X) = xn X := rfl
  have hT : xT (xhear bo a b X) = xT X := rfl
  have hR : xr (xhear bo a b X) = xr X := rfl
  have hl : (if xc X b < xc X a then xc X a else xc X b) ≤ xn X := by split; exact h4 a; exact h4 b
  refine ⟨by rw [hR]; exact h1, by rw [hT]; exact h2, by rw [hN]; exact h3, fun t => ?_, fun t ht => ?_, fun e he => ?_, fun e f hef hf => ?_⟩
  · rw [hN, xhear_c]
    by_cases g2 : t = b
    · subst g2
      rw [xup_eq]
      by_cases hbo : bo = true
      · rw [if_pos hbo]; exact hl
      · rw [if_neg hbo]; exact h4 _
    · rw [xup_ne _ _ g2]
      by_cases g1 : t = a
      · subst g1; rw [xup_eq]; exact hl
      · rw [xup_ne _ _ g1]; exact h4 t
  · rw [hT] at ht
    rw [xhear_c, xup_ne _ _ (by omega), xup_ne _ _ (by omega)]
    exact h5 t ht
  · rw [hN] at he
    have h9 := h6 e he
    unfold kt_ew at h9 ⊢
    have r : ∀ e f, f ≠ 7 → xe (xhear bo a b X) e f = xe X e f := fun e f hf => by rw [xhear_e, if_neg (fun q => hf q.1)]
    simp only [r _ 0 (by decide), r _ 1 (by decide), r _ 2 (by decide), r _ 3 (by decide), r _ 4 (by decide), r _ 5 (by decide), r _ 6 (by decide), r _ 8 (by decide), hT]
    refine ⟨h9.1, h9.2.1, ⟨h9.2.2.1.1, Nat.le_trans h9.2.2.1.2 (xhear_ge _ _ _ _ _)⟩, h9.2.2.2.1, h9.2.2.2.2.1, h9.2.2.2.2.2.1, ⟨h9.2.2.2.2.2.2.1.1, fun q => ?_⟩, ⟨?_, ?_⟩, h9.2.2.2.2.2.2.2.2⟩
    · obtain ⟨g1, g2, g3, g4⟩ := h9.2.2.2.2.2.2.1.2 q
      refine ⟨g1, g2, g3, fun t ht => ?_⟩
      rw [xhear_e, if_pos ⟨rfl, he⟩, xhm_bit] at ht
      rw [xhear_e, if_pos ⟨rfl, by omega⟩, xhm_bit]
      have g4a := g4 a
      have g4b := g4 b
      have g4t := g4 t
      cases hx : (xe X e 7).testBit t <;> cases hxa : (xe X e 7).testBit a <;> cases hxb : (xe X e 7).testBit b <;> (try simp_all) <;> (try (rcases ht with h | h; exact Or.inl (Or.inr h); exact Or.inr h))
    · rw [xhear_e, if_pos ⟨rfl, he⟩]
      exact Nat.le_trans h9.2.2.2.2.2.2.2.1.1 (xhm_le _ _ _ _)
    · rw [xhear_e, if_pos ⟨rfl, he⟩]
      exact xhm_lt2 ha hb h9.2.2.2.2.2.2.2.1.2
  · rw [hN] at hf
    have r : ∀ e f, f ≠ 7 → xe (xhear bo a b X) e f = xe X e f := fun e f hf => by rw [xhear_e, if_neg (fun q => hf q.1)]
    rw [r e 1 (by decide), r f 1 (by decide), r e 2 (by decide), r f 2 (by decide)]
    exact h7 e f hef hf
def xrul (X : kt_X) (r : Nat) : kt_X := (r, xT X, xn X, xc X, xe X)
theorem kt_wf_rule {X : kt_X} (h : kt_wf X) {r : Nat} (hr : r < 3) : kt_wf (xrul X r) := ⟨hr, h.2⟩
def xtow (X : kt_X) : kt_X := (xr X, xT X + 1, xn X, xc X, xe X)
theorem kt_wf_town {X : kt_X} (h : kt_wf X) (ht : xT X < 5) : kt_wf (xtow X) := by
  obtain ⟨h1, h2, h3, h4, h5, h6, h7⟩ := h
  have hp : (2 : Nat) ^ xT X < 2 ^ (xT X + 1) := Nat.pow_lt_pow_right (by decide) (Nat.lt_succ_self _)
  refine ⟨h1, ht, h3, h4, fun t ht' => h5 t (Nat.le_of_succ_le ht'), fun e he => ?_, h7⟩
  have h9 := h6 e he
  unfold kt_ew at h9 ⊢
  have g1 : xe X e 1 < xT X := h9.2.1
  have g7 := h9.2.2.2.2.2.2.2.1
  have g8 := h9.2.2.2.2.2.2.2.2
  refine ⟨h9.1, ?_, h9.2.2.1, h9.2.2.2.1, h9.2.2.2.2.1, h9.2.2.2.2.2.1, h9.2.2.2.2.2.2.1, ⟨g7.1, ?_⟩, ?_⟩
  · show xe X e 1 < xT X + 1; omega
  · show xe X e 7 < 2 ^ (xT X + 1); omega
  · show xe X e 8 < 2 ^ (xT X + 1); omega
theorem kt_wf_apo {X Y : kt_X} (h : kt_wf Y) : kt_wf (xapo X Y) := xat_wf h (Nat.le_refl _)
/-! arguments in range -/
def vT (T : Nat) (v : Int32) : Prop := ∃ t, t < T ∧ v = nI t
def vR (lo hi : Nat) (v : Int32) : Prop := ∃ g, lo ≤ g ∧ g ≤ hi ∧ v = nI g
theorem kt_isT {T : Nat} (hT : T < 2147483648) {v : Int32} : (0 ≤ v ∧ v < nI T) ↔ vT T v := by
  constructor
  · rintro ⟨h1, h2⟩
    obtain ⟨j, hj, rfl⟩ := nI_of (Int32.not_lt.mpr h1)
    exact ⟨j, (nI_ltI hj (kt_p31 hT)).mp h2, rfl⟩
  · rintro ⟨t, ht, rfl⟩
    exact ⟨nI_pos' (kt_p31 (by omega)), (nI_ltI (kt_p31 (by omega)) (kt_p31 hT)).mpr ht⟩
theorem kt_isR {lo hi : Nat} (hh : hi < 2147483648) (hl : lo ≤ hi) {v : Int32} : (nI lo ≤ v ∧ v ≤ nI hi) ↔ vR lo hi v := by
  constructor
  · rintro ⟨h1, h2⟩
    have h0 : ¬ v < 0 := fun q => by
      have h3 : nI lo < 0 := by
        rcases Int32.le_iff_lt_or_eq.mp h1 with h4 | h4
        · exact Int32.lt_trans h4 q
        · rw [h4]; exact q
      exact nI_pos (kt_p31 (by omega)) h3
    obtain ⟨j, hj, rfl⟩ := nI_of h0
    exact ⟨j, (nI_leI (kt_p31 (by omega)) hj).mp h1, (nI_leI hj (kt_p31 hh)).mp h2, rfl⟩
  · rintro ⟨g, h1, h2, rfl⟩
    exact ⟨(nI_leI (kt_p31 (by omega)) (kt_p31 (by omega))).mpr h1, (nI_leI (kt_p31 (by omega)) (kt_p31 hh)).mpr h2⟩
