/-! the class: what a country is asked -/
theorem xct_60 {f : Nat → Bool} {n : Nat} (hn : n ≤ 60) : xct (fun e => decide (e < n) && f e) 60 = xct f n := by
  have h : ∀ d, xct (fun e => decide (e < n) && f e) (n + d) = xct f n := by
    intro d
    rw [xct_sh]
    have h1 : xct (fun e => decide (e < n) && f e) n = xct f n := xct_cg n (fun e he => by simp [he])
    have h2 : xct (fun j => decide (n + j < n) && f (n + j)) d = 0 := by
      have h3 : ∀ d, xct (fun j => decide (n + j < n) && f (n + j)) d = 0 := by
        intro d
        induction d with
        | zero => rfl
        | succ d ih => unfold xct; rw [ih, decide_eq_false (by omega)]; rfl
      exact h3 d
    rw [h1, h2]; rfl
  have := h (60 - n)
  rw [show n + (60 - n) = 60 by omega] at this
  exact this
theorem nS_of {M T : Nat} (h : M < 2 ^ T) : nS (fun t => M.testBit t) T = M := by
  apply Nat.eq_of_testBit_eq
  intro i
  rw [nS_bit]
  by_cases hi : i < T
  · simp [hi]
  · have h2 : M < 2 ^ i := Nat.lt_of_lt_of_le h (Nat.pow_le_pow_right (by decide) (by omega))
    rw [Nat.testBit_lt_two_pow h2]
    simp [hi]
theorem xsame_e {X : kt_X} {t t' : Nat} : ∀ n, xsame X t t' n = true ↔ ∀ e, e < n → xk X t' e = xk X t e
  | 0 => ⟨fun _ e he => absurd he (Nat.not_lt_zero e), fun _ => rfl⟩
  | n + 1 => by
    show (xsame X t t' n && (xk X t' n == xk X t n)) = true ↔ _
    rw [Bool.and_eq_true, xsame_e n, beq_iff_eq]
    constructor
    · rintro ⟨h1, h2⟩ e he
      by_cases hen : e = n
      · rw [hen]; exact h2
      · exact h1 e (by omega)
    · intro h
      exact ⟨fun e he => h e (by omega), h n (by omega)⟩
theorem xK_same {X : kt_X} (hW : kt_wf X) {t t' : Nat} : kS (xK X t') = kS (xK X t) ↔ xsame X t t' (xn X) = true := by
  have hn := hW.2.2.1
  rw [kS_eq, xsame_e]
  constructor
  · intro h e he
    have := h e (by omega)
    unfold xK at this
    rw [decide_eq_true he] at this
    simpa using this
  · intro h e _
    unfold xK
    by_cases he : e < xn X
    · rw [h e he]
    · rw [decide_eq_false he]; rfl
theorem xlike_nS (X : kt_X) (t : Nat) : ∀ n, xlike X t n = nS (fun t' => xsame X t t' (xn X)) n
  | 0 => rfl
  | n + 1 => by
    unfold xlike nS
    rw [xlike_nS X t n]
/-- known by the first k towns -/
def xka (X : kt_X) : Nat → Nat → Bool
  | 0, e => decide (e < xn X)
  | t + 1, e => xka X t e && xK X t e
section CQ
variable {P : kt_P} {N : Nat} {I : kt_I} {J : kt_J} {R : kt_R} {Q : Option Value → kt_I → kt_J → kt_R → Prop} {lo c : Nat} {X : kt_X}
theorem s_C_isTown (hC : kt_isC P N R lo c) {T : Nat} (hT : I c 2 = nI T) {v : Int32} (k : Q (some (.int (kt_bo (decide (0 ≤ v ∧ v < nI T))))) I J R) : KW P i_C_isTown N 0 [some (.ref c), some (.int v)] [] N I J R Q := by
  refine kw_ild_n x_C_isTown_0 rfl ?_
  refine kw_ald_n x_C_isTown_1 rfl ?_
  refine kw_gi_e x_C_isTown_2 (by exact isC_k hC) (by first | exact hT | exact rfl) ?_
  refine c_C_isTown_5 (Nat.le_of_ble_eq_true rfl) ?_
  refine s_K_isBelow ?_
  first | refine kw_zret_b x_C_isTown_8 ?_ | refine kw_zret_b (b := true) x_C_isTown_8 ?_ | refine kw_zret_b (b := false) x_C_isTown_8 ?_
  exact k
theorem s_C_newsFor (hC : kt_isC P N R lo c) {F : Nat → Nat → Bool} (hF : ∀ t, t < 5 → J (c + 13) t = kS (F t)) {t : Nat} (ht : t < 5) {S : Nat → Bool} (k : Q (some (.int (nI (xct (fun e => S e && !F t e) 60)))) I J R) : KW P i_C_newsFor N 0 [some (.ref c), some (.int (nI t)), some (.long (kS S)), none] [] N I J R Q := by
  refine kw_lld_n x_C_newsFor_0 rfl ?_
  refine kw_ald_n x_C_newsFor_1 rfl ?_
  refine kw_gr x_C_newsFor_2 (by exact isC_k hC) (by exact isC_r5 hC) ?_
  refine kw_ild_n x_C_newsFor_5 rfl ?_
  refine kw_lald_n x_C_newsFor_6 (by first | exact isC_a13 hC | exact isC_a14 hC | exact isC_a15 hC | exact isC_a16 hC | exact isC_a17 hC) (by omega) (by omega) (by first | exact hF _ (by omega) | exact rfl) ?_
  refine kw_ldc2 x_C_newsFor_7 ?_
  refine kw_lxor x_C_newsFor_10 ?_
  refine kw_land x_C_newsFor_11 ?_
  rw [kS_dif]
  refine c_C_newsFor_12 (Nat.le_of_ble_eq_true rfl) ?_
  refine s_J_bitCount ?_
  refine kw_iret x_C_newsFor_15 ?_
  exact k
theorem s_C_townsWith (hC : kt_isC P N R lo c) {T : Nat} (hT : I c 2 = nI T) (hT5 : T ≤ 5) {a : Nat} (ha : kt_kd P N a = (7, 5)) {F : Nat → Nat → Bool} (hF : ∀ t, t < 5 → J a t = kS (F t)) {e : Nat} (he : e < 60) (k : Q (some (.int (nI (nS (fun t => F t e) T)))) I J R) : KW P i_C_townsWith N 0 [some (.ref c), some (.ref a), some (.int (nI e)), none, none] [] N I J R Q := by
  have loop : ∀ (d t s : Nat), t + d = T → s = nS (fun t => F t e) t → KW P i_C_townsWith N 5 [some (.ref c), some (.ref a), some (.int (nI e)), some (.int (nI s)), some (.int (nI t))] [] N I J R Q := by
    intro d
    induction d with
    | zero =>
      intro t s h1 h2
      have h3 : t = T := by omega
      subst h3; subst h2
      refine kw_ild x_C_townsWith_5 rfl ?_
      refine kw_ald_n x_C_townsWith_7 rfl ?_
      refine kw_gi_e x_C_townsWith_8 (by exact isC_k hC) (by first | exact hT | exact hF _ (by omega) | exact rfl) ?_
      first | refine kw_ic_ge_n x_C_townsWith_11 ⟨by omega, by omega⟩ (fun h11 => ?_) (fun h11 => ?_) | refine kw_ic_ge x_C_townsWith_11 (fun h11 => ?_) (fun h11 => ?_)
      · first
        | exfalso; omega
        | skip
          refine kw_ild_n x_C_townsWith_38 rfl ?_
          refine kw_iret x_C_townsWith_39 ?_
          exact k
      · first
        | exfalso; omega
        | skip
          skip
    | succ d ih =>
      intro t s h1 h2
      have hs : s < 32 := by
        rw [h2]
        have h3 := nS_lt (fun t => F t e) t
        have h4 : (2 : Nat) ^ t ≤ 2 ^ 5 := Nat.pow_le_pow_right (by decide) (by omega)
        omega
      refine kw_ild x_C_townsWith_5 rfl ?_
      refine kw_ald_n x_C_townsWith_7 rfl ?_
      refine kw_gi_e x_C_townsWith_8 (by exact isC_k hC) (by first | exact hT | exact hF _ (by omega) | exact rfl) ?_
      first | refine kw_ic_ge_n x_C_townsWith_11 ⟨by omega, by omega⟩ (fun h11 => ?_) (fun h11 => ?_) | refine kw_ic_ge x_C_townsWith_11 (fun h11 => ?_) (fun h11 => ?_)
      · first
        | exfalso; omega
        | skip
          skip
      · first
        | exfalso; omega
        | skip
          refine kw_ald_n x_C_townsWith_14 rfl ?_
          refine kw_ild x_C_townsWith_15 rfl ?_
          refine kw_lald_n x_C_townsWith_17 (by first | exact isC_a13 hC | exact isC_a14 hC | exact isC_a15 hC | exact isC_a16 hC | exact isC_a17 hC | exact ha) (by omega) (by omega) (by first | exact hT | exact hF _ (by omega) | exact rfl) ?_
          refine kw_ild_n x_C_townsWith_18 rfl ?_
          refine c_C_townsWith_19 (Nat.le_of_ble_eq_true rfl) ?_
          refine s_K_has (by omega) ?_
          first | refine kw_if_eq_b x_C_townsWith_22 (fun h22 => ?_) (fun h22 => ?_) | refine kw_if_eq_n x_C_townsWith_22 (by omega) (fun h22 => ?_) (fun h22 => ?_) | refine kw_if_eq x_C_townsWith_22 (fun h22 => ?_) (fun h22 => ?_)
          · first
            | exfalso; omega
            | skip
              first | refine kw_iinc_n x_C_townsWith_32 (by decide) rfl ?_ | refine kw_iinc x_C_townsWith_32 (by decide) rfl ?_
              refine kw_goto x_C_townsWith_35 ?_
              refine ih (t + 1) _ (by omega) ?_
              rw [h2, nS]
              first
                | rw [if_pos h22]
                | (rw [if_neg (by rw [h22]; decide)]; exact (Nat.or_zero _).symm)
          · first
            | exfalso; omega
            | skip
              refine kw_ild_n x_C_townsWith_25 rfl ?_
              refine kw_icon x_C_townsWith_26 ?_
              refine kw_ild x_C_townsWith_27 rfl ?_
              refine kw_ishl x_C_townsWith_29 ?_
              refine kw_ior x_C_townsWith_30 ?_
              rw [kt_or _ hs t (by omega)]
              refine kw_ist_n x_C_townsWith_31 (by decide) ?_
              first | refine kw_iinc_n x_C_townsWith_32 (by decide) rfl ?_ | refine kw_iinc x_C_townsWith_32 (by decide) rfl ?_
              refine kw_goto x_C_townsWith_35 ?_
              refine ih (t + 1) _ (by omega) ?_
              rw [h2, nS]
              first
                | rw [if_pos h22]
                | (rw [if_neg (by rw [h22]; decide)]; exact (Nat.or_zero _).symm)
  refine kw_icon x_C_townsWith_0 ?_
  refine kw_ist_n x_C_townsWith_1 (by decide) ?_
  refine kw_icon x_C_townsWith_2 ?_
  refine kw_ist x_C_townsWith_3 (by decide) ?_
  exact loop T 0 0 (by omega) rfl
theorem s_C_townsThatKnow (hC : kt_isC P N R lo c) (hB : kt_B c X I J) (hW : kt_wf X) {t0 : Nat} (k : Q (some (.int (nI (xlike X t0 (xT X))))) I J R) : KW P i_C_townsThatKnow N 0 [some (.ref c), some (.long (kS (xK X t0))), none, none, none] [] N I J R Q := by
  have hT5 := hW.2.1
  obtain ⟨hV, b2, b3, b9, b10, b13⟩ := hB
  have loop : ∀ (d t : Nat), t + d = xT X → KW P i_C_townsThatKnow N 5 [some (.ref c), some (.long (kS (xK X t0))), none, some (.int (nI (xlike X t0 t))), some (.int (nI t))] [] N I J R Q := by
    intro d
    induction d with
    | zero =>
      intro t h1
      have h3 : t = xT X := by omega
      subst h3
      refine kw_ild x_C_townsThatKnow_5 rfl ?_
      refine kw_ald_n x_C_townsThatKnow_7 rfl ?_
      refine kw_gi_e x_C_townsThatKnow_8 (by exact isC_k hC) (by first | exact b2 | exact b10 _ (by omega) | exact rfl) ?_
      first | refine kw_ic_ge_n x_C_townsThatKnow_11 ⟨by omega, by omega⟩ (fun h11 => ?_) (fun h11 => ?_) | refine kw_ic_ge x_C_townsThatKnow_11 (fun h11 => ?_) (fun h11 => ?_)
      · first
        | exfalso; omega
        | skip
          refine kw_ild_n x_C_townsThatKnow_39 rfl ?_
          refine kw_iret x_C_townsThatKnow_40 ?_
          exact k
      · first
        | exfalso; omega
        | skip
          skip
    | succ d ih =>
      intro t h1
      have hs : xlike X t0 t < 32 := by
        have h3 := xlike_lt X t0 t
        have h4 : (2 : Nat) ^ t ≤ 2 ^ 5 := Nat.pow_le_pow_right (by decide) (by omega)
        omega
      refine kw_ild x_C_townsThatKnow_5 rfl ?_
      refine kw_ald_n x_C_townsThatKnow_7 rfl ?_
      refine kw_gi_e x_C_townsThatKnow_8 (by exact isC_k hC) (by first | exact b2 | exact b10 _ (by omega) | exact rfl) ?_
      first | refine kw_ic_ge_n x_C_townsThatKnow_11 ⟨by omega, by omega⟩ (fun h11 => ?_) (fun h11 => ?_) | refine kw_ic_ge x_C_townsThatKnow_11 (fun h11 => ?_) (fun h11 => ?_)
      · first
        | exfalso; omega
        | skip
          skip
      · first
        | exfalso; omega
        | skip
          refine kw_ald_n x_C_townsThatKnow_14 rfl ?_
          refine kw_gr x_C_townsThatKnow_15 (by exact isC_k hC) (by exact isC_r5 hC) ?_
          refine kw_ild x_C_townsThatKnow_18 rfl ?_
          refine kw_lald_n x_C_townsThatKnow_20 (by first | exact isC_a13 hC | exact isC_a14 hC | exact isC_a15 hC | exact isC_a16 hC | exact isC_a17 hC) (by omega) (by omega) (by first | exact b2 | exact b10 _ (by omega) | exact rfl) ?_
          refine kw_lld_n x_C_townsThatKnow_21 rfl ?_
          refine kw_lcmp x_C_townsThatKnow_22 ?_
          first | refine kw_if_ne_b x_C_townsThatKnow_23 (fun h23 => ?_) (fun h23 => ?_) | refine kw_if_ne_s x_C_townsThatKnow_23 ⟨by omega, by omega⟩ (fun h23 => ?_) (fun h23 => ?_) | refine kw_if_ne_n x_C_townsThatKnow_23 (by omega) (fun h23 => ?_) (fun h23 => ?_) | refine kw_if_ne x_C_townsThatKnow_23 (fun h23 => ?_) (fun h23 => ?_)
          · first
            | exfalso; omega
            | skip
              first | refine kw_iinc_n x_C_townsThatKnow_33 (by decide) rfl ?_ | refine kw_iinc x_C_townsThatKnow_33 (by decide) rfl ?_
              refine kw_goto x_C_townsThatKnow_36 ?_
              first
                | (have h9 : xlike X t0 t ||| 2 ^ t = xlike X t0 (t + 1) := by rw [xlike, if_pos ((xK_same hW).mp (kt_lg0.mp h23))]
                   rw [h9]
                   exact ih (t + 1) (by omega))
                | (have h9 : xlike X t0 t = xlike X t0 (t + 1) := by rw [xlike, if_neg (fun q => h23 (kt_lg0.mpr ((xK_same hW).mpr q)))]; exact (Nat.or_zero _).symm
                   rw [h9]
                   exact ih (t + 1) (by omega))
          · first
            | exfalso; omega
            | skip
              refine kw_ild_n x_C_townsThatKnow_26 rfl ?_
              refine kw_icon x_C_townsThatKnow_27 ?_
              refine kw_ild x_C_townsThatKnow_28 rfl ?_
              refine kw_ishl x_C_townsThatKnow_30 ?_
              refine kw_ior x_C_townsThatKnow_31 ?_
              rw [kt_or _ hs t (by omega)]
              refine kw_ist_n x_C_townsThatKnow_32 (by decide) ?_
              first | refine kw_iinc_n x_C_townsThatKnow_33 (by decide) rfl ?_ | refine kw_iinc x_C_townsThatKnow_33 (by decide) rfl ?_
              refine kw_goto x_C_townsThatKnow_36 ?_
              first
                | (have h9 : xlike X t0 t ||| 2 ^ t = xlike X t0 (t + 1) := by rw [xlike, if_pos ((xK_same hW).mp (kt_lg0.mp h23))]
                   rw [h9]
                   exact ih (t + 1) (by omega))
                | (have h9 : xlike X t0 t = xlike X t0 (t + 1) := by rw [xlike, if_neg (fun q => h23 (kt_lg0.mpr ((xK_same hW).mpr q)))]; exact (Nat.or_zero _).symm
                   rw [h9]
                   exact ih (t + 1) (by omega))
  refine kw_icon x_C_townsThatKnow_0 ?_
  refine kw_ist_n x_C_townsThatKnow_1 (by decide) ?_
  refine kw_icon x_C_townsThatKnow_2 ?_
  refine kw_ist x_C_townsThatKnow_3 (by decide) ?_
  exact loop (xT X) 0 (by omega)
theorem s_C_apologiesFor (hC : kt_isC P N R lo c) {T : Nat} (hT : I c 2 = nI T) (hT5 : T ≤ 5) {F : Nat → Nat → Bool} (hF : ∀ t, t < 5 → J (c + 16) t = kS (F t)) {S : Nat → Bool} (k : Q (some (.int (nI (xsm (fun t => xct (fun e => F t e && S e) 60) T)))) I J R) : KW P i_C_apologiesFor N 0 [some (.ref c), some (.long (kS S)), none, none, none] [] N I J R Q := by
  have loop : ∀ (d t s : Nat), t + d = T → s = xsm (fun t => xct (fun e => F t e && S e) 60) t → KW P i_C_apologiesFor N 5 [some (.ref c), some (.long (kS S)), none, some (.int (nI s)), some (.int (nI t))] [] N I J R Q := by
    intro d
    induction d with
    | zero =>
      intro t s h1 h2
      have h3 : t = T := by omega
      subst h3; subst h2
      refine kw_ild x_C_apologiesFor_5 rfl ?_
      refine kw_ald_n x_C_apologiesFor_7 rfl ?_
      refine kw_gi_e x_C_apologiesFor_8 (by exact isC_k hC) (by first | exact hT | exact hF _ (by omega) | exact rfl) ?_
      first | refine kw_ic_ge_n x_C_apologiesFor_11 ⟨by omega, by omega⟩ (fun h11 => ?_) (fun h11 => ?_) | refine kw_ic_ge x_C_apologiesFor_11 (fun h11 => ?_) (fun h11 => ?_)
      · first
        | exfalso; omega
        | skip
          refine kw_ild_n x_C_apologiesFor_35 rfl ?_
          refine kw_iret x_C_apologiesFor_36 ?_
          exact k
      · first
        | exfalso; omega
        | skip
          skip
    | succ d ih =>
      intro t s h1 h2
      refine kw_ild x_C_apologiesFor_5 rfl ?_
      refine kw_ald_n x_C_apologiesFor_7 rfl ?_
      refine kw_gi_e x_C_apologiesFor_8 (by exact isC_k hC) (by first | exact hT | exact hF _ (by omega) | exact rfl) ?_
      first | refine kw_ic_ge_n x_C_apologiesFor_11 ⟨by omega, by omega⟩ (fun h11 => ?_) (fun h11 => ?_) | refine kw_ic_ge x_C_apologiesFor_11 (fun h11 => ?_) (fun h11 => ?_)
      · first
        | exfalso; omega
        | skip
          skip
      · first
        | exfalso; omega
        | skip
          refine kw_ild_n x_C_apologiesFor_14 rfl ?_
          refine kw_ald_n x_C_apologiesFor_15 rfl ?_
          refine kw_gr x_C_apologiesFor_16 (by exact isC_k hC) (by exact isC_r8 hC) ?_
          refine kw_ild x_C_apologiesFor_19 rfl ?_
          refine kw_lald_n x_C_apologiesFor_21 (by first | exact isC_a13 hC | exact isC_a14 hC | exact isC_a15 hC | exact isC_a16 hC | exact isC_a17 hC) (by omega) (by omega) (by first | exact hT | exact hF _ (by omega) | exact rfl) ?_
          refine kw_lld_n x_C_apologiesFor_22 rfl ?_
          refine kw_land x_C_apologiesFor_23 ?_
          rw [kS_and]
          refine c_C_apologiesFor_24 (Nat.le_of_ble_eq_true rfl) ?_
          refine s_J_bitCount ?_
          first | refine kw_iadd_n x_C_apologiesFor_27 ?_ | refine kw_iadd x_C_apologiesFor_27 ?_
          refine kw_ist_n x_C_apologiesFor_28 (by decide) ?_
          first | refine kw_iinc_n x_C_apologiesFor_29 (by decide) rfl ?_ | refine kw_iinc x_C_apologiesFor_29 (by decide) rfl ?_
          refine kw_goto x_C_apologiesFor_32 ?_
          exact ih (t + 1) _ (by omega) (by rw [h2]; rfl)
  refine kw_icon x_C_apologiesFor_0 ?_
  refine kw_ist_n x_C_apologiesFor_1 (by decide) ?_
  refine kw_icon x_C_apologiesFor_2 ?_
  refine kw_ist x_C_apologiesFor_3 (by decide) ?_
  exact loop T 0 0 (by omega) rfl
theorem s_C_knownByAll (hC : kt_isC P N R lo c) (hB : kt_B c X I J) (hW : kt_wf X) (k : Q (some (.long (kS (xka X (xT X))))) I J R) : KW P i_C_knownByAll N 0 [some (.ref c), none, none, none] [] N I J R Q := by
  have hT5 := hW.2.1
  obtain ⟨hV, b2, b3, b9, b10, b13⟩ := hB
  have loop : ∀ (d t : Nat) (x : Int64), t + d = xT X → x = kS (xka X t) → KW P i_C_knownByAll N 10 [some (.ref c), some (.long x), none, some (.int (nI t))] [] N I J R Q := by
    intro d
    induction d with
    | zero =>
      intro t x h1 h2
      have h3 : t = xT X := by omega
      subst h3; subst h2
      refine kw_ild_n x_C_knownByAll_10 rfl ?_
      refine kw_ald_n x_C_knownByAll_11 rfl ?_
      refine kw_gi_e x_C_knownByAll_12 (by exact isC_k hC) (by first | exact b2 | exact b10 _ (by omega) | exact rfl) ?_
      first | refine kw_ic_ge_n x_C_knownByAll_15 ⟨by omega, by omega⟩ (fun h15 => ?_) (fun h15 => ?_) | refine kw_ic_ge x_C_knownByAll_15 (fun h15 => ?_) (fun h15 => ?_)
      · first
        | exfalso; omega
        | skip
          refine kw_lld_n x_C_knownByAll_33 rfl ?_
          refine kw_lret x_C_knownByAll_34 ?_
          exact k
      · first
        | exfalso; omega
        | skip
          skip
    | succ d ih =>
      intro t x h1 h2
      refine kw_ild_n x_C_knownByAll_10 rfl ?_
      refine kw_ald_n x_C_knownByAll_11 rfl ?_
      refine kw_gi_e x_C_knownByAll_12 (by exact isC_k hC) (by first | exact b2 | exact b10 _ (by omega) | exact rfl) ?_
      first | refine kw_ic_ge_n x_C_knownByAll_15 ⟨by omega, by omega⟩ (fun h15 => ?_) (fun h15 => ?_) | refine kw_ic_ge x_C_knownByAll_15 (fun h15 => ?_) (fun h15 => ?_)
      · first
        | exfalso; omega
        | skip
          skip
      · first
        | exfalso; omega
        | skip
          refine kw_lld_n x_C_knownByAll_18 rfl ?_
          refine kw_ald_n x_C_knownByAll_19 rfl ?_
          refine kw_gr x_C_knownByAll_20 (by exact isC_k hC) (by exact isC_r5 hC) ?_
          refine kw_ild_n x_C_knownByAll_23 rfl ?_
          refine kw_lald_n x_C_knownByAll_24 (by first | exact isC_a13 hC | exact isC_a14 hC | exact isC_a15 hC | exact isC_a16 hC | exact isC_a17 hC) (by omega) (by omega) (by first | exact b2 | exact b10 _ (by omega) | exact rfl) ?_
          refine kw_land x_C_knownByAll_25 ?_
          refine kw_lst_n x_C_knownByAll_26 (by decide) ?_
          first | refine kw_iinc_n x_C_knownByAll_27 (by decide) rfl ?_ | refine kw_iinc x_C_knownByAll_27 (by decide) rfl ?_
          refine kw_goto x_C_knownByAll_30 ?_
          refine ih (t + 1) _ (by omega) ?_
          rw [h2, kS_and]
          rfl
  refine kw_ald_n x_C_knownByAll_0 rfl ?_
  refine kw_gr x_C_knownByAll_1 (by exact isC_k hC) (by exact isC_r1 hC) ?_
  refine c_C_knownByAll_4 (by exact isE_k hC) (Nat.le_of_ble_eq_true rfl) ?_
  refine s_E_all hC hV hW ?_
  refine kw_lst_n x_C_knownByAll_7 (by decide) ?_
  refine kw_icon x_C_knownByAll_8 ?_
  refine kw_ist_n x_C_knownByAll_9 (by decide) ?_
  exact loop (xT X) 0 _ (by omega) rfl
theorem s_C_allKnow (hC : kt_isC P N R lo c) {T : Nat} (hT : I c 2 = nI T) (hT5 : T ≤ 5) {F : Nat → Nat → Bool} (hF : ∀ t, t < 5 → J (c + 13) t = kS (F t)) {b : Bool} (hb : b = true ↔ ∀ t, t < T → kS (F t) = kS (F 0)) (k : Q (some (.int (kt_bo b))) I J R) : KW P i_C_allKnowTheSame N 0 [some (.ref c), none] [] N I J R Q := by
  have loop : ∀ (d t : Nat), 1 ≤ t → t < 100 → (T ≤ t ∨ t + d = T) → (∀ t', t' < t → t' < T → kS (F t') = kS (F 0)) → KW P i_C_allKnowTheSame N 2 [some (.ref c), some (.int (nI t))] [] N I J R Q := by
    intro d
    induction d with
    | zero =>
      intro t h0 h00 h1 h2
      have h3 : T ≤ t := by omega
      have hbt : b = true := hb.mpr (fun t' ht' => h2 t' (by omega) ht')
      subst hbt
      have hbf := hT5
      refine kw_ild_n x_C_allKnowTheSame_2 rfl ?_
      refine kw_ald_n x_C_allKnowTheSame_3 rfl ?_
      refine kw_gi_e x_C_allKnowTheSame_4 (by exact isC_k hC) (by first | exact hT | exact hF _ (by omega) | exact rfl) ?_
      first | refine kw_ic_ge_n x_C_allKnowTheSame_7 ⟨by omega, by omega⟩ (fun h7 => ?_) (fun h7 => ?_) | refine kw_ic_ge x_C_allKnowTheSame_7 (fun h7 => ?_) (fun h7 => ?_)
      · first
        | exfalso; omega
        | skip
          refine kw_icon x_C_allKnowTheSame_34 ?_
          first | refine kw_zret_b x_C_allKnowTheSame_35 ?_ | refine kw_zret_b (b := true) x_C_allKnowTheSame_35 ?_ | refine kw_zret_b (b := false) x_C_allKnowTheSame_35 ?_
          exact k
      · first
        | exfalso; omega
        | skip
          skip
    | succ d ih =>
      intro t h0 h00 h1 h2
      by_cases h3 : T ≤ t
      · exact ih t h0 h00 (Or.inl h3) h2
      · skip
        refine kw_ild_n x_C_allKnowTheSame_2 rfl ?_
        refine kw_ald_n x_C_allKnowTheSame_3 rfl ?_
        refine kw_gi_e x_C_allKnowTheSame_4 (by exact isC_k hC) (by first | exact hT | exact hF _ (by omega) | exact rfl) ?_
        first | refine kw_ic_ge_n x_C_allKnowTheSame_7 ⟨by omega, by omega⟩ (fun h7 => ?_) (fun h7 => ?_) | refine kw_ic_ge x_C_allKnowTheSame_7 (fun h7 => ?_) (fun h7 => ?_)
        · first
          | exfalso; omega
          | skip
            skip
        · first
          | exfalso; omega
          | skip
            refine kw_ald_n x_C_allKnowTheSame_10 rfl ?_
            refine kw_gr x_C_allKnowTheSame_11 (by exact isC_k hC) (by exact isC_r5 hC) ?_
            refine kw_ild_n x_C_allKnowTheSame_14 rfl ?_
            refine kw_lald_n x_C_allKnowTheSame_15 (by first | exact isC_a13 hC | exact isC_a14 hC | exact isC_a15 hC | exact isC_a16 hC | exact isC_a17 hC) (by omega) (by omega) (by first | exact hT | exact hF _ (by omega) | exact rfl) ?_
            refine kw_ald_n x_C_allKnowTheSame_16 rfl ?_
            refine kw_gr x_C_allKnowTheSame_17 (by exact isC_k hC) (by exact isC_r5 hC) ?_
            refine kw_icon x_C_allKnowTheSame_20 ?_
            refine kw_lald_n x_C_allKnowTheSame_21 (by first | exact isC_a13 hC | exact isC_a14 hC | exact isC_a15 hC | exact isC_a16 hC | exact isC_a17 hC) (by omega) (by omega) (by first | exact hT | exact hF _ (by omega) | exact rfl) ?_
            refine kw_lcmp x_C_allKnowTheSame_22 ?_
            first | refine kw_if_eq_b x_C_allKnowTheSame_23 (fun h23 => ?_) (fun h23 => ?_) | refine kw_if_eq_n x_C_allKnowTheSame_23 (by omega) (fun h23 => ?_) (fun h23 => ?_) | refine kw_if_eq x_C_allKnowTheSame_23 (fun h23 => ?_) (fun h23 => ?_)
            · first
              | exfalso; omega
              | skip
                first | refine kw_iinc_n x_C_allKnowTheSame_28 (by decide) rfl ?_ | refine kw_iinc x_C_allKnowTheSame_28 (by decide) rfl ?_
                refine kw_goto x_C_allKnowTheSame_31 ?_
                exact ih (t + 1) (by omega) (by omega) (by omega) (fun t' g1 g2 => by
                  by_cases hq : t' = t
                  · rw [hq]; exact kt_lg0.mp h23
                  · exact h2 t' (by omega) g2)
            · first
              | exfalso; omega
              | skip
                refine kw_icon x_C_allKnowTheSame_26 ?_
                first | refine kw_zret_b x_C_allKnowTheSame_27 ?_ | refine kw_zret_b (b := true) x_C_allKnowTheSame_27 ?_ | refine kw_zret_b (b := false) x_C_allKnowTheSame_27 ?_
                have hbf : b = false := by
                  cases hq : b with
                  | false => rfl
                  | true => exact absurd (kt_lg0.mpr (hb.mp hq t (by omega))) h23
                subst hbf
                exact k
  refine kw_icon x_C_allKnowTheSame_0 ?_
  refine kw_ist_n x_C_allKnowTheSame_1 (by decide) ?_
  exact loop (T - 1) 1 (Nat.le_refl _) (by decide) (by omega) (fun t' g1 g2 => by rw [show t' = 0 by omega])
end CQ
