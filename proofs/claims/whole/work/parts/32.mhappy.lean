/-! the reference: the happy, the kindest rule, the rounds -/
theorem nI_or (a b : Nat) : nI a ||| nI b = nI (a ||| b) := by
  apply Int32.toBitVec_inj.mp
  rw [Int32.toBitVec_or]
  show BitVec.ofNat 32 a ||| BitVec.ofNat 32 b = BitVec.ofNat 32 (a ||| b)
  exact BitVec.ofNat_or.symm
theorem kt_sh10 : ∀ t, t < 10 → nI 1 <<< (nI t &&& 31) = nI (2 ^ t) := by decide +kernel
theorem kt_bit10 : ∀ t, t < 10 → ∀ M, M < 1024 → (nI M >>> (nI t &&& 31)) &&& nI 1 = nI (if M.testBit t = true then 1 else 0) := by decide +kernel
/-- only orders are accepted or refused -/
theorem xlk_o {X : kt_X} {t g : Nat} : ∀ (k : Nat) (s : kt_σ), (∀ e, s.2.2.1 e ≠ 3 → xe X e 0 = 1) → ∀ e, (xlk X t g k s).2.2.1 e ≠ 3 → xe X e 0 = 1
  | 0, s, h => h
  | k + 1, s, h => by
    unfold xlk
    cases hp : xpk X t g s.2.1 s.2.2.1 (xn X) with
    | none => exact h
    | some p =>
      have hk : xe X p 0 = 1 := by
        have hpo := (xpk_some hp).2
        simp [xop] at hpo
        exact hpo.1.1.2
      refine xlk_o k _ (fun e he => ?_)
      by_cases hep : e = p
      · rw [hep]; exact hk
      · refine h e ?_
        unfold xsp at he
        split at he
        · simp only [xup_ne _ _ hep] at he; exact he
        · simp only [xup_ne _ _ hep] at he; exact he
theorem xga_o (X : kt_X) (t : Nat) : ∀ g e, xga X t g e ≠ 3 → xe X e 0 = 1
  | 0, e, h => by
    have h' : xs0 X t e ≠ 3 := h
    unfold xs0 at h'
    split at h'
    · rename_i q; exact q.1
    · exact absurd rfl h'
  | g + 1, e, h => xlk_o 60 _ (xga_o X t g) e h
theorem xst_o {X : kt_X} {t e : Nat} (h : xst X t e ≠ 3) : xe X e 0 = 1 := xga_o X t 6 e h
def xpm (X : kt_X) : Nat → Nat
  | 0 => 0
  | e + 1 => xpm X e ||| (if xst X 5 e = 0 then 2 ^ (xe X e 5 - 1) else 0)
theorem xpm_lt {X : kt_X} (hW : kt_wf X) : ∀ e, e ≤ xn X → xpm X e < 1024
  | 0, _ => (by decide : 0 < 1024)
  | e + 1, he => by
    have h := xpm_lt hW e (by omega)
    have h5 := (hW.2.2.2.2.2.1 e (by omega)).2.2.2.2.2.1.2.2
    have h2 : (2 : Nat) ^ (xe X e 5 - 1) < 2 ^ 10 := Nat.pow_lt_pow_right (by decide) (by omega)
    unfold xpm
    refine Nat.or_lt_two_pow (n := 10) h ?_
    split
    · exact h2
    · decide
/-- how many persons are happy -/
def xhp (X : kt_X) : Nat := xct (fun p => (xpm X (xn X)).testBit p) 10
def xkb (X : kt_X) : Nat → Nat × Nat
  | 0 => (0, xhp (xrul X 0))
  | r + 1 => if (xkb X r).2 < xhp (xrul X (r + 1)) then (r + 1, xhp (xrul X (r + 1))) else xkb X r
theorem xkb_le (X : kt_X) : ∀ r, (xkb X r).1 ≤ r ∧ (xkb X r).2 ≤ 10
  | 0 => ⟨Nat.le_refl _, xct_le _ _⟩
  | r + 1 => by
    have h := xkb_le X r
    have h2 : xhp (xrul X (r + 1)) ≤ 10 := xct_le _ _
    unfold xkb
    split
    · exact ⟨Nat.le_refl _, h2⟩
    · exact ⟨by omega, h.2⟩
theorem kt_nm1 {x : Nat} (h : x < 2147483648) (q : nI x ≤ -1) : False := nI_pos (kt_p31 h) (Int32.lt_of_le_of_lt q (by decide))
section MO
variable {P : kt_P} {N : Nat} {I : kt_I} {J : kt_J} {R : kt_R} {Q : Option Value → kt_I → kt_J → kt_R → Prop} {m : Nat} {X : kt_X}
theorem s_M_happy (hM : kt_isM P N R m) (hE : kt_enc (I (m + 1)) X) (hW : kt_wf X) (k : ∀ I', kt_lm m I I' → Q (some (.int (nI (xhp X)))) I' J R) : KW P i_M_happy N 0 [some (.ref m), none, none, none] [] N I J R Q := by
  have hn := hW.2.2.1
  have hpl := xpm_lt hW (xn X) (Nat.le_refl _)
  have loop2 : ∀ I1, kt_lm m I I1 → ∀ (d e s : Nat), e + d = 10 → s = xct (fun p => (xpm X (xn X)).testBit p) e → KW P i_M_happy N 53 [some (.ref m), some (.int (nI (xpm X (xn X)))), some (.int (nI s)), some (.int (nI e))] [] N I1 J R Q := by
    intro I1 hl d
    induction d with
    | zero =>
      intro e s h1 h2
      have h4 : e = 10 := by omega
      subst h4; subst h2
      refine kw_ild_n x_M_happy_53 rfl ?_
      refine kw_bip x_M_happy_54 ?_
      first | refine kw_ic_ge_n x_M_happy_56 ⟨by omega, by omega⟩ (fun h56 => ?_) (fun h56 => ?_) | refine kw_ic_ge x_M_happy_56 (fun h56 => ?_) (fun h56 => ?_)
      · first
        | exfalso; omega
        | skip
          refine kw_ild_n x_M_happy_73 rfl ?_
          refine kw_iret x_M_happy_74 ?_
          exact k I1 hl
      · first
        | exfalso; omega
        | skip
          skip
    | succ d ih =>
      intro e s h1 h2
      refine kw_ild_n x_M_happy_53 rfl ?_
      refine kw_bip x_M_happy_54 ?_
      first | refine kw_ic_ge_n x_M_happy_56 ⟨by omega, by omega⟩ (fun h56 => ?_) (fun h56 => ?_) | refine kw_ic_ge x_M_happy_56 (fun h56 => ?_) (fun h56 => ?_)
      · first
        | exfalso; omega
        | skip
          skip
      · first
        | exfalso; omega
        | skip
          refine kw_ild_n x_M_happy_59 rfl ?_
          refine kw_ild_n x_M_happy_60 rfl ?_
          refine kw_ild_n x_M_happy_61 rfl ?_
          refine kw_ishr x_M_happy_62 ?_
          refine kw_icon x_M_happy_63 ?_
          refine kw_iand x_M_happy_64 ?_
          rw [kt_bit10 e (by omega) _ hpl]
          first | refine kw_iadd_n x_M_happy_65 ?_ | refine kw_iadd x_M_happy_65 ?_
          refine kw_ist_n x_M_happy_66 (by decide) ?_
          first | refine kw_iinc_n x_M_happy_67 (by decide) rfl ?_ | refine kw_iinc x_M_happy_67 (by decide) rfl ?_
          refine kw_goto x_M_happy_70 ?_
          exact ih (e + 1) _ (by omega) (by rw [h2]; rfl)
  have loop : ∀ I1, kt_lm m I I1 → (∀ e, e < xn X → I1 (m + 6) e = kt_sc (xst X 5 e)) → ∀ (d e s : Nat), e + d = xn X → s = xpm X e → KW P i_M_happy N 9 [some (.ref m), some (.int (nI s)), some (.int (nI e)), none] [] N I1 J R Q := by
    intro I1 hl hS d
    have hE := hl.enc hE
    induction d with
    | zero =>
      intro e s h1 h2
      have h4 : e = xn X := by omega
      subst h4; subst h2
      refine kw_ild_n x_M_happy_9 rfl ?_
      refine kw_ald_n x_M_happy_10 rfl ?_
      refine kw_gr x_M_happy_11 (by exact isM_k hM) (by exact isM_r0 hM) ?_
      refine kw_icon x_M_happy_14 ?_
      refine kw_iald_n x_M_happy_15 (by first | exact isM_a1 hM | exact isM_a2 hM | exact isM_a3 hM | exact isM_a4 hM | exact isM_a5 hM | exact isM_a6 hM | exact isM_a7 hM | exact isM_a8 hM | exact isM_a10 hM | exact isM_a11 hM) (by omega) (by omega) (by first | exact hE.1 | exact hE.2.1 | exact hE.2.2.1 | exact hS _ (by omega) | exact rfl) ?_
      first | refine kw_ic_ge_n x_M_happy_16 ⟨by omega, by omega⟩ (fun h16 => ?_) (fun h16 => ?_) | refine kw_ic_ge x_M_happy_16 (fun h16 => ?_) (fun h16 => ?_)
      · first
        | exfalso; omega
        | skip
          refine kw_icon x_M_happy_49 ?_
          refine kw_ist_n x_M_happy_50 (by decide) ?_
          refine kw_icon x_M_happy_51 ?_
          refine kw_ist_n x_M_happy_52 (by decide) ?_
          exact loop2 I1 hl 10 0 0 (by omega) rfl
      · first
        | exfalso; omega
        | skip
          skip
    | succ d ih =>
      intro e s h1 h2
      have hx5 := (hW.2.2.2.2.2.1 e (by omega)).2.2.2.2.2.1
      have ho := @xst_o X 5 e
      refine kw_ild_n x_M_happy_9 rfl ?_
      refine kw_ald_n x_M_happy_10 rfl ?_
      refine kw_gr x_M_happy_11 (by exact isM_k hM) (by exact isM_r0 hM) ?_
      refine kw_icon x_M_happy_14 ?_
      refine kw_iald_n x_M_happy_15 (by first | exact isM_a1 hM | exact isM_a2 hM | exact isM_a3 hM | exact isM_a4 hM | exact isM_a5 hM | exact isM_a6 hM | exact isM_a7 hM | exact isM_a8 hM | exact isM_a10 hM | exact isM_a11 hM) (by omega) (by omega) (by first | exact hE.1 | exact hE.2.1 | exact hE.2.2.1 | exact hS _ (by omega) | exact rfl) ?_
      first | refine kw_ic_ge_n x_M_happy_16 ⟨by omega, by omega⟩ (fun h16 => ?_) (fun h16 => ?_) | refine kw_ic_ge x_M_happy_16 (fun h16 => ?_) (fun h16 => ?_)
      · first
        | exfalso; omega
        | skip
          skip
      · first
        | exfalso; omega
        | skip
          refine kw_ild_n x_M_happy_19 rfl ?_
          refine kw_ald_n x_M_happy_20 rfl ?_
          refine kw_gr x_M_happy_21 (by exact isM_k hM) (by exact isM_r8 hM) ?_
          refine kw_ild_n x_M_happy_24 rfl ?_
          refine kw_iald_n x_M_happy_25 (by first | exact isM_a1 hM | exact isM_a2 hM | exact isM_a3 hM | exact isM_a4 hM | exact isM_a5 hM | exact isM_a6 hM | exact isM_a7 hM | exact isM_a8 hM | exact isM_a10 hM | exact isM_a11 hM) (by omega) (by omega) (by first | exact hE.1 | exact hE.2.1 | exact hE.2.2.1 | exact hS _ (by omega) | exact rfl) ?_
          first | refine kw_if_ne_c x_M_happy_26 (xst_4 _ _ _) (fun h26 => ?_) (fun h26 => ?_) | refine kw_if_ne_b x_M_happy_26 (fun h26 => ?_) (fun h26 => ?_) | refine kw_if_ne_s x_M_happy_26 ⟨by omega, by omega⟩ (fun h26 => ?_) (fun h26 => ?_) | refine kw_if_ne_n x_M_happy_26 (by omega) (fun h26 => ?_) (fun h26 => ?_) | refine kw_if_ne x_M_happy_26 (fun h26 => ?_) (fun h26 => ?_)
          · first
            | exfalso; omega
            | skip
              refine kw_icon x_M_happy_40 ?_
              refine kw_ior x_M_happy_41 ?_
              try rw [kt_sh10 _ (by omega)]
              rw [nI_or]
              refine kw_ist_n x_M_happy_42 (by decide) ?_
              first | refine kw_iinc_n x_M_happy_43 (by decide) rfl ?_ | refine kw_iinc x_M_happy_43 (by decide) rfl ?_
              refine kw_goto x_M_happy_46 ?_
              refine ih (e + 1) _ (by omega) ?_
              rw [h2, show xpm X (e + 1) = xpm X e ||| (if xst X 5 e = 0 then 2 ^ (xe X e 5 - 1) else 0) from rfl]
              first
                | rw [if_pos h26]
                | rw [if_neg h26]
          · first
            | exfalso; omega
            | skip
              refine kw_icon x_M_happy_29 ?_
              refine kw_ald_n x_M_happy_30 rfl ?_
              refine kw_ild_n x_M_happy_31 rfl ?_
              refine kw_icon x_M_happy_32 ?_
              refine c_M_happy_33 (by exact isM_k hM) (Nat.le_of_ble_eq_true rfl) ?_
              refine s_M_of5 hM hE hn (by omega) (by omega) ?_
              refine kw_ishl x_M_happy_36 ?_
              refine kw_goto x_M_happy_37 ?_
              refine kw_ior x_M_happy_41 ?_
              try rw [kt_sh10 _ (by omega)]
              rw [nI_or]
              refine kw_ist_n x_M_happy_42 (by decide) ?_
              first | refine kw_iinc_n x_M_happy_43 (by decide) rfl ?_ | refine kw_iinc x_M_happy_43 (by decide) rfl ?_
              refine kw_goto x_M_happy_46 ?_
              refine ih (e + 1) _ (by omega) ?_
              rw [h2, show xpm X (e + 1) = xpm X e ||| (if xst X 5 e = 0 then 2 ^ (xe X e 5 - 1) else 0) from rfl]
              first
                | rw [if_pos h26]
                | rw [if_neg h26]
  refine kw_ald_n x_M_happy_0 rfl ?_
  refine kw_icon x_M_happy_1 ?_
  refine c_M_happy_2 (by exact isM_k hM) (Nat.le_of_ble_eq_true rfl) ?_
  refine s_M_thinksAll hM hE hW (by omega) (fun I2 hl2 hS2 => ?_)
  refine kw_icon x_M_happy_5 ?_
  refine kw_ist_n x_M_happy_6 (by decide) ?_
  refine kw_icon x_M_happy_7 ?_
  refine kw_ist_n x_M_happy_8 (by decide) ?_
  exact loop I2 hl2 hS2 (xn X) 0 0 (by omega) rfl
theorem s_M_kindest (hM : kt_isM P N R m) (hE : kt_enc (I (m + 1)) X) (hW : kt_wf X) {a : Int32} (kf : ¬ vR 0 1 a → Q (some (.int (-1))) I J R)
    (k : ∀ w, a = nI w → w ≤ 1 → ∀ I', kt_ly m I I' → kt_enc (I' (m + 1)) X → Q (some (.int (nI (if w = 0 then (xkb X 2).1 else (xkb X 2).2)))) I' J R) : KW P i_M_kindest N 0 [some (.ref m), some (.int a), none, none, none, none, none] [] N I J R Q := by
  have hn := hW.2.2.1
  have hT := hW.2.1
  have hrb : ∀ (I : kt_I) (X' : kt_X) (r v : Nat), xrul X' r = X → kt_enc (I (m + 1)) X' → kt_enc (kt_u1 I (m + 1) 0 (nI r) (m + 1)) X := fun I X' r v h hE => by rw [← h]; exact kt_enc_rul hE
  have hkk := xkb_le X
  have loop : ∀ w, w ≤ 1 → a = nI w → ∀ (d r : Nat) (I1 : kt_I) (v6 : Option Value), r + d = 2 → kt_ly m I I1 → kt_enc (I1 (m + 1)) (xrul X r) → KW P i_M_kindest N 26 [some (.ref m), some (.int (nI w)), some (.int (nI (xr X))), some (.int (nI (xkb X r).1)), some (.int (nI (xkb X r).2)), some (.int (nI (r + 1))), v6] [] N I1 J R Q := by
    intro w hw ha d
    induction d with
    | zero =>
      intro r I1 v6 h1 hl hE
      have h4 : r = 2 := by omega
      subst h4
      have hkk2 := hkk 2
      refine kw_ild x_M_kindest_26 rfl ?_
      refine kw_icon x_M_kindest_28 ?_
      first | refine kw_ic_ge_n x_M_kindest_29 ⟨by omega, by omega⟩ (fun h29 => ?_) (fun h29 => ?_) | refine kw_ic_ge x_M_kindest_29 (fun h29 => ?_) (fun h29 => ?_)
      · first
        | exfalso; omega
        | skip
          refine kw_ald_n x_M_kindest_82 rfl ?_
          refine kw_gr x_M_kindest_83 (by exact isM_k hM) (by exact isM_r0 hM) ?_
          refine kw_icon x_M_kindest_86 ?_
          refine kw_ild_n x_M_kindest_87 rfl ?_
          refine kw_iast_n x_M_kindest_88 (by first | exact isM_a1 hM | exact isM_a2 hM | exact isM_a3 hM | exact isM_a4 hM | exact isM_a5 hM | exact isM_a6 hM | exact isM_a7 hM | exact isM_a8 hM | exact isM_a10 hM | exact isM_a11 hM) (by omega) (by omega) ?_
          refine kw_ild_n x_M_kindest_89 rfl ?_
          first | refine kw_if_ne_b x_M_kindest_90 (fun h90 => ?_) (fun h90 => ?_) | refine kw_if_ne_s x_M_kindest_90 ⟨by omega, by omega⟩ (fun h90 => ?_) (fun h90 => ?_) | refine kw_if_ne_n x_M_kindest_90 (by omega) (fun h90 => ?_) (fun h90 => ?_) | refine kw_if_ne x_M_kindest_90 (fun h90 => ?_) (fun h90 => ?_)
          · first
            | exfalso; omega
            | skip
              refine kw_ild x_M_kindest_97 rfl ?_
              refine kw_iret x_M_kindest_99 ?_
              have h9 := k w ha hw (kt_u1 I1 (m + 1) 0 (nI (xr X))) (hl.tr (kt_ly.one (by omega) (Or.inl rfl) (fun c hc => kt_u1_ne _ _ _ hc))) (hrb I1 (xrul X 2) (xr X) 0 rfl hE)
              first
                | (rw [if_pos (by omega)] at h9; exact h9)
                | (rw [if_neg (by omega)] at h9; exact h9)
          · first
            | exfalso; omega
            | skip
              refine kw_ild_n x_M_kindest_93 rfl ?_
              refine kw_goto x_M_kindest_94 ?_
              refine kw_iret x_M_kindest_99 ?_
              have h9 := k w ha hw (kt_u1 I1 (m + 1) 0 (nI (xr X))) (hl.tr (kt_ly.one (by omega) (Or.inl rfl) (fun c hc => kt_u1_ne _ _ _ hc))) (hrb I1 (xrul X 2) (xr X) 0 rfl hE)
              first
                | (rw [if_pos (by omega)] at h9; exact h9)
                | (rw [if_neg (by omega)] at h9; exact h9)
      · first
        | exfalso; omega
        | skip
          skip
    | succ d ih =>
      intro r I1 v6 h1 hl hE
      have hkr := hkk r
      have hhp : xhp (xrul X (r + 1)) ≤ 10 := xct_le _ _
      have hE2 : kt_enc (kt_u1 I1 (m + 1) 0 (nI (r + 1)) (m + 1)) (xrul X (r + 1)) := kt_enc_rul (X := xrul X r) hE
      refine kw_ild x_M_kindest_26 rfl ?_
      refine kw_icon x_M_kindest_28 ?_
      first | refine kw_ic_ge_n x_M_kindest_29 ⟨by omega, by omega⟩ (fun h29 => ?_) (fun h29 => ?_) | refine kw_ic_ge x_M_kindest_29 (fun h29 => ?_) (fun h29 => ?_)
      · first
        | exfalso; omega
        | skip
          skip
      · first
        | exfalso; omega
        | skip
          refine kw_ald_n x_M_kindest_32 rfl ?_
          refine kw_gr x_M_kindest_33 (by exact isM_k hM) (by exact isM_r0 hM) ?_
          refine kw_icon x_M_kindest_36 ?_
          refine kw_ild x_M_kindest_37 rfl ?_
          refine kw_iast_n x_M_kindest_39 (by first | exact isM_a1 hM | exact isM_a2 hM | exact isM_a3 hM | exact isM_a4 hM | exact isM_a5 hM | exact isM_a6 hM | exact isM_a7 hM | exact isM_a8 hM | exact isM_a10 hM | exact isM_a11 hM) (by omega) (by omega) ?_
          refine kw_ald_n x_M_kindest_40 rfl ?_
          refine c_M_kindest_41 (by exact isM_k hM) (Nat.le_of_ble_eq_true rfl) ?_
          refine s_M_happy hM hE2 (kt_wf_rule hW (by omega)) (fun I3 hl3 => ?_)
          refine kw_ist x_M_kindest_44 (by decide) ?_
          refine kw_ild x_M_kindest_46 rfl ?_
          refine kw_ild x_M_kindest_48 rfl ?_
          first | refine kw_ic_le_n x_M_kindest_50 ⟨by omega, by omega⟩ (fun h50 => ?_) (fun h50 => ?_) | refine kw_ic_le x_M_kindest_50 (fun h50 => ?_) (fun h50 => ?_)
          · first
            | exfalso; omega
            | skip
              refine kw_ild_n x_M_kindest_58 rfl ?_
              refine kw_ist_n x_M_kindest_59 (by decide) ?_
              refine kw_ild x_M_kindest_60 rfl ?_
              refine kw_ild x_M_kindest_62 rfl ?_
              first | refine kw_ic_le_n x_M_kindest_64 ⟨by omega, by omega⟩ (fun h64 => ?_) (fun h64 => ?_) | refine kw_ic_le x_M_kindest_64 (fun h64 => ?_) (fun h64 => ?_)
              · first
                | exfalso; omega
                | skip
                  refine kw_ild x_M_kindest_72 rfl ?_
                  refine kw_ist x_M_kindest_74 (by decide) ?_
                  first | refine kw_iinc_n x_M_kindest_76 (by decide) rfl ?_ | refine kw_iinc x_M_kindest_76 (by decide) rfl ?_
                  refine kw_goto x_M_kindest_79 ?_
                  have h9 := ih (r + 1) I3 (some (.int (nI (xhp (xrul X (r + 1)))))) (by omega) (hl.tr ((kt_ly.one (b := m + 1) (by omega) (Or.inl rfl) (fun c hc => kt_u1_ne _ _ _ hc)).tr hl3.ly)) (hl3.enc hE2)
                  unfold xkb at h9
                  first
                    | (rw [if_pos (by omega)] at h9; exact h9)
                    | (rw [if_neg (by omega)] at h9; exact h9)
              · first
                | exfalso; omega
                | skip
                  refine kw_ild x_M_kindest_67 rfl ?_
                  refine kw_goto x_M_kindest_69 ?_
                  refine kw_ist x_M_kindest_74 (by decide) ?_
                  first | refine kw_iinc_n x_M_kindest_76 (by decide) rfl ?_ | refine kw_iinc x_M_kindest_76 (by decide) rfl ?_
                  refine kw_goto x_M_kindest_79 ?_
                  have h9 := ih (r + 1) I3 (some (.int (nI (xhp (xrul X (r + 1)))))) (by omega) (hl.tr ((kt_ly.one (b := m + 1) (by omega) (Or.inl rfl) (fun c hc => kt_u1_ne _ _ _ hc)).tr hl3.ly)) (hl3.enc hE2)
                  unfold xkb at h9
                  first
                    | (rw [if_pos (by omega)] at h9; exact h9)
                    | (rw [if_neg (by omega)] at h9; exact h9)
          · first
            | exfalso; omega
            | skip
              refine kw_ild x_M_kindest_53 rfl ?_
              refine kw_goto x_M_kindest_55 ?_
              refine kw_ist_n x_M_kindest_59 (by decide) ?_
              refine kw_ild x_M_kindest_60 rfl ?_
              refine kw_ild x_M_kindest_62 rfl ?_
              first | refine kw_ic_le_n x_M_kindest_64 ⟨by omega, by omega⟩ (fun h64 => ?_) (fun h64 => ?_) | refine kw_ic_le x_M_kindest_64 (fun h64 => ?_) (fun h64 => ?_)
              · first
                | exfalso; omega
                | skip
                  refine kw_ild x_M_kindest_72 rfl ?_
                  refine kw_ist x_M_kindest_74 (by decide) ?_
                  first | refine kw_iinc_n x_M_kindest_76 (by decide) rfl ?_ | refine kw_iinc x_M_kindest_76 (by decide) rfl ?_
                  refine kw_goto x_M_kindest_79 ?_
                  have h9 := ih (r + 1) I3 (some (.int (nI (xhp (xrul X (r + 1)))))) (by omega) (hl.tr ((kt_ly.one (b := m + 1) (by omega) (Or.inl rfl) (fun c hc => kt_u1_ne _ _ _ hc)).tr hl3.ly)) (hl3.enc hE2)
                  unfold xkb at h9
                  first
                    | (rw [if_pos (by omega)] at h9; exact h9)
                    | (rw [if_neg (by omega)] at h9; exact h9)
              · first
                | exfalso; omega
                | skip
                  refine kw_ild x_M_kindest_67 rfl ?_
                  refine kw_goto x_M_kindest_69 ?_
                  refine kw_ist x_M_kindest_74 (by decide) ?_
                  first | refine kw_iinc_n x_M_kindest_76 (by decide) rfl ?_ | refine kw_iinc x_M_kindest_76 (by decide) rfl ?_
                  refine kw_goto x_M_kindest_79 ?_
                  have h9 := ih (r + 1) I3 (some (.int (nI (xhp (xrul X (r + 1)))))) (by omega) (hl.tr ((kt_ly.one (b := m + 1) (by omega) (Or.inl rfl) (fun c hc => kt_u1_ne _ _ _ hc)).tr hl3.ly)) (hl3.enc hE2)
                  unfold xkb at h9
                  first
                    | (rw [if_pos (by omega)] at h9; exact h9)
                    | (rw [if_neg (by omega)] at h9; exact h9)
  have hE0 : ∀ _ : Nat, kt_enc (kt_u1 I (m + 1) 0 (nI 0) (m + 1)) (xrul X 0) := fun _ => kt_enc_rul hE
  have hhp : xhp (xrul X 0) ≤ 10 := xct_le _ _
  refine kw_ild_n x_M_kindest_0 rfl ?_
  refine kw_icon x_M_kindest_1 ?_
  refine kw_icon x_M_kindest_2 ?_
  refine c_M_kindest_3 (Nat.le_of_ble_eq_true rfl) ?_
  refine s_M_in ?_
  first | refine kw_if_ne_b x_M_kindest_6 (fun h6 => ?_) (fun h6 => ?_) | refine kw_if_ne_s x_M_kindest_6 ⟨by omega, by omega⟩ (fun h6 => ?_) (fun h6 => ?_) | refine kw_if_ne_n x_M_kindest_6 (by omega) (fun h6 => ?_) (fun h6 => ?_) | refine kw_if_ne x_M_kindest_6 (fun h6 => ?_) (fun h6 => ?_)
  · first
    | exfalso; first | omega | exact kt_nm1 (x := xhp (xrul X 0)) (by omega) (by assumption)
    | skip
      obtain ⟨w, hw1, hw2, rfl⟩ := kt_yR (by omega) h6
      refine kw_ald_n x_M_kindest_11 rfl ?_
      refine kw_gr x_M_kindest_12 (by exact isM_k hM) (by exact isM_r0 hM) ?_
      refine kw_icon x_M_kindest_15 ?_
      refine kw_iald_n x_M_kindest_16 (by first | exact isM_a1 hM | exact isM_a2 hM | exact isM_a3 hM | exact isM_a4 hM | exact isM_a5 hM | exact isM_a6 hM | exact isM_a7 hM | exact isM_a8 hM | exact isM_a10 hM | exact isM_a11 hM) (by omega) (by omega) (by first | exact hE.1 | exact hE.2.1 | exact hE.2.2.1 | exact rfl) ?_
      refine kw_ist_n x_M_kindest_17 (by decide) ?_
      refine kw_icon x_M_kindest_18 ?_
      refine kw_ist_n x_M_kindest_19 (by decide) ?_
      refine kw_icon x_M_kindest_20 ?_
      refine kw_ist x_M_kindest_21 (by decide) ?_
      refine kw_icon x_M_kindest_23 ?_
      refine kw_ist x_M_kindest_24 (by decide) ?_
      refine kw_ild x_M_kindest_26 rfl ?_
      refine kw_icon x_M_kindest_28 ?_
      first | refine kw_ic_ge_n x_M_kindest_29 ⟨by omega, by omega⟩ (fun h29 => ?_) (fun h29 => ?_) | refine kw_ic_ge x_M_kindest_29 (fun h29 => ?_) (fun h29 => ?_)
      · first
        | exfalso; first | omega | exact kt_nm1 (x := xhp (xrul X 0)) (by omega) (by assumption)
        | skip
          skip
      · first
        | exfalso; first | omega | exact kt_nm1 (x := xhp (xrul X 0)) (by omega) (by assumption)
        | skip
          refine kw_ald_n x_M_kindest_32 rfl ?_
          refine kw_gr x_M_kindest_33 (by exact isM_k hM) (by exact isM_r0 hM) ?_
          refine kw_icon x_M_kindest_36 ?_
          refine kw_ild x_M_kindest_37 rfl ?_
          refine kw_iast_n x_M_kindest_39 (by first | exact isM_a1 hM | exact isM_a2 hM | exact isM_a3 hM | exact isM_a4 hM | exact isM_a5 hM | exact isM_a6 hM | exact isM_a7 hM | exact isM_a8 hM | exact isM_a10 hM | exact isM_a11 hM) (by omega) (by omega) ?_
          refine kw_ald_n x_M_kindest_40 rfl ?_
          refine c_M_kindest_41 (by exact isM_k hM) (Nat.le_of_ble_eq_true rfl) ?_
          refine s_M_happy hM (hE0 0) (kt_wf_rule hW (by omega)) (fun I3 hl3 => ?_)
          refine kw_ist x_M_kindest_44 (by decide) ?_
          refine kw_ild x_M_kindest_46 rfl ?_
          refine kw_ild x_M_kindest_48 rfl ?_
          first | refine kw_ic_le_n x_M_kindest_50 ⟨by omega, by omega⟩ (fun h50 => ?_) (fun h50 => ?_) | refine kw_ic_le x_M_kindest_50 (fun h50 => ?_) (fun h50 => ?_)
          · first
            | exfalso; first | omega | exact kt_nm1 (x := xhp (xrul X 0)) (by omega) (by assumption)
            | skip
              refine kw_ild_n x_M_kindest_58 rfl ?_
              refine kw_ist_n x_M_kindest_59 (by decide) ?_
              refine kw_ild x_M_kindest_60 rfl ?_
              refine kw_ild x_M_kindest_62 rfl ?_
              first | refine kw_ic_le_n x_M_kindest_64 ⟨by omega, by omega⟩ (fun h64 => ?_) (fun h64 => ?_) | refine kw_ic_le x_M_kindest_64 (fun h64 => ?_) (fun h64 => ?_)
              · first
                | exfalso; first | omega | exact kt_nm1 (x := xhp (xrul X 0)) (by omega) (by assumption)
                | skip
                  refine kw_ild x_M_kindest_72 rfl ?_
                  refine kw_ist x_M_kindest_74 (by decide) ?_
                  first | refine kw_iinc_n x_M_kindest_76 (by decide) rfl ?_ | refine kw_iinc x_M_kindest_76 (by decide) rfl ?_
                  refine kw_goto x_M_kindest_79 ?_
                  first | exact (kt_nm1 (x := xhp (xrul X 0)) (by omega) (by assumption)).elim | exact loop w hw2 rfl 2 0 I3 _ (by omega) ((kt_ly.one (b := m + 1) (by omega) (Or.inl rfl) (fun c hc => kt_u1_ne _ _ _ hc)).tr hl3.ly) (hl3.enc (hE0 0))
              · first
                | exfalso; first | omega | exact kt_nm1 (x := xhp (xrul X 0)) (by omega) (by assumption)
                | skip
                  refine kw_ild x_M_kindest_67 rfl ?_
                  refine kw_goto x_M_kindest_69 ?_
                  refine kw_ist x_M_kindest_74 (by decide) ?_
                  first | refine kw_iinc_n x_M_kindest_76 (by decide) rfl ?_ | refine kw_iinc x_M_kindest_76 (by decide) rfl ?_
                  refine kw_goto x_M_kindest_79 ?_
                  first | exact (kt_nm1 (x := xhp (xrul X 0)) (by omega) (by assumption)).elim | exact loop w hw2 rfl 2 0 I3 _ (by omega) ((kt_ly.one (b := m + 1) (by omega) (Or.inl rfl) (fun c hc => kt_u1_ne _ _ _ hc)).tr hl3.ly) (hl3.enc (hE0 0))
          · first
            | exfalso; first | omega | exact kt_nm1 (x := xhp (xrul X 0)) (by omega) (by assumption)
            | skip
              refine kw_ild x_M_kindest_53 rfl ?_
              refine kw_goto x_M_kindest_55 ?_
              refine kw_ist_n x_M_kindest_59 (by decide) ?_
              refine kw_ild x_M_kindest_60 rfl ?_
              refine kw_ild x_M_kindest_62 rfl ?_
              first | refine kw_ic_le_n x_M_kindest_64 ⟨by omega, by omega⟩ (fun h64 => ?_) (fun h64 => ?_) | refine kw_ic_le x_M_kindest_64 (fun h64 => ?_) (fun h64 => ?_)
              · first
                | exfalso; first | omega | exact kt_nm1 (x := xhp (xrul X 0)) (by omega) (by assumption)
                | skip
                  refine kw_ild x_M_kindest_72 rfl ?_
                  refine kw_ist x_M_kindest_74 (by decide) ?_
                  first | refine kw_iinc_n x_M_kindest_76 (by decide) rfl ?_ | refine kw_iinc x_M_kindest_76 (by decide) rfl ?_
                  refine kw_goto x_M_kindest_79 ?_
                  first | exact (kt_nm1 (x := xhp (xrul X 0)) (by omega) (by assumption)).elim | exact loop w hw2 rfl 2 0 I3 _ (by omega) ((kt_ly.one (b := m + 1) (by omega) (Or.inl rfl) (fun c hc => kt_u1_ne _ _ _ hc)).tr hl3.ly) (hl3.enc (hE0 0))
              · first
                | exfalso; first | omega | exact kt_nm1 (x := xhp (xrul X 0)) (by omega) (by assumption)
                | skip
                  refine kw_ild x_M_kindest_67 rfl ?_
                  refine kw_goto x_M_kindest_69 ?_
                  refine kw_ist x_M_kindest_74 (by decide) ?_
                  first | refine kw_iinc_n x_M_kindest_76 (by decide) rfl ?_ | refine kw_iinc x_M_kindest_76 (by decide) rfl ?_
                  refine kw_goto x_M_kindest_79 ?_
                  first | exact (kt_nm1 (x := xhp (xrul X 0)) (by omega) (by assumption)).elim | exact loop w hw2 rfl 2 0 I3 _ (by omega) ((kt_ly.one (b := m + 1) (by omega) (Or.inl rfl) (fun c hc => kt_u1_ne _ _ _ hc)).tr hl3.ly) (hl3.enc (hE0 0))
  · first
    | exfalso; first | omega | exact kt_nm1 (x := xhp (xrul X 0)) (by omega) (by assumption)
    | skip
      refine kw_icon x_M_kindest_9 ?_
      refine kw_iret x_M_kindest_10 ?_
      exact kf (fun h => kt_nR (by omega) h6 h)
end MO
