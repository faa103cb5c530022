/-! the reference: what it remembers, and the apologies -/
def kt_e7 (X X' : kt_X) : Prop := xr X' = xr X ∧ xT X' = xT X ∧ xn X' = xn X ∧ (∀ t, xc X' t = xc X t) ∧ ∀ e f, f ≠ 8 → xe X' e f = xe X e f
theorem kt_e7.rf {X : kt_X} : kt_e7 X X := ⟨rfl, rfl, rfl, fun _ => rfl, fun _ _ _ => rfl⟩
theorem kt_e7.tr {X Y Z : kt_X} (h : kt_e7 X Y) (h' : kt_e7 Y Z) : kt_e7 X Z := ⟨h'.1.trans h.1, h'.2.1.trans h.2.1, h'.2.2.1.trans h.2.2.1, fun t => (h'.2.2.2.1 t).trans (h.2.2.2.1 t), fun e f hf => (h'.2.2.2.2 e f hf).trans (h.2.2.2.2 e f hf)⟩
section E7
variable {X X' : kt_X}
theorem xk_7 (h : kt_e7 X X') (t e : Nat) : xk X' t e = xk X t e := by unfold xk; rw [h.2.2.2.2 e 7 (by decide)]
theorem xstk_7 (h : kt_e7 X X') (t g : Nat) : ∀ e, xstk X' t g e = xstk X t g e
  | 0 => rfl
  | e + 1 => by
    unfold xstk
    rw [xstk_7 h t g e, h.2.2.2.2 e 0 (by decide), h.2.2.2.2 e 3 (by decide), h.2.2.2.2 e 4 (by decide), xk_7 h]
theorem xcn_7 (h : kt_e7 X X') (t o : Nat) : ∀ e, xcn X' t o e = xcn X t o e
  | 0 => rfl
  | e + 1 => by
    unfold xcn
    rw [xcn_7 h t o e, h.2.2.2.2 e 0 (by decide), h.2.2.2.2 e 6 (by decide), xk_7 h]
theorem xky_7 (h : kt_e7 X X') (G : Nat → Nat) (e : Nat) : xky X' G e = xky X G e := by
  unfold xky
  rw [h.1, h.2.2.2.2 e 4 (by decide), h.2.2.2.2 e 5 (by decide), h.2.2.2.2 e 2 (by decide), h.2.2.2.2 e 1 (by decide)]
theorem xop_7 (h : kt_e7 X X') (t g : Nat) (st : Nat → Nat) (e : Nat) : xop X' t g st e = xop X t g st e := by
  unfold xop
  rw [h.2.2.2.2 e 0 (by decide), h.2.2.2.2 e 3 (by decide), xk_7 h]
theorem xpk_7 (h : kt_e7 X X') (t g : Nat) (G st : Nat → Nat) : ∀ e, xpk X' t g G st e = xpk X t g G st e
  | 0 => rfl
  | e + 1 => by
    unfold xpk
    rw [xop_7 h, xpk_7 h t g G st e]
    cases xpk X t g G st e with
    | none => rfl
    | some p => simp only [xky_7 h]
theorem xsp_7 (h : kt_e7 X X') (s : kt_σ) (p : Nat) : xsp X' s p = xsp X s p := by
  unfold xsp
  rw [h.2.2.2.2 p 4 (by decide), h.2.2.2.2 p 5 (by decide)]
theorem xlk_7 (h : kt_e7 X X') (t g : Nat) : ∀ (k : Nat) (s : kt_σ), xlk X' t g k s = xlk X t g k s
  | 0, _ => rfl
  | k + 1, s => by
    unfold xlk
    rw [h.2.2.1, xpk_7 h]
    cases xpk X t g s.2.1 s.2.2.1 (xn X) with
    | none => rfl
    | some p => simp only [xsp_7 h, xlk_7 h t g k]
theorem xga_7 (h : kt_e7 X X') (t : Nat) : ∀ g, xga X' t g = xga X t g
  | 0 => by
    funext e
    show xs0 X' t e = xs0 X t e
    unfold xs0
    rw [h.2.2.2.2 e 0 (by decide), xk_7 h, h.2.2.1, xcn_7 h]
  | g + 1 => by
    unfold xga
    rw [xlk_7 h, h.2.2.1, xstk_7 h, xga_7 h t g]
theorem xst_7 (h : kt_e7 X X') (t : Nat) : xst X' t = xst X t := xga_7 h t 6
theorem kt_wf_7 (h : kt_e7 X X') (hw : kt_wf X) (h8 : ∀ e, e < xn X → xe X' e 8 < 2 ^ xT X) : kt_wf X' := by
  obtain ⟨r1, r2, r3, r4, r5⟩ := h
  obtain ⟨h1, h2, h3, h4, h5, h6, h7⟩ := hw
  refine ⟨by rw [r1]; exact h1, by rw [r2]; exact h2, by rw [r3]; exact h3, fun t => by rw [r3, r4]; exact h4 t, fun t ht => by rw [r4]; rw [r2] at ht; exact h5 t ht, fun e he => ?_, fun e f hef hf => ?_⟩
  · rw [r3] at he
    have h9 := h6 e he
    have h10 := h8 e he
    unfold kt_ew at h9 ⊢
    simp only [r5 _ 0 (by decide), r5 _ 1 (by decide), r5 _ 2 (by decide), r5 _ 3 (by decide), r5 _ 4 (by decide), r5 _ 5 (by decide), r5 _ 6 (by decide), r5 _ 7 (by decide), r2, r4]
    exact ⟨h9.1, h9.2.1, h9.2.2.1, h9.2.2.2.1, h9.2.2.2.2.1, h9.2.2.2.2.2.1, h9.2.2.2.2.2.2.1, h9.2.2.2.2.2.2.2.1, h10⟩
  · rw [r3] at hf
    rw [r5 e 1 (by decide), r5 f 1 (by decide), r5 e 2 (by decide), r5 f 2 (by decide)]
    exact h7 e f hef hf
end E7
def xso (X : kt_X) (e v : Nat) : kt_X := (xr X, xT X, xn X, xc X, fun e' f => if e' = e ∧ f = 8 then v else xe X e' f)
theorem xso_e (X : kt_X) (e v e' f : Nat) : xe (xso X e v) e' f = if e' = e ∧ f = 8 then v else xe X e' f := rfl
theorem xso_7 (X : kt_X) (e v : Nat) : kt_e7 X (xso X e v) := ⟨rfl, rfl, rfl, fun _ => rfl, fun e' f hf => by rw [xso_e, if_neg (fun q => hf q.2)]⟩
theorem kt_enc_so {I : kt_I} {X : kt_X} {a e v : Nat} (hE : kt_enc (I a) X) : kt_enc (kt_u1 I a (8 + 9 * e + 8) (nI v) a) (xso X e v) := by
  obtain ⟨h1, h2, h3, h4, h5⟩ := hE
  have key : ∀ j, j ≠ 8 + 9 * e + 8 → kt_u1 I a (8 + 9 * e + 8) (nI v) a j = I a j := fun j hj => by simp [kt_u1, hj]
  refine ⟨by rw [key 0 (by omega)]; exact h1, by rw [key 1 (by omega)]; exact h2, by rw [key 2 (by omega)]; exact h3, fun t ht => by rw [key (3 + t) (by omega)]; exact h4 t ht, fun e' f he hf => ?_⟩
  by_cases hc : e' = e ∧ f = 8
  · obtain ⟨rfl, rfl⟩ := hc
    rw [xso_e, if_pos ⟨rfl, rfl⟩]
    simp [kt_u1, kt_cd]
  · rw [key _ (by omega), h5 e' f he hf, xso_e, if_neg hc]
def xae (a s : Nat → Bool) (t : Nat) : Nat → kt_X → kt_X × Nat
  | 0, X => (X, 0)
  | e + 1, X => if a e = true ∧ s e = true ∧ (xe (xae a s t e X).1 e 8).testBit t = false then (xso (xae a s t e X).1 e (xe (xae a s t e X).1 e 8 ||| 2 ^ t), (xae a s t e X).2 + 1) else xae a s t e X
def xat (ac : Nat → Nat → Bool) : Nat → kt_X → kt_X × Nat
  | 0, X => (X, 0)
  | t + 1, X => ((xae (ac t) (fun e => decide (xst X t e = 1)) t (xn X) (xat ac t X).1).1, (xat ac t X).2 + (xae (ac t) (fun e => decide (xst X t e = 1)) t (xn X) (xat ac t X).1).2)
theorem xae_7 {a s : Nat → Bool} {t : Nat} {X : kt_X} : ∀ e, kt_e7 X (xae a s t e X).1
  | 0 => kt_e7.rf
  | e + 1 => by
    unfold xae
    split
    · exact (xae_7 e).tr (xso_7 _ _ _)
    · exact xae_7 e
theorem xat_7 {ac : Nat → Nat → Bool} {X : kt_X} : ∀ t, kt_e7 X (xat ac t X).1
  | 0 => kt_e7.rf
  | t + 1 => (xat_7 t).tr (xae_7 (xn X))
theorem xae_8 {a s : Nat → Bool} {t : Nat} {X : kt_X} (ht : t < xT X) (h : ∀ e, e < xn X → xe X e 8 < 2 ^ xT X) : ∀ k e, e < xn X → xe (xae a s t k X).1 e 8 < 2 ^ xT X
  | 0, e, he => h e he
  | k + 1, e, he => by
    have ih := xae_8 (a := a) (s := s) ht h k
    unfold xae
    split
    · by_cases hc : e = k
      · subst hc
        rw [xso_e, if_pos ⟨rfl, rfl⟩]
        exact Nat.or_lt_two_pow (ih e he) (Nat.pow_lt_pow_right (by decide) ht)
      · rw [xso_e, if_neg (fun q => hc q.1)]
        exact ih e he
    · exact ih e he
theorem xat_8 {ac : Nat → Nat → Bool} {X : kt_X} (h : ∀ e, e < xn X → xe X e 8 < 2 ^ xT X) : ∀ t, t ≤ xT X → ∀ e, e < xn X → xe (xat ac t X).1 e 8 < 2 ^ xT X
  | 0, _, e, he => h e he
  | t + 1, ht, e, he => by
    have h7 := xat_7 (ac := ac) (X := X) t
    have ih := xat_8 (ac := ac) h t (by omega)
    have := xae_8 (a := ac t) (s := fun e => decide (xst X t e = 1)) (t := t) (X := (xat ac t X).1) (by rw [h7.2.1]; omega) (by rw [h7.2.2.1, h7.2.1]; exact ih) (xn X) e (by rw [h7.2.2.1]; exact he)
    rw [h7.2.1] at this
    exact this
theorem xat_wf {ac : Nat → Nat → Bool} {X : kt_X} (hW : kt_wf X) {t : Nat} (ht : t ≤ xT X) : kt_wf (xat ac t X).1 := kt_wf_7 (xat_7 t) hW (xat_8 (fun e he => (hW.2.2.2.2.2.1 e he).2.2.2.2.2.2.2.2) t ht)
theorem xae_wf {a s : Nat → Bool} {X : kt_X} (hW : kt_wf X) {t : Nat} (ht : t < xT X) (k : Nat) : kt_wf (xae a s t k X).1 := kt_wf_7 (xae_7 k) hW (xae_8 ht (fun e he => (hW.2.2.2.2.2.1 e he).2.2.2.2.2.2.2.2) k)
/-- which orders a town accepts, by the reference's row -/
def xac (X : kt_X) (t e : Nat) : Bool := decide (e < xn X) && decide (xst X t e = 0)
def kt_l2 (m : Nat) (I I' : kt_I) : Prop := (∀ a, a ≠ m → a ≠ m + 6 → a ≠ m + 7 → a ≠ m + 8 → a ≠ m + 9 → I' a = I a) ∧ ∀ j, j ≠ 10 → I' m j = I m j
theorem kt_l2.tr {m : Nat} {I I' I'' : kt_I} (h : kt_l2 m I I') (h' : kt_l2 m I' I'') : kt_l2 m I I'' := ⟨fun a h1 h2 h3 h4 h5 => (h'.1 a h1 h2 h3 h4 h5).trans (h.1 a h1 h2 h3 h4 h5), fun j hj => (h'.2 j hj).trans (h.2 j hj)⟩
theorem kt_lm.l2 {m : Nat} {I I' : kt_I} (h : kt_lm m I I') : kt_l2 m I I' := ⟨fun a h1 h2 h3 h4 _ => h.1 a h1 h2 h3 h4, h.2⟩
theorem kt_l2.enc {m : Nat} {I I' : kt_I} {X : kt_X} (h : kt_l2 m I I') (hE : kt_enc (I (m + 1)) X) : kt_enc (I' (m + 1)) X := by rw [h.1 (m + 1) (by omega) (by omega) (by omega) (by omega) (by omega)]; exact hE
def kt_l3 (m : Nat) (I I' : kt_I) : Prop := (∀ a, a ≠ m → a ≠ m + 1 → a ≠ m + 6 → a ≠ m + 7 → a ≠ m + 8 → I' a = I a) ∧ ∀ j, j ≠ 10 → I' m j = I m j
theorem kt_l3.tr {m : Nat} {I I' I'' : kt_I} (h : kt_l3 m I I') (h' : kt_l3 m I' I'') : kt_l3 m I I'' := ⟨fun a h1 h2 h3 h4 h5 => (h'.1 a h1 h2 h3 h4 h5).trans (h.1 a h1 h2 h3 h4 h5), fun j hj => (h'.2 j hj).trans (h.2 j hj)⟩
theorem kt_l3.rf {m : Nat} {I : kt_I} : kt_l3 m I I := ⟨fun _ _ _ _ _ _ => rfl, fun _ _ => rfl⟩
theorem kt_lm.l3 {m : Nat} {I I' : kt_I} (h : kt_lm m I I') : kt_l3 m I I' := ⟨fun a h1 _ h3 h4 h5 => h.1 a h1 h3 h4 h5, h.2⟩
theorem kt_or : ∀ M, M < 32 → ∀ t, t < 5 → nI M ||| (nI 1 <<< (nI t &&& 31)) = nI (M ||| 2 ^ t) := by decide +kernel
theorem kt_scn : ∀ s, s < 4 → ∀ c, c < 3 → (kt_sc s = nI c ↔ s = c) := by decide +kernel
section KS
variable {P : kt_P} {i NM pc pc' : Nat} {L : List (Option Value)} {st : List Value} {N : Nat} {I : kt_I} {J : kt_J} {R : kt_R} {Q : Option Value → kt_I → kt_J → kt_R → Prop}
theorem kw_ic_ne_d {s c tgt : Nat} (hd : kt_dj i pc (.if_icmp .ne) tgt pc') (hs : s < 4) (hc : c < 3) (k1 : s ≠ c → KW P i NM tgt L st N I J R Q) (k2 : s = c → KW P i NM pc' L st N I J R Q) : KW P i NM pc L (.int (nI c) :: .int (kt_sc s) :: st) N I J R Q :=
  kw_ic_ne hd (fun h => k1 fun q => h ((kt_scn s hs c hc).mpr q)) (fun h => k2 ((kt_scn s hs c hc).mp h))
end KS
section MA
variable {P : kt_P} {N : Nat} {I : kt_I} {J : kt_J} {R : kt_R} {Q : Option Value → kt_I → kt_J → kt_R → Prop} {m : Nat} {X : kt_X}

theorem s_M_remembers (hM : kt_isM P N R m) (hE : kt_enc (I (m + 1)) X) (hW : kt_wf X) (k : ∀ I', kt_l2 m I I' → (∀ t e, t < xT X → e < 60 → I' (m + 9) (60 * t + e) = kt_bo (xac X t e)) → Q none I' J R) : KW P i_M_remembers N 0 [some (.ref m), none, none] [] N I J R Q := by
  have hn := hW.2.2.1
  have hT := hW.2.1
  have outer : ∀ (d t : Nat) (I1 : kt_I) (v : Option Value), t + d = xT X → kt_l2 m I I1 → (∀ q, q < 60 * t → I1 (m + 9) q = kt_bo (xac X (q / 60) (q % 60))) → KW P i_M_remembers N 2 [some (.ref m), some (.int (nI t)), v] [] N I1 J R Q := by
    intro d
    induction d with
    | zero =>
      intro t I1 v h1 hl h2
      have h3 : t = xT X := by omega
      subst h3
      have hE := hl.enc hE
      refine kw_ild_n x_M_remembers_2 rfl ?_
      refine kw_ald_n x_M_remembers_3 rfl ?_
      refine kw_gr x_M_remembers_4 (by exact isM_k hM) (by exact isM_r0 hM) ?_
      refine kw_icon x_M_remembers_7 ?_
      refine kw_iald_n x_M_remembers_8 (by first | exact isM_a1 hM | exact isM_a2 hM | exact isM_a3 hM | exact isM_a4 hM | exact isM_a5 hM | exact isM_a6 hM | exact isM_a7 hM | exact isM_a8 hM | exact isM_a10 hM | exact isM_a11 hM) (by omega) (by omega) (by first | exact hE.1 | exact hE.2.1 | exact hE.2.2.1 | exact hS _ (by omega) | exact rfl) ?_
      first | refine kw_ic_ge_n x_M_remembers_9 ⟨by omega, by omega⟩ (fun h9 => ?_) (fun h9 => ?_) | refine kw_ic_ge x_M_remembers_9 (fun h9 => ?_) (fun h9 => ?_)
      · first
        | exfalso; omega
        | skip
          refine kw_vret x_M_remembers_97 ?_
          refine k I1 hl (fun t e ht he => ?_)
          have h5 := h2 (60 * t + e) (by omega)
          rw [show (60 * t + e) / 60 = t by omega, show (60 * t + e) % 60 = e by omega] at h5
          exact h5
      · first
        | exfalso; omega
        | skip
          skip
    | succ d ih =>
      intro t I1 v h1 hl h2
      have hE := hl.enc hE
      have inner2 : ∀ (d' e : Nat) (I3 : kt_I), e + d' = 60 → xn X ≤ e → kt_l2 m I1 I3 → (∀ q, q < 60 * t + e → I3 (m + 9) q = kt_bo (xac X (q / 60) (q % 60))) → KW P i_M_remembers N 67 [some (.ref m), some (.int (nI t)), some (.int (nI e))] [] N I3 J R Q := by
        intro d'
        induction d' with
        | zero =>
          intro e I3 h4 h5 hl3 h6
          refine kw_ild_n x_M_remembers_67 rfl ?_
          refine kw_bip x_M_remembers_68 ?_
          first | refine kw_ic_ge_n x_M_remembers_70 ⟨by omega, by omega⟩ (fun h70 => ?_) (fun h70 => ?_) | refine kw_ic_ge x_M_remembers_70 (fun h70 => ?_) (fun h70 => ?_)
          · first
            | exfalso; omega
            | skip
              first | refine kw_iinc_n x_M_remembers_91 (by decide) rfl ?_ | refine kw_iinc x_M_remembers_91 (by decide) rfl ?_
              refine kw_goto x_M_remembers_94 ?_
              exact ih (t + 1) I3 _ (by omega) (hl.tr hl3) (fun q hq => h6 q (by omega))
          · first
            | exfalso; omega
            | skip
              skip
        | succ d' ih' =>
          intro e I3 h4 h5 hl3 h6
          refine kw_ild_n x_M_remembers_67 rfl ?_
          refine kw_bip x_M_remembers_68 ?_
          first | refine kw_ic_ge_n x_M_remembers_70 ⟨by omega, by omega⟩ (fun h70 => ?_) (fun h70 => ?_) | refine kw_ic_ge x_M_remembers_70 (fun h70 => ?_) (fun h70 => ?_)
          · first
            | exfalso; omega
            | skip
              skip
          · first
            | exfalso; omega
            | skip
              refine kw_ald_n x_M_remembers_73 rfl ?_
              refine kw_gr x_M_remembers_74 (by exact isM_k hM) (by exact isM_r12 hM) ?_
              refine kw_bip x_M_remembers_77 ?_
              refine kw_ild_n x_M_remembers_79 rfl ?_
              first | refine kw_imul_n x_M_remembers_80 ?_ | refine kw_imul x_M_remembers_80 ?_
              refine kw_ild_n x_M_remembers_81 rfl ?_
              first | refine kw_iadd_n x_M_remembers_82 ?_ | refine kw_iadd x_M_remembers_82 ?_
              refine kw_icon x_M_remembers_83 ?_
              first | refine kw_zast_n x_M_remembers_84 (by exact isM_a9 hM) (by omega) (by omega) ?_ | refine kw_zast_n (b := true) x_M_remembers_84 (by exact isM_a9 hM) (by omega) (by omega) ?_ | refine kw_zast_n (b := false) x_M_remembers_84 (by exact isM_a9 hM) (by omega) (by omega) ?_
              first | refine kw_iinc_n x_M_remembers_85 (by decide) rfl ?_ | refine kw_iinc x_M_remembers_85 (by decide) rfl ?_
              refine kw_goto x_M_remembers_88 ?_
              refine ih' (e + 1) _ (by omega) (by omega) (hl3.tr ⟨fun a g1 g2 g3 g4 g5 => kt_u1_ne _ _ _ g5, fun j _ => by simp [kt_u1]⟩) (fun q hq => ?_)
              by_cases hqe : q = 60 * t + e
              · subst hqe
                rw [show (60 * t + e) / 60 = t by omega, show (60 * t + e) % 60 = e by omega]
                simp [kt_u1, xac, show ¬ e < xn X by omega]
              · simp [kt_u1, hqe]
                exact h6 q (by omega)
      have inner1 : ∀ (d' e : Nat) (I3 : kt_I), e + d' = xn X → kt_l2 m I1 I3 → (∀ e, e < xn X → I3 (m + 6) e = kt_sc (xst X t e)) → (∀ q, q < 60 * t + e → I3 (m + 9) q = kt_bo (xac X (q / 60) (q % 60))) → KW P i_M_remembers N 19 [some (.ref m), some (.int (nI t)), some (.int (nI e))] [] N I3 J R Q := by
        intro d'
        induction d' with
        | zero =>
          intro e I3 h4 hl3 hS h6
          have h5 : e = xn X := by omega
          subst h5
          have hE := hl3.enc hE
          refine kw_ild_n x_M_remembers_19 rfl ?_
          refine kw_ald_n x_M_remembers_20 rfl ?_
          refine kw_gr x_M_remembers_21 (by exact isM_k hM) (by exact isM_r0 hM) ?_
          refine kw_icon x_M_remembers_24 ?_
          refine kw_iald_n x_M_remembers_25 (by first | exact isM_a1 hM | exact isM_a2 hM | exact isM_a3 hM | exact isM_a4 hM | exact isM_a5 hM | exact isM_a6 hM | exact isM_a7 hM | exact isM_a8 hM | exact isM_a10 hM | exact isM_a11 hM) (by omega) (by omega) (by first | exact hE.1 | exact hE.2.1 | exact hE.2.2.1 | exact hS _ (by omega) | exact rfl) ?_
          first | refine kw_ic_ge_n x_M_remembers_26 ⟨by omega, by omega⟩ (fun h26 => ?_) (fun h26 => ?_) | refine kw_ic_ge x_M_remembers_26 (fun h26 => ?_) (fun h26 => ?_)
          · first
            | exfalso; omega
            | skip
              refine kw_ald_n x_M_remembers_60 rfl ?_
              refine kw_gr x_M_remembers_61 (by exact isM_k hM) (by exact isM_r0 hM) ?_
              refine kw_icon x_M_remembers_64 ?_
              refine kw_iald_n x_M_remembers_65 (by first | exact isM_a1 hM | exact isM_a2 hM | exact isM_a3 hM | exact isM_a4 hM | exact isM_a5 hM | exact isM_a6 hM | exact isM_a7 hM | exact isM_a8 hM | exact isM_a10 hM | exact isM_a11 hM) (by omega) (by omega) (by first | exact hE.1 | exact hE.2.1 | exact hE.2.2.1 | exact hS _ (by omega) | exact rfl) ?_
              refine kw_ist_n x_M_remembers_66 (by decide) ?_
              exact inner2 (60 - xn X) (xn X) I3 (by omega) (Nat.le_refl _) hl3 h6
          · first
            | exfalso; omega
            | skip
              skip
        | succ d' ih' =>
          intro e I3 h4 hl3 hS h6
          have hE := hl3.enc hE
          refine kw_ild_n x_M_remembers_19 rfl ?_
          refine kw_ald_n x_M_remembers_20 rfl ?_
          refine kw_gr x_M_remembers_21 (by exact isM_k hM) (by exact isM_r0 hM) ?_
          refine kw_icon x_M_remembers_24 ?_
          refine kw_iald_n x_M_remembers_25 (by first | exact isM_a1 hM | exact isM_a2 hM | exact isM_a3 hM | exact isM_a4 hM | exact isM_a5 hM | exact isM_a6 hM | exact isM_a7 hM | exact isM_a8 hM | exact isM_a10 hM | exact isM_a11 hM) (by omega) (by omega) (by first | exact hE.1 | exact hE.2.1 | exact hE.2.2.1 | exact hS _ (by omega) | exact rfl) ?_
          first | refine kw_ic_ge_n x_M_remembers_26 ⟨by omega, by omega⟩ (fun h26 => ?_) (fun h26 => ?_) | refine kw_ic_ge x_M_remembers_26 (fun h26 => ?_) (fun h26 => ?_)
          · first
            | exfalso; omega
            | skip
              skip
          · first
            | exfalso; omega
            | skip
              refine kw_ald_n x_M_remembers_29 rfl ?_
              refine kw_gr x_M_remembers_30 (by exact isM_k hM) (by exact isM_r12 hM) ?_
              refine kw_bip x_M_remembers_33 ?_
              refine kw_ild_n x_M_remembers_35 rfl ?_
              first | refine kw_imul_n x_M_remembers_36 ?_ | refine kw_imul x_M_remembers_36 ?_
              refine kw_ild_n x_M_remembers_37 rfl ?_
              first | refine kw_iadd_n x_M_remembers_38 ?_ | refine kw_iadd x_M_remembers_38 ?_
              refine kw_ald_n x_M_remembers_39 rfl ?_
              refine kw_gr x_M_remembers_40 (by exact isM_k hM) (by exact isM_r8 hM) ?_
              refine kw_ild_n x_M_remembers_43 rfl ?_
              refine kw_iald_n x_M_remembers_44 (by first | exact isM_a1 hM | exact isM_a2 hM | exact isM_a3 hM | exact isM_a4 hM | exact isM_a5 hM | exact isM_a6 hM | exact isM_a7 hM | exact isM_a8 hM | exact isM_a10 hM | exact isM_a11 hM) (by omega) (by omega) (by first | exact hE.1 | exact hE.2.1 | exact hE.2.2.1 | exact hS _ (by omega) | exact rfl) ?_
              first | refine kw_if_ne_c x_M_remembers_45 (xst_4 _ _ _) (fun h45 => ?_) (fun h45 => ?_) | refine kw_if_ne_b x_M_remembers_45 (fun h45 => ?_) (fun h45 => ?_) | refine kw_if_ne_s x_M_remembers_45 ⟨by omega, by omega⟩ (fun h45 => ?_) (fun h45 => ?_) | refine kw_if_ne_n x_M_remembers_45 (by omega) (fun h45 => ?_) (fun h45 => ?_) | refine kw_if_ne x_M_remembers_45 (fun h45 => ?_) (fun h45 => ?_)
              · first
                | exfalso; omega
                | skip
                  refine kw_icon x_M_remembers_52 ?_
                  first | refine kw_zast_n x_M_remembers_53 (by exact isM_a9 hM) (by omega) (by omega) ?_ | refine kw_zast_n (b := true) x_M_remembers_53 (by exact isM_a9 hM) (by omega) (by omega) ?_ | refine kw_zast_n (b := false) x_M_remembers_53 (by exact isM_a9 hM) (by omega) (by omega) ?_
                  first | refine kw_iinc_n x_M_remembers_54 (by decide) rfl ?_ | refine kw_iinc x_M_remembers_54 (by decide) rfl ?_
                  refine kw_goto x_M_remembers_57 ?_
                  refine ih' (e + 1) _ (by omega) (hl3.tr ⟨fun a g1 g2 g3 g4 g5 => kt_u1_ne _ _ _ g5, fun j _ => by simp [kt_u1]⟩) (fun e' he' => by rw [kt_u1_ne _ _ _ (by omega)]; exact hS e' he') (fun q hq => ?_)
                  by_cases hqe : q = 60 * t + e
                  · subst hqe
                    rw [show (60 * t + e) / 60 = t by omega, show (60 * t + e) % 60 = e by omega]
                    simp [kt_u1, xac, show e < xn X by omega, *]
                  · simp [kt_u1, hqe]
                    exact h6 q (by omega)
              · first
                | exfalso; omega
                | skip
                  refine kw_icon x_M_remembers_48 ?_
                  refine kw_goto x_M_remembers_49 ?_
                  first | refine kw_zast_n x_M_remembers_53 (by exact isM_a9 hM) (by omega) (by omega) ?_ | refine kw_zast_n (b := true) x_M_remembers_53 (by exact isM_a9 hM) (by omega) (by omega) ?_ | refine kw_zast_n (b := false) x_M_remembers_53 (by exact isM_a9 hM) (by omega) (by omega) ?_
                  first | refine kw_iinc_n x_M_remembers_54 (by decide) rfl ?_ | refine kw_iinc x_M_remembers_54 (by decide) rfl ?_
                  refine kw_goto x_M_remembers_57 ?_
                  refine ih' (e + 1) _ (by omega) (hl3.tr ⟨fun a g1 g2 g3 g4 g5 => kt_u1_ne _ _ _ g5, fun j _ => by simp [kt_u1]⟩) (fun e' he' => by rw [kt_u1_ne _ _ _ (by omega)]; exact hS e' he') (fun q hq => ?_)
                  by_cases hqe : q = 60 * t + e
                  · subst hqe
                    rw [show (60 * t + e) / 60 = t by omega, show (60 * t + e) % 60 = e by omega]
                    simp [kt_u1, xac, show e < xn X by omega, *]
                  · simp [kt_u1, hqe]
                    exact h6 q (by omega)
      refine kw_ild_n x_M_remembers_2 rfl ?_
      refine kw_ald_n x_M_remembers_3 rfl ?_
      refine kw_gr x_M_remembers_4 (by exact isM_k hM) (by exact isM_r0 hM) ?_
      refine kw_icon x_M_remembers_7 ?_
      refine kw_iald_n x_M_remembers_8 (by first | exact isM_a1 hM | exact isM_a2 hM | exact isM_a3 hM | exact isM_a4 hM | exact isM_a5 hM | exact isM_a6 hM | exact isM_a7 hM | exact isM_a8 hM | exact isM_a10 hM | exact isM_a11 hM) (by omega) (by omega) (by first | exact hE.1 | exact hE.2.1 | exact hE.2.2.1 | exact hS _ (by omega) | exact rfl) ?_
      first | refine kw_ic_ge_n x_M_remembers_9 ⟨by omega, by omega⟩ (fun h9 => ?_) (fun h9 => ?_) | refine kw_ic_ge x_M_remembers_9 (fun h9 => ?_) (fun h9 => ?_)
      · first
        | exfalso; omega
        | skip
          skip
      · first
        | exfalso; omega
        | skip
          refine kw_ald_n x_M_remembers_12 rfl ?_
          refine kw_ild_n x_M_remembers_13 rfl ?_
          refine c_M_remembers_14 (by exact isM_k hM) (Nat.le_of_ble_eq_true rfl) ?_
          refine s_M_thinksAll hM hE hW (by omega) (fun I2 hl2 hS2 => ?_)
          refine kw_icon x_M_remembers_17 ?_
          refine kw_ist_n x_M_remembers_18 (by decide) ?_
          exact inner1 (xn X) 0 I2 (by omega) hl2.l2 hS2 (fun q hq => by rw [hl2.1 (m + 9) (by omega) (by omega) (by omega) (by omega)]; exact h2 q (by omega))
  refine kw_icon x_M_remembers_0 ?_
  refine kw_ist_n x_M_remembers_1 (by decide) ?_
  exact outer (xT X) 0 I _ (by omega) kt_lm.rf.l2 (fun q hq => absurd hq (by omega))
end MA
