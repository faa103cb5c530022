/-! the reference: its past -/
theorem kt_enc_ext {S S' : Nat → Int32} {X : kt_X} (h : ∀ q, q < 548 → S' q = S q) (hn : xn X ≤ 60) (hE : kt_enc S X) : kt_enc S' X := by
  obtain ⟨h1, h2, h3, h4, h5⟩ := hE
  exact ⟨by rw [h 0 (by omega)]; exact h1, by rw [h 1 (by omega)]; exact h2, by rw [h 2 (by omega)]; exact h3, fun t ht => by rw [h _ (by omega)]; exact h4 t ht, fun e f he hf => by rw [h _ (by omega)]; exact h5 e f he hf⟩
def xpn (np : Nat) : Nat := if np = 4 then 4 else np + 1
def xpp (np : Nat) (PX : Nat → kt_X) (X : kt_X) : Nat → kt_X := fun j => if np = 4 then (if j < 3 then PX (j + 1) else X) else (if j = np then X else PX j)
/-- the past: how many states, and which -/
def kt_pa (m np : Nat) (PX : Nat → kt_X) (I : kt_I) : Prop := I m 4 = nI np ∧ np ≤ 4 ∧ ∀ j, j < np → xn (PX j) ≤ 60 ∧ kt_enc (fun q => I (m + 2) (548 * j + q)) (PX j)
theorem kt_pa.same {m np : Nat} {PX : Nat → kt_X} {I I' : kt_I} (h : kt_pa m np PX I) (h1 : I' m 4 = I m 4) (h2 : I' (m + 2) = I (m + 2)) : kt_pa m np PX I' := ⟨h1.trans h.1, h.2.1, fun j hj => by rw [h2]; exact h.2.2 j hj⟩
/-- what a change leaves as it was -/
def kt_lc (m : Nat) (I I' : kt_I) : Prop := (∀ a, a ≠ m → a ≠ m + 1 → a ≠ m + 2 → a ≠ m + 6 → a ≠ m + 7 → a ≠ m + 8 → a ≠ m + 9 → I' a = I a) ∧ ∀ j, j ≠ 4 → j ≠ 10 → I' m j = I m j
theorem kt_lc.rf {m : Nat} {I : kt_I} : kt_lc m I I := ⟨fun _ _ _ _ _ _ _ _ => rfl, fun _ _ _ => rfl⟩
theorem kt_lc.tr {m : Nat} {I I' I'' : kt_I} (h : kt_lc m I I') (h' : kt_lc m I' I'') : kt_lc m I I'' := ⟨fun a h1 h2 h3 h4 h5 h6 h7 => (h'.1 a h1 h2 h3 h4 h5 h6 h7).trans (h.1 a h1 h2 h3 h4 h5 h6 h7), fun j h1 h2 => (h'.2 j h1 h2).trans (h.2 j h1 h2)⟩
theorem kt_l2.lc {m : Nat} {I I' : kt_I} (h : kt_l2 m I I') : kt_lc m I I' := ⟨fun a h1 _ _ h4 h5 h6 h7 => h.1 a h1 h4 h5 h6 h7, fun j _ h2 => h.2 j h2⟩
theorem kt_l3.lc {m : Nat} {I I' : kt_I} (h : kt_l3 m I I') : kt_lc m I I' := ⟨fun a h1 h2 _ h4 h5 h6 _ => h.1 a h1 h2 h4 h5 h6, fun j _ h2 => h.2 j h2⟩
theorem kt_lm.lc {m : Nat} {I I' : kt_I} (h : kt_lm m I I') : kt_lc m I I' := h.l2.lc
theorem kt_lc.u1 {m j : Nat} {x : Int32} {I : kt_I} : kt_lc m I (kt_u1 I (m + 1) j x) := ⟨fun a _ h2 _ _ _ _ _ => kt_u1_ne _ _ _ h2, fun q _ _ => by simp [kt_u1]⟩
section MR
variable {P : kt_P} {N : Nat} {I : kt_I} {J : kt_J} {R : kt_R} {Q : Option Value → kt_I → kt_J → kt_R → Prop} {m : Nat} {X : kt_X}
theorem s_M_copies {a b : Nat} (h1 : kt_kd P N a = (6, 548)) (h2 : kt_kd P N b = (6, 548)) (hab : a ≠ b) (k : ∀ I', (∀ c, c ≠ b → I' c = I c) → (∀ q, q < 548 → I' b q = I a q) → Q none I' J R) : KW P i_M_copies N 0 [some (.ref a), some (.ref b), none] [] N I J R Q := by
  have loop : ∀ (d e : Nat) (I1 : kt_I), e + d = 548 → (∀ c, c ≠ b → I1 c = I c) → (∀ q, q < e → I1 b q = I a q) → KW P i_M_copies N 2 [some (.ref a), some (.ref b), some (.int (nI e))] [] N I1 J R Q := by
    intro d
    induction d with
    | zero =>
      intro e I1 g1 g2 g3
      have h3 : e = 548 := by omega
      subst h3
      refine kw_ild_n x_M_copies_2 rfl ?_
      refine kw_sip x_M_copies_3 ?_
      first | refine kw_ic_ge_n x_M_copies_6 ⟨by omega, by omega⟩ (fun h6 => ?_) (fun h6 => ?_) | refine kw_ic_ge x_M_copies_6 (fun h6 => ?_) (fun h6 => ?_)
      · first
        | exfalso; omega
        | skip
          refine kw_vret x_M_copies_21 ?_
          exact k I1 g2 g3
      · first
        | exfalso; omega
        | skip
          skip
    | succ d ih =>
      intro e I1 g1 g2 g3
      refine kw_ild_n x_M_copies_2 rfl ?_
      refine kw_sip x_M_copies_3 ?_
      first | refine kw_ic_ge_n x_M_copies_6 ⟨by omega, by omega⟩ (fun h6 => ?_) (fun h6 => ?_) | refine kw_ic_ge x_M_copies_6 (fun h6 => ?_) (fun h6 => ?_)
      · first
        | exfalso; omega
        | skip
          skip
      · first
        | exfalso; omega
        | skip
          refine kw_ald_n x_M_copies_9 rfl ?_
          refine kw_ild_n x_M_copies_10 rfl ?_
          refine kw_ald_n x_M_copies_11 rfl ?_
          refine kw_ild_n x_M_copies_12 rfl ?_
          refine kw_iald_n x_M_copies_13 (by first | assumption) (by omega) (by omega) (by exact rfl) ?_
          refine kw_iast_n x_M_copies_14 (by first | assumption) (by omega) (by omega) ?_
          first | refine kw_iinc_n x_M_copies_15 (by decide) rfl ?_ | refine kw_iinc x_M_copies_15 (by decide) rfl ?_
          refine kw_goto x_M_copies_18 ?_
          refine ih (e + 1) _ (by omega) (fun c hc => by rw [kt_u1_ne _ _ _ hc]; exact g2 c hc) (fun q hq => ?_)
          by_cases hqe : q = e
          · subst hqe
            simp [kt_u1]
            rw [g2 a hab]
          · simp [kt_u1, hqe]
            exact g3 q (by omega)
  refine kw_icon x_M_copies_0 ?_
  refine kw_ist_n x_M_copies_1 (by decide) ?_
  exact loop 548 0 I (by omega) (fun _ _ => rfl) (fun q hq => absurd hq (Nat.not_lt_zero q))
theorem s_M_rec2 (hM : kt_isM P N R m) {p : Nat} (hp : p < 4) (hp4 : I m 4 = nI p) (k : ∀ I', (∀ a, a ≠ m → a ≠ m + 2 → I' a = I a) → (∀ j, j ≠ 4 → I' m j = I m j) → I' m 4 = nI (p + 1) → (∀ q, I' (m + 2) q = if 548 * p ≤ q ∧ q < 548 * p + 548 then I (m + 1) (q - 548 * p) else I (m + 2) q) → Q none I' J R) :
    ∀ v1, KW P i_M_records N 49 [some (.ref m), v1] [] N I J R Q := by
  have loop : ∀ (d e : Nat) (I1 : kt_I), e + d = 548 → (∀ a, a ≠ m + 2 → I1 a = I a) → (∀ q, I1 (m + 2) q = if 548 * p ≤ q ∧ q < 548 * p + e then I (m + 1) (q - 548 * p) else I (m + 2) q) → KW P i_M_records N 51 [some (.ref m), some (.int (nI e))] [] N I1 J R Q := by
    intro d
    induction d with
    | zero =>
      intro e I1 g1 g2 g3
      have h3 : e = 548 := by omega
      subst h3
      have hp4 : I1 m 4 = nI p := by rw [g2 m (by omega)]; exact hp4
      refine kw_ild_n x_M_records_51 rfl ?_
      refine kw_sip x_M_records_52 ?_
      first | refine kw_ic_ge_n x_M_records_55 ⟨by omega, by omega⟩ (fun h55 => ?_) (fun h55 => ?_) | refine kw_ic_ge x_M_records_55 (fun h55 => ?_) (fun h55 => ?_)
      · first
        | exfalso; omega
        | skip
          refine kw_ald_n x_M_records_85 rfl ?_
          refine kw_dup x_M_records_86 rfl ?_
          refine kw_gi_e x_M_records_87 (by exact isM_k hM) (by first | exact hp4 | fail | fail | fail | exact rfl) ?_
          refine kw_icon x_M_records_90 ?_
          first | refine kw_iadd_n x_M_records_91 ?_ | refine kw_iadd x_M_records_91 ?_
          refine kw_pi x_M_records_92 (by exact isM_k hM) ?_
          refine kw_vret x_M_records_95 ?_
          exact k _ (fun a h1 h2 => by rw [kt_u1_ne _ _ _ h1]; exact g2 a h2) (fun j hj => by simp [kt_u1, hj]; rw [g2 m (by omega)]) (by simp [kt_u1]) (fun q => by rw [kt_u1_ne _ _ _ (by omega)]; exact g3 q)
      · first
        | exfalso; omega
        | skip
          skip
    | succ d ih =>
      intro e I1 g1 g2 g3
      have hp4 : I1 m 4 = nI p := by rw [g2 m (by omega)]; exact hp4
      refine kw_ild_n x_M_records_51 rfl ?_
      refine kw_sip x_M_records_52 ?_
      first | refine kw_ic_ge_n x_M_records_55 ⟨by omega, by omega⟩ (fun h55 => ?_) (fun h55 => ?_) | refine kw_ic_ge x_M_records_55 (fun h55 => ?_) (fun h55 => ?_)
      · first
        | exfalso; omega
        | skip
          skip
      · first
        | exfalso; omega
        | skip
          refine kw_ald_n x_M_records_58 rfl ?_
          refine kw_gr x_M_records_59 (by exact isM_k hM) (by exact isM_r1 hM) ?_
          refine kw_sip x_M_records_62 ?_
          refine kw_ald_n x_M_records_65 rfl ?_
          refine kw_gi_e x_M_records_66 (by exact isM_k hM) (by first | exact hp4 | exact rfl) ?_
          first | refine kw_imul_n x_M_records_69 ?_ | refine kw_imul x_M_records_69 ?_
          refine kw_ild_n x_M_records_70 rfl ?_
          first | refine kw_iadd_n x_M_records_71 ?_ | refine kw_iadd x_M_records_71 ?_
          refine kw_ald_n x_M_records_72 rfl ?_
          refine kw_gr x_M_records_73 (by exact isM_k hM) (by exact isM_r0 hM) ?_
          refine kw_ild_n x_M_records_76 rfl ?_
          refine kw_iald_n x_M_records_77 (by first | exact isM_a1 hM | exact isM_a2 hM | exact isM_a3 hM | exact isM_a4 hM | exact isM_a5 hM | exact isM_a6 hM | exact isM_a7 hM | exact isM_a8 hM | exact isM_a10 hM | exact isM_a11 hM) (by omega) (by omega) (by first | exact hp4 | exact rfl) ?_
          refine kw_iast_n x_M_records_78 (by first | exact isM_a1 hM | exact isM_a2 hM | exact isM_a3 hM | exact isM_a4 hM | exact isM_a5 hM | exact isM_a6 hM | exact isM_a7 hM | exact isM_a8 hM | exact isM_a10 hM | exact isM_a11 hM) (by omega) (by omega) ?_
          first | refine kw_iinc_n x_M_records_79 (by decide) rfl ?_ | refine kw_iinc x_M_records_79 (by decide) rfl ?_
          refine kw_goto x_M_records_82 ?_
          refine ih (e + 1) _ (by omega) (fun a ha => by rw [kt_u1_ne _ _ _ ha]; exact g2 a ha) (fun q => ?_)
          by_cases hqe : q = 548 * p + e
          · subst hqe
            rw [if_pos (by omega), show 548 * p + e - 548 * p = e by omega]
            simp [kt_u1]
            rw [g2 (m + 1) (by omega)]
          · simp only [kt_u1, hqe, and_false, if_false]
            rw [g3 q]
            by_cases hc : 548 * p ≤ q ∧ q < 548 * p + e
            · rw [if_pos hc, if_pos (by omega)]
            · rw [if_neg hc, if_neg (by omega)]
  intro v1
  refine kw_icon x_M_records_49 ?_
  refine kw_ist_n x_M_records_50 (by decide) ?_
  exact loop 548 0 I (by omega) (fun _ _ => rfl) (fun q => by rw [if_neg (by omega)])
theorem kt_pa_push (hE : kt_enc (I (m + 1)) X) (hn : xn X ≤ 60) {np p : Nat} {PX : Nat → kt_X} {I' : kt_I} (hpa : kt_pa m np PX I) (hq : (np = 4 ∧ p = 3) ∨ (np ≠ 4 ∧ p = np)) (h4 : I' m 4 = nI (p + 1))
    (h2 : ∀ q, q < 2192 → I' (m + 2) q = if 548 * p ≤ q ∧ q < 548 * p + 548 then I (m + 1) (q - 548 * p) else (if np = 4 then I (m + 2) (q + 548) else I (m + 2) q)) : kt_pa m (xpn np) (xpp np PX X) I' := by
  obtain ⟨hp4, hp5, hps⟩ := hpa
  rcases hq with ⟨e1, e2⟩ | ⟨e1, e2⟩
  · subst e1; subst e2
    refine ⟨h4, by decide, fun j hj => ?_⟩
    have hj4 : j < 4 := hj
    unfold xpp
    rw [if_pos rfl]
    by_cases h3 : j < 3
    · rw [if_pos h3]
      refine ⟨(hps (j + 1) (by omega)).1, kt_enc_ext (fun q hq => ?_) (hps (j + 1) (by omega)).1 (hps (j + 1) (by omega)).2⟩
      rw [h2 _ (by omega), if_neg (by omega), if_pos rfl, show 548 * j + q + 548 = 548 * (j + 1) + q by omega]
    · rw [if_neg h3]
      refine ⟨hn, kt_enc_ext (fun q hq => ?_) hn hE⟩
      rw [h2 _ (by omega), if_pos (by omega), show 548 * j + q - 548 * 3 = q by omega]
  · subst e2
    have hx : xpn p = p + 1 := by unfold xpn; rw [if_neg e1]
    refine ⟨by rw [hx]; exact h4, by rw [hx]; omega, fun j hj => ?_⟩
    rw [hx] at hj
    unfold xpp
    rw [if_neg e1]
    by_cases h3 : j = p
    · rw [if_pos h3]
      subst h3
      refine ⟨hn, kt_enc_ext (fun q hq => ?_) hn hE⟩
      rw [h2 _ (by omega), if_pos (by omega), show 548 * j + q - 548 * j = q by omega]
    · rw [if_neg h3]
      refine ⟨(hps j (by omega)).1, kt_enc_ext (fun q hq => ?_) (hps j (by omega)).1 (hps j (by omega)).2⟩
      rw [h2 _ (by omega), if_neg (by omega), if_neg e1]
theorem s_M_records (hM : kt_isM P N R m) (hE : kt_enc (I (m + 1)) X) (hn : xn X ≤ 60) {np : Nat} {PX : Nat → kt_X} (hpa : kt_pa m np PX I) (k : ∀ I', (∀ a, a ≠ m → a ≠ m + 2 → I' a = I a) → (∀ j, j ≠ 4 → I' m j = I m j) → kt_pa m (xpn np) (xpp np PX X) I' → Q none I' J R) :
    KW P i_M_records N 0 [some (.ref m), none] [] N I J R Q := by
  have hp4 := hpa.1
  have hp5 := hpa.2.1
  have loop : ∀ (d e : Nat) (I1 : kt_I), np = 4 → e + d = 1644 → (∀ a, a ≠ m + 2 → I1 a = I a) → (∀ q, I1 (m + 2) q = if q < e then I (m + 2) (q + 548) else I (m + 2) q) → KW P i_M_records N 10 [some (.ref m), some (.int (nI e))] [] N I1 J R Q := by
    intro d
    induction d with
    | zero =>
      intro e I1 g0 g1 g2 g3
      have h3 : e = 1644 := by omega
      subst h3; subst g0
      have hp4 : I1 m 4 = nI 4 := by rw [g2 m (by omega)]; exact hp4
      refine kw_ild_n x_M_records_10 rfl ?_
      refine kw_sip x_M_records_11 ?_
      first | refine kw_ic_ge_n x_M_records_14 ⟨by omega, by omega⟩ (fun h14 => ?_) (fun h14 => ?_) | refine kw_ic_ge x_M_records_14 (fun h14 => ?_) (fun h14 => ?_)
      · first
        | exfalso; omega
        | skip
          refine kw_ald_n x_M_records_39 rfl ?_
          refine kw_dup x_M_records_40 rfl ?_
          refine kw_gi_e x_M_records_41 (by exact isM_k hM) (by first | exact hp4 | exact rfl) ?_
          refine kw_icon x_M_records_44 ?_
          first | refine kw_isub_n x_M_records_45 (by omega) ?_ | refine kw_isub x_M_records_45 ?_
          refine kw_pi x_M_records_46 (by exact isM_k hM) ?_
          refine s_M_rec2 hM (p := 3) (by decide) (by simp [kt_u1]) (fun I' f1 f2 f3 f4 => ?_) _
          refine k I' (fun a h1 h2 => by rw [f1 a h1 h2, kt_u1_ne _ _ _ h1]; exact g2 a h2) (fun j hj => by rw [f2 j hj]; simp [kt_u1, hj]; rw [g2 m (by omega)]) (kt_pa_push hE hn hpa (Or.inl ⟨rfl, rfl⟩) f3 (fun q hq => ?_))
          rw [f4 q, kt_u1_ne _ _ _ (by omega), kt_u1_ne _ _ _ (by omega), g2 (m + 1) (by omega), g3 q]
          by_cases hc : 548 * 3 ≤ q ∧ q < 548 * 3 + 548
          · rw [if_pos hc, if_pos hc]
          · rw [if_neg hc, if_neg hc, if_pos (by omega), if_pos rfl]
      · first
        | exfalso; omega
        | skip
          skip
    | succ d ih =>
      intro e I1 g0 g1 g2 g3
      refine kw_ild_n x_M_records_10 rfl ?_
      refine kw_sip x_M_records_11 ?_
      first | refine kw_ic_ge_n x_M_records_14 ⟨by omega, by omega⟩ (fun h14 => ?_) (fun h14 => ?_) | refine kw_ic_ge x_M_records_14 (fun h14 => ?_) (fun h14 => ?_)
      · first
        | exfalso; omega
        | skip
          skip
      · first
        | exfalso; omega
        | skip
          refine kw_ald_n x_M_records_17 rfl ?_
          refine kw_gr x_M_records_18 (by exact isM_k hM) (by exact isM_r1 hM) ?_
          refine kw_ild_n x_M_records_21 rfl ?_
          refine kw_ald_n x_M_records_22 rfl ?_
          refine kw_gr x_M_records_23 (by exact isM_k hM) (by exact isM_r1 hM) ?_
          refine kw_ild_n x_M_records_26 rfl ?_
          refine kw_sip x_M_records_27 ?_
          first | refine kw_iadd_n x_M_records_30 ?_ | refine kw_iadd x_M_records_30 ?_
          refine kw_iald_n x_M_records_31 (by first | exact isM_a1 hM | exact isM_a2 hM | exact isM_a3 hM | exact isM_a4 hM | exact isM_a5 hM | exact isM_a6 hM | exact isM_a7 hM | exact isM_a8 hM | exact isM_a10 hM | exact isM_a11 hM) (by omega) (by omega) (by first | exact hp4 | exact rfl) ?_
          refine kw_iast_n x_M_records_32 (by first | exact isM_a1 hM | exact isM_a2 hM | exact isM_a3 hM | exact isM_a4 hM | exact isM_a5 hM | exact isM_a6 hM | exact isM_a7 hM | exact isM_a8 hM | exact isM_a10 hM | exact isM_a11 hM) (by omega) (by omega) ?_
          first | refine kw_iinc_n x_M_records_33 (by decide) rfl ?_ | refine kw_iinc x_M_records_33 (by decide) rfl ?_
          refine kw_goto x_M_records_36 ?_
          refine ih (e + 1) _ g0 (by omega) (fun a ha => by rw [kt_u1_ne _ _ _ ha]; exact g2 a ha) (fun q => ?_)
          by_cases hqe : q = e
          · subst hqe
            rw [if_pos (by omega)]
            simp [kt_u1]
            rw [g3, if_neg (by omega)]
          · simp only [kt_u1, hqe, and_false, if_false]
            rw [g3 q]
            by_cases hc : q < e
            · rw [if_pos hc, if_pos (by omega)]
            · rw [if_neg hc, if_neg (by omega)]
  refine kw_ald_n x_M_records_0 rfl ?_
  refine kw_gi_e x_M_records_1 (by exact isM_k hM) (by first | exact hp4 | exact rfl) ?_
  refine kw_icon x_M_records_4 ?_
  first | refine kw_ic_ne_n x_M_records_5 ⟨by omega, by omega⟩ (fun h5 => ?_) (fun h5 => ?_) | refine kw_ic_ne x_M_records_5 (fun h5 => ?_) (fun h5 => ?_)
  · first
    | exfalso; omega
    | skip
      refine s_M_rec2 hM (p := np) (by omega) hp4 (fun I' f1 f2 f3 f4 => ?_) _
      refine k I' f1 f2 (kt_pa_push hE hn hpa (Or.inr ⟨by omega, rfl⟩) f3 (fun q hq => ?_))
      rw [f4 q, if_neg (show ¬ np = 4 by omega)]
  · first
    | exfalso; omega
    | skip
      refine kw_icon x_M_records_8 ?_
      refine kw_ist_n x_M_records_9 (by decide) ?_
      exact loop 1644 0 I (by omega) (by omega) (fun _ _ => rfl) (fun q => by rw [if_neg (by omega)])
def xqn (bo : Bool) (np : Nat) : Nat := match bo with
  | true => np
  | false => xpn np
def xqp (bo : Bool) (np : Nat) (PX : Nat → kt_X) (X : kt_X) : Nat → kt_X := match bo with
  | true => PX
  | false => xpp np PX X
theorem s_M_changes (hM : kt_isM P N R m) (hE : kt_enc (I (m + 1)) X) (hW : kt_wf X) {np : Nat} {PX : Nat → kt_X} {bo : Bool} (hpa : kt_pa m np PX I) (hbo : I m 5 = kt_bo bo)
    (k : ∀ I', kt_lc m I I' → kt_enc (I' (m + 1)) X → kt_pa m (xqn bo np) (xqp bo np PX X) I' → (∀ t e, t < xT X → e < 60 → I' (m + 9) (60 * t + e) = kt_bo (xac X t e)) → Q none I' J R) : KW P i_M_changes N 0 [some (.ref m)] [] N I J R Q := by
  have hn := hW.2.2.1
  refine kw_ald_n x_M_changes_0 rfl ?_
  refine kw_gz_e x_M_changes_1 (by exact isM_k hM) (by first | exact hbo | exact rfl) ?_
  first | refine kw_if_ne_b x_M_changes_4 (fun h4 => ?_) (fun h4 => ?_) | refine kw_if_ne_s x_M_changes_4 ⟨by omega, by omega⟩ (fun h4 => ?_) (fun h4 => ?_) | refine kw_if_ne_n x_M_changes_4 (by omega) (fun h4 => ?_) (fun h4 => ?_) | refine kw_if_ne x_M_changes_4 (fun h4 => ?_) (fun h4 => ?_)
  · first
    | exfalso; omega
    | skip
      refine kw_ald_n x_M_changes_11 rfl ?_
      refine c_M_changes_12 (by exact isM_k hM) (Nat.le_of_ble_eq_true rfl) ?_
      refine s_M_remembers hM (by first | exact hE | (rw [f1 (m + 1) (by omega) (by omega)]; exact hE)) hW (fun I2 hl2 hA => ?_)
      refine kw_vret x_M_changes_15 ?_
      first
        | (subst h4
           exact k I2 hl2.lc (hl2.enc hE) (hpa.same (hl2.2 4 (by decide)) (hl2.1 _ (by omega) (by omega) (by omega) (by omega) (by omega))) hA)
        | (subst h4
           exact k I2 (kt_lc.tr ⟨fun a h1 _ h3 _ _ _ _ => f1 a h1 h3, fun j h1 _ => f2 j h1⟩ hl2.lc) (hl2.enc (by rw [f1 (m + 1) (by omega) (by omega)]; exact hE)) (f3.same (hl2.2 4 (by decide)) (hl2.1 _ (by omega) (by omega) (by omega) (by omega) (by omega))) hA)
  · first
    | exfalso; omega
    | skip
      refine kw_ald_n x_M_changes_7 rfl ?_
      refine c_M_changes_8 (by exact isM_k hM) (Nat.le_of_ble_eq_true rfl) ?_
      refine s_M_records hM hE hn hpa (fun I1 f1 f2 f3 => ?_)
      refine kw_ald_n x_M_changes_11 rfl ?_
      refine c_M_changes_12 (by exact isM_k hM) (Nat.le_of_ble_eq_true rfl) ?_
      refine s_M_remembers hM (by first | exact hE | (rw [f1 (m + 1) (by omega) (by omega)]; exact hE)) hW (fun I2 hl2 hA => ?_)
      refine kw_vret x_M_changes_15 ?_
      first
        | (subst h4
           exact k I2 hl2.lc (hl2.enc hE) (hpa.same (hl2.2 4 (by decide)) (hl2.1 _ (by omega) (by omega) (by omega) (by omega) (by omega))) hA)
        | (subst h4
           exact k I2 (kt_lc.tr ⟨fun a h1 _ h3 _ _ _ _ => f1 a h1 h3, fun j h1 _ => f2 j h1⟩ hl2.lc) (hl2.enc (by rw [f1 (m + 1) (by omega) (by omega)]; exact hE)) (f3.same (hl2.2 4 (by decide)) (hl2.1 _ (by omega) (by omega) (by omega) (by omega) (by omega))) hA)
end MR
