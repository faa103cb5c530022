/-! the reference, its small methods -/
theorem kt_kb {I : kt_I} {J : kt_J} {R : kt_R} {Q : Option Value → kt_I → kt_J → kt_R → Prop} {b b' : Bool} (k : Q (some (.int (kt_bo b))) I J R) (h : b = b') : Q (some (.int (kt_bo b'))) I J R := h ▸ k
theorem kt_ki {I : kt_I} {J : kt_J} {R : kt_R} {Q : Option Value → kt_I → kt_J → kt_R → Prop} {a b : Int32} (k : Q (some (.int a)) I J R) (h : b = a) : Q (some (.int b)) I J R := h ▸ k
theorem kt_xkb {X : kt_X} {t e : Nat} (ht : t < 5) : xk X t e = (xe X e 7).testBit t := by
  unfold xk
  rw [beq_eq_false_iff_ne.mpr (by omega)]
  rfl
def xstk (X : kt_X) (t g : Nat) : Nat → Nat
  | 0 => 0
  | e + 1 => xstk X t g e + (if xe X e 0 = 0 ∧ xe X e 3 = g ∧ xk X t e = true then xe X e 4 else 0)
def xcn (X : kt_X) (t o : Nat) : Nat → Bool
  | 0 => false
  | e + 1 => xcn X t o e || (decide (o < e) && decide (xe X e 0 = 2) && decide (xe X e 6 = o + 1) && xk X t e)
theorem xcn_lo (X : kt_X) (t o : Nat) : ∀ e, e ≤ o + 1 → xcn X t o e = false
  | 0, _ => rfl
  | e + 1, h => by
    unfold xcn
    rw [xcn_lo X t o e (by omega), decide_eq_false (show ¬ o < e by omega)]
    rfl
section KS
variable {P : kt_P} {i NM pc pc' : Nat} {L : List (Option Value)} {st : List Value} {N : Nat} {I : kt_I} {J : kt_J} {R : kt_R} {Q : Option Value → kt_I → kt_J → kt_R → Prop}
theorem kt_s_lt {x y : Nat} (hx : x < 1073741824) (hy : y < 1073741824) : nI x - nI y < 0 ↔ x < y := by
  rw [Int32.lt_iff_toInt_lt, pk_sub_toInt hx hy]
  have h0 : (0 : Int32).toInt = 0 := rfl
  omega
theorem kt_s_eq {x y : Nat} (hx : x < 1073741824) (hy : y < 1073741824) : nI x - nI y = 0 ↔ x = y := by
  constructor
  · intro h
    have := pk_sub_toInt hx hy
    rw [h] at this
    have h0 : (0 : Int32).toInt = 0 := rfl
    omega
  · rintro rfl
    exact Int32.sub_self _
theorem kw_if_lt_s {x y tgt : Nat} (hd : kt_dj i pc (.ifCond .lt) tgt pc') (hb : x < 1073741824 ∧ y < 1073741824) (k1 : x < y → KW P i NM tgt L st N I J R Q) (k2 : y ≤ x → KW P i NM pc' L st N I J R Q) : KW P i NM pc L (.int (nI x - nI y) :: st) N I J R Q :=
  kw_if_lt hd (fun h => k1 ((kt_s_lt hb.1 hb.2).mp h)) (fun h => k2 (Nat.not_lt.mp fun q => h ((kt_s_lt hb.1 hb.2).mpr q)))
theorem kw_if_ne_s {x y tgt : Nat} (hd : kt_dj i pc (.ifCond .ne) tgt pc') (hb : x < 1073741824 ∧ y < 1073741824) (k1 : x ≠ y → KW P i NM tgt L st N I J R Q) (k2 : x = y → KW P i NM pc' L st N I J R Q) : KW P i NM pc L (.int (nI x - nI y) :: st) N I J R Q :=
  kw_if_ne hd (fun h => k1 fun q => h ((kt_s_eq hb.1 hb.2).mpr q)) (fun h => k2 ((kt_s_eq hb.1 hb.2).mp h))
end KS
section ML
variable {P : kt_P} {N : Nat} {I : kt_I} {J : kt_J} {R : kt_R} {Q : Option Value → kt_I → kt_J → kt_R → Prop} {m : Nat} {X : kt_X}
theorem s_M_in {v a b : Int32} (k : Q (some (.int (kt_bo (decide (a ≤ v ∧ v ≤ b))))) I J R) : KW P i_M_in N 0 [some (.int v), some (.int a), some (.int b)] [] N I J R Q := by
  refine kw_ild_n x_M_in_0 rfl ?_
  refine kw_ild_n x_M_in_1 rfl ?_
  first | refine kw_ic_lt_n x_M_in_2 ⟨by omega, by omega⟩ (fun h2 => ?_) (fun h2 => ?_) | refine kw_ic_lt x_M_in_2 (fun h2 => ?_) (fun h2 => ?_)
  · first
    | exfalso; omega
    | skip
      refine kw_icon x_M_in_14 ?_
      first | refine kw_zret_b x_M_in_15 ?_ | refine kw_zret_b (b := true) x_M_in_15 ?_ | refine kw_zret_b (b := false) x_M_in_15 ?_
      exact kt_kb k (by first | exact decide_eq_true ⟨Int32.not_lt.mp h2, Int32.not_lt.mp h7⟩ | exact decide_eq_false (fun q => absurd q.1 (Int32.not_le.mpr h2)) | exact decide_eq_false (fun q => absurd q.2 (Int32.not_le.mpr h7)))
  · first
    | exfalso; omega
    | skip
      refine kw_ild_n x_M_in_5 rfl ?_
      refine kw_ild_n x_M_in_6 rfl ?_
      first | refine kw_ic_gt_n x_M_in_7 ⟨by omega, by omega⟩ (fun h7 => ?_) (fun h7 => ?_) | refine kw_ic_gt x_M_in_7 (fun h7 => ?_) (fun h7 => ?_)
      · first
        | exfalso; omega
        | skip
          refine kw_icon x_M_in_14 ?_
          first | refine kw_zret_b x_M_in_15 ?_ | refine kw_zret_b (b := true) x_M_in_15 ?_ | refine kw_zret_b (b := false) x_M_in_15 ?_
          exact kt_kb k (by first | exact decide_eq_true ⟨Int32.not_lt.mp h2, Int32.not_lt.mp h7⟩ | exact decide_eq_false (fun q => absurd q.1 (Int32.not_le.mpr h2)) | exact decide_eq_false (fun q => absurd q.2 (Int32.not_le.mpr h7)))
      · first
        | exfalso; omega
        | skip
          refine kw_icon x_M_in_10 ?_
          refine kw_goto x_M_in_11 ?_
          first | refine kw_zret_b x_M_in_15 ?_ | refine kw_zret_b (b := true) x_M_in_15 ?_ | refine kw_zret_b (b := false) x_M_in_15 ?_
          exact kt_kb k (by first | exact decide_eq_true ⟨Int32.not_lt.mp h2, Int32.not_lt.mp h7⟩ | exact decide_eq_false (fun q => absurd q.1 (Int32.not_le.mpr h2)) | exact decide_eq_false (fun q => absurd q.2 (Int32.not_le.mpr h7)))
theorem s_M_of (hM : kt_isM P N R m) {e w : Nat} (he : e < 60) (hw : w < 9) (k : Q (some (.int (I (m + 1) (8 + 9 * e + w)))) I J R) : KW P i_M_of N 0 [some (.ref m), some (.int (nI e)), some (.int (nI w))] [] N I J R Q := by
  refine kw_ald_n x_M_of_0 rfl ?_
  refine kw_gr x_M_of_1 (by exact isM_k hM) (by exact isM_r0 hM) ?_
  refine kw_bip x_M_of_4 ?_
  refine kw_bip x_M_of_6 ?_
  refine kw_ild_n x_M_of_8 rfl ?_
  first | refine kw_imul_n x_M_of_9 ?_ | refine kw_imul x_M_of_9 ?_
  first | refine kw_iadd_n x_M_of_10 ?_ | refine kw_iadd x_M_of_10 ?_
  refine kw_ild_n x_M_of_11 rfl ?_
  first | refine kw_iadd_n x_M_of_12 ?_ | refine kw_iadd x_M_of_12 ?_
  refine kw_iald_n x_M_of_13 (by first | exact isM_a1 hM | exact isM_a2 hM | exact isM_a3 hM | exact isM_a4 hM | exact isM_a5 hM | exact isM_a6 hM | exact isM_a7 hM | exact isM_a8 hM | exact isM_a10 hM | exact isM_a11 hM) (by omega) (by omega) (by exact rfl) ?_
  refine kw_iret x_M_of_14 ?_
  exact k
theorem s_M_ofn (hM : kt_isM P N R m) (hE : kt_enc (I (m + 1)) X) (hn : xn X ≤ 60) {e w : Nat} (he : e < xn X) (hw : w < 9 ∧ w ≠ 5 ∧ w ≠ 6) (k : Q (some (.int (nI (xe X e w)))) I J R) : KW P i_M_of N 0 [some (.ref m), some (.int (nI e)), some (.int (nI w))] [] N I J R Q :=
  s_M_of hM (by omega) hw.1 (by rw [hE.2.2.2.2 e w he hw.1, kt_cd_n hw.2.1 hw.2.2]; exact k)
theorem s_M_ofc (hM : kt_isM P N R m) (hE : kt_enc (I (m + 1)) X) (hn : xn X ≤ 60) {e w : Nat} (he : e < xn X) (hw : w < 9) (k : Q (some (.int (kt_cd w (xe X e w)))) I J R) : KW P i_M_of N 0 [some (.ref m), some (.int (nI e)), some (.int (nI w))] [] N I J R Q :=
  s_M_of hM (by omega) hw (by rw [hE.2.2.2.2 e w he hw]; exact k)
theorem s_M_of5 (hM : kt_isM P N R m) (hE : kt_enc (I (m + 1)) X) (hn : xn X ≤ 60) {e : Nat} (he : e < xn X) (hp : 1 ≤ xe X e 5) (k : Q (some (.int (nI (xe X e 5 - 1)))) I J R) : KW P i_M_of N 0 [some (.ref m), some (.int (nI e)), some (.int (nI 5))] [] N I J R Q :=
  s_M_ofc hM hE hn he (by decide) (by unfold kt_cd; rw [if_pos (Or.inl rfl), if_neg (by omega)]; exact k)
theorem s_M_puts (hM : kt_isM P N R m) {e w : Nat} {v : Int32} (he : e < 60) (hw : w < 9) (k : Q none (kt_u1 I (m + 1) (8 + 9 * e + w) v) J R) : KW P i_M_puts N 0 [some (.ref m), some (.int (nI e)), some (.int (nI w)), some (.int v)] [] N I J R Q := by
  refine kw_ald_n x_M_puts_0 rfl ?_
  refine kw_gr x_M_puts_1 (by exact isM_k hM) (by exact isM_r0 hM) ?_
  refine kw_bip x_M_puts_4 ?_
  refine kw_bip x_M_puts_6 ?_
  refine kw_ild_n x_M_puts_8 rfl ?_
  first | refine kw_imul_n x_M_puts_9 ?_ | refine kw_imul x_M_puts_9 ?_
  first | refine kw_iadd_n x_M_puts_10 ?_ | refine kw_iadd x_M_puts_10 ?_
  refine kw_ild_n x_M_puts_11 rfl ?_
  first | refine kw_iadd_n x_M_puts_12 ?_ | refine kw_iadd x_M_puts_12 ?_
  refine kw_ild_n x_M_puts_13 rfl ?_
  refine kw_iast_n x_M_puts_14 (by first | exact isM_a1 hM | exact isM_a2 hM | exact isM_a3 hM | exact isM_a4 hM | exact isM_a5 hM | exact isM_a6 hM | exact isM_a7 hM | exact isM_a8 hM | exact isM_a10 hM | exact isM_a11 hM) (by omega) (by omega) ?_
  refine kw_vret x_M_puts_15 ?_
  exact k
theorem s_M_isTown (hM : kt_isM P N R m) (hE : kt_enc (I (m + 1)) X) {v : Int32} (k : Q (some (.int (kt_bo (decide (0 ≤ v ∧ v < nI (xT X)))))) I J R) : KW P i_M_isTown N 0 [some (.ref m), some (.int v)] [] N I J R Q := by
  refine kw_ild_n x_M_isTown_0 rfl ?_
  first | refine kw_if_lt_s x_M_isTown_1 ⟨by omega, by omega⟩ (fun h1 => ?_) (fun h1 => ?_) | refine kw_if_lt_n x_M_isTown_1 (by omega) (fun h1 => ?_) (fun h1 => ?_) | refine kw_if_lt x_M_isTown_1 (fun h1 => ?_) (fun h1 => ?_)
  · first
    | exfalso; omega
    | skip
      refine kw_icon x_M_isTown_18 ?_
      first | refine kw_zret_b x_M_isTown_19 ?_ | refine kw_zret_b (b := true) x_M_isTown_19 ?_ | refine kw_zret_b (b := false) x_M_isTown_19 ?_
      exact kt_kb k (by first | exact decide_eq_true ⟨Int32.not_lt.mp h1, Int32.not_le.mp h11⟩ | exact decide_eq_false (fun q => absurd q.1 (Int32.not_le.mpr h1)) | exact decide_eq_false (fun q => absurd q.2 (Int32.not_lt.mpr h11)))
  · first
    | exfalso; omega
    | skip
      refine kw_ild_n x_M_isTown_4 rfl ?_
      refine kw_ald_n x_M_isTown_5 rfl ?_
      refine kw_gr x_M_isTown_6 (by exact isM_k hM) (by exact isM_r0 hM) ?_
      refine kw_icon x_M_isTown_9 ?_
      refine kw_iald_n x_M_isTown_10 (by first | exact isM_a1 hM | exact isM_a2 hM | exact isM_a3 hM | exact isM_a4 hM | exact isM_a5 hM | exact isM_a6 hM | exact isM_a7 hM | exact isM_a8 hM | exact isM_a10 hM | exact isM_a11 hM) (by omega) (by omega) (by first | exact hE.1 | exact hE.2.1 | exact hE.2.2.1 | exact rfl) ?_
      first | refine kw_ic_ge_n x_M_isTown_11 ⟨by omega, by omega⟩ (fun h11 => ?_) (fun h11 => ?_) | refine kw_ic_ge x_M_isTown_11 (fun h11 => ?_) (fun h11 => ?_)
      · first
        | exfalso; omega
        | skip
          refine kw_icon x_M_isTown_18 ?_
          first | refine kw_zret_b x_M_isTown_19 ?_ | refine kw_zret_b (b := true) x_M_isTown_19 ?_ | refine kw_zret_b (b := false) x_M_isTown_19 ?_
          exact kt_kb k (by first | exact decide_eq_true ⟨Int32.not_lt.mp h1, Int32.not_le.mp h11⟩ | exact decide_eq_false (fun q => absurd q.1 (Int32.not_le.mpr h1)) | exact decide_eq_false (fun q => absurd q.2 (Int32.not_lt.mpr h11)))
      · first
        | exfalso; omega
        | skip
          refine kw_icon x_M_isTown_14 ?_
          refine kw_goto x_M_isTown_15 ?_
          first | refine kw_zret_b x_M_isTown_19 ?_ | refine kw_zret_b (b := true) x_M_isTown_19 ?_ | refine kw_zret_b (b := false) x_M_isTown_19 ?_
          exact kt_kb k (by first | exact decide_eq_true ⟨Int32.not_lt.mp h1, Int32.not_le.mp h11⟩ | exact decide_eq_false (fun q => absurd q.1 (Int32.not_le.mpr h1)) | exact decide_eq_false (fun q => absurd q.2 (Int32.not_lt.mpr h11)))
theorem s_M_isEvent (hM : kt_isM P N R m) (hE : kt_enc (I (m + 1)) X) {v : Int32} (k : Q (some (.int (kt_bo (decide (0 ≤ v ∧ v < nI (xn X)))))) I J R) : KW P i_M_isEvent N 0 [some (.ref m), some (.int v)] [] N I J R Q := by
  refine kw_ild_n x_M_isEvent_0 rfl ?_
  first | refine kw_if_lt_s x_M_isEvent_1 ⟨by omega, by omega⟩ (fun h1 => ?_) (fun h1 => ?_) | refine kw_if_lt_n x_M_isEvent_1 (by omega) (fun h1 => ?_) (fun h1 => ?_) | refine kw_if_lt x_M_isEvent_1 (fun h1 => ?_) (fun h1 => ?_)
  · first
    | exfalso; omega
    | skip
      refine kw_icon x_M_isEvent_18 ?_
      first | refine kw_zret_b x_M_isEvent_19 ?_ | refine kw_zret_b (b := true) x_M_isEvent_19 ?_ | refine kw_zret_b (b := false) x_M_isEvent_19 ?_
      exact kt_kb k (by first | exact decide_eq_true ⟨Int32.not_lt.mp h1, Int32.not_le.mp h11⟩ | exact decide_eq_false (fun q => absurd q.1 (Int32.not_le.mpr h1)) | exact decide_eq_false (fun q => absurd q.2 (Int32.not_lt.mpr h11)))
  · first
    | exfalso; omega
    | skip
      refine kw_ild_n x_M_isEvent_4 rfl ?_
      refine kw_ald_n x_M_isEvent_5 rfl ?_
      refine kw_gr x_M_isEvent_6 (by exact isM_k hM) (by exact isM_r0 hM) ?_
      refine kw_icon x_M_isEvent_9 ?_
      refine kw_iald_n x_M_isEvent_10 (by first | exact isM_a1 hM | exact isM_a2 hM | exact isM_a3 hM | exact isM_a4 hM | exact isM_a5 hM | exact isM_a6 hM | exact isM_a7 hM | exact isM_a8 hM | exact isM_a10 hM | exact isM_a11 hM) (by omega) (by omega) (by first | exact hE.1 | exact hE.2.1 | exact hE.2.2.1 | exact rfl) ?_
      first | refine kw_ic_ge_n x_M_isEvent_11 ⟨by omega, by omega⟩ (fun h11 => ?_) (fun h11 => ?_) | refine kw_ic_ge x_M_isEvent_11 (fun h11 => ?_) (fun h11 => ?_)
      · first
        | exfalso; omega
        | skip
          refine kw_icon x_M_isEvent_18 ?_
          first | refine kw_zret_b x_M_isEvent_19 ?_ | refine kw_zret_b (b := true) x_M_isEvent_19 ?_ | refine kw_zret_b (b := false) x_M_isEvent_19 ?_
          exact kt_kb k (by first | exact decide_eq_true ⟨Int32.not_lt.mp h1, Int32.not_le.mp h11⟩ | exact decide_eq_false (fun q => absurd q.1 (Int32.not_le.mpr h1)) | exact decide_eq_false (fun q => absurd q.2 (Int32.not_lt.mpr h11)))
      · first
        | exfalso; omega
        | skip
          refine kw_icon x_M_isEvent_14 ?_
          refine kw_goto x_M_isEvent_15 ?_
          first | refine kw_zret_b x_M_isEvent_19 ?_ | refine kw_zret_b (b := true) x_M_isEvent_19 ?_ | refine kw_zret_b (b := false) x_M_isEvent_19 ?_
          exact kt_kb k (by first | exact decide_eq_true ⟨Int32.not_lt.mp h1, Int32.not_le.mp h11⟩ | exact decide_eq_false (fun q => absurd q.1 (Int32.not_le.mpr h1)) | exact decide_eq_false (fun q => absurd q.2 (Int32.not_lt.mpr h11)))
theorem s_M_knows (hM : kt_isM P N R m) (hE : kt_enc (I (m + 1)) X) (hW : kt_wf X) {t e : Nat} (ht : t ≤ 5) (he : e < xn X) (k : Q (some (.int (kt_bo (xk X t e)))) I J R) : KW P i_M_knows N 0 [some (.ref m), some (.int (nI t)), some (.int (nI e))] [] N I J R Q := by
  have hn := hW.2.2.1
  refine kw_ild_n x_M_knows_0 rfl ?_
  refine kw_icon x_M_knows_1 ?_
  refine kw_ic_eq_n x_M_knows_2 ⟨by omega, by omega⟩ (fun h2 => ?_) (fun h2 => ?_)
  · refine kw_icon x_M_knows_20 ?_
    refine kw_goto x_M_knows_21 ?_
    refine kw_zret_b (b := true) x_M_knows_25 ?_
    exact kt_kb k (by simp [xk, h2])
  · have h5 : t < 5 := by omega
    refine kw_ald_n x_M_knows_5 rfl ?_
    refine kw_ild_n x_M_knows_6 rfl ?_
    refine kw_bip x_M_knows_7 ?_
    refine c_M_knows_9 (by exact isM_k hM) (Nat.le_of_ble_eq_true rfl) ?_
    first | refine s_M_ofn hM hE hn (by omega) (by decide) ?_ | refine s_M_of5 hM hE hn (by omega) (by omega) ?_
    refine kw_ild_n x_M_knows_12 rfl ?_
    refine kw_ishr x_M_knows_13 ?_
    refine kw_icon x_M_knows_14 ?_
    refine kw_iand x_M_knows_15 ?_
    rw [kt_bit _ (kt_m32 hW he).1 t (by omega), ← kt_xkb h5]
    cases hb : xk X t e
    · refine kw_icon x_M_knows_16 ?_
      refine kw_ic_ne_n (x := 0) x_M_knows_17 ⟨by omega, by omega⟩ (fun _ => ?_) (fun h => absurd h (by decide))
      refine kw_icon x_M_knows_24 ?_
      exact kw_zret_b (b := false) x_M_knows_25 (kt_kb k hb)
    · refine kw_icon x_M_knows_16 ?_
      refine kw_ic_ne_n (x := 1) x_M_knows_17 ⟨by omega, by omega⟩ (fun h => absurd rfl h) (fun _ => ?_)
      refine kw_icon x_M_knows_20 ?_
      refine kw_goto x_M_knows_21 ?_
      exact kw_zret_b (b := true) x_M_knows_25 (kt_kb k hb)
theorem s_M_stock (hM : kt_isM P N R m) (hE : kt_enc (I (m + 1)) X) (hW : kt_wf X) {t g : Nat} (ht : t ≤ 5) (hg : g < 6) (k : Q (some (.int (nI (xstk X t g (xn X))))) I J R) : KW P i_M_stock N 0 [some (.ref m), some (.int (nI t)), some (.int (nI g)), none, none] [] N I J R Q := by
  have hn := hW.2.2.1
  have loop : ∀ (d e s : Nat), e + d = xn X → s = xstk X t g e → KW P i_M_stock N 5 [some (.ref m), some (.int (nI t)), some (.int (nI g)), some (.int (nI s)), some (.int (nI e))] [] N I J R Q := by
    intro d
    induction d with
    | zero =>
      intro e s h1 h2
      refine kw_ild x_M_stock_5 rfl ?_
      refine kw_ald_n x_M_stock_7 rfl ?_
      refine kw_gr x_M_stock_8 (by exact isM_k hM) (by exact isM_r0 hM) ?_
      refine kw_icon x_M_stock_11 ?_
      refine kw_iald_n x_M_stock_12 (by first | exact isM_a1 hM | exact isM_a2 hM | exact isM_a3 hM | exact isM_a4 hM | exact isM_a5 hM | exact isM_a6 hM | exact isM_a7 hM | exact isM_a8 hM | exact isM_a10 hM | exact isM_a11 hM) (by omega) (by omega) (by first | exact hE.1 | exact hE.2.1 | exact hE.2.2.1 | exact rfl) ?_
      first | refine kw_ic_ge_n x_M_stock_13 ⟨by omega, by omega⟩ (fun h13 => ?_) (fun h13 => ?_) | refine kw_ic_ge x_M_stock_13 (fun h13 => ?_) (fun h13 => ?_)
      · first
        | exfalso; omega
        | skip
          refine kw_ild_n x_M_stock_67 rfl ?_
          refine kw_iret x_M_stock_68 ?_
          have h3 : e = xn X := by omega
          subst h3; subst h2; exact k
      · first
        | exfalso; omega
        | skip
          refine kw_ild_n x_M_stock_16 rfl ?_
          refine kw_ald_n x_M_stock_17 rfl ?_
          refine kw_ild x_M_stock_18 rfl ?_
          refine kw_icon x_M_stock_20 ?_
          refine c_M_stock_21 (by exact isM_k hM) (Nat.le_of_ble_eq_true rfl) ?_
          first | refine s_M_ofn hM hE hn (by omega) (by decide) ?_ | refine s_M_of5 hM hE hn (by omega) (by omega) ?_
          skip
    | succ d ih =>
      intro e s h1 h2
      have hx := (hW.2.2.2.2.2.1 e (by omega))
      have hx0 := hx.1
      have hx3 := hx.2.2.2.1
      refine kw_ild x_M_stock_5 rfl ?_
      refine kw_ald_n x_M_stock_7 rfl ?_
      refine kw_gr x_M_stock_8 (by exact isM_k hM) (by exact isM_r0 hM) ?_
      refine kw_icon x_M_stock_11 ?_
      refine kw_iald_n x_M_stock_12 (by first | exact isM_a1 hM | exact isM_a2 hM | exact isM_a3 hM | exact isM_a4 hM | exact isM_a5 hM | exact isM_a6 hM | exact isM_a7 hM | exact isM_a8 hM | exact isM_a10 hM | exact isM_a11 hM) (by omega) (by omega) (by first | exact hE.1 | exact hE.2.1 | exact hE.2.2.1 | exact rfl) ?_
      first | refine kw_ic_ge_n x_M_stock_13 ⟨by omega, by omega⟩ (fun h13 => ?_) (fun h13 => ?_) | refine kw_ic_ge x_M_stock_13 (fun h13 => ?_) (fun h13 => ?_)
      · first
        | exfalso; omega
        | skip
          refine kw_ild_n x_M_stock_67 rfl ?_
          refine kw_iret x_M_stock_68 ?_
          exact k
      · first
        | exfalso; omega
        | skip
          refine kw_ild_n x_M_stock_16 rfl ?_
          refine kw_ald_n x_M_stock_17 rfl ?_
          refine kw_ild x_M_stock_18 rfl ?_
          refine kw_icon x_M_stock_20 ?_
          refine c_M_stock_21 (by exact isM_k hM) (Nat.le_of_ble_eq_true rfl) ?_
          first | refine s_M_ofn hM hE hn (by omega) (by decide) ?_ | refine s_M_of5 hM hE hn (by omega) (by omega) ?_
          first | refine kw_if_ne_b x_M_stock_24 (fun h24 => ?_) (fun h24 => ?_) | refine kw_if_ne_s x_M_stock_24 ⟨by omega, by omega⟩ (fun h24 => ?_) (fun h24 => ?_) | refine kw_if_ne_n x_M_stock_24 (by omega) (fun h24 => ?_) (fun h24 => ?_) | refine kw_if_ne x_M_stock_24 (fun h24 => ?_) (fun h24 => ?_)
          · first
            | exfalso; omega
            | skip
              refine kw_icon x_M_stock_58 ?_
              first | refine kw_iadd_n x_M_stock_59 ?_ | refine kw_iadd x_M_stock_59 ?_
              refine kw_ist_n x_M_stock_60 (by decide) ?_
              first | refine kw_iinc_n x_M_stock_61 (by decide) rfl ?_ | refine kw_iinc x_M_stock_61 (by decide) rfl ?_
              refine kw_goto x_M_stock_64 ?_
              exact ih (e + 1) _ (by omega) (by rw [h2]; simp [xstk, *])
          · first
            | exfalso; omega
            | skip
              refine kw_ald_n x_M_stock_27 rfl ?_
              refine kw_ild x_M_stock_28 rfl ?_
              refine kw_icon x_M_stock_30 ?_
              refine c_M_stock_31 (by exact isM_k hM) (Nat.le_of_ble_eq_true rfl) ?_
              first | refine s_M_ofn hM hE hn (by omega) (by decide) ?_ | refine s_M_of5 hM hE hn (by omega) (by omega) ?_
              refine kw_ild_n x_M_stock_34 rfl ?_
              first | refine kw_ic_ne_n x_M_stock_35 ⟨by omega, by omega⟩ (fun h35 => ?_) (fun h35 => ?_) | refine kw_ic_ne x_M_stock_35 (fun h35 => ?_) (fun h35 => ?_)
              · first
                | exfalso; omega
                | skip
                  refine kw_icon x_M_stock_58 ?_
                  first | refine kw_iadd_n x_M_stock_59 ?_ | refine kw_iadd x_M_stock_59 ?_
                  refine kw_ist_n x_M_stock_60 (by decide) ?_
                  first | refine kw_iinc_n x_M_stock_61 (by decide) rfl ?_ | refine kw_iinc x_M_stock_61 (by decide) rfl ?_
                  refine kw_goto x_M_stock_64 ?_
                  exact ih (e + 1) _ (by omega) (by rw [h2]; simp [xstk, *])
              · first
                | exfalso; omega
                | skip
                  refine kw_ald_n x_M_stock_38 rfl ?_
                  refine kw_ild_n x_M_stock_39 rfl ?_
                  refine kw_ild x_M_stock_40 rfl ?_
                  refine c_M_stock_42 (by exact isM_k hM) (Nat.le_of_ble_eq_true rfl) ?_
                  refine s_M_knows hM hE hW (by omega) (by omega) ?_
                  first | refine kw_if_eq_b x_M_stock_45 (fun h45 => ?_) (fun h45 => ?_) | refine kw_if_eq_n x_M_stock_45 (by omega) (fun h45 => ?_) (fun h45 => ?_) | refine kw_if_eq x_M_stock_45 (fun h45 => ?_) (fun h45 => ?_)
                  · first
                    | exfalso; omega
                    | skip
                      refine kw_icon x_M_stock_58 ?_
                      first | refine kw_iadd_n x_M_stock_59 ?_ | refine kw_iadd x_M_stock_59 ?_
                      refine kw_ist_n x_M_stock_60 (by decide) ?_
                      first | refine kw_iinc_n x_M_stock_61 (by decide) rfl ?_ | refine kw_iinc x_M_stock_61 (by decide) rfl ?_
                      refine kw_goto x_M_stock_64 ?_
                      exact ih (e + 1) _ (by omega) (by rw [h2]; simp [xstk, *])
                  · first
                    | exfalso; omega
                    | skip
                      refine kw_ald_n x_M_stock_48 rfl ?_
                      refine kw_ild x_M_stock_49 rfl ?_
                      refine kw_icon x_M_stock_51 ?_
                      refine c_M_stock_52 (by exact isM_k hM) (Nat.le_of_ble_eq_true rfl) ?_
                      first | refine s_M_ofn hM hE hn (by omega) (by decide) ?_ | refine s_M_of5 hM hE hn (by omega) (by omega) ?_
                      refine kw_goto x_M_stock_55 ?_
                      first | refine kw_iadd_n x_M_stock_59 ?_ | refine kw_iadd x_M_stock_59 ?_
                      refine kw_ist_n x_M_stock_60 (by decide) ?_
                      first | refine kw_iinc_n x_M_stock_61 (by decide) rfl ?_ | refine kw_iinc x_M_stock_61 (by decide) rfl ?_
                      refine kw_goto x_M_stock_64 ?_
                      exact ih (e + 1) _ (by omega) (by rw [h2]; simp [xstk, *])
  refine kw_icon x_M_stock_0 ?_
  refine kw_ist_n x_M_stock_1 (by decide) ?_
  refine kw_icon x_M_stock_2 ?_
  refine kw_ist x_M_stock_3 (by decide) ?_
  exact loop (xn X) 0 0 (by omega) rfl
end ML
