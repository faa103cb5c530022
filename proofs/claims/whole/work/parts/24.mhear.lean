/-! the reference: hearing -/
def xhm (bo : Bool) (a b M : Nat) : Nat := (if M.testBit b && !M.testBit a then M ||| 2 ^ a else M) ||| (if bo && M.testBit a && !M.testBit b then 2 ^ b else 0)
def xhc (bo : Bool) (a b M : Nat) : Bool := (M.testBit b && !M.testBit a) || (bo && M.testBit a && !M.testBit b)
/-- the first k events heard -/
def xhX (bo : Bool) (a b k : Nat) (X : kt_X) : kt_X := (xr X, xT X, xn X, xc X, fun e f => if f = 7 ∧ e < k then xhm bo a b (xe X e 7) else xe X e f)
theorem xhX_e (bo : Bool) (a b k : Nat) (X : kt_X) (e f : Nat) : xe (xhX bo a b k X) e f = if f = 7 ∧ e < k then xhm bo a b (xe X e 7) else xe X e f := rfl
def xck (X : kt_X) (t v : Nat) : kt_X := (xr X, xT X, xn X, xup (xc X) t v, xe X)
def xhear (bo : Bool) (a b : Nat) (X : kt_X) : kt_X := xck (xck (xhX bo a b (xn X) X) a (if xc X b < xc X a then xc X a else xc X b)) b (if bo = true then (if xc X b < xc X a then xc X a else xc X b) else xc X b)
def xhn (bo : Bool) (a b : Nat) (X : kt_X) : Nat := xct (fun e => xhc bo a b (xe X e 7)) (xn X)
theorem kt_enc_ck {I : kt_I} {X : kt_X} {a0 t v : Nat} (ht : t < 5) (hE : kt_enc (I a0) X) : kt_enc (kt_u1 I a0 (3 + t) (nI v) a0) (xck X t v) := by
  obtain ⟨h1, h2, h3, h4, h5⟩ := hE
  have key : ∀ j, j ≠ 3 + t → kt_u1 I a0 (3 + t) (nI v) a0 j = I a0 j := fun j hj => by simp [kt_u1, hj]
  refine ⟨by rw [key 0 (by omega)]; exact h1, by rw [key 1 (by omega)]; exact h2, by rw [key 2 (by omega)]; exact h3, fun t' ht' => ?_, fun e f he hf => by rw [key _ (by omega)]; exact h5 e f he hf⟩
  by_cases hc : t' = t
  · subst hc
    show _ = nI (xup (xc X) t' v t')
    rw [xup_eq]
    simp [kt_u1]
  · show _ = nI (xup (xc X) t v t')
    rw [xup_ne _ _ hc, key _ (by omega)]
    exact h4 t' ht'
theorem kt_enc_h {I : kt_I} {X : kt_X} {a0 e a b : Nat} {bo : Bool} (hE : kt_enc (I a0) (xhX bo a b e X)) : kt_enc (kt_u1 I a0 (8 + 9 * e + 7) (nI (xhm bo a b (xe X e 7))) a0) (xhX bo a b (e + 1) X) := by
  obtain ⟨h1, h2, h3, h4, h5⟩ := hE
  have key : ∀ j, j ≠ 8 + 9 * e + 7 → kt_u1 I a0 (8 + 9 * e + 7) (nI (xhm bo a b (xe X e 7))) a0 j = I a0 j := fun j hj => by simp [kt_u1, hj]
  refine ⟨by rw [key 0 (by omega)]; exact h1, by rw [key 1 (by omega)]; exact h2, by rw [key 2 (by omega)]; exact h3, fun t ht => by rw [key (3 + t) (by omega)]; exact h4 t ht, fun e' f he hf => ?_⟩
  by_cases hc : e' = e ∧ f = 7
  · obtain ⟨rfl, rfl⟩ := hc
    rw [xhX_e, if_pos ⟨rfl, by omega⟩]
    simp [kt_u1, kt_cd]
  · rw [key _ (by omega), h5 e' f he hf, xhX_e, xhX_e]
    by_cases hd : f = 7 ∧ e' < e
    · rw [if_pos hd, if_pos ⟨hd.1, by omega⟩]
    · rw [if_neg hd, if_neg (by omega)]
section MH
variable {P : kt_P} {N : Nat} {I : kt_I} {J : kt_J} {R : kt_R} {Q : Option Value → kt_I → kt_J → kt_R → Prop} {m : Nat} {X : kt_X}
/-- 'knows', of a state of which only this event's row is known to be in bounds -/
theorem s_M_knows_w (hM : kt_isM P N R m) (hE : kt_enc (I (m + 1)) X) (hn : xn X ≤ 60) {t e : Nat} (ht : t < 5) (he : e < xn X) (hm : xe X e 7 < 32) (k : Q (some (.int (kt_bo ((xe X e 7).testBit t)))) I J R) : KW P i_M_knows N 0 [some (.ref m), some (.int (nI t)), some (.int (nI e))] [] N I J R Q := by
  refine kw_ild_n x_M_knows_0 rfl ?_
  refine kw_icon x_M_knows_1 ?_
  refine kw_ic_eq_n x_M_knows_2 ⟨by omega, by omega⟩ (fun h2 => ?_) (fun h2 => ?_)
  · omega
  · skip
    refine kw_ald_n x_M_knows_5 rfl ?_
    refine kw_ild_n x_M_knows_6 rfl ?_
    refine kw_bip x_M_knows_7 ?_
    refine c_M_knows_9 (by exact isM_k hM) (Nat.le_of_ble_eq_true rfl) ?_
    refine s_M_ofn hM hE hn (by omega) (by decide) ?_
    refine kw_ild_n x_M_knows_12 rfl ?_
    refine kw_ishr x_M_knows_13 ?_
    refine kw_icon x_M_knows_14 ?_
    refine kw_iand x_M_knows_15 ?_
    rw [kt_bit _ hm t ht]
    cases hb : (xe X e 7).testBit t
    · refine kw_icon x_M_knows_16 ?_
      refine kw_ic_ne_n (x := 0) x_M_knows_17 ⟨by omega, by omega⟩ (fun _ => ?_) (fun h => absurd h (by decide))
      refine kw_icon x_M_knows_24 ?_
      exact kw_zret_b (b := false) x_M_knows_25 (kt_kb k hb)
    · refine kw_icon x_M_knows_16 ?_
      refine kw_ic_ne_n (x := 1) x_M_knows_17 ⟨by omega, by omega⟩ (fun h => absurd rfl h) (fun _ => ?_)
      refine kw_icon x_M_knows_20 ?_
      refine kw_goto x_M_knows_21 ?_
      exact kw_zret_b (b := true) x_M_knows_25 (kt_kb k hb)
theorem xhm_lt : ∀ M, M < 32 → ∀ a, a < 5 → ∀ b, b < 5 → xhm true a b M < 32 ∧ xhm false a b M < 32 := by decide +kernel
theorem s_M_hears_lp (hM : kt_isM P N R m) (hW : kt_wf X) {a b : Nat} {bo : Bool} (ha : a < 5) (hb : b < 5)
    (k : ∀ I' v5 v6 v7 v8 v9, kt_lc m I I' → I' m = I m → I' (m + 2) = I (m + 2) → I' (m + 9) = I (m + 9) → kt_enc (I' (m + 1)) (xhX bo a b (xn X) X) → KW P i_M_hears N 141 [some (.ref m), some (.int (nI a)), some (.int (nI b)), some (.int (kt_bo bo)), some (.int (nI (xhn bo a b X))), v5, v6, v7, v8, v9] [] N I' J R Q) :
    ∀ (d e s : Nat) (I1 : kt_I) (v6 v7 v8 v9 : Option Value), e + d = xn X → s = xct (fun e => xhc bo a b (xe X e 7)) e → kt_lc m I I1 → I1 m = I m → I1 (m + 2) = I (m + 2) → I1 (m + 9) = I (m + 9) → kt_enc (I1 (m + 1)) (xhX bo a b e X) →
      KW P i_M_hears N 6 [some (.ref m), some (.int (nI a)), some (.int (nI b)), some (.int (kt_bo bo)), some (.int (nI s)), some (.int (nI e)), v6, v7, v8, v9] [] N I1 J R Q := by
  have hn := hW.2.2.1
  intro d
  induction d with
  | zero =>
    intro e s I1 v6 v7 v8 v9 h1 h2 hl hl0 hl2 hl9 hE
    have h3 : e = xn X := by omega
    subst h3; subst h2
    have hnx : xn (xhX bo a b (xn X) X) = xn X := rfl
    refine kw_ild x_M_hears_6 rfl ?_
    refine kw_ald_n x_M_hears_8 rfl ?_
    refine kw_gr x_M_hears_9 (by exact isM_k hM) (by exact isM_r0 hM) ?_
    refine kw_icon x_M_hears_12 ?_
    refine kw_iald_n x_M_hears_13 (by first | exact isM_a1 hM | exact isM_a2 hM | exact isM_a3 hM | exact isM_a4 hM | exact isM_a5 hM | exact isM_a6 hM | exact isM_a7 hM | exact isM_a8 hM | exact isM_a10 hM | exact isM_a11 hM) (by omega) (by omega) (by first | exact hE.1 | exact hE.2.1 | exact hE.2.2.1 | exact rfl) ?_
    first | refine kw_ic_ge_n x_M_hears_14 ⟨by omega, by omega⟩ (fun h14 => ?_) (fun h14 => ?_) | refine kw_ic_ge x_M_hears_14 (fun h14 => ?_) (fun h14 => ?_)
    · first
      | exfalso; omega
      | skip
        exact k I1 _ _ _ _ _ hl hl0 hl2 hl9 hE
    · first
      | exfalso; omega
      | skip
        skip
  | succ d ih =>
    intro e s I1 v6 v7 v8 v9 h1 h2 hl hl0 hl2 hl9 hE
    have hm : xe X e 7 < 32 := (kt_m32 hW (by omega)).1
    have hme : xe (xhX bo a b e X) e 7 = xe X e 7 := by rw [xhX_e, if_neg (by omega)]
    have hnx : xn (xhX bo a b e X) = xn X := rfl
    cases bo with
    | false =>
      cases hba : (xe X e 7).testBit a with
      | false =>
        cases hbb : (xe X e 7).testBit b with
        | false =>
          refine kw_ild x_M_hears_6 rfl ?_
          refine kw_ald_n x_M_hears_8 rfl ?_
          refine kw_gr x_M_hears_9 (by exact isM_k hM) (by exact isM_r0 hM) ?_
          refine kw_icon x_M_hears_12 ?_
          refine kw_iald_n x_M_hears_13 (by first | exact isM_a1 hM | exact isM_a2 hM | exact isM_a3 hM | exact isM_a4 hM | exact isM_a5 hM | exact isM_a6 hM | exact isM_a7 hM | exact isM_a8 hM | exact isM_a10 hM | exact isM_a11 hM) (by omega) (by omega) (by first | exact hE.1 | exact hE.2.1 | exact hE.2.2.1 | exact rfl) ?_
          first | refine kw_ic_ge_n x_M_hears_14 ⟨by omega, by omega⟩ (fun h14 => ?_) (fun h14 => ?_) | refine kw_ic_ge x_M_hears_14 (fun h14 => ?_) (fun h14 => ?_)
          · exfalso; first | omega | contradiction
          · skip
            refine kw_ald_n x_M_hears_17 rfl ?_
            refine kw_ild_n x_M_hears_18 rfl ?_
            refine kw_ild x_M_hears_19 rfl ?_
            refine c_M_hears_21 (by exact isM_k hM) (Nat.le_of_ble_eq_true rfl) ?_
            refine s_M_knows_w hM hE (by omega) (by omega) (by omega) (by omega) ?_
            rw [hme]
            try rw [hba]
            try rw [hbb]
            refine kw_ist x_M_hears_24 (by decide) ?_
            refine kw_ald_n x_M_hears_26 rfl ?_
            refine kw_ild_n x_M_hears_27 rfl ?_
            refine kw_ild x_M_hears_28 rfl ?_
            refine c_M_hears_30 (by exact isM_k hM) (Nat.le_of_ble_eq_true rfl) ?_
            refine s_M_knows_w hM hE (by omega) (by omega) (by omega) (by omega) ?_
            rw [hme]
            try rw [hba]
            try rw [hbb]
            refine kw_ist x_M_hears_33 (by decide) ?_
            refine kw_ild x_M_hears_35 rfl ?_
            first | refine kw_if_eq_b x_M_hears_37 (fun h37 => ?_) (fun h37 => ?_) | refine kw_if_eq_n x_M_hears_37 (by omega) (fun h37 => ?_) (fun h37 => ?_) | refine kw_if_eq x_M_hears_37 (fun h37 => ?_) (fun h37 => ?_)
            · skip
              refine kw_icon x_M_hears_49 ?_
              refine kw_ist x_M_hears_50 (by decide) ?_
              refine kw_ild_n x_M_hears_52 rfl ?_
              first | refine kw_if_eq_b x_M_hears_53 (fun h53 => ?_) (fun h53 => ?_) | refine kw_if_eq_n x_M_hears_53 (by omega) (fun h53 => ?_) (fun h53 => ?_) | refine kw_if_eq x_M_hears_53 (fun h53 => ?_) (fun h53 => ?_)
              · skip
                refine kw_icon x_M_hears_70 ?_
                refine kw_ist x_M_hears_71 (by decide) ?_
                refine kw_ald_n x_M_hears_73 rfl ?_
                refine kw_ild x_M_hears_74 rfl ?_
                refine kw_bip x_M_hears_76 ?_
                refine kw_ald_n x_M_hears_78 rfl ?_
                refine kw_ild x_M_hears_79 rfl ?_
                refine kw_bip x_M_hears_81 ?_
                refine c_M_hears_83 (by exact isM_k hM) (Nat.le_of_ble_eq_true rfl) ?_
                refine s_M_ofn hM hE (by omega) (by omega) (by decide) ?_
                rw [hme]
                refine kw_ild x_M_hears_86 rfl ?_
                first | refine kw_if_eq_b x_M_hears_88 (fun h88 => ?_) (fun h88 => ?_) | refine kw_if_eq_n x_M_hears_88 (by omega) (fun h88 => ?_) (fun h88 => ?_) | refine kw_if_eq x_M_hears_88 (fun h88 => ?_) (fun h88 => ?_)
                · skip
                  refine kw_icon x_M_hears_97 ?_
                  refine kw_ior x_M_hears_98 ?_
                  refine kw_ild x_M_hears_99 rfl ?_
                  first | refine kw_if_eq_b x_M_hears_101 (fun h101 => ?_) (fun h101 => ?_) | refine kw_if_eq_n x_M_hears_101 (by omega) (fun h101 => ?_) (fun h101 => ?_) | refine kw_if_eq x_M_hears_101 (fun h101 => ?_) (fun h101 => ?_)
                  · skip
                    refine kw_icon x_M_hears_110 ?_
                    refine kw_ior x_M_hears_111 ?_
                    rw [kt_or0, kt_or0]
                    refine c_M_hears_112 (by exact isM_k hM) (Nat.le_of_ble_eq_true rfl) ?_
                    refine s_M_puts hM (by omega) (by decide) ?_
                    refine kw_ild x_M_hears_115 rfl ?_
                    refine kw_ild x_M_hears_117 rfl ?_
                    first | refine kw_if_ne_b x_M_hears_119 (fun h119 => ?_) (fun h119 => ?_) | refine kw_if_ne_s x_M_hears_119 ⟨by omega, by omega⟩ (fun h119 => ?_) (fun h119 => ?_) | refine kw_if_ne_n x_M_hears_119 (by omega) (fun h119 => ?_) (fun h119 => ?_) | refine kw_if_ne x_M_hears_119 (fun h119 => ?_) (fun h119 => ?_)
                    · exfalso; first | omega | contradiction
                    · skip
                      refine kw_ild x_M_hears_122 rfl ?_
                      first | refine kw_if_eq_b x_M_hears_124 (fun h124 => ?_) (fun h124 => ?_) | refine kw_if_eq_n x_M_hears_124 (by omega) (fun h124 => ?_) (fun h124 => ?_) | refine kw_if_eq x_M_hears_124 (fun h124 => ?_) (fun h124 => ?_)
                      · skip
                        refine kw_icon x_M_hears_131 ?_
                        first | refine kw_iadd_n x_M_hears_132 ?_ | refine kw_iadd x_M_hears_132 ?_
                        refine kw_ist x_M_hears_133 (by decide) ?_
                        first | refine kw_iinc_n x_M_hears_135 (by decide) rfl ?_ | refine kw_iinc x_M_hears_135 (by decide) rfl ?_
                        refine kw_goto x_M_hears_138 ?_
                        refine ih (e + 1) _ _ _ _ _ _ (by omega) ?_ (hl.tr kt_lc.u1) (by rw [kt_u1_ne _ _ _ (by omega)]; exact hl0) (by rw [kt_u1_ne _ _ _ (by omega)]; exact hl2) (by rw [kt_u1_ne _ _ _ (by omega)]; exact hl9) ?_
                        · rw [h2]
                          simp [xct, xhc, hba, hbb]
                        · have h9 := kt_enc_h hE
                          have h10 : xhm false a b (xe X e 7) = xe X e 7 := (by simp [xhm, hba, hbb])
                          rw [h10] at h9
                          exact h9
                      · exfalso; first | omega | contradiction
                  · exfalso; first | omega | contradiction
                · exfalso; first | omega | contradiction
              · exfalso; first | omega | contradiction
            · exfalso; first | omega | contradiction
        | true =>
          refine kw_ild x_M_hears_6 rfl ?_
          refine kw_ald_n x_M_hears_8 rfl ?_
          refine kw_gr x_M_hears_9 (by exact isM_k hM) (by exact isM_r0 hM) ?_
          refine kw_icon x_M_hears_12 ?_
          refine kw_iald_n x_M_hears_13 (by first | exact isM_a1 hM | exact isM_a2 hM | exact isM_a3 hM | exact isM_a4 hM | exact isM_a5 hM | exact isM_a6 hM | exact isM_a7 hM | exact isM_a8 hM | exact isM_a10 hM | exact isM_a11 hM) (by omega) (by omega) (by first | exact hE.1 | exact hE.2.1 | exact hE.2.2.1 | exact rfl) ?_
          first | refine kw_ic_ge_n x_M_hears_14 ⟨by omega, by omega⟩ (fun h14 => ?_) (fun h14 => ?_) | refine kw_ic_ge x_M_hears_14 (fun h14 => ?_) (fun h14 => ?_)
          · exfalso; first | omega | contradiction
          · skip
            refine kw_ald_n x_M_hears_17 rfl ?_
            refine kw_ild_n x_M_hears_18 rfl ?_
            refine kw_ild x_M_hears_19 rfl ?_
            refine c_M_hears_21 (by exact isM_k hM) (Nat.le_of_ble_eq_true rfl) ?_
            refine s_M_knows_w hM hE (by omega) (by omega) (by omega) (by omega) ?_
            rw [hme]
            try rw [hba]
            try rw [hbb]
            refine kw_ist x_M_hears_24 (by decide) ?_
            refine kw_ald_n x_M_hears_26 rfl ?_
            refine kw_ild_n x_M_hears_27 rfl ?_
            refine kw_ild x_M_hears_28 rfl ?_
            refine c_M_hears_30 (by exact isM_k hM) (Nat.le_of_ble_eq_true rfl) ?_
            refine s_M_knows_w hM hE (by omega) (by omega) (by omega) (by omega) ?_
            rw [hme]
            try rw [hba]
            try rw [hbb]
            refine kw_ist x_M_hears_33 (by decide) ?_
            refine kw_ild x_M_hears_35 rfl ?_
            first | refine kw_if_eq_b x_M_hears_37 (fun h37 => ?_) (fun h37 => ?_) | refine kw_if_eq_n x_M_hears_37 (by omega) (fun h37 => ?_) (fun h37 => ?_) | refine kw_if_eq x_M_hears_37 (fun h37 => ?_) (fun h37 => ?_)
            · exfalso; first | omega | contradiction
            · skip
              refine kw_ild x_M_hears_40 rfl ?_
              first | refine kw_if_ne_b x_M_hears_42 (fun h42 => ?_) (fun h42 => ?_) | refine kw_if_ne_s x_M_hears_42 ⟨by omega, by omega⟩ (fun h42 => ?_) (fun h42 => ?_) | refine kw_if_ne_n x_M_hears_42 (by omega) (fun h42 => ?_) (fun h42 => ?_) | refine kw_if_ne x_M_hears_42 (fun h42 => ?_) (fun h42 => ?_)
              · exfalso; first | omega | contradiction
              · skip
                refine kw_icon x_M_hears_45 ?_
                refine kw_goto x_M_hears_46 ?_
                refine kw_ist x_M_hears_50 (by decide) ?_
                refine kw_ild_n x_M_hears_52 rfl ?_
                first | refine kw_if_eq_b x_M_hears_53 (fun h53 => ?_) (fun h53 => ?_) | refine kw_if_eq_n x_M_hears_53 (by omega) (fun h53 => ?_) (fun h53 => ?_) | refine kw_if_eq x_M_hears_53 (fun h53 => ?_) (fun h53 => ?_)
                · skip
                  refine kw_icon x_M_hears_70 ?_
                  refine kw_ist x_M_hears_71 (by decide) ?_
                  refine kw_ald_n x_M_hears_73 rfl ?_
                  refine kw_ild x_M_hears_74 rfl ?_
                  refine kw_bip x_M_hears_76 ?_
                  refine kw_ald_n x_M_hears_78 rfl ?_
                  refine kw_ild x_M_hears_79 rfl ?_
                  refine kw_bip x_M_hears_81 ?_
                  refine c_M_hears_83 (by exact isM_k hM) (Nat.le_of_ble_eq_true rfl) ?_
                  refine s_M_ofn hM hE (by omega) (by omega) (by decide) ?_
                  rw [hme]
                  refine kw_ild x_M_hears_86 rfl ?_
                  first | refine kw_if_eq_b x_M_hears_88 (fun h88 => ?_) (fun h88 => ?_) | refine kw_if_eq_n x_M_hears_88 (by omega) (fun h88 => ?_) (fun h88 => ?_) | refine kw_if_eq x_M_hears_88 (fun h88 => ?_) (fun h88 => ?_)
                  · exfalso; first | omega | contradiction
                  · skip
                    refine kw_icon x_M_hears_91 ?_
                    refine kw_ild_n x_M_hears_92 rfl ?_
                    refine kw_ishl x_M_hears_93 ?_
                    refine kw_goto x_M_hears_94 ?_
                    refine kw_ior x_M_hears_98 ?_
                    refine kw_ild x_M_hears_99 rfl ?_
                    first | refine kw_if_eq_b x_M_hears_101 (fun h101 => ?_) (fun h101 => ?_) | refine kw_if_eq_n x_M_hears_101 (by omega) (fun h101 => ?_) (fun h101 => ?_) | refine kw_if_eq x_M_hears_101 (fun h101 => ?_) (fun h101 => ?_)
                    · skip
                      refine kw_icon x_M_hears_110 ?_
                      refine kw_ior x_M_hears_111 ?_
                      rw [kt_or _ hm a ha, kt_or0]
                      refine c_M_hears_112 (by exact isM_k hM) (Nat.le_of_ble_eq_true rfl) ?_
                      refine s_M_puts hM (by omega) (by decide) ?_
                      refine kw_ild x_M_hears_115 rfl ?_
                      refine kw_ild x_M_hears_117 rfl ?_
                      first | refine kw_if_ne_b x_M_hears_119 (fun h119 => ?_) (fun h119 => ?_) | refine kw_if_ne_s x_M_hears_119 ⟨by omega, by omega⟩ (fun h119 => ?_) (fun h119 => ?_) | refine kw_if_ne_n x_M_hears_119 (by omega) (fun h119 => ?_) (fun h119 => ?_) | refine kw_if_ne x_M_hears_119 (fun h119 => ?_) (fun h119 => ?_)
                      · skip
                        refine kw_icon x_M_hears_127 ?_
                        refine kw_goto x_M_hears_128 ?_
                        first | refine kw_iadd_n x_M_hears_132 ?_ | refine kw_iadd x_M_hears_132 ?_
                        refine kw_ist x_M_hears_133 (by decide) ?_
                        first | refine kw_iinc_n x_M_hears_135 (by decide) rfl ?_ | refine kw_iinc x_M_hears_135 (by decide) rfl ?_
                        refine kw_goto x_M_hears_138 ?_
                        refine ih (e + 1) _ _ _ _ _ _ (by omega) ?_ (hl.tr kt_lc.u1) (by rw [kt_u1_ne _ _ _ (by omega)]; exact hl0) (by rw [kt_u1_ne _ _ _ (by omega)]; exact hl2) (by rw [kt_u1_ne _ _ _ (by omega)]; exact hl9) ?_
                        · rw [h2]
                          simp [xct, xhc, hba, hbb]
                        · have h9 := kt_enc_h hE
                          have h10 : xhm false a b (xe X e 7) = xe X e 7 ||| 2 ^ a := (by simp [xhm, hba, hbb])
                          rw [h10] at h9
                          exact h9
                      · exfalso; first | omega | contradiction
                    · exfalso; first | omega | contradiction
                · exfalso; first | omega | contradiction
      | true =>
        cases hbb : (xe X e 7).testBit b with
        | false =>
          refine kw_ild x_M_hears_6 rfl ?_
          refine kw_ald_n x_M_hears_8 rfl ?_
          refine kw_gr x_M_hears_9 (by exact isM_k hM) (by exact isM_r0 hM) ?_
          refine kw_icon x_M_hears_12 ?_
          refine kw_iald_n x_M_hears_13 (by first | exact isM_a1 hM | exact isM_a2 hM | exact isM_a3 hM | exact isM_a4 hM | exact isM_a5 hM | exact isM_a6 hM | exact isM_a7 hM | exact isM_a8 hM | exact isM_a10 hM | exact isM_a11 hM) (by omega) (by omega) (by first | exact hE.1 | exact hE.2.1 | exact hE.2.2.1 | exact rfl) ?_
          first | refine kw_ic_ge_n x_M_hears_14 ⟨by omega, by omega⟩ (fun h14 => ?_) (fun h14 => ?_) | refine kw_ic_ge x_M_hears_14 (fun h14 => ?_) (fun h14 => ?_)
          · exfalso; first | omega | contradiction
          · skip
            refine kw_ald_n x_M_hears_17 rfl ?_
            refine kw_ild_n x_M_hears_18 rfl ?_
            refine kw_ild x_M_hears_19 rfl ?_
            refine c_M_hears_21 (by exact isM_k hM) (Nat.le_of_ble_eq_true rfl) ?_
            refine s_M_knows_w hM hE (by omega) (by omega) (by omega) (by omega) ?_
            rw [hme]
            try rw [hba]
            try rw [hbb]
            refine kw_ist x_M_hears_24 (by decide) ?_
            refine kw_ald_n x_M_hears_26 rfl ?_
            refine kw_ild_n x_M_hears_27 rfl ?_
            refine kw_ild x_M_hears_28 rfl ?_
            refine c_M_hears_30 (by exact isM_k hM) (Nat.le_of_ble_eq_true rfl) ?_
            refine s_M_knows_w hM hE (by omega) (by omega) (by omega) (by omega) ?_
            rw [hme]
            try rw [hba]
            try rw [hbb]
            refine kw_ist x_M_hears_33 (by decide) ?_
            refine kw_ild x_M_hears_35 rfl ?_
            first | refine kw_if_eq_b x_M_hears_37 (fun h37 => ?_) (fun h37 => ?_) | refine kw_if_eq_n x_M_hears_37 (by omega) (fun h37 => ?_) (fun h37 => ?_) | refine kw_if_eq x_M_hears_37 (fun h37 => ?_) (fun h37 => ?_)
            · skip
              refine kw_icon x_M_hears_49 ?_
              refine kw_ist x_M_hears_50 (by decide) ?_
              refine kw_ild_n x_M_hears_52 rfl ?_
              first | refine kw_if_eq_b x_M_hears_53 (fun h53 => ?_) (fun h53 => ?_) | refine kw_if_eq_n x_M_hears_53 (by omega) (fun h53 => ?_) (fun h53 => ?_) | refine kw_if_eq x_M_hears_53 (fun h53 => ?_) (fun h53 => ?_)
              · skip
                refine kw_icon x_M_hears_70 ?_
                refine kw_ist x_M_hears_71 (by decide) ?_
                refine kw_ald_n x_M_hears_73 rfl ?_
                refine kw_ild x_M_hears_74 rfl ?_
                refine kw_bip x_M_hears_76 ?_
                refine kw_ald_n x_M_hears_78 rfl ?_
                refine kw_ild x_M_hears_79 rfl ?_
                refine kw_bip x_M_hears_81 ?_
                refine c_M_hears_83 (by exact isM_k hM) (Nat.le_of_ble_eq_true rfl) ?_
                refine s_M_ofn hM hE (by omega) (by omega) (by decide) ?_
                rw [hme]
                refine kw_ild x_M_hears_86 rfl ?_
                first | refine kw_if_eq_b x_M_hears_88 (fun h88 => ?_) (fun h88 => ?_) | refine kw_if_eq_n x_M_hears_88 (by omega) (fun h88 => ?_) (fun h88 => ?_) | refine kw_if_eq x_M_hears_88 (fun h88 => ?_) (fun h88 => ?_)
                · skip
                  refine kw_icon x_M_hears_97 ?_
                  refine kw_ior x_M_hears_98 ?_
                  refine kw_ild x_M_hears_99 rfl ?_
                  first | refine kw_if_eq_b x_M_hears_101 (fun h101 => ?_) (fun h101 => ?_) | refine kw_if_eq_n x_M_hears_101 (by omega) (fun h101 => ?_) (fun h101 => ?_) | refine kw_if_eq x_M_hears_101 (fun h101 => ?_) (fun h101 => ?_)
                  · skip
                    refine kw_icon x_M_hears_110 ?_
                    refine kw_ior x_M_hears_111 ?_
                    rw [kt_or0, kt_or0]
                    refine c_M_hears_112 (by exact isM_k hM) (Nat.le_of_ble_eq_true rfl) ?_
                    refine s_M_puts hM (by omega) (by decide) ?_
                    refine kw_ild x_M_hears_115 rfl ?_
                    refine kw_ild x_M_hears_117 rfl ?_
                    first | refine kw_if_ne_b x_M_hears_119 (fun h119 => ?_) (fun h119 => ?_) | refine kw_if_ne_s x_M_hears_119 ⟨by omega, by omega⟩ (fun h119 => ?_) (fun h119 => ?_) | refine kw_if_ne_n x_M_hears_119 (by omega) (fun h119 => ?_) (fun h119 => ?_) | refine kw_if_ne x_M_hears_119 (fun h119 => ?_) (fun h119 => ?_)
                    · exfalso; first | omega | contradiction
                    · skip
                      refine kw_ild x_M_hears_122 rfl ?_
                      first | refine kw_if_eq_b x_M_hears_124 (fun h124 => ?_) (fun h124 => ?_) | refine kw_if_eq_n x_M_hears_124 (by omega) (fun h124 => ?_) (fun h124 => ?_) | refine kw_if_eq x_M_hears_124 (fun h124 => ?_) (fun h124 => ?_)
                      · skip
                        refine kw_icon x_M_hears_131 ?_
                        first | refine kw_iadd_n x_M_hears_132 ?_ | refine kw_iadd x_M_hears_132 ?_
                        refine kw_ist x_M_hears_133 (by decide) ?_
                        first | refine kw_iinc_n x_M_hears_135 (by decide) rfl ?_ | refine kw_iinc x_M_hears_135 (by decide) rfl ?_
                        refine kw_goto x_M_hears_138 ?_
                        refine ih (e + 1) _ _ _ _ _ _ (by omega) ?_ (hl.tr kt_lc.u1) (by rw [kt_u1_ne _ _ _ (by omega)]; exact hl0) (by rw [kt_u1_ne _ _ _ (by omega)]; exact hl2) (by rw [kt_u1_ne _ _ _ (by omega)]; exact hl9) ?_
                        · rw [h2]
                          simp [xct, xhc, hba, hbb]
                        · have h9 := kt_enc_h hE
                          have h10 : xhm false a b (xe X e 7) = xe X e 7 := (by simp [xhm, hba, hbb])
                          rw [h10] at h9
                          exact h9
                      · exfalso; first | omega | contradiction
                  · exfalso; first | omega | contradiction
                · exfalso; first | omega | contradiction
              · exfalso; first | omega | contradiction
            · exfalso; first | omega | contradiction
        | true =>
          refine kw_ild x_M_hears_6 rfl ?_
          refine kw_ald_n x_M_hears_8 rfl ?_
          refine kw_gr x_M_hears_9 (by exact isM_k hM) (by exact isM_r0 hM) ?_
          refine kw_icon x_M_hears_12 ?_
          refine kw_iald_n x_M_hears_13 (by first | exact isM_a1 hM | exact isM_a2 hM | exact isM_a3 hM | exact isM_a4 hM | exact isM_a5 hM | exact isM_a6 hM | exact isM_a7 hM | exact isM_a8 hM | exact isM_a10 hM | exact isM_a11 hM) (by omega) (by omega) (by first | exact hE.1 | exact hE.2.1 | exact hE.2.2.1 | exact rfl) ?_
          first | refine kw_ic_ge_n x_M_hears_14 ⟨by omega, by omega⟩ (fun h14 => ?_) (fun h14 => ?_) | refine kw_ic_ge x_M_hears_14 (fun h14 => ?_) (fun h14 => ?_)
          · exfalso; first | omega | contradiction
          · skip
            refine kw_ald_n x_M_hears_17 rfl ?_
            refine kw_ild_n x_M_hears_18 rfl ?_
            refine kw_ild x_M_hears_19 rfl ?_
            refine c_M_hears_21 (by exact isM_k hM) (Nat.le_of_ble_eq_true rfl) ?_
            refine s_M_knows_w hM hE (by omega) (by omega) (by omega) (by omega) ?_
            rw [hme]
            try rw [hba]
            try rw [hbb]
            refine kw_ist x_M_hears_24 (by decide) ?_
            refine kw_ald_n x_M_hears_26 rfl ?_
            refine kw_ild_n x_M_hears_27 rfl ?_
            refine kw_ild x_M_hears_28 rfl ?_
            refine c_M_hears_30 (by exact isM_k hM) (Nat.le_of_ble_eq_true rfl) ?_
            refine s_M_knows_w hM hE (by omega) (by omega) (by omega) (by omega) ?_
            rw [hme]
            try rw [hba]
            try rw [hbb]
            refine kw_ist x_M_hears_33 (by decide) ?_
            refine kw_ild x_M_hears_35 rfl ?_
            first | refine kw_if_eq_b x_M_hears_37 (fun h37 => ?_) (fun h37 => ?_) | refine kw_if_eq_n x_M_hears_37 (by omega) (fun h37 => ?_) (fun h37 => ?_) | refine kw_if_eq x_M_hears_37 (fun h37 => ?_) (fun h37 => ?_)
            · exfalso; first | omega | contradiction
            · skip
              refine kw_ild x_M_hears_40 rfl ?_
              first | refine kw_if_ne_b x_M_hears_42 (fun h42 => ?_) (fun h42 => ?_) | refine kw_if_ne_s x_M_hears_42 ⟨by omega, by omega⟩ (fun h42 => ?_) (fun h42 => ?_) | refine kw_if_ne_n x_M_hears_42 (by omega) (fun h42 => ?_) (fun h42 => ?_) | refine kw_if_ne x_M_hears_42 (fun h42 => ?_) (fun h42 => ?_)
              · skip
                refine kw_icon x_M_hears_49 ?_
                refine kw_ist x_M_hears_50 (by decide) ?_
                refine kw_ild_n x_M_hears_52 rfl ?_
                first | refine kw_if_eq_b x_M_hears_53 (fun h53 => ?_) (fun h53 => ?_) | refine kw_if_eq_n x_M_hears_53 (by omega) (fun h53 => ?_) (fun h53 => ?_) | refine kw_if_eq x_M_hears_53 (fun h53 => ?_) (fun h53 => ?_)
                · skip
                  refine kw_icon x_M_hears_70 ?_
                  refine kw_ist x_M_hears_71 (by decide) ?_
                  refine kw_ald_n x_M_hears_73 rfl ?_
                  refine kw_ild x_M_hears_74 rfl ?_
                  refine kw_bip x_M_hears_76 ?_
                  refine kw_ald_n x_M_hears_78 rfl ?_
                  refine kw_ild x_M_hears_79 rfl ?_
                  refine kw_bip x_M_hears_81 ?_
                  refine c_M_hears_83 (by exact isM_k hM) (Nat.le_of_ble_eq_true rfl) ?_
                  refine s_M_ofn hM hE (by omega) (by omega) (by decide) ?_
                  rw [hme]
                  refine kw_ild x_M_hears_86 rfl ?_
                  first | refine kw_if_eq_b x_M_hears_88 (fun h88 => ?_) (fun h88 => ?_) | refine kw_if_eq_n x_M_hears_88 (by omega) (fun h88 => ?_) (fun h88 => ?_) | refine kw_if_eq x_M_hears_88 (fun h88 => ?_) (fun h88 => ?_)
                  · skip
                    refine kw_icon x_M_hears_97 ?_
                    refine kw_ior x_M_hears_98 ?_
                    refine kw_ild x_M_hears_99 rfl ?_
                    first | refine kw_if_eq_b x_M_hears_101 (fun h101 => ?_) (fun h101 => ?_) | refine kw_if_eq_n x_M_hears_101 (by omega) (fun h101 => ?_) (fun h101 => ?_) | refine kw_if_eq x_M_hears_101 (fun h101 => ?_) (fun h101 => ?_)
                    · skip
                      refine kw_icon x_M_hears_110 ?_
                      refine kw_ior x_M_hears_111 ?_
                      rw [kt_or0, kt_or0]
                      refine c_M_hears_112 (by exact isM_k hM) (Nat.le_of_ble_eq_true rfl) ?_
                      refine s_M_puts hM (by omega) (by decide) ?_
                      refine kw_ild x_M_hears_115 rfl ?_
                      refine kw_ild x_M_hears_117 rfl ?_
                      first | refine kw_if_ne_b x_M_hears_119 (fun h119 => ?_) (fun h119 => ?_) | refine kw_if_ne_s x_M_hears_119 ⟨by omega, by omega⟩ (fun h119 => ?_) (fun h119 => ?_) | refine kw_if_ne_n x_M_hears_119 (by omega) (fun h119 => ?_) (fun h119 => ?_) | refine kw_if_ne x_M_hears_119 (fun h119 => ?_) (fun h119 => ?_)
                      · exfalso; first | omega | contradiction
                      · skip
                        refine kw_ild x_M_hears_122 rfl ?_
                        first | refine kw_if_eq_b x_M_hears_124 (fun h124 => ?_) (fun h124 => ?_) | refine kw_if_eq_n x_M_hears_124 (by omega) (fun h124 => ?_) (fun h124 => ?_) | refine kw_if_eq x_M_hears_124 (fun h124 => ?_) (fun h124 => ?_)
                        · skip
                          refine kw_icon x_M_hears_131 ?_
                          first | refine kw_iadd_n x_M_hears_132 ?_ | refine kw_iadd x_M_hears_132 ?_
                          refine kw_ist x_M_hears_133 (by decide) ?_
                          first | refine kw_iinc_n x_M_hears_135 (by decide) rfl ?_ | refine kw_iinc x_M_hears_135 (by decide) rfl ?_
                          refine kw_goto x_M_hears_138 ?_
                          refine ih (e + 1) _ _ _ _ _ _ (by omega) ?_ (hl.tr kt_lc.u1) (by rw [kt_u1_ne _ _ _ (by omega)]; exact hl0) (by rw [kt_u1_ne _ _ _ (by omega)]; exact hl2) (by rw [kt_u1_ne _ _ _ (by omega)]; exact hl9) ?_
                          · rw [h2]
                            simp [xct, xhc, hba, hbb]
                          · have h9 := kt_enc_h hE
                            have h10 : xhm false a b (xe X e 7) = xe X e 7 := (by simp [xhm, hba, hbb])
                            rw [h10] at h9
                            exact h9
                        · exfalso; first | omega | contradiction
                    · exfalso; first | omega | contradiction
                  · exfalso; first | omega | contradiction
                · exfalso; first | omega | contradiction
              · exfalso; first | omega | contradiction
    | true =>
      cases hba : (xe X e 7).testBit a with
      | false =>
        cases hbb : (xe X e 7).testBit b with
        | false =>
          refine kw_ild x_M_hears_6 rfl ?_
          refine kw_ald_n x_M_hears_8 rfl ?_
          refine kw_gr x_M_hears_9 (by exact isM_k hM) (by exact isM_r0 hM) ?_
          refine kw_icon x_M_hears_12 ?_
          refine kw_iald_n x_M_hears_13 (by first | exact isM_a1 hM | exact isM_a2 hM | exact isM_a3 hM | exact isM_a4 hM | exact isM_a5 hM | exact isM_a6 hM | exact isM_a7 hM | exact isM_a8 hM | exact isM_a10 hM | exact isM_a11 hM) (by omega) (by omega) (by first | exact hE.1 | exact hE.2.1 | exact hE.2.2.1 | exact rfl) ?_
          first | refine kw_ic_ge_n x_M_hears_14 ⟨by omega, by omega⟩ (fun h14 => ?_) (fun h14 => ?_) | refine kw_ic_ge x_M_hears_14 (fun h14 => ?_) (fun h14 => ?_)
          · exfalso; first | omega | contradiction
          · skip
            refine kw_ald_n x_M_hears_17 rfl ?_
            refine kw_ild_n x_M_hears_18 rfl ?_
            refine kw_ild x_M_hears_19 rfl ?_
            refine c_M_hears_21 (by exact isM_k hM) (Nat.le_of_ble_eq_true rfl) ?_
            refine s_M_knows_w hM hE (by omega) (by omega) (by omega) (by omega) ?_
            rw [hme]
            try rw [hba]
            try rw [hbb]
            refine kw_ist x_M_hears_24 (by decide) ?_
            refine kw_ald_n x_M_hears_26 rfl ?_
            refine kw_ild_n x_M_hears_27 rfl ?_
            refine kw_ild x_M_hears_28 rfl ?_
            refine c_M_hears_30 (by exact isM_k hM) (Nat.le_of_ble_eq_true rfl) ?_
            refine s_M_knows_w hM hE (by omega) (by omega) (by omega) (by omega) ?_
            rw [hme]
            try rw [hba]
            try rw [hbb]
            refine kw_ist x_M_hears_33 (by decide) ?_
            refine kw_ild x_M_hears_35 rfl ?_
            first | refine kw_if_eq_b x_M_hears_37 (fun h37 => ?_) (fun h37 => ?_) | refine kw_if_eq_n x_M_hears_37 (by omega) (fun h37 => ?_) (fun h37 => ?_) | refine kw_if_eq x_M_hears_37 (fun h37 => ?_) (fun h37 => ?_)
            · skip
              refine kw_icon x_M_hears_49 ?_
              refine kw_ist x_M_hears_50 (by decide) ?_
              refine kw_ild_n x_M_hears_52 rfl ?_
              first | refine kw_if_eq_b x_M_hears_53 (fun h53 => ?_) (fun h53 => ?_) | refine kw_if_eq_n x_M_hears_53 (by omega) (fun h53 => ?_) (fun h53 => ?_) | refine kw_if_eq x_M_hears_53 (fun h53 => ?_) (fun h53 => ?_)
              · exfalso; first | omega | contradiction
              · skip
                refine kw_ild x_M_hears_56 rfl ?_
                first | refine kw_if_eq_b x_M_hears_58 (fun h58 => ?_) (fun h58 => ?_) | refine kw_if_eq_n x_M_hears_58 (by omega) (fun h58 => ?_) (fun h58 => ?_) | refine kw_if_eq x_M_hears_58 (fun h58 => ?_) (fun h58 => ?_)
                · skip
                  refine kw_icon x_M_hears_70 ?_
                  refine kw_ist x_M_hears_71 (by decide) ?_
                  refine kw_ald_n x_M_hears_73 rfl ?_
                  refine kw_ild x_M_hears_74 rfl ?_
                  refine kw_bip x_M_hears_76 ?_
                  refine kw_ald_n x_M_hears_78 rfl ?_
                  refine kw_ild x_M_hears_79 rfl ?_
                  refine kw_bip x_M_hears_81 ?_
                  refine c_M_hears_83 (by exact isM_k hM) (Nat.le_of_ble_eq_true rfl) ?_
                  refine s_M_ofn hM hE (by omega) (by omega) (by decide) ?_
                  rw [hme]
                  refine kw_ild x_M_hears_86 rfl ?_
                  first | refine kw_if_eq_b x_M_hears_88 (fun h88 => ?_) (fun h88 => ?_) | refine kw_if_eq_n x_M_hears_88 (by omega) (fun h88 => ?_) (fun h88 => ?_) | refine kw_if_eq x_M_hears_88 (fun h88 => ?_) (fun h88 => ?_)
                  · skip
                    refine kw_icon x_M_hears_97 ?_
                    refine kw_ior x_M_hears_98 ?_
                    refine kw_ild x_M_hears_99 rfl ?_
                    first | refine kw_if_eq_b x_M_hears_101 (fun h101 => ?_) (fun h101 => ?_) | refine kw_if_eq_n x_M_hears_101 (by omega) (fun h101 => ?_) (fun h101 => ?_) | refine kw_if_eq x_M_hears_101 (fun h101 => ?_) (fun h101 => ?_)
                    · skip
                      refine kw_icon x_M_hears_110 ?_
                      refine kw_ior x_M_hears_111 ?_
                      rw [kt_or0, kt_or0]
                      refine c_M_hears_112 (by exact isM_k hM) (Nat.le_of_ble_eq_true rfl) ?_
                      refine s_M_puts hM (by omega) (by decide) ?_
                      refine kw_ild x_M_hears_115 rfl ?_
                      refine kw_ild x_M_hears_117 rfl ?_
                      first | refine kw_if_ne_b x_M_hears_119 (fun h119 => ?_) (fun h119 => ?_) | refine kw_if_ne_s x_M_hears_119 ⟨by omega, by omega⟩ (fun h119 => ?_) (fun h119 => ?_) | refine kw_if_ne_n x_M_hears_119 (by omega) (fun h119 => ?_) (fun h119 => ?_) | refine kw_if_ne x_M_hears_119 (fun h119 => ?_) (fun h119 => ?_)
                      · exfalso; first | omega | contradiction
                      · skip
                        refine kw_ild x_M_hears_122 rfl ?_
                        first | refine kw_if_eq_b x_M_hears_124 (fun h124 => ?_) (fun h124 => ?_) | refine kw_if_eq_n x_M_hears_124 (by omega) (fun h124 => ?_) (fun h124 => ?_) | refine kw_if_eq x_M_hears_124 (fun h124 => ?_) (fun h124 => ?_)
                        · skip
                          refine kw_icon x_M_hears_131 ?_
                          first | refine kw_iadd_n x_M_hears_132 ?_ | refine kw_iadd x_M_hears_132 ?_
                          refine kw_ist x_M_hears_133 (by decide) ?_
                          first | refine kw_iinc_n x_M_hears_135 (by decide) rfl ?_ | refine kw_iinc x_M_hears_135 (by decide) rfl ?_
                          refine kw_goto x_M_hears_138 ?_
                          refine ih (e + 1) _ _ _ _ _ _ (by omega) ?_ (hl.tr kt_lc.u1) (by rw [kt_u1_ne _ _ _ (by omega)]; exact hl0) (by rw [kt_u1_ne _ _ _ (by omega)]; exact hl2) (by rw [kt_u1_ne _ _ _ (by omega)]; exact hl9) ?_
                          · rw [h2]
                            simp [xct, xhc, hba, hbb]
                          · have h9 := kt_enc_h hE
                            have h10 : xhm true a b (xe X e 7) = xe X e 7 := (by simp [xhm, hba, hbb])
                            rw [h10] at h9
                            exact h9
                        · exfalso; first | omega | contradiction
                    · exfalso; first | omega | contradiction
                  · exfalso; first | omega | contradiction
                · exfalso; first | omega | contradiction
            · exfalso; first | omega | contradiction
        | true =>
          refine kw_ild x_M_hears_6 rfl ?_
          refine kw_ald_n x_M_hears_8 rfl ?_
          refine kw_gr x_M_hears_9 (by exact isM_k hM) (by exact isM_r0 hM) ?_
          refine kw_icon x_M_hears_12 ?_
          refine kw_iald_n x_M_hears_13 (by first | exact isM_a1 hM | exact isM_a2 hM | exact isM_a3 hM | exact isM_a4 hM | exact isM_a5 hM | exact isM_a6 hM | exact isM_a7 hM | exact isM_a8 hM | exact isM_a10 hM | exact isM_a11 hM) (by omega) (by omega) (by first | exact hE.1 | exact hE.2.1 | exact hE.2.2.1 | exact rfl) ?_
          first | refine kw_ic_ge_n x_M_hears_14 ⟨by omega, by omega⟩ (fun h14 => ?_) (fun h14 => ?_) | refine kw_ic_ge x_M_hears_14 (fun h14 => ?_) (fun h14 => ?_)
          · exfalso; first | omega | contradiction
          · skip
            refine kw_ald_n x_M_hears_17 rfl ?_
            refine kw_ild_n x_M_hears_18 rfl ?_
            refine kw_ild x_M_hears_19 rfl ?_
            refine c_M_hears_21 (by exact isM_k hM) (Nat.le_of_ble_eq_true rfl) ?_
            refine s_M_knows_w hM hE (by omega) (by omega) (by omega) (by omega) ?_
            rw [hme]
            try rw [hba]
            try rw [hbb]
            refine kw_ist x_M_hears_24 (by decide) ?_
            refine kw_ald_n x_M_hears_26 rfl ?_
            refine kw_ild_n x_M_hears_27 rfl ?_
            refine kw_ild x_M_hears_28 rfl ?_
            refine c_M_hears_30 (by exact isM_k hM) (Nat.le_of_ble_eq_true rfl) ?_
            refine s_M_knows_w hM hE (by omega) (by omega) (by omega) (by omega) ?_
            rw [hme]
            try rw [hba]
            try rw [hbb]
            refine kw_ist x_M_hears_33 (by decide) ?_
            refine kw_ild x_M_hears_35 rfl ?_
            first | refine kw_if_eq_b x_M_hears_37 (fun h37 => ?_) (fun h37 => ?_) | refine kw_if_eq_n x_M_hears_37 (by omega) (fun h37 => ?_) (fun h37 => ?_) | refine kw_if_eq x_M_hears_37 (fun h37 => ?_) (fun h37 => ?_)
            · exfalso; first | omega | contradiction
            · skip
              refine kw_ild x_M_hears_40 rfl ?_
              first | refine kw_if_ne_b x_M_hears_42 (fun h42 => ?_) (fun h42 => ?_) | refine kw_if_ne_s x_M_hears_42 ⟨by omega, by omega⟩ (fun h42 => ?_) (fun h42 => ?_) | refine kw_if_ne_n x_M_hears_42 (by omega) (fun h42 => ?_) (fun h42 => ?_) | refine kw_if_ne x_M_hears_42 (fun h42 => ?_) (fun h42 => ?_)
              · exfalso; first | omega | contradiction
              · skip
                refine kw_icon x_M_hears_45 ?_
                refine kw_goto x_M_hears_46 ?_
                refine kw_ist x_M_hears_50 (by decide) ?_
                refine kw_ild_n x_M_hears_52 rfl ?_
                first | refine kw_if_eq_b x_M_hears_53 (fun h53 => ?_) (fun h53 => ?_) | refine kw_if_eq_n x_M_hears_53 (by omega) (fun h53 => ?_) (fun h53 => ?_) | refine kw_if_eq x_M_hears_53 (fun h53 => ?_) (fun h53 => ?_)
                · exfalso; first | omega | contradiction
                · skip
                  refine kw_ild x_M_hears_56 rfl ?_
                  first | refine kw_if_eq_b x_M_hears_58 (fun h58 => ?_) (fun h58 => ?_) | refine kw_if_eq_n x_M_hears_58 (by omega) (fun h58 => ?_) (fun h58 => ?_) | refine kw_if_eq x_M_hears_58 (fun h58 => ?_) (fun h58 => ?_)
                  · skip
                    refine kw_icon x_M_hears_70 ?_
                    refine kw_ist x_M_hears_71 (by decide) ?_
                    refine kw_ald_n x_M_hears_73 rfl ?_
                    refine kw_ild x_M_hears_74 rfl ?_
                    refine kw_bip x_M_hears_76 ?_
                    refine kw_ald_n x_M_hears_78 rfl ?_
                    refine kw_ild x_M_hears_79 rfl ?_
                    refine kw_bip x_M_hears_81 ?_
                    refine c_M_hears_83 (by exact isM_k hM) (Nat.le_of_ble_eq_true rfl) ?_
                    refine s_M_ofn hM hE (by omega) (by omega) (by decide) ?_
                    rw [hme]
                    refine kw_ild x_M_hears_86 rfl ?_
                    first | refine kw_if_eq_b x_M_hears_88 (fun h88 => ?_) (fun h88 => ?_) | refine kw_if_eq_n x_M_hears_88 (by omega) (fun h88 => ?_) (fun h88 => ?_) | refine kw_if_eq x_M_hears_88 (fun h88 => ?_) (fun h88 => ?_)
                    · exfalso; first | omega | contradiction
                    · skip
                      refine kw_icon x_M_hears_91 ?_
                      refine kw_ild_n x_M_hears_92 rfl ?_
                      refine kw_ishl x_M_hears_93 ?_
                      refine kw_goto x_M_hears_94 ?_
                      refine kw_ior x_M_hears_98 ?_
                      refine kw_ild x_M_hears_99 rfl ?_
                      first | refine kw_if_eq_b x_M_hears_101 (fun h101 => ?_) (fun h101 => ?_) | refine kw_if_eq_n x_M_hears_101 (by omega) (fun h101 => ?_) (fun h101 => ?_) | refine kw_if_eq x_M_hears_101 (fun h101 => ?_) (fun h101 => ?_)
                      · skip
                        refine kw_icon x_M_hears_110 ?_
                        refine kw_ior x_M_hears_111 ?_
                        rw [kt_or _ hm a ha, kt_or0]
                        refine c_M_hears_112 (by exact isM_k hM) (Nat.le_of_ble_eq_true rfl) ?_
                        refine s_M_puts hM (by omega) (by decide) ?_
                        refine kw_ild x_M_hears_115 rfl ?_
                        refine kw_ild x_M_hears_117 rfl ?_
                        first | refine kw_if_ne_b x_M_hears_119 (fun h119 => ?_) (fun h119 => ?_) | refine kw_if_ne_s x_M_hears_119 ⟨by omega, by omega⟩ (fun h119 => ?_) (fun h119 => ?_) | refine kw_if_ne_n x_M_hears_119 (by omega) (fun h119 => ?_) (fun h119 => ?_) | refine kw_if_ne x_M_hears_119 (fun h119 => ?_) (fun h119 => ?_)
                        · skip
                          refine kw_icon x_M_hears_127 ?_
                          refine kw_goto x_M_hears_128 ?_
                          first | refine kw_iadd_n x_M_hears_132 ?_ | refine kw_iadd x_M_hears_132 ?_
                          refine kw_ist x_M_hears_133 (by decide) ?_
                          first | refine kw_iinc_n x_M_hears_135 (by decide) rfl ?_ | refine kw_iinc x_M_hears_135 (by decide) rfl ?_
                          refine kw_goto x_M_hears_138 ?_
                          refine ih (e + 1) _ _ _ _ _ _ (by omega) ?_ (hl.tr kt_lc.u1) (by rw [kt_u1_ne _ _ _ (by omega)]; exact hl0) (by rw [kt_u1_ne _ _ _ (by omega)]; exact hl2) (by rw [kt_u1_ne _ _ _ (by omega)]; exact hl9) ?_
                          · rw [h2]
                            simp [xct, xhc, hba, hbb]
                          · have h9 := kt_enc_h hE
                            have h10 : xhm true a b (xe X e 7) = xe X e 7 ||| 2 ^ a := (by simp [xhm, hba, hbb])
                            rw [h10] at h9
                            exact h9
                        · exfalso; first | omega | contradiction
                      · exfalso; first | omega | contradiction
                  · exfalso; first | omega | contradiction
      | true =>
        cases hbb : (xe X e 7).testBit b with
        | false =>
          refine kw_ild x_M_hears_6 rfl ?_
          refine kw_ald_n x_M_hears_8 rfl ?_
          refine kw_gr x_M_hears_9 (by exact isM_k hM) (by exact isM_r0 hM) ?_
          refine kw_icon x_M_hears_12 ?_
          refine kw_iald_n x_M_hears_13 (by first | exact isM_a1 hM | exact isM_a2 hM | exact isM_a3 hM | exact isM_a4 hM | exact isM_a5 hM | exact isM_a6 hM | exact isM_a7 hM | exact isM_a8 hM | exact isM_a10 hM | exact isM_a11 hM) (by omega) (by omega) (by first | exact hE.1 | exact hE.2.1 | exact hE.2.2.1 | exact rfl) ?_
          first | refine kw_ic_ge_n x_M_hears_14 ⟨by omega, by omega⟩ (fun h14 => ?_) (fun h14 => ?_) | refine kw_ic_ge x_M_hears_14 (fun h14 => ?_) (fun h14 => ?_)
          · exfalso; first | omega | contradiction
          · skip
            refine kw_ald_n x_M_hears_17 rfl ?_
            refine kw_ild_n x_M_hears_18 rfl ?_
            refine kw_ild x_M_hears_19 rfl ?_
            refine c_M_hears_21 (by exact isM_k hM) (Nat.le_of_ble_eq_true rfl) ?_
            refine s_M_knows_w hM hE (by omega) (by omega) (by omega) (by omega) ?_
            rw [hme]
            try rw [hba]
            try rw [hbb]
            refine kw_ist x_M_hears_24 (by decide) ?_
            refine kw_ald_n x_M_hears_26 rfl ?_
            refine kw_ild_n x_M_hears_27 rfl ?_
            refine kw_ild x_M_hears_28 rfl ?_
            refine c_M_hears_30 (by exact isM_k hM) (Nat.le_of_ble_eq_true rfl) ?_
            refine s_M_knows_w hM hE (by omega) (by omega) (by omega) (by omega) ?_
            rw [hme]
            try rw [hba]
            try rw [hbb]
            refine kw_ist x_M_hears_33 (by decide) ?_
            refine kw_ild x_M_hears_35 rfl ?_
            first | refine kw_if_eq_b x_M_hears_37 (fun h37 => ?_) (fun h37 => ?_) | refine kw_if_eq_n x_M_hears_37 (by omega) (fun h37 => ?_) (fun h37 => ?_) | refine kw_if_eq x_M_hears_37 (fun h37 => ?_) (fun h37 => ?_)
            · skip
              refine kw_icon x_M_hears_49 ?_
              refine kw_ist x_M_hears_50 (by decide) ?_
              refine kw_ild_n x_M_hears_52 rfl ?_
              first | refine kw_if_eq_b x_M_hears_53 (fun h53 => ?_) (fun h53 => ?_) | refine kw_if_eq_n x_M_hears_53 (by omega) (fun h53 => ?_) (fun h53 => ?_) | refine kw_if_eq x_M_hears_53 (fun h53 => ?_) (fun h53 => ?_)
              · exfalso; first | omega | contradiction
              · skip
                refine kw_ild x_M_hears_56 rfl ?_
                first | refine kw_if_eq_b x_M_hears_58 (fun h58 => ?_) (fun h58 => ?_) | refine kw_if_eq_n x_M_hears_58 (by omega) (fun h58 => ?_) (fun h58 => ?_) | refine kw_if_eq x_M_hears_58 (fun h58 => ?_) (fun h58 => ?_)
                · exfalso; first | omega | contradiction
                · skip
                  refine kw_ild x_M_hears_61 rfl ?_
                  first | refine kw_if_ne_b x_M_hears_63 (fun h63 => ?_) (fun h63 => ?_) | refine kw_if_ne_s x_M_hears_63 ⟨by omega, by omega⟩ (fun h63 => ?_) (fun h63 => ?_) | refine kw_if_ne_n x_M_hears_63 (by omega) (fun h63 => ?_) (fun h63 => ?_) | refine kw_if_ne x_M_hears_63 (fun h63 => ?_) (fun h63 => ?_)
                  · exfalso; first | omega | contradiction
                  · skip
                    refine kw_icon x_M_hears_66 ?_
                    refine kw_goto x_M_hears_67 ?_
                    refine kw_ist x_M_hears_71 (by decide) ?_
                    refine kw_ald_n x_M_hears_73 rfl ?_
                    refine kw_ild x_M_hears_74 rfl ?_
                    refine kw_bip x_M_hears_76 ?_
                    refine kw_ald_n x_M_hears_78 rfl ?_
                    refine kw_ild x_M_hears_79 rfl ?_
                    refine kw_bip x_M_hears_81 ?_
                    refine c_M_hears_83 (by exact isM_k hM) (Nat.le_of_ble_eq_true rfl) ?_
                    refine s_M_ofn hM hE (by omega) (by omega) (by decide) ?_
                    rw [hme]
                    refine kw_ild x_M_hears_86 rfl ?_
                    first | refine kw_if_eq_b x_M_hears_88 (fun h88 => ?_) (fun h88 => ?_) | refine kw_if_eq_n x_M_hears_88 (by omega) (fun h88 => ?_) (fun h88 => ?_) | refine kw_if_eq x_M_hears_88 (fun h88 => ?_) (fun h88 => ?_)
                    · skip
                      refine kw_icon x_M_hears_97 ?_
                      refine kw_ior x_M_hears_98 ?_
                      refine kw_ild x_M_hears_99 rfl ?_
                      first | refine kw_if_eq_b x_M_hears_101 (fun h101 => ?_) (fun h101 => ?_) | refine kw_if_eq_n x_M_hears_101 (by omega) (fun h101 => ?_) (fun h101 => ?_) | refine kw_if_eq x_M_hears_101 (fun h101 => ?_) (fun h101 => ?_)
                      · exfalso; first | omega | contradiction
                      · skip
                        refine kw_icon x_M_hears_104 ?_
                        refine kw_ild_n x_M_hears_105 rfl ?_
                        refine kw_ishl x_M_hears_106 ?_
                        refine kw_goto x_M_hears_107 ?_
                        refine kw_ior x_M_hears_111 ?_
                        rw [kt_or0, kt_or _ hm b hb]
                        refine c_M_hears_112 (by exact isM_k hM) (Nat.le_of_ble_eq_true rfl) ?_
                        refine s_M_puts hM (by omega) (by decide) ?_
                        refine kw_ild x_M_hears_115 rfl ?_
                        refine kw_ild x_M_hears_117 rfl ?_
                        first | refine kw_if_ne_b x_M_hears_119 (fun h119 => ?_) (fun h119 => ?_) | refine kw_if_ne_s x_M_hears_119 ⟨by omega, by omega⟩ (fun h119 => ?_) (fun h119 => ?_) | refine kw_if_ne_n x_M_hears_119 (by omega) (fun h119 => ?_) (fun h119 => ?_) | refine kw_if_ne x_M_hears_119 (fun h119 => ?_) (fun h119 => ?_)
                        · exfalso; first | omega | contradiction
                        · skip
                          refine kw_ild x_M_hears_122 rfl ?_
                          first | refine kw_if_eq_b x_M_hears_124 (fun h124 => ?_) (fun h124 => ?_) | refine kw_if_eq_n x_M_hears_124 (by omega) (fun h124 => ?_) (fun h124 => ?_) | refine kw_if_eq x_M_hears_124 (fun h124 => ?_) (fun h124 => ?_)
                          · exfalso; first | omega | contradiction
                          · skip
                            refine kw_icon x_M_hears_127 ?_
                            refine kw_goto x_M_hears_128 ?_
                            first | refine kw_iadd_n x_M_hears_132 ?_ | refine kw_iadd x_M_hears_132 ?_
                            refine kw_ist x_M_hears_133 (by decide) ?_
                            first | refine kw_iinc_n x_M_hears_135 (by decide) rfl ?_ | refine kw_iinc x_M_hears_135 (by decide) rfl ?_
                            refine kw_goto x_M_hears_138 ?_
                            refine ih (e + 1) _ _ _ _ _ _ (by omega) ?_ (hl.tr kt_lc.u1) (by rw [kt_u1_ne _ _ _ (by omega)]; exact hl0) (by rw [kt_u1_ne _ _ _ (by omega)]; exact hl2) (by rw [kt_u1_ne _ _ _ (by omega)]; exact hl9) ?_
                            · rw [h2]
                              simp [xct, xhc, hba, hbb]
                            · have h9 := kt_enc_h hE
                              have h10 : xhm true a b (xe X e 7) = xe X e 7 ||| 2 ^ b := (by simp [xhm, hba, hbb])
                              rw [h10] at h9
                              exact h9
                    · exfalso; first | omega | contradiction
            · exfalso; first | omega | contradiction
        | true =>
          refine kw_ild x_M_hears_6 rfl ?_
          refine kw_ald_n x_M_hears_8 rfl ?_
          refine kw_gr x_M_hears_9 (by exact isM_k hM) (by exact isM_r0 hM) ?_
          refine kw_icon x_M_hears_12 ?_
          refine kw_iald_n x_M_hears_13 (by first | exact isM_a1 hM | exact isM_a2 hM | exact isM_a3 hM | exact isM_a4 hM | exact isM_a5 hM | exact isM_a6 hM | exact isM_a7 hM | exact isM_a8 hM | exact isM_a10 hM | exact isM_a11 hM) (by omega) (by omega) (by first | exact hE.1 | exact hE.2.1 | exact hE.2.2.1 | exact rfl) ?_
          first | refine kw_ic_ge_n x_M_hears_14 ⟨by omega, by omega⟩ (fun h14 => ?_) (fun h14 => ?_) | refine kw_ic_ge x_M_hears_14 (fun h14 => ?_) (fun h14 => ?_)
          · exfalso; first | omega | contradiction
          · skip
            refine kw_ald_n x_M_hears_17 rfl ?_
            refine kw_ild_n x_M_hears_18 rfl ?_
            refine kw_ild x_M_hears_19 rfl ?_
            refine c_M_hears_21 (by exact isM_k hM) (Nat.le_of_ble_eq_true rfl) ?_
            refine s_M_knows_w hM hE (by omega) (by omega) (by omega) (by omega) ?_
            rw [hme]
            try rw [hba]
            try rw [hbb]
            refine kw_ist x_M_hears_24 (by decide) ?_
            refine kw_ald_n x_M_hears_26 rfl ?_
            refine kw_ild_n x_M_hears_27 rfl ?_
            refine kw_ild x_M_hears_28 rfl ?_
            refine c_M_hears_30 (by exact isM_k hM) (Nat.le_of_ble_eq_true rfl) ?_
            refine s_M_knows_w hM hE (by omega) (by omega) (by omega) (by omega) ?_
            rw [hme]
            try rw [hba]
            try rw [hbb]
            refine kw_ist x_M_hears_33 (by decide) ?_
            refine kw_ild x_M_hears_35 rfl ?_
            first | refine kw_if_eq_b x_M_hears_37 (fun h37 => ?_) (fun h37 => ?_) | refine kw_if_eq_n x_M_hears_37 (by omega) (fun h37 => ?_) (fun h37 => ?_) | refine kw_if_eq x_M_hears_37 (fun h37 => ?_) (fun h37 => ?_)
            · exfalso; first | omega | contradiction
            · skip
              refine kw_ild x_M_hears_40 rfl ?_
              first | refine kw_if_ne_b x_M_hears_42 (fun h42 => ?_) (fun h42 => ?_) | refine kw_if_ne_s x_M_hears_42 ⟨by omega, by omega⟩ (fun h42 => ?_) (fun h42 => ?_) | refine kw_if_ne_n x_M_hears_42 (by omega) (fun h42 => ?_) (fun h42 => ?_) | refine kw_if_ne x_M_hears_42 (fun h42 => ?_) (fun h42 => ?_)
              · skip
                refine kw_icon x_M_hears_49 ?_
                refine kw_ist x_M_hears_50 (by decide) ?_
                refine kw_ild_n x_M_hears_52 rfl ?_
                first | refine kw_if_eq_b x_M_hears_53 (fun h53 => ?_) (fun h53 => ?_) | refine kw_if_eq_n x_M_hears_53 (by omega) (fun h53 => ?_) (fun h53 => ?_) | refine kw_if_eq x_M_hears_53 (fun h53 => ?_) (fun h53 => ?_)
                · exfalso; first | omega | contradiction
                · skip
                  refine kw_ild x_M_hears_56 rfl ?_
                  first | refine kw_if_eq_b x_M_hears_58 (fun h58 => ?_) (fun h58 => ?_) | refine kw_if_eq_n x_M_hears_58 (by omega) (fun h58 => ?_) (fun h58 => ?_) | refine kw_if_eq x_M_hears_58 (fun h58 => ?_) (fun h58 => ?_)
                  · exfalso; first | omega | contradiction
                  · skip
                    refine kw_ild x_M_hears_61 rfl ?_
                    first | refine kw_if_ne_b x_M_hears_63 (fun h63 => ?_) (fun h63 => ?_) | refine kw_if_ne_s x_M_hears_63 ⟨by omega, by omega⟩ (fun h63 => ?_) (fun h63 => ?_) | refine kw_if_ne_n x_M_hears_63 (by omega) (fun h63 => ?_) (fun h63 => ?_) | refine kw_if_ne x_M_hears_63 (fun h63 => ?_) (fun h63 => ?_)
                    · skip
                      refine kw_icon x_M_hears_70 ?_
                      refine kw_ist x_M_hears_71 (by decide) ?_
                      refine kw_ald_n x_M_hears_73 rfl ?_
                      refine kw_ild x_M_hears_74 rfl ?_
                      refine kw_bip x_M_hears_76 ?_
                      refine kw_ald_n x_M_hears_78 rfl ?_
                      refine kw_ild x_M_hears_79 rfl ?_
                      refine kw_bip x_M_hears_81 ?_
                      refine c_M_hears_83 (by exact isM_k hM) (Nat.le_of_ble_eq_true rfl) ?_
                      refine s_M_ofn hM hE (by omega) (by omega) (by decide) ?_
                      rw [hme]
                      refine kw_ild x_M_hears_86 rfl ?_
                      first | refine kw_if_eq_b x_M_hears_88 (fun h88 => ?_) (fun h88 => ?_) | refine kw_if_eq_n x_M_hears_88 (by omega) (fun h88 => ?_) (fun h88 => ?_) | refine kw_if_eq x_M_hears_88 (fun h88 => ?_) (fun h88 => ?_)
                      · skip
                        refine kw_icon x_M_hears_97 ?_
                        refine kw_ior x_M_hears_98 ?_
                        refine kw_ild x_M_hears_99 rfl ?_
                        first | refine kw_if_eq_b x_M_hears_101 (fun h101 => ?_) (fun h101 => ?_) | refine kw_if_eq_n x_M_hears_101 (by omega) (fun h101 => ?_) (fun h101 => ?_) | refine kw_if_eq x_M_hears_101 (fun h101 => ?_) (fun h101 => ?_)
                        · skip
                          refine kw_icon x_M_hears_110 ?_
                          refine kw_ior x_M_hears_111 ?_
                          rw [kt_or0, kt_or0]
                          refine c_M_hears_112 (by exact isM_k hM) (Nat.le_of_ble_eq_true rfl) ?_
                          refine s_M_puts hM (by omega) (by decide) ?_
                          refine kw_ild x_M_hears_115 rfl ?_
                          refine kw_ild x_M_hears_117 rfl ?_
                          first | refine kw_if_ne_b x_M_hears_119 (fun h119 => ?_) (fun h119 => ?_) | refine kw_if_ne_s x_M_hears_119 ⟨by omega, by omega⟩ (fun h119 => ?_) (fun h119 => ?_) | refine kw_if_ne_n x_M_hears_119 (by omega) (fun h119 => ?_) (fun h119 => ?_) | refine kw_if_ne x_M_hears_119 (fun h119 => ?_) (fun h119 => ?_)
                          · exfalso; first | omega | contradiction
                          · skip
                            refine kw_ild x_M_hears_122 rfl ?_
                            first | refine kw_if_eq_b x_M_hears_124 (fun h124 => ?_) (fun h124 => ?_) | refine kw_if_eq_n x_M_hears_124 (by omega) (fun h124 => ?_) (fun h124 => ?_) | refine kw_if_eq x_M_hears_124 (fun h124 => ?_) (fun h124 => ?_)
                            · skip
                              refine kw_icon x_M_hears_131 ?_
                              first | refine kw_iadd_n x_M_hears_132 ?_ | refine kw_iadd x_M_hears_132 ?_
                              refine kw_ist x_M_hears_133 (by decide) ?_
                              first | refine kw_iinc_n x_M_hears_135 (by decide) rfl ?_ | refine kw_iinc x_M_hears_135 (by decide) rfl ?_
                              refine kw_goto x_M_hears_138 ?_
                              refine ih (e + 1) _ _ _ _ _ _ (by omega) ?_ (hl.tr kt_lc.u1) (by rw [kt_u1_ne _ _ _ (by omega)]; exact hl0) (by rw [kt_u1_ne _ _ _ (by omega)]; exact hl2) (by rw [kt_u1_ne _ _ _ (by omega)]; exact hl9) ?_
                              · rw [h2]
                                simp [xct, xhc, hba, hbb]
                              · have h9 := kt_enc_h hE
                                have h10 : xhm true a b (xe X e 7) = xe X e 7 := (by simp [xhm, hba, hbb])
                                rw [h10] at h9
                                exact h9
                            · exfalso; first | omega | contradiction
                        · exfalso; first | omega | contradiction
                      · exfalso; first | omega | contradiction
                    · exfalso; first | omega | contradiction
              · exfalso; first | omega | contradiction
/-- the clocks, and the end -/
theorem s_M_hears (hM : kt_isM P N R m) (hE : kt_enc (I (m + 1)) X) (hW : kt_wf X) {a b : Nat} {bo : Bool} (ha : a < 5) (hb : b < 5) (hab : a ≠ b)
    (k : ∀ I', kt_lc m I I' → I' m = I m → I' (m + 2) = I (m + 2) → I' (m + 9) = I (m + 9) → kt_enc (I' (m + 1)) (xhear bo a b X) → Q (some (.int (nI (xhn bo a b X)))) I' J R) :
    KW P i_M_hears N 0 [some (.ref m), some (.int (nI a)), some (.int (nI b)), some (.int (kt_bo bo)), none, none, none, none, none, none] [] N I J R Q := by
  have hn := hW.2.2.1
  have hca := hW.2.2.2.1 a
  have hcb := hW.2.2.2.1 b
  have fin : ∀ I1 v5 v6 v7 v8 v9, kt_lc m I I1 → I1 m = I m → I1 (m + 2) = I (m + 2) → I1 (m + 9) = I (m + 9) → kt_enc (I1 (m + 1)) (xhX bo a b (xn X) X) → KW P i_M_hears N 141 [some (.ref m), some (.int (nI a)), some (.int (nI b)), some (.int (kt_bo bo)), some (.int (nI (xhn bo a b X))), v5, v6, v7, v8, v9] [] N I1 J R Q := by
    intro I1 v5 v6 v7 v8 v9 hl hl0 hl2 hl9 hE
    have hxa : I1 (m + 1) (3 + a) = nI (xc X a) := hE.2.2.2.1 a ha
    have hxb : I1 (m + 1) (3 + b) = nI (xc X b) := hE.2.2.2.1 b hb
    have hxb2 : ∀ v, kt_u1 I1 (m + 1) (3 + a) v (m + 1) (3 + b) = nI (xc X b) := fun v => by
      simp [kt_u1, show b ≠ a by omega]
      exact hxb
    cases bo with
    | false =>
      refine kw_ald_n x_M_hears_141 rfl ?_
      refine kw_gr x_M_hears_142 (by exact isM_k hM) (by exact isM_r0 hM) ?_
      refine kw_icon x_M_hears_145 ?_
      refine kw_ild_n x_M_hears_146 rfl ?_
      first | refine kw_iadd_n x_M_hears_147 ?_ | refine kw_iadd x_M_hears_147 ?_
      refine kw_iald_n x_M_hears_148 (by first | exact isM_a1 hM | exact isM_a2 hM | exact isM_a3 hM | exact isM_a4 hM | exact isM_a5 hM | exact isM_a6 hM | exact isM_a7 hM | exact isM_a8 hM | exact isM_a10 hM | exact isM_a11 hM) (by omega) (by omega) (by first | exact hxa | exact hxb | exact (hxb2 _) | exact rfl) ?_
      refine kw_ald_n x_M_hears_149 rfl ?_
      refine kw_gr x_M_hears_150 (by exact isM_k hM) (by exact isM_r0 hM) ?_
      refine kw_icon x_M_hears_153 ?_
      refine kw_ild_n x_M_hears_154 rfl ?_
      first | refine kw_iadd_n x_M_hears_155 ?_ | refine kw_iadd x_M_hears_155 ?_
      refine kw_iald_n x_M_hears_156 (by first | exact isM_a1 hM | exact isM_a2 hM | exact isM_a3 hM | exact isM_a4 hM | exact isM_a5 hM | exact isM_a6 hM | exact isM_a7 hM | exact isM_a8 hM | exact isM_a10 hM | exact isM_a11 hM) (by omega) (by omega) (by first | exact hxa | exact hxb | exact (hxb2 _) | exact rfl) ?_
      first | refine kw_ic_le_n x_M_hears_157 ⟨by omega, by omega⟩ (fun h157 => ?_) (fun h157 => ?_) | refine kw_ic_le x_M_hears_157 (fun h157 => ?_) (fun h157 => ?_)
      · first
        | exfalso; omega
        | skip
          refine kw_ald_n x_M_hears_171 rfl ?_
          refine kw_gr x_M_hears_172 (by exact isM_k hM) (by exact isM_r0 hM) ?_
          refine kw_icon x_M_hears_175 ?_
          refine kw_ild_n x_M_hears_176 rfl ?_
          first | refine kw_iadd_n x_M_hears_177 ?_ | refine kw_iadd x_M_hears_177 ?_
          refine kw_iald_n x_M_hears_178 (by first | exact isM_a1 hM | exact isM_a2 hM | exact isM_a3 hM | exact isM_a4 hM | exact isM_a5 hM | exact isM_a6 hM | exact isM_a7 hM | exact isM_a8 hM | exact isM_a10 hM | exact isM_a11 hM) (by omega) (by omega) (by first | exact hxa | exact hxb | exact (hxb2 _) | exact rfl) ?_
          refine kw_ist x_M_hears_179 (by decide) ?_
          refine kw_ald_n x_M_hears_181 rfl ?_
          refine kw_gr x_M_hears_182 (by exact isM_k hM) (by exact isM_r0 hM) ?_
          refine kw_icon x_M_hears_185 ?_
          refine kw_ild_n x_M_hears_186 rfl ?_
          first | refine kw_iadd_n x_M_hears_187 ?_ | refine kw_iadd x_M_hears_187 ?_
          refine kw_ild x_M_hears_188 rfl ?_
          refine kw_iast_n x_M_hears_190 (by first | exact isM_a1 hM | exact isM_a2 hM | exact isM_a3 hM | exact isM_a4 hM | exact isM_a5 hM | exact isM_a6 hM | exact isM_a7 hM | exact isM_a8 hM | exact isM_a10 hM | exact isM_a11 hM) (by omega) (by omega) ?_
          refine kw_ald_n x_M_hears_191 rfl ?_
          refine kw_gr x_M_hears_192 (by exact isM_k hM) (by exact isM_r0 hM) ?_
          refine kw_icon x_M_hears_195 ?_
          refine kw_ild_n x_M_hears_196 rfl ?_
          first | refine kw_iadd_n x_M_hears_197 ?_ | refine kw_iadd x_M_hears_197 ?_
          refine kw_ild_n x_M_hears_198 rfl ?_
          first | refine kw_if_eq_b x_M_hears_199 (fun h199 => ?_) (fun h199 => ?_) | refine kw_if_eq_n x_M_hears_199 (by omega) (fun h199 => ?_) (fun h199 => ?_) | refine kw_if_eq x_M_hears_199 (fun h199 => ?_) (fun h199 => ?_)
          · skip
            refine kw_ald_n x_M_hears_207 rfl ?_
            refine kw_gr x_M_hears_208 (by exact isM_k hM) (by exact isM_r0 hM) ?_
            refine kw_icon x_M_hears_211 ?_
            refine kw_ild_n x_M_hears_212 rfl ?_
            first | refine kw_iadd_n x_M_hears_213 ?_ | refine kw_iadd x_M_hears_213 ?_
            refine kw_iald_n x_M_hears_214 (by first | exact isM_a1 hM | exact isM_a2 hM | exact isM_a3 hM | exact isM_a4 hM | exact isM_a5 hM | exact isM_a6 hM | exact isM_a7 hM | exact isM_a8 hM | exact isM_a10 hM | exact isM_a11 hM) (by omega) (by omega) (by first | exact hxa | exact hxb | exact (hxb2 _) | exact rfl) ?_
            refine kw_iast_n x_M_hears_215 (by first | exact isM_a1 hM | exact isM_a2 hM | exact isM_a3 hM | exact isM_a4 hM | exact isM_a5 hM | exact isM_a6 hM | exact isM_a7 hM | exact isM_a8 hM | exact isM_a10 hM | exact isM_a11 hM) (by omega) (by omega) ?_
            refine kw_ild x_M_hears_216 rfl ?_
            refine kw_iret x_M_hears_218 ?_
            refine k _ ((hl.tr kt_lc.u1).tr kt_lc.u1) (by rw [kt_u1_ne _ _ _ (by omega), kt_u1_ne _ _ _ (by omega)]; exact hl0) (by rw [kt_u1_ne _ _ _ (by omega), kt_u1_ne _ _ _ (by omega)]; exact hl2) (by rw [kt_u1_ne _ _ _ (by omega), kt_u1_ne _ _ _ (by omega)]; exact hl9) ?_
            have h9 := kt_enc_ck (v := xc X b) hb (kt_enc_ck (v := xc X b) ha hE)
            unfold xhear
            simp only [if_neg (show ¬ xc X b < xc X a by omega), Bool.false_eq_true, if_false]
            exact h9
          · exfalso; first | omega | contradiction
      · first
        | exfalso; omega
        | skip
          refine kw_ald_n x_M_hears_160 rfl ?_
          refine kw_gr x_M_hears_161 (by exact isM_k hM) (by exact isM_r0 hM) ?_
          refine kw_icon x_M_hears_164 ?_
          refine kw_ild_n x_M_hears_165 rfl ?_
          first | refine kw_iadd_n x_M_hears_166 ?_ | refine kw_iadd x_M_hears_166 ?_
          refine kw_iald_n x_M_hears_167 (by first | exact isM_a1 hM | exact isM_a2 hM | exact isM_a3 hM | exact isM_a4 hM | exact isM_a5 hM | exact isM_a6 hM | exact isM_a7 hM | exact isM_a8 hM | exact isM_a10 hM | exact isM_a11 hM) (by omega) (by omega) (by first | exact hxa | exact hxb | exact (hxb2 _) | exact rfl) ?_
          refine kw_goto x_M_hears_168 ?_
          refine kw_ist x_M_hears_179 (by decide) ?_
          refine kw_ald_n x_M_hears_181 rfl ?_
          refine kw_gr x_M_hears_182 (by exact isM_k hM) (by exact isM_r0 hM) ?_
          refine kw_icon x_M_hears_185 ?_
          refine kw_ild_n x_M_hears_186 rfl ?_
          first | refine kw_iadd_n x_M_hears_187 ?_ | refine kw_iadd x_M_hears_187 ?_
          refine kw_ild x_M_hears_188 rfl ?_
          refine kw_iast_n x_M_hears_190 (by first | exact isM_a1 hM | exact isM_a2 hM | exact isM_a3 hM | exact isM_a4 hM | exact isM_a5 hM | exact isM_a6 hM | exact isM_a7 hM | exact isM_a8 hM | exact isM_a10 hM | exact isM_a11 hM) (by omega) (by omega) ?_
          refine kw_ald_n x_M_hears_191 rfl ?_
          refine kw_gr x_M_hears_192 (by exact isM_k hM) (by exact isM_r0 hM) ?_
          refine kw_icon x_M_hears_195 ?_
          refine kw_ild_n x_M_hears_196 rfl ?_
          first | refine kw_iadd_n x_M_hears_197 ?_ | refine kw_iadd x_M_hears_197 ?_
          refine kw_ild_n x_M_hears_198 rfl ?_
          first | refine kw_if_eq_b x_M_hears_199 (fun h199 => ?_) (fun h199 => ?_) | refine kw_if_eq_n x_M_hears_199 (by omega) (fun h199 => ?_) (fun h199 => ?_) | refine kw_if_eq x_M_hears_199 (fun h199 => ?_) (fun h199 => ?_)
          · skip
            refine kw_ald_n x_M_hears_207 rfl ?_
            refine kw_gr x_M_hears_208 (by exact isM_k hM) (by exact isM_r0 hM) ?_
            refine kw_icon x_M_hears_211 ?_
            refine kw_ild_n x_M_hears_212 rfl ?_
            first | refine kw_iadd_n x_M_hears_213 ?_ | refine kw_iadd x_M_hears_213 ?_
            refine kw_iald_n x_M_hears_214 (by first | exact isM_a1 hM | exact isM_a2 hM | exact isM_a3 hM | exact isM_a4 hM | exact isM_a5 hM | exact isM_a6 hM | exact isM_a7 hM | exact isM_a8 hM | exact isM_a10 hM | exact isM_a11 hM) (by omega) (by omega) (by first | exact hxa | exact hxb | exact (hxb2 _) | exact rfl) ?_
            refine kw_iast_n x_M_hears_215 (by first | exact isM_a1 hM | exact isM_a2 hM | exact isM_a3 hM | exact isM_a4 hM | exact isM_a5 hM | exact isM_a6 hM | exact isM_a7 hM | exact isM_a8 hM | exact isM_a10 hM | exact isM_a11 hM) (by omega) (by omega) ?_
            refine kw_ild x_M_hears_216 rfl ?_
            refine kw_iret x_M_hears_218 ?_
            refine k _ ((hl.tr kt_lc.u1).tr kt_lc.u1) (by rw [kt_u1_ne _ _ _ (by omega), kt_u1_ne _ _ _ (by omega)]; exact hl0) (by rw [kt_u1_ne _ _ _ (by omega), kt_u1_ne _ _ _ (by omega)]; exact hl2) (by rw [kt_u1_ne _ _ _ (by omega), kt_u1_ne _ _ _ (by omega)]; exact hl9) ?_
            have h9 := kt_enc_ck (v := xc X b) hb (kt_enc_ck (v := xc X a) ha hE)
            unfold xhear
            simp only [if_pos (show xc X b < xc X a by omega), Bool.false_eq_true, if_false]
            exact h9
          · exfalso; first | omega | contradiction
    | true =>
      refine kw_ald_n x_M_hears_141 rfl ?_
      refine kw_gr x_M_hears_142 (by exact isM_k hM) (by exact isM_r0 hM) ?_
      refine kw_icon x_M_hears_145 ?_
      refine kw_ild_n x_M_hears_146 rfl ?_
      first | refine kw_iadd_n x_M_hears_147 ?_ | refine kw_iadd x_M_hears_147 ?_
      refine kw_iald_n x_M_hears_148 (by first | exact isM_a1 hM | exact isM_a2 hM | exact isM_a3 hM | exact isM_a4 hM | exact isM_a5 hM | exact isM_a6 hM | exact isM_a7 hM | exact isM_a8 hM | exact isM_a10 hM | exact isM_a11 hM) (by omega) (by omega) (by first | exact hxa | exact hxb | exact (hxb2 _) | exact rfl) ?_
      refine kw_ald_n x_M_hears_149 rfl ?_
      refine kw_gr x_M_hears_150 (by exact isM_k hM) (by exact isM_r0 hM) ?_
      refine kw_icon x_M_hears_153 ?_
      refine kw_ild_n x_M_hears_154 rfl ?_
      first | refine kw_iadd_n x_M_hears_155 ?_ | refine kw_iadd x_M_hears_155 ?_
      refine kw_iald_n x_M_hears_156 (by first | exact isM_a1 hM | exact isM_a2 hM | exact isM_a3 hM | exact isM_a4 hM | exact isM_a5 hM | exact isM_a6 hM | exact isM_a7 hM | exact isM_a8 hM | exact isM_a10 hM | exact isM_a11 hM) (by omega) (by omega) (by first | exact hxa | exact hxb | exact (hxb2 _) | exact rfl) ?_
      first | refine kw_ic_le_n x_M_hears_157 ⟨by omega, by omega⟩ (fun h157 => ?_) (fun h157 => ?_) | refine kw_ic_le x_M_hears_157 (fun h157 => ?_) (fun h157 => ?_)
      · first
        | exfalso; omega
        | skip
          refine kw_ald_n x_M_hears_171 rfl ?_
          refine kw_gr x_M_hears_172 (by exact isM_k hM) (by exact isM_r0 hM) ?_
          refine kw_icon x_M_hears_175 ?_
          refine kw_ild_n x_M_hears_176 rfl ?_
          first | refine kw_iadd_n x_M_hears_177 ?_ | refine kw_iadd x_M_hears_177 ?_
          refine kw_iald_n x_M_hears_178 (by first | exact isM_a1 hM | exact isM_a2 hM | exact isM_a3 hM | exact isM_a4 hM | exact isM_a5 hM | exact isM_a6 hM | exact isM_a7 hM | exact isM_a8 hM | exact isM_a10 hM | exact isM_a11 hM) (by omega) (by omega) (by first | exact hxa | exact hxb | exact (hxb2 _) | exact rfl) ?_
          refine kw_ist x_M_hears_179 (by decide) ?_
          refine kw_ald_n x_M_hears_181 rfl ?_
          refine kw_gr x_M_hears_182 (by exact isM_k hM) (by exact isM_r0 hM) ?_
          refine kw_icon x_M_hears_185 ?_
          refine kw_ild_n x_M_hears_186 rfl ?_
          first | refine kw_iadd_n x_M_hears_187 ?_ | refine kw_iadd x_M_hears_187 ?_
          refine kw_ild x_M_hears_188 rfl ?_
          refine kw_iast_n x_M_hears_190 (by first | exact isM_a1 hM | exact isM_a2 hM | exact isM_a3 hM | exact isM_a4 hM | exact isM_a5 hM | exact isM_a6 hM | exact isM_a7 hM | exact isM_a8 hM | exact isM_a10 hM | exact isM_a11 hM) (by omega) (by omega) ?_
          refine kw_ald_n x_M_hears_191 rfl ?_
          refine kw_gr x_M_hears_192 (by exact isM_k hM) (by exact isM_r0 hM) ?_
          refine kw_icon x_M_hears_195 ?_
          refine kw_ild_n x_M_hears_196 rfl ?_
          first | refine kw_iadd_n x_M_hears_197 ?_ | refine kw_iadd x_M_hears_197 ?_
          refine kw_ild_n x_M_hears_198 rfl ?_
          first | refine kw_if_eq_b x_M_hears_199 (fun h199 => ?_) (fun h199 => ?_) | refine kw_if_eq_n x_M_hears_199 (by omega) (fun h199 => ?_) (fun h199 => ?_) | refine kw_if_eq x_M_hears_199 (fun h199 => ?_) (fun h199 => ?_)
          · exfalso; first | omega | contradiction
          · skip
            refine kw_ild x_M_hears_202 rfl ?_
            refine kw_goto x_M_hears_204 ?_
            refine kw_iast_n x_M_hears_215 (by first | exact isM_a1 hM | exact isM_a2 hM | exact isM_a3 hM | exact isM_a4 hM | exact isM_a5 hM | exact isM_a6 hM | exact isM_a7 hM | exact isM_a8 hM | exact isM_a10 hM | exact isM_a11 hM) (by omega) (by omega) ?_
            refine kw_ild x_M_hears_216 rfl ?_
            refine kw_iret x_M_hears_218 ?_
            refine k _ ((hl.tr kt_lc.u1).tr kt_lc.u1) (by rw [kt_u1_ne _ _ _ (by omega), kt_u1_ne _ _ _ (by omega)]; exact hl0) (by rw [kt_u1_ne _ _ _ (by omega), kt_u1_ne _ _ _ (by omega)]; exact hl2) (by rw [kt_u1_ne _ _ _ (by omega), kt_u1_ne _ _ _ (by omega)]; exact hl9) ?_
            have h9 := kt_enc_ck (v := xc X b) hb (kt_enc_ck (v := xc X b) ha hE)
            unfold xhear
            simp only [if_neg (show ¬ xc X b < xc X a by omega), if_true]
            exact h9
      · first
        | exfalso; omega
        | skip
          refine kw_ald_n x_M_hears_160 rfl ?_
          refine kw_gr x_M_hears_161 (by exact isM_k hM) (by exact isM_r0 hM) ?_
          refine kw_icon x_M_hears_164 ?_
          refine kw_ild_n x_M_hears_165 rfl ?_
          first | refine kw_iadd_n x_M_hears_166 ?_ | refine kw_iadd x_M_hears_166 ?_
          refine kw_iald_n x_M_hears_167 (by first | exact isM_a1 hM | exact isM_a2 hM | exact isM_a3 hM | exact isM_a4 hM | exact isM_a5 hM | exact isM_a6 hM | exact isM_a7 hM | exact isM_a8 hM | exact isM_a10 hM | exact isM_a11 hM) (by omega) (by omega) (by first | exact hxa | exact hxb | exact (hxb2 _) | exact rfl) ?_
          refine kw_goto x_M_hears_168 ?_
          refine kw_ist x_M_hears_179 (by decide) ?_
          refine kw_ald_n x_M_hears_181 rfl ?_
          refine kw_gr x_M_hears_182 (by exact isM_k hM) (by exact isM_r0 hM) ?_
          refine kw_icon x_M_hears_185 ?_
          refine kw_ild_n x_M_hears_186 rfl ?_
          first | refine kw_iadd_n x_M_hears_187 ?_ | refine kw_iadd x_M_hears_187 ?_
          refine kw_ild x_M_hears_188 rfl ?_
          refine kw_iast_n x_M_hears_190 (by first | exact isM_a1 hM | exact isM_a2 hM | exact isM_a3 hM | exact isM_a4 hM | exact isM_a5 hM | exact isM_a6 hM | exact isM_a7 hM | exact isM_a8 hM | exact isM_a10 hM | exact isM_a11 hM) (by omega) (by omega) ?_
          refine kw_ald_n x_M_hears_191 rfl ?_
          refine kw_gr x_M_hears_192 (by exact isM_k hM) (by exact isM_r0 hM) ?_
          refine kw_icon x_M_hears_195 ?_
          refine kw_ild_n x_M_hears_196 rfl ?_
          first | refine kw_iadd_n x_M_hears_197 ?_ | refine kw_iadd x_M_hears_197 ?_
          refine kw_ild_n x_M_hears_198 rfl ?_
          first | refine kw_if_eq_b x_M_hears_199 (fun h199 => ?_) (fun h199 => ?_) | refine kw_if_eq_n x_M_hears_199 (by omega) (fun h199 => ?_) (fun h199 => ?_) | refine kw_if_eq x_M_hears_199 (fun h199 => ?_) (fun h199 => ?_)
          · exfalso; first | omega | contradiction
          · skip
            refine kw_ild x_M_hears_202 rfl ?_
            refine kw_goto x_M_hears_204 ?_
            refine kw_iast_n x_M_hears_215 (by first | exact isM_a1 hM | exact isM_a2 hM | exact isM_a3 hM | exact isM_a4 hM | exact isM_a5 hM | exact isM_a6 hM | exact isM_a7 hM | exact isM_a8 hM | exact isM_a10 hM | exact isM_a11 hM) (by omega) (by omega) ?_
            refine kw_ild x_M_hears_216 rfl ?_
            refine kw_iret x_M_hears_218 ?_
            refine k _ ((hl.tr kt_lc.u1).tr kt_lc.u1) (by rw [kt_u1_ne _ _ _ (by omega), kt_u1_ne _ _ _ (by omega)]; exact hl0) (by rw [kt_u1_ne _ _ _ (by omega), kt_u1_ne _ _ _ (by omega)]; exact hl2) (by rw [kt_u1_ne _ _ _ (by omega), kt_u1_ne _ _ _ (by omega)]; exact hl9) ?_
            have h9 := kt_enc_ck (v := xc X a) hb (kt_enc_ck (v := xc X a) ha hE)
            unfold xhear
            simp only [if_pos (show xc X b < xc X a by omega), if_true]
            exact h9
  refine kw_icon x_M_hears_0 ?_
  refine kw_ist x_M_hears_1 (by decide) ?_
  refine kw_icon x_M_hears_3 ?_
  refine kw_ist x_M_hears_4 (by decide) ?_
  exact s_M_hears_lp hM hW ha hb fin (xn X) 0 0 I _ _ _ _ (by omega) rfl kt_lc.rf rfl rfl rfl (by have h0 : xhX bo a b 0 X = X := (by unfold xhX; simp); rw [h0]; exact hE)
end MH
