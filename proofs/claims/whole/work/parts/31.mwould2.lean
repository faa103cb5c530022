/-! the reference: would, undo, text -/
/-- a state put aside, and taken back -/
theorem kt_rest {I I1 I6 I7 : kt_I} {X : kt_X} {m : Nat} (hn : xn X ≤ 60) (hE : kt_enc (I (m + 1)) X) (h1 : ∀ q, q < 548 → I1 (m + 4) q = I (m + 1) q) (h4 : I6 (m + 4) = I1 (m + 4)) (h7 : ∀ q, q < 548 → I7 (m + 1) q = I6 (m + 4) q) : kt_enc (I7 (m + 1)) X :=
  kt_enc_ext (fun q hq => by rw [h7 q hq, h4, h1 q hq]) hn hE
def xwo (X : kt_X) (t u : Nat) : Nat → Nat
  | 0 => (xat (xac X) (xT X) (xhear true t u X)).2
  | 1 => xhn true t u X
  | _ => xoth X (xhear true t u X) t u
section MO
variable {P : kt_P} {N : Nat} {I : kt_I} {J : kt_J} {R : kt_R} {Q : Option Value → kt_I → kt_J → kt_R → Prop} {m : Nat} {X : kt_X}
theorem s_M_would (hM : kt_isM P N R m) (hE : kt_enc (I (m + 1)) X) (hW : kt_wf X) {a b c : Int32} (kf : ¬ (vT (xT X) a ∧ vT (xT X) b ∧ a ≠ b ∧ vR 0 2 c) → Q (some (.int (-1))) I J R)
    (k : ∀ t u w, a = nI t → b = nI u → c = nI w → t < xT X → u < xT X → t ≠ u → w ≤ 2 → ∀ I', kt_ly m I I' → kt_enc (I' (m + 1)) X → Q (some (.int (nI (xwo X t u w)))) I' J R) : KW P i_M_would N 0 [some (.ref m), some (.int a), some (.int b), some (.int c), none, none, none] [] N I J R Q := by
  have hn := hW.2.2.1
  have hT := hW.2.1
  refine kw_ald_n x_M_would_0 rfl ?_
  refine kw_ild_n x_M_would_1 rfl ?_
  refine c_M_would_2 (by exact isM_k hM) (Nat.le_of_ble_eq_true rfl) ?_
  refine s_M_isTown hM hE ?_
  first | refine kw_if_eq_b x_M_would_5 (fun h5 => ?_) (fun h5 => ?_) | refine kw_if_eq_n x_M_would_5 (by omega) (fun h5 => ?_) (fun h5 => ?_) | refine kw_if_eq x_M_would_5 (fun h5 => ?_) (fun h5 => ?_)
  · first
    | exfalso; omega
    | skip
      refine kw_icon x_M_would_30 ?_
      refine kw_iret x_M_would_31 ?_
      exact kf (fun h => by first | exact kt_nT (by omega) h5 h.1 | exact kt_nT (by omega) h13 h.2.1 | exact kt_nR (by omega) h27 h.2.2.2 | exact h.2.2.1 (by rw [hne]))
  · first
    | exfalso; omega
    | skip
      obtain ⟨t, ht, rfl⟩ := kt_yT (by omega) h5
      refine kw_ald_n x_M_would_8 rfl ?_
      refine kw_ild_n x_M_would_9 rfl ?_
      refine c_M_would_10 (by exact isM_k hM) (Nat.le_of_ble_eq_true rfl) ?_
      refine s_M_isTown hM hE ?_
      first | refine kw_if_eq_b x_M_would_13 (fun h13 => ?_) (fun h13 => ?_) | refine kw_if_eq_n x_M_would_13 (by omega) (fun h13 => ?_) (fun h13 => ?_) | refine kw_if_eq x_M_would_13 (fun h13 => ?_) (fun h13 => ?_)
      · first
        | exfalso; omega
        | skip
          refine kw_icon x_M_would_30 ?_
          refine kw_iret x_M_would_31 ?_
          exact kf (fun h => by first | exact kt_nT (by omega) h5 h.1 | exact kt_nT (by omega) h13 h.2.1 | exact kt_nR (by omega) h27 h.2.2.2 | exact h.2.2.1 (by rw [hne]))
      · first
        | exfalso; omega
        | skip
          obtain ⟨u, hu, rfl⟩ := kt_yT (by omega) h13
          refine kw_ild_n x_M_would_16 rfl ?_
          refine kw_ild_n x_M_would_17 rfl ?_
          first | refine kw_ic_eq_n x_M_would_18 ⟨by omega, by omega⟩ (fun hne => ?_) (fun hne => ?_) | refine kw_ic_eq x_M_would_18 (fun hne => ?_) (fun hne => ?_)
          · first
            | exfalso; omega
            | skip
              refine kw_icon x_M_would_30 ?_
              refine kw_iret x_M_would_31 ?_
              exact kf (fun h => by first | exact kt_nT (by omega) h5 h.1 | exact kt_nT (by omega) h13 h.2.1 | exact kt_nR (by omega) h27 h.2.2.2 | exact h.2.2.1 (by rw [hne]))
          · first
            | exfalso; omega
            | skip
              refine kw_ild_n x_M_would_21 rfl ?_
              refine kw_icon x_M_would_22 ?_
              refine kw_icon x_M_would_23 ?_
              refine c_M_would_24 (Nat.le_of_ble_eq_true rfl) ?_
              refine s_M_in ?_
              first | refine kw_if_ne_b x_M_would_27 (fun h27 => ?_) (fun h27 => ?_) | refine kw_if_ne_s x_M_would_27 ⟨by omega, by omega⟩ (fun h27 => ?_) (fun h27 => ?_) | refine kw_if_ne_n x_M_would_27 (by omega) (fun h27 => ?_) (fun h27 => ?_) | refine kw_if_ne x_M_would_27 (fun h27 => ?_) (fun h27 => ?_)
              · first
                | exfalso; omega
                | skip
                  obtain ⟨w, hw1, hw2, rfl⟩ := kt_yR (by omega) h27
                  refine kw_ald_n x_M_would_32 rfl ?_
                  refine kw_gr x_M_would_33 (by exact isM_k hM) (by exact isM_r0 hM) ?_
                  refine kw_ald_n x_M_would_36 rfl ?_
                  refine kw_gr x_M_would_37 (by exact isM_k hM) (by exact isM_r3 hM) ?_
                  refine c_M_would_40 (Nat.le_of_ble_eq_true rfl) ?_
                  refine s_M_copies (isM_a1 hM) (isM_a4 hM) (by omega) (fun I1 f1 f2 => ?_)
                  have hE1 : kt_enc (I1 (m + 1)) X := (by rw [f1 _ (by omega)]; exact hE)
                  refine kw_ald_n x_M_would_43 rfl ?_
                  refine c_M_would_44 (by exact isM_k hM) (Nat.le_of_ble_eq_true rfl) ?_
                  refine s_M_remembers hM hE1 hW (fun I2 hl2 hA => ?_)
                  have hE2 := hl2.enc hE1
                  refine kw_ald_n x_M_would_47 rfl ?_
                  refine kw_ild_n x_M_would_48 rfl ?_
                  refine kw_ild_n x_M_would_49 rfl ?_
                  refine c_M_would_50 (by exact isM_k hM) (Nat.le_of_ble_eq_true rfl) ?_
                  refine s_M_thinksBoth hM hE2 hW (by omega) (by omega) (fun I3 g1 g2 g3 g4 => ?_)
                  have hE3 : kt_enc (I3 (m + 1)) X := (by rw [g1 _ (by omega) (by omega) (by omega) (by omega) (by omega)]; exact hE2)
                  refine kw_ald_n x_M_would_53 rfl ?_
                  refine kw_ild_n x_M_would_54 rfl ?_
                  refine kw_ild_n x_M_would_55 rfl ?_
                  refine kw_icon x_M_would_56 ?_
                  refine c_M_would_57 (by exact isM_k hM) (Nat.le_of_ble_eq_true rfl) ?_
                  refine s_M_hears hM hE3 hW (bo := true) (by omega) (by omega) hne (fun I4 hl4 h40 h42 h49 hE4 => ?_)
                  have hW4 := kt_wf_hear hW true ht hu
                  refine kw_ist x_M_would_60 (by decide) ?_
                  refine kw_ald_n x_M_would_62 rfl ?_
                  refine kw_ild_n x_M_would_63 rfl ?_
                  refine kw_ild_n x_M_would_64 rfl ?_
                  refine c_M_would_65 (by exact isM_k hM) (Nat.le_of_ble_eq_true rfl) ?_
                  refine s_M_others hM hE4 hW4 (X := X) rfl (by omega) (by omega) (fun e he => by rw [hl4.1 (m + 10) (by omega) (by omega) (by omega) (by omega) (by omega) (by omega) (by omega)]; exact g3 e he) (fun e he => by rw [hl4.1 (m + 10) (by omega) (by omega) (by omega) (by omega) (by omega) (by omega) (by omega)]; exact g4 e he) (fun I5 hl5 => ?_)
                  have hE5 := hl5.enc hE4
                  refine kw_ist x_M_would_68 (by decide) ?_
                  refine kw_ald_n x_M_would_70 rfl ?_
                  refine kw_ald_n x_M_would_71 rfl ?_
                  refine kw_gr x_M_would_72 (by exact isM_k hM) (by exact isM_r0 hM) ?_
                  refine kw_icon x_M_would_75 ?_
                  refine kw_iald_n x_M_would_76 (by first | exact isM_a1 hM | exact isM_a2 hM | exact isM_a3 hM | exact isM_a4 hM | exact isM_a5 hM | exact isM_a6 hM | exact isM_a7 hM | exact isM_a8 hM | exact isM_a10 hM | exact isM_a11 hM) (by omega) (by omega) (by first | exact hE.1 | exact hE.2.1 | exact hE.2.2.1 | exact hE4.2.1 | exact hE5.2.1 | exact rfl) ?_
                  refine c_M_would_77 (by exact isM_k hM) (Nat.le_of_ble_eq_true rfl) ?_
                  refine s_M_apologizes hM hE5 hW4 (ac := xac X) (fun t' e ht' he => by rw [hl5.1 _ (by omega) (by omega) (by omega) (by omega), h49, g1 _ (by omega) (by omega) (by omega) (by omega) (by omega)]; exact hA t' e ht' he) (fun I6 hl6 hE6 => ?_)
                  refine kw_ist x_M_would_80 (by decide) ?_
                  refine kw_ald_n x_M_would_82 rfl ?_
                  refine kw_gr x_M_would_83 (by exact isM_k hM) (by exact isM_r3 hM) ?_
                  refine kw_ald_n x_M_would_86 rfl ?_
                  refine kw_gr x_M_would_87 (by exact isM_k hM) (by exact isM_r0 hM) ?_
                  refine c_M_would_90 (Nat.le_of_ble_eq_true rfl) ?_
                  refine s_M_copies (isM_a4 hM) (isM_a1 hM) (by omega) (fun I7 f3 f4 => ?_)
                  have hb := kt_rest hn hE f2 (by rw [hl6.1 _ (by omega) (by omega) (by omega) (by omega) (by omega), hl5.1 _ (by omega) (by omega) (by omega) (by omega), hl4.1 _ (by omega) (by omega) (by omega) (by omega) (by omega) (by omega) (by omega), g1 _ (by omega) (by omega) (by omega) (by omega) (by omega), hl2.1 _ (by omega) (by omega) (by omega) (by omega) (by omega)]) f4
                  have hly : kt_ly m I I7 := (kt_ly.one (by omega) (Or.inr (Or.inl rfl)) f1).tr (hl2.ly.tr (kt_ly.tr ⟨fun a h1 h2 h3 h4 h5 h6 h7 h8 => g1 a h1 h4 h5 h6 h8, g2⟩ (kt_ly.tr ⟨fun a h1 h2 h3 h4 h5 h6 h7 h8 => (by by_cases h9 : a = m + 2; (rw [h9, h42]); exact hl4.1 a h1 h2 h9 h4 h5 h6 h7), fun j hj => by rw [h40]⟩ (hl5.ly.tr (hl6.ly.tr (kt_ly.one (by omega) (Or.inl rfl) f3))))))
                  refine kw_ild_n x_M_would_93 rfl ?_
                  first | refine kw_if_ne_b x_M_would_94 (fun h94 => ?_) (fun h94 => ?_) | refine kw_if_ne_s x_M_would_94 ⟨by omega, by omega⟩ (fun h94 => ?_) (fun h94 => ?_) | refine kw_if_ne_n x_M_would_94 (by omega) (fun h94 => ?_) (fun h94 => ?_) | refine kw_if_ne x_M_would_94 (fun h94 => ?_) (fun h94 => ?_)
                  · first
                    | exfalso; omega
                    | skip
                      refine kw_ild_n x_M_would_102 rfl ?_
                      refine kw_icon x_M_would_103 ?_
                      first | refine kw_ic_ne_n x_M_would_104 ⟨by omega, by omega⟩ (fun h104 => ?_) (fun h104 => ?_) | refine kw_ic_ne x_M_would_104 (fun h104 => ?_) (fun h104 => ?_)
                      · first
                        | exfalso; omega
                        | skip
                          refine kw_ild x_M_would_112 rfl ?_
                          refine kw_iret x_M_would_114 ?_
                          first
                            | (have h9 : w = 0 := (by omega)
                               subst h9
                               exact k t u 0 rfl rfl rfl ht hu hne hw2 I7 hly hb)
                            | (have h9 : w = 1 := (by omega)
                               subst h9
                               exact k t u 1 rfl rfl rfl ht hu hne hw2 I7 hly hb)
                            | (have h9 : w = 2 := (by omega)
                               subst h9
                               exact k t u 2 rfl rfl rfl ht hu hne hw2 I7 hly hb)
                      · first
                        | exfalso; omega
                        | skip
                          refine kw_ild x_M_would_107 rfl ?_
                          refine kw_goto x_M_would_109 ?_
                          refine kw_iret x_M_would_114 ?_
                          first
                            | (have h9 : w = 0 := (by omega)
                               subst h9
                               exact k t u 0 rfl rfl rfl ht hu hne hw2 I7 hly hb)
                            | (have h9 : w = 1 := (by omega)
                               subst h9
                               exact k t u 1 rfl rfl rfl ht hu hne hw2 I7 hly hb)
                            | (have h9 : w = 2 := (by omega)
                               subst h9
                               exact k t u 2 rfl rfl rfl ht hu hne hw2 I7 hly hb)
                  · first
                    | exfalso; omega
                    | skip
                      refine kw_ild x_M_would_97 rfl ?_
                      refine kw_goto x_M_would_99 ?_
                      refine kw_iret x_M_would_114 ?_
                      first
                        | (have h9 : w = 0 := (by omega)
                           subst h9
                           exact k t u 0 rfl rfl rfl ht hu hne hw2 I7 hly hb)
                        | (have h9 : w = 1 := (by omega)
                           subst h9
                           exact k t u 1 rfl rfl rfl ht hu hne hw2 I7 hly hb)
                        | (have h9 : w = 2 := (by omega)
                           subst h9
                           exact k t u 2 rfl rfl rfl ht hu hne hw2 I7 hly hb)
              · first
                | exfalso; omega
                | skip
                  refine kw_icon x_M_would_30 ?_
                  refine kw_iret x_M_would_31 ?_
                  exact kf (fun h => by first | exact kt_nT (by omega) h5 h.1 | exact kt_nT (by omega) h13 h.2.1 | exact kt_nR (by omega) h27 h.2.2.2 | exact h.2.2.1 (by rw [hne]))
theorem s_M_wouldRule (hM : kt_isM P N R m) (hE : kt_enc (I (m + 1)) X) (hW : kt_wf X) {a : Int32} (kf : ¬ vR 0 2 a → Q (some (.int (-1))) I J R)
    (k : ∀ r, a = nI r → r ≤ 2 → ∀ I', kt_ly m I I' → kt_enc (I' (m + 1)) X → Q (some (.int (nI (xat (xac X) (xT X) (xrul X r)).2))) I' J R) : KW P i_M_wouldRule N 0 [some (.ref m), some (.int a), none] [] N I J R Q := by
  have hn := hW.2.2.1
  have hT := hW.2.1
  refine kw_ild_n x_M_wouldRule_0 rfl ?_
  refine kw_icon x_M_wouldRule_1 ?_
  refine kw_icon x_M_wouldRule_2 ?_
  refine c_M_wouldRule_3 (Nat.le_of_ble_eq_true rfl) ?_
  refine s_M_in ?_
  first | refine kw_if_ne_b x_M_wouldRule_6 (fun h6 => ?_) (fun h6 => ?_) | refine kw_if_ne_s x_M_wouldRule_6 ⟨by omega, by omega⟩ (fun h6 => ?_) (fun h6 => ?_) | refine kw_if_ne_n x_M_wouldRule_6 (by omega) (fun h6 => ?_) (fun h6 => ?_) | refine kw_if_ne x_M_wouldRule_6 (fun h6 => ?_) (fun h6 => ?_)
  · first
    | exfalso; omega
    | skip
      obtain ⟨r, hr1, hr2, rfl⟩ := kt_yR (by omega) h6
      refine kw_ald_n x_M_wouldRule_11 rfl ?_
      refine kw_gr x_M_wouldRule_12 (by exact isM_k hM) (by exact isM_r0 hM) ?_
      refine kw_ald_n x_M_wouldRule_15 rfl ?_
      refine kw_gr x_M_wouldRule_16 (by exact isM_k hM) (by exact isM_r3 hM) ?_
      refine c_M_wouldRule_19 (Nat.le_of_ble_eq_true rfl) ?_
      refine s_M_copies (isM_a1 hM) (isM_a4 hM) (by omega) (fun I1 f1 f2 => ?_)
      have hE1 : kt_enc (I1 (m + 1)) X := (by rw [f1 _ (by omega)]; exact hE)
      refine kw_ald_n x_M_wouldRule_22 rfl ?_
      refine c_M_wouldRule_23 (by exact isM_k hM) (Nat.le_of_ble_eq_true rfl) ?_
      refine s_M_remembers hM hE1 hW (fun I2 hl2 hA => ?_)
      have hE2 := hl2.enc hE1
      have hE4 := kt_enc_rul (r := r) hE2
      refine kw_ald_n x_M_wouldRule_26 rfl ?_
      refine kw_gr x_M_wouldRule_27 (by exact isM_k hM) (by exact isM_r0 hM) ?_
      refine kw_icon x_M_wouldRule_30 ?_
      refine kw_ild_n x_M_wouldRule_31 rfl ?_
      refine kw_iast_n x_M_wouldRule_32 (by first | exact isM_a1 hM | exact isM_a2 hM | exact isM_a3 hM | exact isM_a4 hM | exact isM_a5 hM | exact isM_a6 hM | exact isM_a7 hM | exact isM_a8 hM | exact isM_a10 hM | exact isM_a11 hM) (by omega) (by omega) ?_
      refine kw_ald_n x_M_wouldRule_33 rfl ?_
      refine kw_ald_n x_M_wouldRule_34 rfl ?_
      refine kw_gr x_M_wouldRule_35 (by exact isM_k hM) (by exact isM_r0 hM) ?_
      refine kw_icon x_M_wouldRule_38 ?_
      refine kw_iald_n x_M_wouldRule_39 (by first | exact isM_a1 hM | exact isM_a2 hM | exact isM_a3 hM | exact isM_a4 hM | exact isM_a5 hM | exact isM_a6 hM | exact isM_a7 hM | exact isM_a8 hM | exact isM_a10 hM | exact isM_a11 hM) (by omega) (by omega) (by first | exact hE.1 | exact hE.2.1 | exact hE.2.2.1 | exact hE4.2.1 | exact rfl) ?_
      refine c_M_wouldRule_40 (by exact isM_k hM) (Nat.le_of_ble_eq_true rfl) ?_
      refine s_M_apologizes hM hE4 (kt_wf_rule hW (by omega)) (ac := xac X) (fun t' e ht' he => by rw [kt_u1_ne _ _ _ (show m + 9 ≠ m + 1 by omega)]; exact hA t' e ht' he) (fun I6 hl6 hE6 => ?_)
      refine kw_ist_n x_M_wouldRule_43 (by decide) ?_
      refine kw_ald_n x_M_wouldRule_44 rfl ?_
      refine kw_gr x_M_wouldRule_45 (by exact isM_k hM) (by exact isM_r3 hM) ?_
      refine kw_ald_n x_M_wouldRule_48 rfl ?_
      refine kw_gr x_M_wouldRule_49 (by exact isM_k hM) (by exact isM_r0 hM) ?_
      refine c_M_wouldRule_52 (Nat.le_of_ble_eq_true rfl) ?_
      refine s_M_copies (isM_a4 hM) (isM_a1 hM) (by omega) (fun I7 f3 f4 => ?_)
      have hb := kt_rest hn hE f2 (by rw [hl6.1 _ (by omega) (by omega) (by omega) (by omega) (by omega), kt_u1_ne _ _ _ (show m + 4 ≠ m + 1 by omega), hl2.1 _ (by omega) (by omega) (by omega) (by omega) (by omega)]) f4
      have hly : kt_ly m I I7 := (kt_ly.one (by omega) (Or.inr (Or.inl rfl)) f1).tr (hl2.ly.tr ((kt_ly.one (b := m + 1) (by omega) (Or.inl rfl) (fun c hc => kt_u1_ne _ _ _ hc)).tr (hl6.ly.tr (kt_ly.one (by omega) (Or.inl rfl) f3))))
      refine kw_ild_n x_M_wouldRule_55 rfl ?_
      refine kw_iret x_M_wouldRule_56 ?_
      exact k r rfl hr2 I7 hly hb
  · first
    | exfalso; omega
    | skip
      refine kw_icon x_M_wouldRule_9 ?_
      refine kw_iret x_M_wouldRule_10 ?_
      exact kf (fun h => kt_nR (by omega) h6 h)
theorem s_M_undo (hM : kt_isM P N R m) (hE : kt_enc (I (m + 1)) X) (hW : kt_wf X) {np : Nat} {PX : Nat → kt_X} (hpa : kt_pa m np PX I) (k0 : np = 0 → Q (some (.int (-2))) I J R)
    (k : ∀ q, np = q + 1 → ∀ I', kt_lc m I I' → kt_enc (I' (m + 1)) (PX q) → kt_pa m q PX I' → Q (some (.int (nI q))) I' J R) : KW P i_M_undo N 0 [some (.ref m), none] [] N I J R Q := by
  have hp5 := hpa.2.1
  have loop : ∀ q, np = q + 1 → ∀ (d e : Nat) (I1 : kt_I), e + d = 548 → (∀ a, a ≠ m → a ≠ m + 1 → I1 a = I a) → (∀ j, j ≠ 4 → I1 m j = I m j) → I1 m 4 = nI q → (∀ j, j < e → I1 (m + 1) j = I (m + 2) (548 * q + j)) → KW P i_M_undo N 22 [some (.ref m), some (.int (nI e))] [] N I1 J R Q := by
    intro q hq d
    induction d with
    | zero =>
      intro e I1 h1 h2 h3 h4 h5
      have h6 : e = 548 := by omega
      subst h6
      have hpq := hpa.2.2 q (by omega)
      refine kw_ild_n x_M_undo_22 rfl ?_
      refine kw_sip x_M_undo_23 ?_
      first | refine kw_ic_ge_n x_M_undo_26 ⟨by omega, by omega⟩ (fun h26 => ?_) (fun h26 => ?_) | refine kw_ic_ge x_M_undo_26 (fun h26 => ?_) (fun h26 => ?_)
      · first
        | exfalso; omega
        | skip
          refine kw_ald_n x_M_undo_56 rfl ?_
          refine kw_gi_e x_M_undo_57 (by exact isM_k hM) (by first | exact hpa.1 | exact h4 | exact rfl) ?_
          refine kw_iret x_M_undo_60 ?_
          exact k q hq I1 ⟨fun a g1 g2 _ _ _ _ _ => h2 a g1 g2, fun j g1 _ => h3 j g1⟩ (kt_enc_ext (S := fun j => I (m + 2) (548 * q + j)) h5 hpq.1 hpq.2) ⟨h4, by omega, fun j hj => by rw [h2 _ (by omega) (by omega)]; exact hpa.2.2 j (by omega)⟩
      · first
        | exfalso; omega
        | skip
          skip
    | succ d ih =>
      intro e I1 h1 h2 h3 h4 h5
      have h7 : I1 (m + 2) (548 * q + e) = I (m + 2) (548 * q + e) := by rw [h2 _ (by omega) (by omega)]
      refine kw_ild_n x_M_undo_22 rfl ?_
      refine kw_sip x_M_undo_23 ?_
      first | refine kw_ic_ge_n x_M_undo_26 ⟨by omega, by omega⟩ (fun h26 => ?_) (fun h26 => ?_) | refine kw_ic_ge x_M_undo_26 (fun h26 => ?_) (fun h26 => ?_)
      · first
        | exfalso; omega
        | skip
          skip
      · first
        | exfalso; omega
        | skip
          refine kw_ald_n x_M_undo_29 rfl ?_
          refine kw_gr x_M_undo_30 (by exact isM_k hM) (by exact isM_r0 hM) ?_
          refine kw_ild_n x_M_undo_33 rfl ?_
          refine kw_ald_n x_M_undo_34 rfl ?_
          refine kw_gr x_M_undo_35 (by exact isM_k hM) (by exact isM_r1 hM) ?_
          refine kw_sip x_M_undo_38 ?_
          refine kw_ald_n x_M_undo_41 rfl ?_
          refine kw_gi_e x_M_undo_42 (by exact isM_k hM) (by first | exact h4 | exact rfl) ?_
          first | refine kw_imul_n x_M_undo_45 ?_ | refine kw_imul x_M_undo_45 ?_
          refine kw_ild_n x_M_undo_46 rfl ?_
          first | refine kw_iadd_n x_M_undo_47 ?_ | refine kw_iadd x_M_undo_47 ?_
          refine kw_iald_n x_M_undo_48 (by first | exact isM_a1 hM | exact isM_a2 hM | exact isM_a3 hM | exact isM_a4 hM | exact isM_a5 hM | exact isM_a6 hM | exact isM_a7 hM | exact isM_a8 hM | exact isM_a10 hM | exact isM_a11 hM) (by omega) (by omega) (by first | exact h4 | exact rfl) ?_
          refine kw_iast_n x_M_undo_49 (by first | exact isM_a1 hM | exact isM_a2 hM | exact isM_a3 hM | exact isM_a4 hM | exact isM_a5 hM | exact isM_a6 hM | exact isM_a7 hM | exact isM_a8 hM | exact isM_a10 hM | exact isM_a11 hM) (by omega) (by omega) ?_
          first | refine kw_iinc_n x_M_undo_50 (by decide) rfl ?_ | refine kw_iinc x_M_undo_50 (by decide) rfl ?_
          refine kw_goto x_M_undo_53 ?_
          refine ih (e + 1) _ (by omega) (fun a g1 g2 => by rw [kt_u1_ne _ _ _ g2]; exact h2 a g1 g2) (fun j hj => by rw [kt_u1_ne _ _ _ (by omega)]; exact h3 j hj) (by rw [kt_u1_ne _ _ _ (by omega)]; exact h4) (fun j hj => ?_)
          by_cases hje : j = e
          · subst hje
            simp [kt_u1]
            exact h7
          · simp [kt_u1, hje]
            exact h5 j (by omega)
  refine kw_ald_n x_M_undo_0 rfl ?_
  refine kw_gi_e x_M_undo_1 (by exact isM_k hM) (by first | exact hpa.1 | exact rfl) ?_
  first | refine kw_if_ne_b x_M_undo_4 (fun h4 => ?_) (fun h4 => ?_) | refine kw_if_ne_s x_M_undo_4 ⟨by omega, by omega⟩ (fun h4 => ?_) (fun h4 => ?_) | refine kw_if_ne_n x_M_undo_4 (by omega) (fun h4 => ?_) (fun h4 => ?_) | refine kw_if_ne x_M_undo_4 (fun h4 => ?_) (fun h4 => ?_)
  · first
    | exfalso; omega
    | skip
      obtain ⟨q, hq⟩ : ∃ q, np = q + 1 := ⟨np - 1, by omega⟩
      subst hq
      refine kw_ald_n x_M_undo_10 rfl ?_
      refine kw_dup x_M_undo_11 rfl ?_
      refine kw_gi_e x_M_undo_12 (by exact isM_k hM) (by first | exact hpa.1 | exact rfl) ?_
      refine kw_icon x_M_undo_15 ?_
      first | refine kw_isub_n x_M_undo_16 (by omega) ?_ | refine kw_isub x_M_undo_16 ?_
      refine kw_pi x_M_undo_17 (by exact isM_k hM) ?_
      refine kw_icon x_M_undo_20 ?_
      refine kw_ist_n x_M_undo_21 (by decide) ?_
      exact loop q rfl 548 0 _ (by omega) (fun a h1 h2 => kt_u1_ne _ _ _ h1) (fun j hj => by simp [kt_u1, hj]) (by simp [kt_u1]) (fun j hj => absurd hj (Nat.not_lt_zero j))
  · first
    | exfalso; omega
    | skip
      refine kw_bip x_M_undo_7 ?_
      refine kw_iret x_M_undo_9 ?_
      exact k0 (by omega)
theorem s_M_type (hM : kt_isM P N R m) {ty : Nat} (h7 : I m 7 = nI ty) (hty : ty ≤ 80) {a : Int32} (kf : ¬ vR 32 126 a → Q (some (.int (-1))) I J R) (kl : vR 32 126 a → ty = 80 → Q (some (.int (-3))) I J R)
    (k : ∀ v, a = nI v → 32 ≤ v → v ≤ 126 → ty < 80 → Q (some (.int (nI (ty + 1)))) (kt_u1 (kt_u1 I (m + 5) ty (nI v)) m 7 (nI (ty + 1))) J R) : KW P i_M_type N 0 [some (.ref m), some (.int a)] [] N I J R Q := by
  have h8 : ∀ j v, kt_u1 I (m + 5) j v m 7 = nI ty := fun j v => by rw [kt_u1_ne _ _ _ (by omega)]; exact h7
  have h9 : ∀ j v w, kt_u1 (kt_u1 I (m + 5) j v) m 7 w m 7 = w := fun j v w => by simp [kt_u1]
  refine kw_ild_n x_M_type_0 rfl ?_
  refine kw_bip x_M_type_1 ?_
  refine kw_bip x_M_type_3 ?_
  refine c_M_type_5 (Nat.le_of_ble_eq_true rfl) ?_
  refine s_M_in ?_
  first | refine kw_if_ne_b x_M_type_8 (fun hh8 => ?_) (fun hh8 => ?_) | refine kw_if_ne_s x_M_type_8 ⟨by omega, by omega⟩ (fun hh8 => ?_) (fun hh8 => ?_) | refine kw_if_ne_n x_M_type_8 (by omega) (fun hh8 => ?_) (fun hh8 => ?_) | refine kw_if_ne x_M_type_8 (fun hh8 => ?_) (fun hh8 => ?_)
  · first
    | exfalso; omega
    | skip
      obtain ⟨v, hv1, hv2, rfl⟩ := kt_yR (by omega) hh8
      refine kw_ald_n x_M_type_13 rfl ?_
      refine kw_gi_e x_M_type_14 (by exact isM_k hM) (by first | exact h7 | exact h8 _ _ | exact h9 _ _ _ | exact rfl) ?_
      refine kw_bip x_M_type_17 ?_
      first | refine kw_ic_ne_n x_M_type_19 ⟨by omega, by omega⟩ (fun hh19 => ?_) (fun hh19 => ?_) | refine kw_ic_ne x_M_type_19 (fun hh19 => ?_) (fun hh19 => ?_)
      · first
        | exfalso; omega
        | skip
          refine kw_ald_n x_M_type_25 rfl ?_
          refine kw_gr x_M_type_26 (by exact isM_k hM) (by exact isM_r6 hM) ?_
          refine kw_ald_n x_M_type_29 rfl ?_
          refine kw_gi_e x_M_type_30 (by exact isM_k hM) (by first | exact h7 | exact h8 _ _ | exact h9 _ _ _ | exact rfl) ?_
          refine kw_ild_n x_M_type_33 rfl ?_
          refine kw_iast_n x_M_type_34 (by first | exact isM_a1 hM | exact isM_a2 hM | exact isM_a3 hM | exact isM_a4 hM | exact isM_a5 hM | exact isM_a6 hM | exact isM_a7 hM | exact isM_a8 hM | exact isM_a10 hM | exact isM_a11 hM) (by omega) (by omega) ?_
          refine kw_ald_n x_M_type_35 rfl ?_
          refine kw_dup x_M_type_36 rfl ?_
          refine kw_gi_e x_M_type_37 (by exact isM_k hM) (by first | exact h7 | exact h8 _ _ | exact h9 _ _ _ | exact rfl) ?_
          refine kw_icon x_M_type_40 ?_
          first | refine kw_iadd_n x_M_type_41 ?_ | refine kw_iadd x_M_type_41 ?_
          refine kw_pi x_M_type_42 (by exact isM_k hM) ?_
          refine kw_ald_n x_M_type_45 rfl ?_
          refine kw_gi_e x_M_type_46 (by exact isM_k hM) (by first | exact h7 | exact h8 _ _ | exact h9 _ _ _ | exact rfl) ?_
          refine kw_iret x_M_type_49 ?_
          exact k v rfl hv1 hv2 (by omega)
      · first
        | exfalso; omega
        | skip
          refine kw_bip x_M_type_22 ?_
          refine kw_iret x_M_type_24 ?_
          exact kl ⟨v, hv1, hv2, rfl⟩ (by omega)
  · first
    | exfalso; omega
    | skip
      refine kw_icon x_M_type_11 ?_
      refine kw_iret x_M_type_12 ?_
      exact kf (fun h => kt_nR (by omega) hh8 h)
theorem s_M_clearText (hM : kt_isM P N R m) {ty : Nat} (h7 : I m 7 = nI ty)
    (k : Q (some (.int (nI ty))) (kt_u1 I m 7 (nI 0)) J R) : KW P i_M_clearText N 0 [some (.ref m), none] [] N I J R Q := by
  refine kw_ald_n x_M_clearText_0 rfl ?_
  refine kw_gi_e x_M_clearText_1 (by exact isM_k hM) (by first | exact h7 | exact rfl) ?_
  refine kw_ist_n x_M_clearText_4 (by decide) ?_
  refine kw_ald_n x_M_clearText_5 rfl ?_
  refine kw_icon x_M_clearText_6 ?_
  refine kw_pi x_M_clearText_7 (by exact isM_k hM) ?_
  refine kw_ild_n x_M_clearText_10 rfl ?_
  refine kw_iret x_M_clearText_11 ?_
  exact k
end MO
