/-! the class: all towns think anew -/
/-- nothing but the country at c and the looking at lo has changed -/
def kt_fx {α : Type} (lo c : Nat) (M M' : Nat → Nat → α) : Prop := ∀ a, (a < c ∨ c + 17 < a) → (a < lo ∨ lo + 2 < a) → M' a = M a
theorem kt_fx.rf {α : Type} {lo c : Nat} {M : Nat → Nat → α} : kt_fx lo c M M := fun _ _ _ => rfl
theorem kt_fx.tr {α : Type} {lo c : Nat} {M M' M'' : Nat → Nat → α} (h : kt_fx lo c M M') (h' : kt_fx lo c M' M'') : kt_fx lo c M M'' := fun a h1 h2 => (h' a h1 h2).trans (h a h1 h2)
theorem kt_fd.x {α : Type} {lo c : Nat} {M M' : Nat → Nat → α} (h : kt_fd c M M') : kt_fx lo c M M' := fun a h1 _ => h a h1
theorem kt_f3.x {α : Type} {lo c : Nat} {M M' : Nat → Nat → α} (h : kt_f3 lo M M') : kt_fx lo c M M' := fun a _ h2 => h a h2
/-- the loop's memory: the first t towns have thought -/
def kt_th (lo c t : Nat) (X Y : kt_X) (I : kt_I) (J : kt_J) (I1 : kt_I) (J1 : kt_J) : Prop :=
  (∀ a, (a < lo ∨ lo + 2 < a) → I1 a = I a) ∧ (∀ a, (a < c + 14 ∨ c + 17 < a) → (a < lo ∨ lo + 2 < a) → J1 a = J a)
  ∧ (∀ u, u < 5 → J1 (c + 14) u = kS (if u < t then xac Y u else xac X u)) ∧ (∀ u, u < 5 → J1 (c + 15) u = kS (if u < t then xRf Y u else xRf X u))
  ∧ (∀ u, u < 5 → J1 (c + 16) u = kS (if u < t then xSy (xapo X Y) u else xSy Y u)) ∧ ∀ u, u < 5 → J1 (c + 17) u = kS (if u < t then xK Y u else xK X u)
theorem kt_if1 {α : Type} {u t : Nat} {f g : α} (h : u ≠ t) : (if u < t + 1 then f else g) = (if u < t then f else g) := by
  by_cases hu : u < t
  · rw [if_pos hu, if_pos (by omega)]
  · rw [if_neg hu, if_neg (by omega)]
theorem kt_th.skip {lo c t : Nat} {X Y : kt_X} {I I1 : kt_I} {J J1 : kt_J} (h : kt_th lo c t X Y I J I1 J1) (h1 : kS (xac X t) = kS (xac Y t)) (h2 : kS (xRf X t) = kS (xRf Y t)) (h3 : kS (xSy Y t) = kS (xSy (xapo X Y) t)) (h4 : kS (xK X t) = kS (xK Y t)) : kt_th lo c (t + 1) X Y I J I1 J1 := by
  obtain ⟨g1, g2, g3, g4, g5, g6⟩ := h
  have key : ∀ {f g : Nat → Nat → Bool} {a u : Nat}, J1 a u = kS (if u < t then f u else g u) → kS (g t) = kS (f t) → J1 a u = kS (if u < t + 1 then f u else g u) := by
    intro f g a u e1 e2
    by_cases hu : u = t
    · subst hu
      rw [if_neg (by omega)] at e1
      rw [if_pos (by omega), e1, e2]
    · rw [kt_if1 hu]; exact e1
  exact ⟨g1, g2, fun u hu => key (f := xac Y) (g := xac X) (g3 u hu) h1, fun u hu => key (f := xRf Y) (g := xRf X) (g4 u hu) h2, fun u hu => key (f := xSy (xapo X Y)) (g := xSy Y) (g5 u hu) h3, fun u hu => key (f := xK Y) (g := xK X) (g6 u hu) h4⟩
section CT
variable {P : kt_P} {N : Nat} {I : kt_I} {J : kt_J} {R : kt_R} {Q : Option Value → kt_I → kt_J → kt_R → Prop} {lo c : Nat} {X Y : kt_X}
theorem s_C_thinkAnew (hC : kt_isC P N R lo c) (hL : kt_isL P N R lo) (hlc : lo = c + 1) (hB : kt_B c Y I J) (hT : kt_T c X I J) (hWX : kt_wf X) (hWY : kt_wf Y) (hev : kt_ev X Y)
    (k : ∀ I' J', kt_fx lo c I I' → kt_fx lo c J J' → kt_B c (xapo X Y) I' J' → kt_T c (xapo X Y) I' J' → Q none I' J' R) : KW P i_C_thinkAnew N 0 [some (.ref c), none] [] N I J R Q := by
  have hnY := hWY.2.2.1
  have hTY := hWY.2.1
  have hr1 := hWX.1
  have hr2 := hWY.1
  obtain ⟨hV, b2, b3, b9, b10, b13⟩ := hB
  obtain ⟨o10, o11, o12, o14⟩ := hT
  have loop : ∀ (d t : Nat) (I1 : kt_I) (J1 : kt_J), t + d = xT Y → kt_th lo c t X Y I J I1 J1 → KW P i_C_thinkAnew N 2 [some (.ref c), some (.int (nI t))] [] N I1 J1 R Q := by
    intro d
    induction d with
    | zero =>
      intro t I1 J1 h1 hth
      have h2 : t = xT Y := by omega
      subst h2
      obtain ⟨g1, g2, g3, g4, g5, g6⟩ := hth
      have c2 : I1 c 2 = nI (xT Y) := by rw [g1 c (by omega)]; exact b2
      have c3 : I1 c 3 = nI (xr Y) := by rw [g1 c (by omega)]; exact b3
      have e7 := kt_apo7 X Y
      have hT7 : xT (xapo X Y) = xT Y := e7.2.1
      refine kw_ild_n x_C_thinkAnew_2 rfl ?_
      refine kw_ald_n x_C_thinkAnew_3 rfl ?_
      refine kw_gi_e x_C_thinkAnew_4 (by exact isC_k hC) (by first | exact c2 | exact c3 | exact rfl) ?_
      first | refine kw_ic_ge_n x_C_thinkAnew_7 ⟨by omega, by omega⟩ (fun h7 => ?_) (fun h7 => ?_) | refine kw_ic_ge x_C_thinkAnew_7 (fun h7 => ?_) (fun h7 => ?_)
      · first
        | exfalso; omega
        | skip
          refine kw_ald_n x_C_thinkAnew_125 rfl ?_
          refine kw_ald_n x_C_thinkAnew_126 rfl ?_
          refine kw_gi_e x_C_thinkAnew_127 (by exact isC_k hC) (by first | exact c2 | exact c3 | exact rfl) ?_
          refine kw_pi x_C_thinkAnew_130 (by exact isC_k hC) ?_
          refine kw_vret x_C_thinkAnew_133 ?_
          refine k _ _ (fun a h1 h2 => by rw [kt_u1_ne _ _ _ (by omega)]; exact g1 a h2) (fun a h1 h2 => g2 a (by omega) h2)
            ⟨⟨kt_u1_na (by omega) (by rw [e7.2.2.1, g1 _ (by omega)]; exact hV.1), fun e f he hf => kt_u1_na (by omega) (by rw [e7.2.2.2.2 e f (by omega), g1 _ (by omega)]; rw [e7.2.2.1] at he; exact hV.2 e f he hf)⟩, kt_u1_nj (by decide) (by rw [hT7]; exact c2), kt_u1_nj (by decide) (by rw [e7.1]; exact c3), fun t ht => kt_u1_na (by omega) (by rw [e7.2.2.2.1 t, g1 _ (by omega)]; exact b9 t ht), fun t ht => by rw [xK_apo, g2 _ (by omega) (by omega)]; exact b10 t ht, fun t ht => ?_⟩
            ⟨by rw [e7.1]; exact kt_u1_eq, fun t ht => ?_, fun t ht => ?_, fun t ht => ?_⟩
          · rw [g5 t ht]
            by_cases hc : t < xT Y
            · rw [if_pos hc]
            · rw [if_neg hc]
              refine kS_cg (fun e _ => ?_)
              rw [xSy_apo, decide_eq_false hc, Bool.false_and, Bool.or_false]
          · rw [g3 t ht, xac_apo]
            by_cases hc : t < xT Y
            · rw [if_pos hc]
            · rw [if_neg hc]
              exact kS_cg (fun e _ => by rw [(xac_none hWX (show xT X ≤ t by have := hev.2.1; omega) ht e).1, (xac_none hWY (show xT Y ≤ t by omega) ht e).1])
          · rw [g4 t ht, xRf_apo]
            by_cases hc : t < xT Y
            · rw [if_pos hc]
            · rw [if_neg hc]
              exact kS_cg (fun e _ => by rw [(xac_none hWX (show xT X ≤ t by have := hev.2.1; omega) ht e).2.1, (xac_none hWY (show xT Y ≤ t by omega) ht e).2.1])
          · rw [g6 t ht, xK_apo]
            by_cases hc : t < xT Y
            · rw [if_pos hc]
            · rw [if_neg hc]
              exact kS_cg (fun e _ => by rw [(xac_none hWX (show xT X ≤ t by have := hev.2.1; omega) ht e).2.2, (xac_none hWY (show xT Y ≤ t by omega) ht e).2.2])
      · first
        | exfalso; omega
        | skip
          skip
    | succ d ih =>
      intro t I1 J1 h1 hth
      obtain ⟨g1, g2, g3, g4, g5, g6⟩ := id hth
      have c2 : I1 c 2 = nI (xT Y) := by rw [g1 c (by omega)]; exact b2
      have c3 : I1 c 3 = nI (xr Y) := by rw [g1 c (by omega)]; exact b3
      have c10 : I1 c 10 = nI (xr X) := by rw [g1 c (by omega)]; exact o10
      have j10 : J1 (c + 13) t = kS (xK Y t) := by rw [g2 _ (by omega) (by omega)]; exact b10 t (by omega)
      have j14 : J1 (c + 17) t = kS (xK X t) := by rw [g6 t (by omega), if_neg (by omega)]
      have hV1 : kt_V c Y I1 := hV.ext (fun a q1 q2 => g1 a (by omega))
      refine kw_ild_n x_C_thinkAnew_2 rfl ?_
      refine kw_ald_n x_C_thinkAnew_3 rfl ?_
      refine kw_gi_e x_C_thinkAnew_4 (by exact isC_k hC) (by first | exact c2 | exact c3 | exact c10 | exact j10 | exact j14 | exact w13 | exact w11 | exact z5 | exact kt_uL_na (by omega) (w10) | exact kt_uL_na (by omega) (z4) | exact kt_uL_na (by omega) (z5) | exact kt_uL_na (by omega) (kt_uL_na (by omega) (w10)) | exact kt_uL_na (by omega) (kt_uL_na (by omega) (z4)) | exact kt_uL_na (by omega) (kt_uL_na (by omega) (z5)) | exact kt_uL_na (by omega) (kt_uL_na (by omega) (kt_uL_na (by omega) (w10))) | exact kt_uL_na (by omega) (kt_uL_na (by omega) (kt_uL_na (by omega) (z4))) | exact kt_uL_na (by omega) (kt_uL_na (by omega) (kt_uL_na (by omega) (z5))) | exact rfl) ?_
      first | refine kw_ic_ge_n x_C_thinkAnew_7 ⟨by omega, by omega⟩ (fun h7 => ?_) (fun h7 => ?_) | refine kw_ic_ge x_C_thinkAnew_7 (fun h7 => ?_) (fun h7 => ?_)
      · first
        | exfalso; omega
        | skip
          skip
      · first
        | exfalso; omega
        | skip
          refine kw_ald_n x_C_thinkAnew_10 rfl ?_
          refine kw_gi_e x_C_thinkAnew_11 (by exact isC_k hC) (by first | exact c2 | exact c3 | exact c10 | exact j10 | exact j14 | exact w13 | exact w11 | exact z5 | exact kt_uL_na (by omega) (w10) | exact kt_uL_na (by omega) (z4) | exact kt_uL_na (by omega) (z5) | exact kt_uL_na (by omega) (kt_uL_na (by omega) (w10)) | exact kt_uL_na (by omega) (kt_uL_na (by omega) (z4)) | exact kt_uL_na (by omega) (kt_uL_na (by omega) (z5)) | exact kt_uL_na (by omega) (kt_uL_na (by omega) (kt_uL_na (by omega) (w10))) | exact kt_uL_na (by omega) (kt_uL_na (by omega) (kt_uL_na (by omega) (z4))) | exact kt_uL_na (by omega) (kt_uL_na (by omega) (kt_uL_na (by omega) (z5))) | exact rfl) ?_
          refine kw_ald_n x_C_thinkAnew_14 rfl ?_
          refine kw_gi_e x_C_thinkAnew_15 (by exact isC_k hC) (by first | exact c2 | exact c3 | exact c10 | exact j10 | exact j14 | exact w13 | exact w11 | exact z5 | exact kt_uL_na (by omega) (w10) | exact kt_uL_na (by omega) (z4) | exact kt_uL_na (by omega) (z5) | exact kt_uL_na (by omega) (kt_uL_na (by omega) (w10)) | exact kt_uL_na (by omega) (kt_uL_na (by omega) (z4)) | exact kt_uL_na (by omega) (kt_uL_na (by omega) (z5)) | exact kt_uL_na (by omega) (kt_uL_na (by omega) (kt_uL_na (by omega) (w10))) | exact kt_uL_na (by omega) (kt_uL_na (by omega) (kt_uL_na (by omega) (z4))) | exact kt_uL_na (by omega) (kt_uL_na (by omega) (kt_uL_na (by omega) (z5))) | exact rfl) ?_
          first | refine kw_ic_ne_n x_C_thinkAnew_18 ⟨by omega, by omega⟩ (fun h18 => ?_) (fun h18 => ?_) | refine kw_ic_ne x_C_thinkAnew_18 (fun h18 => ?_) (fun h18 => ?_)
          · first
            | exfalso; omega
            | skip
              refine kw_ald_n x_C_thinkAnew_37 rfl ?_
              refine kw_gr x_C_thinkAnew_38 (by exact isC_k hC) (by exact isC_r0 hC) ?_
              refine kw_ald_n x_C_thinkAnew_41 rfl ?_
              refine kw_gr x_C_thinkAnew_42 (by exact isC_k hC) (by exact isC_r1 hC) ?_
              refine kw_ald_n x_C_thinkAnew_45 rfl ?_
              refine kw_gr x_C_thinkAnew_46 (by exact isC_k hC) (by exact isC_r5 hC) ?_
              refine kw_ild_n x_C_thinkAnew_49 rfl ?_
              refine kw_lald_n x_C_thinkAnew_50 (by first | exact isC_a13 hC | exact isC_a14 hC | exact isC_a15 hC | exact isC_a16 hC | exact isC_a17 hC) (by omega) (by omega) (by first | exact c2 | exact c3 | exact c10 | exact j10 | exact j14 | exact w13 | exact w11 | exact z5 | exact kt_uL_na (by omega) (w10) | exact kt_uL_na (by omega) (z4) | exact kt_uL_na (by omega) (z5) | exact kt_uL_na (by omega) (kt_uL_na (by omega) (w10)) | exact kt_uL_na (by omega) (kt_uL_na (by omega) (z4)) | exact kt_uL_na (by omega) (kt_uL_na (by omega) (z5)) | exact kt_uL_na (by omega) (kt_uL_na (by omega) (kt_uL_na (by omega) (w10))) | exact kt_uL_na (by omega) (kt_uL_na (by omega) (kt_uL_na (by omega) (z4))) | exact kt_uL_na (by omega) (kt_uL_na (by omega) (kt_uL_na (by omega) (z5))) | exact rfl) ?_
              refine kw_ald_n x_C_thinkAnew_51 rfl ?_
              refine kw_gi_e x_C_thinkAnew_52 (by exact isC_k hC) (by first | exact c2 | exact c3 | exact c10 | exact j10 | exact j14 | exact w13 | exact w11 | exact z5 | exact kt_uL_na (by omega) (w10) | exact kt_uL_na (by omega) (z4) | exact kt_uL_na (by omega) (z5) | exact kt_uL_na (by omega) (kt_uL_na (by omega) (w10)) | exact kt_uL_na (by omega) (kt_uL_na (by omega) (z4)) | exact kt_uL_na (by omega) (kt_uL_na (by omega) (z5)) | exact kt_uL_na (by omega) (kt_uL_na (by omega) (kt_uL_na (by omega) (w10))) | exact kt_uL_na (by omega) (kt_uL_na (by omega) (kt_uL_na (by omega) (z4))) | exact kt_uL_na (by omega) (kt_uL_na (by omega) (kt_uL_na (by omega) (z5))) | exact rfl) ?_
              refine c_C_thinkAnew_55 (by exact isL_k hL) (Nat.le_of_ble_eq_true rfl) ?_
              refine s_L_lookAtAll hC hL hV1 hWY hlc (fun I2 J2 z1 z2 z4 z5 => ?_)
              have w10 : J2 (c + 13) t = kS (xK Y t) := (by rw [z2 _ (by omega)]; exact j10)
              have w11 : J2 (c + 14) t = kS (xac X t) := (by rw [z2 _ (by omega), g3 t (by omega), if_neg (by omega)])
              have w13 : J2 (c + 16) t = kS (xSy Y t) := (by rw [z2 _ (by omega), g5 t (by omega), if_neg (by omega)])
              refine kw_ald_n x_C_thinkAnew_58 rfl ?_
              refine kw_gr x_C_thinkAnew_59 (by exact isC_k hC) (by exact isC_r8 hC) ?_
              refine kw_ild_n x_C_thinkAnew_62 rfl ?_
              refine kw_dup2 x_C_thinkAnew_63 rfl rfl ?_
              refine kw_lald_n x_C_thinkAnew_64 (by first | exact isC_a13 hC | exact isC_a14 hC | exact isC_a15 hC | exact isC_a16 hC | exact isC_a17 hC) (by omega) (by omega) (by first | exact c2 | exact c3 | exact c10 | exact j10 | exact j14 | exact w13 | exact w11 | exact z5 | exact kt_uL_na (by omega) (w10) | exact kt_uL_na (by omega) (z4) | exact kt_uL_na (by omega) (z5) | exact kt_uL_na (by omega) (kt_uL_na (by omega) (w10)) | exact kt_uL_na (by omega) (kt_uL_na (by omega) (z4)) | exact kt_uL_na (by omega) (kt_uL_na (by omega) (z5)) | exact kt_uL_na (by omega) (kt_uL_na (by omega) (kt_uL_na (by omega) (w10))) | exact kt_uL_na (by omega) (kt_uL_na (by omega) (kt_uL_na (by omega) (z4))) | exact kt_uL_na (by omega) (kt_uL_na (by omega) (kt_uL_na (by omega) (z5))) | exact rfl) ?_
              refine kw_ald_n x_C_thinkAnew_65 rfl ?_
              refine kw_gr x_C_thinkAnew_66 (by exact isC_k hC) (by exact isC_r6 hC) ?_
              refine kw_ild_n x_C_thinkAnew_69 rfl ?_
              refine kw_lald_n x_C_thinkAnew_70 (by first | exact isC_a13 hC | exact isC_a14 hC | exact isC_a15 hC | exact isC_a16 hC | exact isC_a17 hC) (by omega) (by omega) (by first | exact c2 | exact c3 | exact c10 | exact j10 | exact j14 | exact w13 | exact w11 | exact z5 | exact kt_uL_na (by omega) (w10) | exact kt_uL_na (by omega) (z4) | exact kt_uL_na (by omega) (z5) | exact kt_uL_na (by omega) (kt_uL_na (by omega) (w10)) | exact kt_uL_na (by omega) (kt_uL_na (by omega) (z4)) | exact kt_uL_na (by omega) (kt_uL_na (by omega) (z5)) | exact kt_uL_na (by omega) (kt_uL_na (by omega) (kt_uL_na (by omega) (w10))) | exact kt_uL_na (by omega) (kt_uL_na (by omega) (kt_uL_na (by omega) (z4))) | exact kt_uL_na (by omega) (kt_uL_na (by omega) (kt_uL_na (by omega) (z5))) | exact rfl) ?_
              refine kw_ald_n x_C_thinkAnew_71 rfl ?_
              refine kw_gr x_C_thinkAnew_72 (by exact isC_k hC) (by exact isC_r0 hC) ?_
              refine kw_gl_e x_C_thinkAnew_75 (by exact isL_k hL) (by first | exact c2 | exact c3 | exact c10 | exact j10 | exact j14 | exact w13 | exact w11 | exact z5 | exact kt_uL_na (by omega) (w10) | exact kt_uL_na (by omega) (z4) | exact kt_uL_na (by omega) (z5) | exact kt_uL_na (by omega) (kt_uL_na (by omega) (w10)) | exact kt_uL_na (by omega) (kt_uL_na (by omega) (z4)) | exact kt_uL_na (by omega) (kt_uL_na (by omega) (z5)) | exact kt_uL_na (by omega) (kt_uL_na (by omega) (kt_uL_na (by omega) (w10))) | exact kt_uL_na (by omega) (kt_uL_na (by omega) (kt_uL_na (by omega) (z4))) | exact kt_uL_na (by omega) (kt_uL_na (by omega) (kt_uL_na (by omega) (z5))) | exact rfl) ?_
              refine kw_land x_C_thinkAnew_78 ?_
              refine kw_lor x_C_thinkAnew_79 ?_
              refine kw_last_n x_C_thinkAnew_80 (by first | exact isC_a13 hC | exact isC_a14 hC | exact isC_a15 hC | exact isC_a16 hC | exact isC_a17 hC) (by omega) (by omega) ?_
              refine kw_ald_n x_C_thinkAnew_81 rfl ?_
              refine kw_gr x_C_thinkAnew_82 (by exact isC_k hC) (by exact isC_r6 hC) ?_
              refine kw_ild_n x_C_thinkAnew_85 rfl ?_
              refine kw_ald_n x_C_thinkAnew_86 rfl ?_
              refine kw_gr x_C_thinkAnew_87 (by exact isC_k hC) (by exact isC_r0 hC) ?_
              refine kw_gl_e x_C_thinkAnew_90 (by exact isL_k hL) (by first | exact c2 | exact c3 | exact c10 | exact j10 | exact j14 | exact w13 | exact w11 | exact z5 | exact kt_uL_na (by omega) (w10) | exact kt_uL_na (by omega) (z4) | exact kt_uL_na (by omega) (z5) | exact kt_uL_na (by omega) (kt_uL_na (by omega) (w10)) | exact kt_uL_na (by omega) (kt_uL_na (by omega) (z4)) | exact kt_uL_na (by omega) (kt_uL_na (by omega) (z5)) | exact kt_uL_na (by omega) (kt_uL_na (by omega) (kt_uL_na (by omega) (w10))) | exact kt_uL_na (by omega) (kt_uL_na (by omega) (kt_uL_na (by omega) (z4))) | exact kt_uL_na (by omega) (kt_uL_na (by omega) (kt_uL_na (by omega) (z5))) | exact rfl) ?_
              refine kw_last_n x_C_thinkAnew_93 (by first | exact isC_a13 hC | exact isC_a14 hC | exact isC_a15 hC | exact isC_a16 hC | exact isC_a17 hC) (by omega) (by omega) ?_
              refine kw_ald_n x_C_thinkAnew_94 rfl ?_
              refine kw_gr x_C_thinkAnew_95 (by exact isC_k hC) (by exact isC_r7 hC) ?_
              refine kw_ild_n x_C_thinkAnew_98 rfl ?_
              refine kw_ald_n x_C_thinkAnew_99 rfl ?_
              refine kw_gr x_C_thinkAnew_100 (by exact isC_k hC) (by exact isC_r0 hC) ?_
              refine kw_gl_e x_C_thinkAnew_103 (by exact isL_k hL) (by first | exact c2 | exact c3 | exact c10 | exact j10 | exact j14 | exact w13 | exact w11 | exact z5 | exact kt_uL_na (by omega) (w10) | exact kt_uL_na (by omega) (z4) | exact kt_uL_na (by omega) (z5) | exact kt_uL_na (by omega) (kt_uL_na (by omega) (w10)) | exact kt_uL_na (by omega) (kt_uL_na (by omega) (z4)) | exact kt_uL_na (by omega) (kt_uL_na (by omega) (z5)) | exact kt_uL_na (by omega) (kt_uL_na (by omega) (kt_uL_na (by omega) (w10))) | exact kt_uL_na (by omega) (kt_uL_na (by omega) (kt_uL_na (by omega) (z4))) | exact kt_uL_na (by omega) (kt_uL_na (by omega) (kt_uL_na (by omega) (z5))) | exact rfl) ?_
              refine kw_last_n x_C_thinkAnew_106 (by first | exact isC_a13 hC | exact isC_a14 hC | exact isC_a15 hC | exact isC_a16 hC | exact isC_a17 hC) (by omega) (by omega) ?_
              refine kw_ald_n x_C_thinkAnew_107 rfl ?_
              refine kw_gr x_C_thinkAnew_108 (by exact isC_k hC) (by exact isC_r9 hC) ?_
              refine kw_ild_n x_C_thinkAnew_111 rfl ?_
              refine kw_ald_n x_C_thinkAnew_112 rfl ?_
              refine kw_gr x_C_thinkAnew_113 (by exact isC_k hC) (by exact isC_r5 hC) ?_
              refine kw_ild_n x_C_thinkAnew_116 rfl ?_
              refine kw_lald_n x_C_thinkAnew_117 (by first | exact isC_a13 hC | exact isC_a14 hC | exact isC_a15 hC | exact isC_a16 hC | exact isC_a17 hC) (by omega) (by omega) (by first | exact c2 | exact c3 | exact c10 | exact j10 | exact j14 | exact w13 | exact w11 | exact z5 | exact kt_uL_na (by omega) (w10) | exact kt_uL_na (by omega) (z4) | exact kt_uL_na (by omega) (z5) | exact kt_uL_na (by omega) (kt_uL_na (by omega) (w10)) | exact kt_uL_na (by omega) (kt_uL_na (by omega) (z4)) | exact kt_uL_na (by omega) (kt_uL_na (by omega) (z5)) | exact kt_uL_na (by omega) (kt_uL_na (by omega) (kt_uL_na (by omega) (w10))) | exact kt_uL_na (by omega) (kt_uL_na (by omega) (kt_uL_na (by omega) (z4))) | exact kt_uL_na (by omega) (kt_uL_na (by omega) (kt_uL_na (by omega) (z5))) | exact rfl) ?_
              refine kw_last_n x_C_thinkAnew_118 (by first | exact isC_a13 hC | exact isC_a14 hC | exact isC_a15 hC | exact isC_a16 hC | exact isC_a17 hC) (by omega) (by omega) ?_
              first | refine kw_iinc_n x_C_thinkAnew_119 (by decide) rfl ?_ | refine kw_iinc x_C_thinkAnew_119 (by decide) rfl ?_
              refine kw_goto x_C_thinkAnew_122 ?_
              refine ih (t + 1) I2 _ (by omega) ⟨fun a ha => by rw [z1 a ha]; exact g1 a ha, fun a h1 h2 => by rw [kt_uL_ne _ _ _ (by omega), kt_uL_ne _ _ _ (by omega), kt_uL_ne _ _ _ (by omega), kt_uL_ne _ _ _ (by omega), z2 a h2]; exact g2 a h1 h2, fun u hu => ?_, fun u hu => ?_, fun u hu => ?_, fun u hu => ?_⟩
              · refine kt_uL_na (by omega) (kt_uL_na (by omega) ?_)
                by_cases hut : u = t
                · subst hut; rw [if_pos (by omega)]; exact kt_uL_eq
                · rw [kt_if1 hut]; exact kt_uL_nj hut (kt_uL_na (by omega) (by rw [z2 _ (by omega)]; exact g3 u hu))
              · refine kt_uL_na (by omega) ?_
                by_cases hut : u = t
                · subst hut; rw [if_pos (by omega)]; exact kt_uL_eq
                · rw [kt_if1 hut]; exact kt_uL_nj hut (kt_uL_na (by omega) (kt_uL_na (by omega) (by rw [z2 _ (by omega)]; exact g4 u hu)))
              · refine kt_uL_na (by omega) (kt_uL_na (by omega) (kt_uL_na (by omega) ?_))
                by_cases hut : u = t
                · subst hut
                  rw [if_pos (by omega), kt_uL_eq, kS_and, kS_or]
                  refine kS_cg (fun e _ => ?_)
                  rw [xSy_apo, decide_eq_true (show u < xT Y by omega), Bool.true_and]
                · rw [kt_if1 hut]; exact kt_uL_nj hut (by rw [z2 _ (by omega)]; exact g5 u hu)
              · by_cases hut : u = t
                · subst hut; rw [if_pos (by omega)]; exact kt_uL_eq
                · rw [kt_if1 hut]; exact kt_uL_nj hut (kt_uL_na (by omega) (kt_uL_na (by omega) (kt_uL_na (by omega) (by rw [z2 _ (by omega)]; exact g6 u hu))))
          · first
            | exfalso; omega
            | skip
              refine kw_ald_n x_C_thinkAnew_21 rfl ?_
              refine kw_gr x_C_thinkAnew_22 (by exact isC_k hC) (by exact isC_r9 hC) ?_
              refine kw_ild_n x_C_thinkAnew_25 rfl ?_
              refine kw_lald_n x_C_thinkAnew_26 (by first | exact isC_a13 hC | exact isC_a14 hC | exact isC_a15 hC | exact isC_a16 hC | exact isC_a17 hC) (by omega) (by omega) (by first | exact c2 | exact c3 | exact c10 | exact j10 | exact j14 | exact w13 | exact w11 | exact z5 | exact kt_uL_na (by omega) (w10) | exact kt_uL_na (by omega) (z4) | exact kt_uL_na (by omega) (z5) | exact kt_uL_na (by omega) (kt_uL_na (by omega) (w10)) | exact kt_uL_na (by omega) (kt_uL_na (by omega) (z4)) | exact kt_uL_na (by omega) (kt_uL_na (by omega) (z5)) | exact kt_uL_na (by omega) (kt_uL_na (by omega) (kt_uL_na (by omega) (w10))) | exact kt_uL_na (by omega) (kt_uL_na (by omega) (kt_uL_na (by omega) (z4))) | exact kt_uL_na (by omega) (kt_uL_na (by omega) (kt_uL_na (by omega) (z5))) | exact rfl) ?_
              refine kw_ald_n x_C_thinkAnew_27 rfl ?_
              refine kw_gr x_C_thinkAnew_28 (by exact isC_k hC) (by exact isC_r5 hC) ?_
              refine kw_ild_n x_C_thinkAnew_31 rfl ?_
              refine kw_lald_n x_C_thinkAnew_32 (by first | exact isC_a13 hC | exact isC_a14 hC | exact isC_a15 hC | exact isC_a16 hC | exact isC_a17 hC) (by omega) (by omega) (by first | exact c2 | exact c3 | exact c10 | exact j10 | exact j14 | exact w13 | exact w11 | exact z5 | exact kt_uL_na (by omega) (w10) | exact kt_uL_na (by omega) (z4) | exact kt_uL_na (by omega) (z5) | exact kt_uL_na (by omega) (kt_uL_na (by omega) (w10)) | exact kt_uL_na (by omega) (kt_uL_na (by omega) (z4)) | exact kt_uL_na (by omega) (kt_uL_na (by omega) (z5)) | exact kt_uL_na (by omega) (kt_uL_na (by omega) (kt_uL_na (by omega) (w10))) | exact kt_uL_na (by omega) (kt_uL_na (by omega) (kt_uL_na (by omega) (z4))) | exact kt_uL_na (by omega) (kt_uL_na (by omega) (kt_uL_na (by omega) (z5))) | exact rfl) ?_
              refine kw_lcmp x_C_thinkAnew_33 ?_
              first | refine kw_if_eq_b x_C_thinkAnew_34 (fun h34 => ?_) (fun h34 => ?_) | refine kw_if_eq_n x_C_thinkAnew_34 (by omega) (fun h34 => ?_) (fun h34 => ?_) | refine kw_if_eq x_C_thinkAnew_34 (fun h34 => ?_) (fun h34 => ?_)
              · first
                | exfalso; omega
                | skip
                  first | refine kw_iinc_n x_C_thinkAnew_119 (by decide) rfl ?_ | refine kw_iinc x_C_thinkAnew_119 (by decide) rfl ?_
                  refine kw_goto x_C_thinkAnew_122 ?_
                  have hsk := kt_sk_of (by omega) hev hnY (kt_lg0.mp h34)
                  have hxa := fun e => xac_sk hev hsk e
                  refine ih (t + 1) I1 J1 (by omega) (hth.skip (kS_cg (fun e _ => (hxa e).1.symm)) (kS_cg (fun e _ => (hxa e).2.symm)) (kS_cg (fun e _ => ?_)) (kt_lg0.mp h34))
                  rw [xSy_apo, (hxa e).2]
                  have hex : (xac X t e && xRf X t e) = false := by
                    unfold xac xRf
                    by_cases hq : xst X t e = 0
                    · rw [hq]; simp
                    · rw [decide_eq_false hq]; simp
                  rw [hex, Bool.and_false, Bool.or_false]
              · first
                | exfalso; omega
                | skip
                  refine kw_ald_n x_C_thinkAnew_37 rfl ?_
                  refine kw_gr x_C_thinkAnew_38 (by exact isC_k hC) (by exact isC_r0 hC) ?_
                  refine kw_ald_n x_C_thinkAnew_41 rfl ?_
                  refine kw_gr x_C_thinkAnew_42 (by exact isC_k hC) (by exact isC_r1 hC) ?_
                  refine kw_ald_n x_C_thinkAnew_45 rfl ?_
                  refine kw_gr x_C_thinkAnew_46 (by exact isC_k hC) (by exact isC_r5 hC) ?_
                  refine kw_ild_n x_C_thinkAnew_49 rfl ?_
                  refine kw_lald_n x_C_thinkAnew_50 (by first | exact isC_a13 hC | exact isC_a14 hC | exact isC_a15 hC | exact isC_a16 hC | exact isC_a17 hC) (by omega) (by omega) (by first | exact c2 | exact c3 | exact c10 | exact j10 | exact j14 | exact w13 | exact w11 | exact z5 | exact kt_uL_na (by omega) (w10) | exact kt_uL_na (by omega) (z4) | exact kt_uL_na (by omega) (z5) | exact kt_uL_na (by omega) (kt_uL_na (by omega) (w10)) | exact kt_uL_na (by omega) (kt_uL_na (by omega) (z4)) | exact kt_uL_na (by omega) (kt_uL_na (by omega) (z5)) | exact kt_uL_na (by omega) (kt_uL_na (by omega) (kt_uL_na (by omega) (w10))) | exact kt_uL_na (by omega) (kt_uL_na (by omega) (kt_uL_na (by omega) (z4))) | exact kt_uL_na (by omega) (kt_uL_na (by omega) (kt_uL_na (by omega) (z5))) | exact rfl) ?_
                  refine kw_ald_n x_C_thinkAnew_51 rfl ?_
                  refine kw_gi_e x_C_thinkAnew_52 (by exact isC_k hC) (by first | exact c2 | exact c3 | exact c10 | exact j10 | exact j14 | exact w13 | exact w11 | exact z5 | exact kt_uL_na (by omega) (w10) | exact kt_uL_na (by omega) (z4) | exact kt_uL_na (by omega) (z5) | exact kt_uL_na (by omega) (kt_uL_na (by omega) (w10)) | exact kt_uL_na (by omega) (kt_uL_na (by omega) (z4)) | exact kt_uL_na (by omega) (kt_uL_na (by omega) (z5)) | exact kt_uL_na (by omega) (kt_uL_na (by omega) (kt_uL_na (by omega) (w10))) | exact kt_uL_na (by omega) (kt_uL_na (by omega) (kt_uL_na (by omega) (z4))) | exact kt_uL_na (by omega) (kt_uL_na (by omega) (kt_uL_na (by omega) (z5))) | exact rfl) ?_
                  refine c_C_thinkAnew_55 (by exact isL_k hL) (Nat.le_of_ble_eq_true rfl) ?_
                  refine s_L_lookAtAll hC hL hV1 hWY hlc (fun I2 J2 z1 z2 z4 z5 => ?_)
                  have w10 : J2 (c + 13) t = kS (xK Y t) := (by rw [z2 _ (by omega)]; exact j10)
                  have w11 : J2 (c + 14) t = kS (xac X t) := (by rw [z2 _ (by omega), g3 t (by omega), if_neg (by omega)])
                  have w13 : J2 (c + 16) t = kS (xSy Y t) := (by rw [z2 _ (by omega), g5 t (by omega), if_neg (by omega)])
                  refine kw_ald_n x_C_thinkAnew_58 rfl ?_
                  refine kw_gr x_C_thinkAnew_59 (by exact isC_k hC) (by exact isC_r8 hC) ?_
                  refine kw_ild_n x_C_thinkAnew_62 rfl ?_
                  refine kw_dup2 x_C_thinkAnew_63 rfl rfl ?_
                  refine kw_lald_n x_C_thinkAnew_64 (by first | exact isC_a13 hC | exact isC_a14 hC | exact isC_a15 hC | exact isC_a16 hC | exact isC_a17 hC) (by omega) (by omega) (by first | exact c2 | exact c3 | exact c10 | exact j10 | exact j14 | exact w13 | exact w11 | exact z5 | exact kt_uL_na (by omega) (w10) | exact kt_uL_na (by omega) (z4) | exact kt_uL_na (by omega) (z5) | exact kt_uL_na (by omega) (kt_uL_na (by omega) (w10)) | exact kt_uL_na (by omega) (kt_uL_na (by omega) (z4)) | exact kt_uL_na (by omega) (kt_uL_na (by omega) (z5)) | exact kt_uL_na (by omega) (kt_uL_na (by omega) (kt_uL_na (by omega) (w10))) | exact kt_uL_na (by omega) (kt_uL_na (by omega) (kt_uL_na (by omega) (z4))) | exact kt_uL_na (by omega) (kt_uL_na (by omega) (kt_uL_na (by omega) (z5))) | exact rfl) ?_
                  refine kw_ald_n x_C_thinkAnew_65 rfl ?_
                  refine kw_gr x_C_thinkAnew_66 (by exact isC_k hC) (by exact isC_r6 hC) ?_
                  refine kw_ild_n x_C_thinkAnew_69 rfl ?_
                  refine kw_lald_n x_C_thinkAnew_70 (by first | exact isC_a13 hC | exact isC_a14 hC | exact isC_a15 hC | exact isC_a16 hC | exact isC_a17 hC) (by omega) (by omega) (by first | exact c2 | exact c3 | exact c10 | exact j10 | exact j14 | exact w13 | exact w11 | exact z5 | exact kt_uL_na (by omega) (w10) | exact kt_uL_na (by omega) (z4) | exact kt_uL_na (by omega) (z5) | exact kt_uL_na (by omega) (kt_uL_na (by omega) (w10)) | exact kt_uL_na (by omega) (kt_uL_na (by omega) (z4)) | exact kt_uL_na (by omega) (kt_uL_na (by omega) (z5)) | exact kt_uL_na (by omega) (kt_uL_na (by omega) (kt_uL_na (by omega) (w10))) | exact kt_uL_na (by omega) (kt_uL_na (by omega) (kt_uL_na (by omega) (z4))) | exact kt_uL_na (by omega) (kt_uL_na (by omega) (kt_uL_na (by omega) (z5))) | exact rfl) ?_
                  refine kw_ald_n x_C_thinkAnew_71 rfl ?_
                  refine kw_gr x_C_thinkAnew_72 (by exact isC_k hC) (by exact isC_r0 hC) ?_
                  refine kw_gl_e x_C_thinkAnew_75 (by exact isL_k hL) (by first | exact c2 | exact c3 | exact c10 | exact j10 | exact j14 | exact w13 | exact w11 | exact z5 | exact kt_uL_na (by omega) (w10) | exact kt_uL_na (by omega) (z4) | exact kt_uL_na (by omega) (z5) | exact kt_uL_na (by omega) (kt_uL_na (by omega) (w10)) | exact kt_uL_na (by omega) (kt_uL_na (by omega) (z4)) | exact kt_uL_na (by omega) (kt_uL_na (by omega) (z5)) | exact kt_uL_na (by omega) (kt_uL_na (by omega) (kt_uL_na (by omega) (w10))) | exact kt_uL_na (by omega) (kt_uL_na (by omega) (kt_uL_na (by omega) (z4))) | exact kt_uL_na (by omega) (kt_uL_na (by omega) (kt_uL_na (by omega) (z5))) | exact rfl) ?_
                  refine kw_land x_C_thinkAnew_78 ?_
                  refine kw_lor x_C_thinkAnew_79 ?_
                  refine kw_last_n x_C_thinkAnew_80 (by first | exact isC_a13 hC | exact isC_a14 hC | exact isC_a15 hC | exact isC_a16 hC | exact isC_a17 hC) (by omega) (by omega) ?_
                  refine kw_ald_n x_C_thinkAnew_81 rfl ?_
                  refine kw_gr x_C_thinkAnew_82 (by exact isC_k hC) (by exact isC_r6 hC) ?_
                  refine kw_ild_n x_C_thinkAnew_85 rfl ?_
                  refine kw_ald_n x_C_thinkAnew_86 rfl ?_
                  refine kw_gr x_C_thinkAnew_87 (by exact isC_k hC) (by exact isC_r0 hC) ?_
                  refine kw_gl_e x_C_thinkAnew_90 (by exact isL_k hL) (by first | exact c2 | exact c3 | exact c10 | exact j10 | exact j14 | exact w13 | exact w11 | exact z5 | exact kt_uL_na (by omega) (w10) | exact kt_uL_na (by omega) (z4) | exact kt_uL_na (by omega) (z5) | exact kt_uL_na (by omega) (kt_uL_na (by omega) (w10)) | exact kt_uL_na (by omega) (kt_uL_na (by omega) (z4)) | exact kt_uL_na (by omega) (kt_uL_na (by omega) (z5)) | exact kt_uL_na (by omega) (kt_uL_na (by omega) (kt_uL_na (by omega) (w10))) | exact kt_uL_na (by omega) (kt_uL_na (by omega) (kt_uL_na (by omega) (z4))) | exact kt_uL_na (by omega) (kt_uL_na (by omega) (kt_uL_na (by omega) (z5))) | exact rfl) ?_
                  refine kw_last_n x_C_thinkAnew_93 (by first | exact isC_a13 hC | exact isC_a14 hC | exact isC_a15 hC | exact isC_a16 hC | exact isC_a17 hC) (by omega) (by omega) ?_
                  refine kw_ald_n x_C_thinkAnew_94 rfl ?_
                  refine kw_gr x_C_thinkAnew_95 (by exact isC_k hC) (by exact isC_r7 hC) ?_
                  refine kw_ild_n x_C_thinkAnew_98 rfl ?_
                  refine kw_ald_n x_C_thinkAnew_99 rfl ?_
                  refine kw_gr x_C_thinkAnew_100 (by exact isC_k hC) (by exact isC_r0 hC) ?_
                  refine kw_gl_e x_C_thinkAnew_103 (by exact isL_k hL) (by first | exact c2 | exact c3 | exact c10 | exact j10 | exact j14 | exact w13 | exact w11 | exact z5 | exact kt_uL_na (by omega) (w10) | exact kt_uL_na (by omega) (z4) | exact kt_uL_na (by omega) (z5) | exact kt_uL_na (by omega) (kt_uL_na (by omega) (w10)) | exact kt_uL_na (by omega) (kt_uL_na (by omega) (z4)) | exact kt_uL_na (by omega) (kt_uL_na (by omega) (z5)) | exact kt_uL_na (by omega) (kt_uL_na (by omega) (kt_uL_na (by omega) (w10))) | exact kt_uL_na (by omega) (kt_uL_na (by omega) (kt_uL_na (by omega) (z4))) | exact kt_uL_na (by omega) (kt_uL_na (by omega) (kt_uL_na (by omega) (z5))) | exact rfl) ?_
                  refine kw_last_n x_C_thinkAnew_106 (by first | exact isC_a13 hC | exact isC_a14 hC | exact isC_a15 hC | exact isC_a16 hC | exact isC_a17 hC) (by omega) (by omega) ?_
                  refine kw_ald_n x_C_thinkAnew_107 rfl ?_
                  refine kw_gr x_C_thinkAnew_108 (by exact isC_k hC) (by exact isC_r9 hC) ?_
                  refine kw_ild_n x_C_thinkAnew_111 rfl ?_
                  refine kw_ald_n x_C_thinkAnew_112 rfl ?_
                  refine kw_gr x_C_thinkAnew_113 (by exact isC_k hC) (by exact isC_r5 hC) ?_
                  refine kw_ild_n x_C_thinkAnew_116 rfl ?_
                  refine kw_lald_n x_C_thinkAnew_117 (by first | exact isC_a13 hC | exact isC_a14 hC | exact isC_a15 hC | exact isC_a16 hC | exact isC_a17 hC) (by omega) (by omega) (by first | exact c2 | exact c3 | exact c10 | exact j10 | exact j14 | exact w13 | exact w11 | exact z5 | exact kt_uL_na (by omega) (w10) | exact kt_uL_na (by omega) (z4) | exact kt_uL_na (by omega) (z5) | exact kt_uL_na (by omega) (kt_uL_na (by omega) (w10)) | exact kt_uL_na (by omega) (kt_uL_na (by omega) (z4)) | exact kt_uL_na (by omega) (kt_uL_na (by omega) (z5)) | exact kt_uL_na (by omega) (kt_uL_na (by omega) (kt_uL_na (by omega) (w10))) | exact kt_uL_na (by omega) (kt_uL_na (by omega) (kt_uL_na (by omega) (z4))) | exact kt_uL_na (by omega) (kt_uL_na (by omega) (kt_uL_na (by omega) (z5))) | exact rfl) ?_
                  refine kw_last_n x_C_thinkAnew_118 (by first | exact isC_a13 hC | exact isC_a14 hC | exact isC_a15 hC | exact isC_a16 hC | exact isC_a17 hC) (by omega) (by omega) ?_
                  first | refine kw_iinc_n x_C_thinkAnew_119 (by decide) rfl ?_ | refine kw_iinc x_C_thinkAnew_119 (by decide) rfl ?_
                  refine kw_goto x_C_thinkAnew_122 ?_
                  refine ih (t + 1) I2 _ (by omega) ⟨fun a ha => by rw [z1 a ha]; exact g1 a ha, fun a h1 h2 => by rw [kt_uL_ne _ _ _ (by omega), kt_uL_ne _ _ _ (by omega), kt_uL_ne _ _ _ (by omega), kt_uL_ne _ _ _ (by omega), z2 a h2]; exact g2 a h1 h2, fun u hu => ?_, fun u hu => ?_, fun u hu => ?_, fun u hu => ?_⟩
                  · refine kt_uL_na (by omega) (kt_uL_na (by omega) ?_)
                    by_cases hut : u = t
                    · subst hut; rw [if_pos (by omega)]; exact kt_uL_eq
                    · rw [kt_if1 hut]; exact kt_uL_nj hut (kt_uL_na (by omega) (by rw [z2 _ (by omega)]; exact g3 u hu))
                  · refine kt_uL_na (by omega) ?_
                    by_cases hut : u = t
                    · subst hut; rw [if_pos (by omega)]; exact kt_uL_eq
                    · rw [kt_if1 hut]; exact kt_uL_nj hut (kt_uL_na (by omega) (kt_uL_na (by omega) (by rw [z2 _ (by omega)]; exact g4 u hu)))
                  · refine kt_uL_na (by omega) (kt_uL_na (by omega) (kt_uL_na (by omega) ?_))
                    by_cases hut : u = t
                    · subst hut
                      rw [if_pos (by omega), kt_uL_eq, kS_and, kS_or]
                      refine kS_cg (fun e _ => ?_)
                      rw [xSy_apo, decide_eq_true (show u < xT Y by omega), Bool.true_and]
                    · rw [kt_if1 hut]; exact kt_uL_nj hut (by rw [z2 _ (by omega)]; exact g5 u hu)
                  · by_cases hut : u = t
                    · subst hut; rw [if_pos (by omega)]; exact kt_uL_eq
                    · rw [kt_if1 hut]; exact kt_uL_nj hut (kt_uL_na (by omega) (kt_uL_na (by omega) (kt_uL_na (by omega) (by rw [z2 _ (by omega)]; exact g6 u hu))))
  refine kw_icon x_C_thinkAnew_0 ?_
  refine kw_ist_n x_C_thinkAnew_1 (by decide) ?_
  exact loop (xT Y) 0 I J (by omega) ⟨fun _ _ => rfl, fun _ _ _ => rfl, o11, o12, b13, o14⟩
end CT
