/-! the class: undo, the text, its faults, playing it -/
theorem xapo_self (Y : kt_X) : xapo Y Y = Y := by
  refine kt_x7 (kt_apo7 Y Y) (fun e => ?_)
  apply Nat.eq_of_testBit_eq
  intro u
  show (xe (xat (xac Y) (xT Y) Y).1 e 8).testBit u = _
  rw [xat_bit]
  have h3 := xac_ex Y u e
  unfold xRf at h3
  have h4 : (decide (e < xn Y) && xac Y u e && decide (xst Y u e = 1)) = false := by
    cases hx : xac Y u e
    · simp
    · rw [hx, Bool.true_and] at h3
      rw [Bool.and_true]
      exact h3
  cases hd : decide (u < xT Y)
  · simp
  · rw [Bool.true_and, h4, Bool.or_false]
theorem kt_ev_self (Y : kt_X) : kt_ev Y Y := ⟨Nat.le_refl _, Nat.le_refl _, fun _ _ _ _ => rfl⟩
def xsu (q j : Nat) : Nat := if j = 0 then 2 + q else if j = 2 + q then 0 else j
theorem xsu_i {q i j : Nat} (h : xsu q i = xsu q j) : i = j := by
  unfold xsu at h
  repeat' split at h
  all_goals omega
theorem xsu_6 {q j : Nat} (hn : q < 4) (hj : j < 6) : xsu q j < 6 := by
  unfold xsu
  repeat' split
  all_goals omega
def xsx (j : Nat) : Nat := if j = 0 then 1 else if j = 1 then 0 else j
theorem xsx_i {i j : Nat} (h : xsx i = xsx j) : i = j := by
  unfold xsx at h
  repeat' split at h
  all_goals omega
theorem xsx_6 {j : Nat} (hj : j < 6) : xsx j < 6 := by
  unfold xsx
  repeat' split
  all_goals omega
section KT
variable {P : kt_P} {N : Nat} {I : kt_I} {J : kt_J} {R : kt_R} {Q : Option Value → kt_I → kt_J → kt_R → Prop} {z np ty : Nat} {tx : Nat → Nat} {PX : Nat → kt_X} {X : kt_X}
theorem kt_KM.fs {g : Nat → Nat} {I1 I2 : kt_I} {J1 J2 : kt_J} (hK : kt_isK P N R z g) (hM : kt_KM z g np PX X ty tx I1 J1) (h1 : kt_fs (z + 2) (g 1 + 1) (g 1) I1 I2) (h2 : kt_fx (g 1 + 1) (g 1) J1 J2) : kt_KM z g np PX X ty tx I2 J2 := by
  obtain ⟨m1, m2, m3, m4, m5, m6⟩ := hM
  have hb := isK_b hK 1 (by decide)
  have key : ∀ j, j < 6 → j ≠ 1 → ∀ a, (a = g j ∨ g j + 4 ≤ a) → a ≤ g j + 17 → I2 a = I1 a ∧ J2 a = J1 a := fun j hj hne a q1 q2 => by
    have hbj := isK_b hK j hj
    have hd := isK_d hK j 1 hj (by decide) hne
    exact ⟨h1.1 a (by omega) (by omega) (by omega) (by omega), h2 a (by omega) (by omega)⟩
  exact ⟨by rw [h1.1 z (by omega) (by omega) (by omega) (by omega)]; exact m1, m2, h1.sx (by omega) (by omega) m3, m4.ext (key 0 (by decide) (by decide)), m5.ext (key 0 (by decide) (by decide)), fun j hj => ⟨(m6 j hj).1.ext (key (2 + j) (by omega) (by omega)), (m6 j hj).2.ext (key (2 + j) (by omega) (by omega))⟩⟩
theorem kt_KM.u1 {g : Nat → Nat} {a j : Nat} {v : Int32} (hK : kt_isK P N R z g) (hM : kt_KM z g np PX X ty tx I J) {np' ty' : Nat} {tx' : Nat → Nat} (ha : a < z + 5) (h1 : kt_u1 I a j v z 3 = nI np) (h2 : kt_sx (z + 2) ty' tx' (kt_u1 I a j v)) : kt_KM z g np PX X ty' tx' (kt_u1 I a j v) J := by
  obtain ⟨m1, m2, m3, m4, m5, m6⟩ := hM
  have hb := fun j hj => isK_b hK j hj
  exact ⟨h1, m2, h2, m4.u1 (by have := hb 0 (by decide); omega), m5.u1 (by have := hb 0 (by decide); omega), fun j hj => ⟨(m6 j hj).1.u1 (by have := hb (2 + j) (by omega); omega), (m6 j hj).2.u1 (by have := hb (2 + j) (by omega); omega)⟩⟩
theorem s_K_undo (hKS : kt_KS P N z np PX X ty tx I J R) (hW : kt_wf X) (k0 : np = 0 → ∀ I' J' R', kt_ok P N z np PX X ty tx I J R I' J' R' → Q (some (.int (-2))) I' J' R') (k : ∀ q, np = q + 1 → ∀ I' J' R', kt_ok P N z q PX (PX q) ty tx I J R I' J' R' → Q (some (.int (nI q))) I' J' R') : KW P i_K_undo N 0 [some (.ref z), none] [] N I J R Q := by
  obtain ⟨g, hK, hM0⟩ := hKS
  have hn := hW.2.2.1
  have hC := isK_C hK 0 (by decide)
  have hD := isK_C hK 1 (by decide)
  have hS := isK_S hK
  have hL := isK_L hK 1 (by decide)
  have hb0 := isK_b hK 0 (by decide)
  have hb1 := isK_b hK 1 (by decide)
  have hd01 := isK_d hK 0 1 (by decide) (by decide) (by decide)
  have hnp := hM0.1
  have hnp4 := hM0.2.1
  have hx := hM0.2.2.1
  have hty := hx.2.1
  have hh := isK_h hK
  by_cases h0 : np = 0
  · subst h0
    refine kw_ald_n x_K_undo_0 rfl ?_
    refine kw_gi_e x_K_undo_1 (by exact isK_k hK) (by first | exact hnp | exact kt_u1_eq | exact hh _ (by omega) | exact rfl) ?_
    refine kw_icon x_K_undo_4 ?_
    first | refine kw_isub_n x_K_undo_5 (by omega) ?_ | refine kw_isub x_K_undo_5 ?_
    refine kw_icon x_K_undo_6 ?_
    refine c_K_undo_7 (Nat.le_of_ble_eq_true rfl) ?_
    refine s_K_isBelow (b := 4) ?_
    first | refine kw_if_ne_b x_K_undo_10 (fun h10 => ?_) (fun h10 => ?_) | refine kw_if_ne_s x_K_undo_10 ⟨by omega, by omega⟩ (fun h10 => ?_) (fun h10 => ?_) | refine kw_if_ne_n x_K_undo_10 (by omega) (fun h10 => ?_) (fun h10 => ?_) | refine kw_if_ne x_K_undo_10 (fun h10 => ?_) (fun h10 => ?_)
    · exfalso; first | exact absurd h10 (by decide) | omega | contradiction | exact absurd (by decide) h10 | exact absurd h10 (by decide)
    · skip
      refine kw_bip x_K_undo_13 ?_
      refine kw_iret x_K_undo_15 ?_
      exact k0 rfl I J R ⟨⟨g, hK, hM0⟩, kt_up.rf, kt_up.rf, kt_up.rf⟩
  · obtain ⟨q, rfl⟩ : ∃ q, np = q + 1 := ⟨np - 1, by omega⟩
    refine kw_ald_n x_K_undo_0 rfl ?_
    refine kw_gi_e x_K_undo_1 (by exact isK_k hK) (by first | exact hnp | exact kt_u1_eq | exact hh q (by omega) | exact rfl) ?_
    refine kw_icon x_K_undo_4 ?_
    first | refine kw_isub_n x_K_undo_5 (by omega) ?_ | refine kw_isub x_K_undo_5 ?_
    refine kw_icon x_K_undo_6 ?_
    refine c_K_undo_7 (Nat.le_of_ble_eq_true rfl) ?_
    refine s_K_isBelow (b := 4) ?_
    first | refine kw_if_ne_b x_K_undo_10 (fun h10 => ?_) (fun h10 => ?_) | refine kw_if_ne_s x_K_undo_10 ⟨by omega, by omega⟩ (fun h10 => ?_) (fun h10 => ?_) | refine kw_if_ne_n x_K_undo_10 (by omega) (fun h10 => ?_) (fun h10 => ?_) | refine kw_if_ne x_K_undo_10 (fun h10 => ?_) (fun h10 => ?_)
    · skip
      refine kw_ald_n x_K_undo_16 rfl ?_
      refine kw_dup x_K_undo_17 rfl ?_
      refine kw_gi_e x_K_undo_18 (by exact isK_k hK) (by first | exact hnp | exact kt_u1_eq | exact hh q (by omega) | exact rfl) ?_
      refine kw_icon x_K_undo_21 ?_
      first | refine kw_isub_n x_K_undo_22 (by omega) ?_ | refine kw_isub x_K_undo_22 ?_
      refine kw_pi x_K_undo_23 (by exact isK_k hK) ?_
      refine kw_ald_n x_K_undo_26 rfl ?_
      refine kw_gr x_K_undo_27 (by exact isK_k hK) (by first | exact isK_r2 hK | exact kt_uR_na (by omega) (isK_r2 hK) | exact kt_uR_nj (by decide) (isK_r2 hK) | exact kt_uR_na (by omega) (kt_uR_na (by omega) (isK_r2 hK)) | exact kt_uR_na (by omega) (kt_uR_nj (by decide) (isK_r2 hK)) | exact kt_uR_nj (by decide) (kt_uR_na (by omega) (isK_r2 hK)) | exact kt_uR_nj (by decide) (kt_uR_nj (by decide) (isK_r2 hK))) ?_
      refine kw_ald_n x_K_undo_30 rfl ?_
      refine kw_gi_e x_K_undo_31 (by exact isK_k hK) (by first | exact hnp | exact kt_u1_eq | exact hh q (by omega) | exact rfl) ?_
      have hq1 : q + 1 - 1 = q := (by omega)
      refine kw_aald_n x_K_undo_34 (by exact isK_a1 hK) (by omega) (by omega) (by first | exact hnp | exact kt_u1_eq | exact hh q (by omega)) ?_
      refine kw_ast_n x_K_undo_35 (by decide) ?_
      refine kw_ald_n x_K_undo_36 rfl ?_
      refine kw_gr x_K_undo_37 (by exact isK_k hK) (by first | exact isK_r2 hK | exact kt_uR_na (by omega) (isK_r2 hK) | exact kt_uR_nj (by decide) (isK_r2 hK) | exact kt_uR_na (by omega) (kt_uR_na (by omega) (isK_r2 hK)) | exact kt_uR_na (by omega) (kt_uR_nj (by decide) (isK_r2 hK)) | exact kt_uR_nj (by decide) (kt_uR_na (by omega) (isK_r2 hK)) | exact kt_uR_nj (by decide) (kt_uR_nj (by decide) (isK_r2 hK))) ?_
      refine kw_ald_n x_K_undo_40 rfl ?_
      refine kw_gi_e x_K_undo_41 (by exact isK_k hK) (by first | exact hnp | exact kt_u1_eq | exact hh q (by omega) | exact rfl) ?_
      refine kw_ald_n x_K_undo_44 rfl ?_
      refine kw_gr x_K_undo_45 (by exact isK_k hK) (by first | exact isK_r0 hK | exact kt_uR_na (by omega) (isK_r0 hK) | exact kt_uR_nj (by decide) (isK_r0 hK) | exact kt_uR_na (by omega) (kt_uR_na (by omega) (isK_r0 hK)) | exact kt_uR_na (by omega) (kt_uR_nj (by decide) (isK_r0 hK)) | exact kt_uR_nj (by decide) (kt_uR_na (by omega) (isK_r0 hK)) | exact kt_uR_nj (by decide) (kt_uR_nj (by decide) (isK_r0 hK))) ?_
      refine kw_aast_n x_K_undo_48 (by exact isK_a1 hK) (by exact isC_k hC) (by omega) (by omega) ?_
      refine kw_ald_n x_K_undo_49 rfl ?_
      refine kw_ald_n x_K_undo_50 rfl ?_
      refine kw_pr x_K_undo_51 (by exact isK_k hK) ?_
      refine kw_ald_n x_K_undo_54 rfl ?_
      refine kw_gi_e x_K_undo_55 (by exact isK_k hK) (by first | exact hnp | exact kt_u1_eq | exact hh q (by omega) | exact rfl) ?_
      refine kw_iret x_K_undo_58 ?_
      obtain ⟨m1, m2, m3, m4, m5, m6⟩ := hM0
      have hpq := m6 q (by omega)
      have hkk : ∀ j, j < 6 → ∀ a, (a = g j ∨ g j + 4 ≤ a) → a ≤ g j + 17 → kt_u1 I z 3 (nI (q + 1 - 1)) a = I a ∧ J a = J a := fun j hj a q1 q2 => by
        have hbj := isK_b hK j hj
        exact ⟨kt_u1_ne _ _ _ (by omega), rfl⟩
      refine k q rfl (kt_u1 I z 3 (nI (q + 1 - 1))) J _ ⟨⟨fun j => g (xsu q j), hK.perm (xsu q) (fun j hj => ⟨xsu_6 (by omega) hj, rfl⟩) (fun i j _ _ h => xsu_i h) (fun a h1 h2 => by rw [kt_uR_ne _ _ _ h1, kt_uR_ne _ _ _ h2]) ?_ ?_ (fun j hj => kt_uR_nj (by omega) (kt_uR_na (by omega) rfl)) (fun j hj => kt_uR_na (by omega) ?_), kt_u1_eq, by omega, m3.same (kt_u1_na (by omega) rfl) (kt_u1_ne _ _ _ (by omega)), ?_, ?_, fun j hj => ?_⟩, fun a ha => kt_u1_ne _ _ _ (by omega), kt_up.rf, fun a ha => by rw [kt_uR_ne _ _ _ (by omega), kt_uR_ne _ _ _ (by omega)]⟩
      · rw [kt_uR_eq, show xsu q 0 = 2 + q from rfl]
      · refine kt_uR_nj (by decide) (kt_uR_na (by omega) ?_)
        rw [isK_r1 hK, show xsu q 1 = 1 from by unfold xsu; rw [if_neg (by decide), if_neg (by omega)]]
      · by_cases hjq : j = q
        · subst hjq
          rw [show xsu j (2 + j) = 0 from by unfold xsu; rw [if_neg (by omega), if_pos rfl]]
          exact kt_uR_eq
        · rw [show xsu q (2 + j) = 2 + j from by unfold xsu; rw [if_neg (by omega), if_neg (by omega)]]
          exact kt_uR_nj hjq (hh j hj)
      · show kt_B (g (xsu q 0)) _ _ _
        rw [show xsu q 0 = 2 + q from rfl]
        exact hpq.1.ext (hkk _ (by omega))
      · show kt_T (g (xsu q 0)) _ _ _
        rw [show xsu q 0 = 2 + q from rfl]
        exact hpq.2.ext (hkk _ (by omega))
      · show kt_B (g (xsu q (2 + j))) _ _ _ ∧ kt_T (g (xsu q (2 + j))) _ _ _
        rw [show xsu q (2 + j) = 2 + j from by unfold xsu; rw [if_neg (by omega), if_neg (by omega)]]
        have hpj := m6 j (by omega)
        exact ⟨hpj.1.ext (hkk _ (by omega)), hpj.2.ext (hkk _ (by omega))⟩
    · exfalso; first | exact kt_nT (T := 4) (by decide) h10 ⟨q + 1 - 1, by omega, rfl⟩ | omega | contradiction | exact absurd (by decide) h10 | exact absurd h10 (by decide)
theorem s_K_type (hKS : kt_KS P N z np PX X ty tx I J R) (hW : kt_wf X) {a : Int32} (kf : ¬ vR 32 126 a → ∀ I' J' R', kt_ok P N z np PX X ty tx I J R I' J' R' → Q (some (.int (-1))) I' J' R') (kl : vR 32 126 a → ty = 80 → ∀ I' J' R', kt_ok P N z np PX X ty tx I J R I' J' R' → Q (some (.int (-3))) I' J' R')
    (k : ∀ v, a = nI v → 32 ≤ v → v ≤ 126 → ty < 80 → ∀ I' J' R', kt_ok P N z np PX X (ty + 1) (xup tx ty v) I J R I' J' R' → Q (some (.int (nI (ty + 1)))) I' J' R') : KW P i_K_type N 0 [some (.ref z), some (.int a)] [] N I J R Q := by
  obtain ⟨g, hK, hM0⟩ := hKS
  have hn := hW.2.2.1
  have hC := isK_C hK 0 (by decide)
  have hD := isK_C hK 1 (by decide)
  have hS := isK_S hK
  have hL := isK_L hK 1 (by decide)
  have hb0 := isK_b hK 0 (by decide)
  have hb1 := isK_b hK 1 (by decide)
  have hd01 := isK_d hK 0 1 (by decide) (by decide) (by decide)
  have hnp := hM0.1
  have hnp4 := hM0.2.1
  have hx := hM0.2.2.1
  have hty := hx.2.1
  have hh := isK_h hK
  refine kw_ild_n x_K_type_0 rfl ?_
  refine kw_bip x_K_type_1 ?_
  first | refine kw_ic_lt_n x_K_type_3 ⟨by omega, by omega⟩ (fun h3 => ?_) (fun h3 => ?_) | refine kw_ic_lt x_K_type_3 (fun h3 => ?_) (fun h3 => ?_)
  · first
    | exfalso; omega
    | skip
      refine kw_icon x_K_type_12 ?_
      refine kw_iret x_K_type_13 ?_
      refine kf (fun h => ?_) I J R ⟨⟨g, hK, hM0⟩, kt_up.rf, kt_up.rf, kt_up.rf⟩
      have h0 := (kt_isR (by decide) (by decide)).mpr h
      first
        | exact absurd h0.1 (Int32.not_le.mpr h3)
        | exact h9 h0.2
  · first
    | exfalso; omega
    | skip
      refine kw_ild_n x_K_type_6 rfl ?_
      refine kw_bip x_K_type_7 ?_
      first | refine kw_ic_le_n x_K_type_9 ⟨by omega, by omega⟩ (fun h9 => ?_) (fun h9 => ?_) | refine kw_ic_le x_K_type_9 (fun h9 => ?_) (fun h9 => ?_)
      · first
        | exfalso; omega
        | skip
          obtain ⟨v, hv1, hv2, rfl⟩ := (kt_isR (lo := 32) (hi := 126) (by decide) (by decide)).mp ⟨Int32.not_lt.mp h3, h9⟩
          refine kw_ald_n x_K_type_14 rfl ?_
          refine kw_gr x_K_type_15 (by exact isK_k hK) (by exact isK_r4 hK) ?_
          refine kw_gi_e x_K_type_18 (by exact isS_k hS) (by first | exact hx.1 | exact kt_u1_na (by omega) hx.1 | exact kt_u1_eq | exact rfl) ?_
          refine kw_bip x_K_type_21 ?_
          refine c_K_type_23 (Nat.le_of_ble_eq_true rfl) ?_
          refine s_K_isBelow (b := 80) ?_
          first | refine kw_if_ne_b x_K_type_26 (fun h26 => ?_) (fun h26 => ?_) | refine kw_if_ne_s x_K_type_26 ⟨by omega, by omega⟩ (fun h26 => ?_) (fun h26 => ?_) | refine kw_if_ne_n x_K_type_26 (by omega) (fun h26 => ?_) (fun h26 => ?_) | refine kw_if_ne x_K_type_26 (fun h26 => ?_) (fun h26 => ?_)
          · first
            | exfalso; omega
            | skip
              have hlt : ty < 80 := (by
                obtain ⟨e, he, hq⟩ := kt_yT (T := 80) (by decide) h26
                have := kt_inj hq (by omega) (by omega)
                omega)
              refine kw_ald_n x_K_type_32 rfl ?_
              refine kw_gr x_K_type_33 (by exact isK_k hK) (by exact isK_r4 hK) ?_
              refine kw_gr x_K_type_36 (by exact isS_k hS) (by exact isS_r0 hS) ?_
              refine kw_ald_n x_K_type_39 rfl ?_
              refine kw_gr x_K_type_40 (by exact isK_k hK) (by exact isK_r4 hK) ?_
              refine kw_gi_e x_K_type_43 (by exact isS_k hS) (by first | exact hx.1 | exact kt_u1_na (by omega) hx.1 | exact kt_u1_eq | exact rfl) ?_
              refine kw_ild_n x_K_type_46 rfl ?_
              refine kw_iast_n x_K_type_47 (by first | exact isC_a5 hC | exact isC_a6 hC | exact isC_a7 hC | exact isC_a8 hC | exact isC_a9 hC | exact isC_a10 hC | exact isC_a11 hC | exact isC_a12 hC | exact isC_a5 hD | exact isC_a6 hD | exact isC_a7 hD | exact isC_a8 hD | exact isC_a9 hD | exact isC_a10 hD | exact isC_a11 hD | exact isC_a12 hD | exact isL_a1 hL | exact isL_a2 hL | exact isS_a1 hS | exact isS_a2 hS) (by omega) (by omega) ?_
              refine kw_ald_n x_K_type_48 rfl ?_
              refine kw_gr x_K_type_49 (by exact isK_k hK) (by exact isK_r4 hK) ?_
              refine kw_dup x_K_type_52 rfl ?_
              refine kw_gi_e x_K_type_53 (by exact isS_k hS) (by first | exact hx.1 | exact kt_u1_na (by omega) hx.1 | exact kt_u1_eq | exact rfl) ?_
              refine kw_icon x_K_type_56 ?_
              first | refine kw_iadd_n x_K_type_57 ?_ | refine kw_iadd x_K_type_57 ?_
              refine kw_pi x_K_type_58 (by exact isS_k hS) ?_
              refine kw_ald_n x_K_type_61 rfl ?_
              refine kw_gr x_K_type_62 (by exact isK_k hK) (by exact isK_r4 hK) ?_
              refine kw_gi_e x_K_type_65 (by exact isS_k hS) (by first | exact hx.1 | exact kt_u1_na (by omega) hx.1 | exact kt_u1_eq | exact rfl) ?_
              refine kw_iret x_K_type_68 ?_
              refine k v rfl hv1 hv2 hlt _ J R ⟨⟨g, hK, (hM0.u1 hK (np' := np) (ty' := ty) (tx' := tx) (by omega) (kt_u1_na (by omega) hnp) ⟨kt_u1_na (by omega) hx.1, hty, fun j hj => ⟨kt_u1_nj (by omega) (hx.2.2 j hj).1, (hx.2.2 j hj).2⟩⟩).u1 hK (np' := np) (by omega) (kt_u1_na (by omega) (kt_u1_na (by omega) hnp)) ⟨kt_u1_eq, hlt, fun j hj => ?_⟩⟩, fun a ha => by rw [kt_u1_ne _ _ _ (by omega), kt_u1_ne _ _ _ (by omega)], kt_up.rf, kt_up.rf⟩
              by_cases hjt : j = ty
              · subst hjt
                rw [xup_eq]
                exact ⟨kt_u1_na (by omega) kt_u1_eq, hv1, hv2⟩
              · rw [xup_ne _ _ hjt]
                have hxj := hx.2.2 j (by omega)
                exact ⟨kt_u1_na (by omega) (kt_u1_nj hjt hxj.1), hxj.2⟩
          · first
            | exfalso; omega
            | skip
              refine kw_bip x_K_type_29 ?_
              refine kw_iret x_K_type_31 ?_
              exact kl ⟨v, hv1, hv2, rfl⟩ (Nat.le_antisymm hty (Nat.not_lt.mp fun q => kt_nT (T := 80) (by decide) h26 ⟨ty, q, rfl⟩)) I J R ⟨⟨g, hK, hM0⟩, kt_up.rf, kt_up.rf, kt_up.rf⟩
      · first
        | exfalso; omega
        | skip
          refine kw_icon x_K_type_12 ?_
          refine kw_iret x_K_type_13 ?_
          refine kf (fun h => ?_) I J R ⟨⟨g, hK, hM0⟩, kt_up.rf, kt_up.rf, kt_up.rf⟩
          have h0 := (kt_isR (by decide) (by decide)).mpr h
          first
            | exact absurd h0.1 (Int32.not_le.mpr h3)
            | exact h9 h0.2
theorem s_K_clearText (hKS : kt_KS P N z np PX X ty tx I J R) (hW : kt_wf X) (k : ∀ I' J' R', kt_ok P N z np PX X 0 tx I J R I' J' R' → Q (some (.int (nI ty))) I' J' R') : KW P i_K_clearText N 0 [some (.ref z), none] [] N I J R Q := by
  obtain ⟨g, hK, hM0⟩ := hKS
  have hn := hW.2.2.1
  have hC := isK_C hK 0 (by decide)
  have hD := isK_C hK 1 (by decide)
  have hS := isK_S hK
  have hL := isK_L hK 1 (by decide)
  have hb0 := isK_b hK 0 (by decide)
  have hb1 := isK_b hK 1 (by decide)
  have hd01 := isK_d hK 0 1 (by decide) (by decide) (by decide)
  have hnp := hM0.1
  have hnp4 := hM0.2.1
  have hx := hM0.2.2.1
  have hty := hx.2.1
  have hh := isK_h hK
  refine kw_ald_n x_K_clearText_0 rfl ?_
  refine kw_gr x_K_clearText_1 (by exact isK_k hK) (by exact isK_r4 hK) ?_
  refine kw_gi_e x_K_clearText_4 (by exact isS_k hS) (by first | exact hx.1 | exact rfl) ?_
  refine kw_ist_n x_K_clearText_7 (by decide) ?_
  refine kw_ald_n x_K_clearText_8 rfl ?_
  refine kw_gr x_K_clearText_9 (by exact isK_k hK) (by exact isK_r4 hK) ?_
  refine kw_icon x_K_clearText_12 ?_
  refine kw_pi x_K_clearText_13 (by exact isS_k hS) ?_
  refine kw_ild_n x_K_clearText_16 rfl ?_
  refine kw_iret x_K_clearText_17 ?_
  exact k _ J R ⟨⟨g, hK, hM0.u1 hK (np' := np) (by omega) (kt_u1_na (by omega) hnp) ⟨kt_u1_eq, by decide, fun j hj => absurd hj (Nat.not_lt_zero j)⟩⟩, fun a ha => kt_u1_ne _ _ _ (by omega), kt_up.rf, kt_up.rf⟩
theorem s_K_fault (hKS : kt_KS P N z np PX X ty tx I J R) (hW : kt_wf X) {a : Int32} (kf : ¬ vR 0 1 a → ∀ I' J' R', kt_ok P N z np PX X ty tx I J R I' J' R' → Q (some (.int (-1))) I' J' R')
    (k : ∀ w, a = nI w → w ≤ 1 → ∀ I' J' R', kt_ok P N z np PX X ty tx I J R I' J' R' → Q (some (.int (xfa (xrun tx ty 80 0 0 X) w))) I' J' R') : KW P i_K_fault N 0 [some (.ref z), some (.int a)] [] N I J R Q := by
  obtain ⟨g, hK, hM0⟩ := hKS
  have hn := hW.2.2.1
  have hC := isK_C hK 0 (by decide)
  have hD := isK_C hK 1 (by decide)
  have hS := isK_S hK
  have hL := isK_L hK 1 (by decide)
  have hb0 := isK_b hK 0 (by decide)
  have hb1 := isK_b hK 1 (by decide)
  have hd01 := isK_d hK 0 1 (by decide) (by decide) (by decide)
  have hnp := hM0.1
  have hnp4 := hM0.2.1
  have hx := hM0.2.2.1
  have hty := hx.2.1
  have hh := isK_h hK
  have hrb := xrun_b (tx := tx) (ty := ty) 80 0 0 X
  refine kw_ild_n x_K_fault_0 rfl ?_
  refine kw_icon x_K_fault_1 ?_
  refine c_K_fault_2 (Nat.le_of_ble_eq_true rfl) ?_
  refine s_K_isBelow (b := 2) ?_
  first | refine kw_if_ne_b x_K_fault_5 (fun h5 => ?_) (fun h5 => ?_) | refine kw_if_ne_s x_K_fault_5 ⟨by omega, by omega⟩ (fun h5 => ?_) (fun h5 => ?_) | refine kw_if_ne_n x_K_fault_5 (by omega) (fun h5 => ?_) (fun h5 => ?_) | refine kw_if_ne x_K_fault_5 (fun h5 => ?_) (fun h5 => ?_)
  · first
    | exfalso; omega
    | skip
      obtain ⟨w, hw1, hw2, rfl⟩ := vTR (kt_yT (by decide) h5)
      refine kw_ald_n x_K_fault_10 rfl ?_
      refine kw_gr x_K_fault_11 (by exact isK_k hK) (by exact isK_r1 hK) ?_
      refine kw_ald_n x_K_fault_14 rfl ?_
      refine kw_gr x_K_fault_15 (by exact isK_k hK) (by exact isK_r0 hK) ?_
      refine c_K_fault_18 (by first | exact isC_k hC | exact isC_k hD) (Nat.le_of_ble_eq_true rfl) ?_
      refine s_C_copyFrom hC hD hM0.2.2.2.1 hM0.2.2.2.2.1 hn (by omega) (fun I1 J1 u1 u2 u3 u4 => ?_)
      have hM1 := hM0.cp hK u1 u2
      refine kw_ald_n x_K_fault_21 rfl ?_
      refine kw_gr x_K_fault_22 (by exact isK_k hK) (by exact isK_r4 hK) ?_
      refine kw_ald_n x_K_fault_25 rfl ?_
      refine kw_gr x_K_fault_26 (by exact isK_k hK) (by exact isK_r1 hK) ?_
      refine c_K_fault_29 (by exact isS_k hS) (Nat.le_of_ble_eq_true rfl) ?_
      refine s_S_runOn hS hD hL (by omega) (by omega) (by omega) hM1.2.2.1 u3 u4 hW (fun I2 J2 w1 w2 w3 w4 w5 => ?_)
      have hM2 := hM1.fs hK w1 w2
      have hok : kt_ok P N z np PX X ty tx I J R I2 J2 R := ⟨⟨g, hK, hM2⟩, (kt_up.fd hK (by decide) u1).tr (fun a ha => w1.1 a (by omega) (by omega) (by omega) (by omega)), (kt_up.fd hK (by decide) u2).tr (kt_up.fx hK (by decide) w2), kt_up.rf⟩
      have hk := k w rfl hw2 I2 J2 R hok
      unfold xfa at hk
      refine kw_ald_n x_K_fault_32 rfl ?_
      refine kw_gr x_K_fault_33 (by exact isK_k hK) (by exact isK_r4 hK) ?_
      refine kw_gi_e x_K_fault_36 (by exact isS_k hS) (by first | exact w3 | exact w4 | exact rfl) ?_
      first | refine kw_if_ne_b x_K_fault_39 (fun h39 => ?_) (fun h39 => ?_) | refine kw_if_ne_s x_K_fault_39 ⟨by omega, by omega⟩ (fun h39 => ?_) (fun h39 => ?_) | refine kw_if_ne_n x_K_fault_39 (by omega) (fun h39 => ?_) (fun h39 => ?_) | refine kw_if_ne x_K_fault_39 (fun h39 => ?_) (fun h39 => ?_)
      · first
        | exfalso; omega
        | skip
          refine kw_ild_n x_K_fault_45 rfl ?_
          first | refine kw_if_ne_b x_K_fault_46 (fun h46 => ?_) (fun h46 => ?_) | refine kw_if_ne_s x_K_fault_46 ⟨by omega, by omega⟩ (fun h46 => ?_) (fun h46 => ?_) | refine kw_if_ne_n x_K_fault_46 (by omega) (fun h46 => ?_) (fun h46 => ?_) | refine kw_if_ne x_K_fault_46 (fun h46 => ?_) (fun h46 => ?_)
          · first
            | exfalso; omega
            | skip
              refine kw_ald_n x_K_fault_59 rfl ?_
              refine kw_gr x_K_fault_60 (by exact isK_k hK) (by exact isK_r4 hK) ?_
              refine kw_gi_e x_K_fault_63 (by exact isS_k hS) (by first | exact w3 | exact w4 | exact rfl) ?_
              refine kw_iret x_K_fault_66 ?_
              first
                | (rw [if_neg (by omega), if_pos (by omega)] at hk; exact hk)
                | (rw [if_neg (by omega), if_neg (by omega)] at hk; exact hk)
          · first
            | exfalso; omega
            | skip
              refine kw_ald_n x_K_fault_49 rfl ?_
              refine kw_gr x_K_fault_50 (by exact isK_k hK) (by exact isK_r4 hK) ?_
              refine kw_gi_e x_K_fault_53 (by exact isS_k hS) (by first | exact w3 | exact w4 | exact rfl) ?_
              refine kw_goto x_K_fault_56 ?_
              refine kw_iret x_K_fault_66 ?_
              first
                | (rw [if_neg (by omega), if_pos (by omega)] at hk; exact hk)
                | (rw [if_neg (by omega), if_neg (by omega)] at hk; exact hk)
      · first
        | exfalso; omega
        | skip
          refine kw_bip x_K_fault_42 ?_
          refine kw_iret x_K_fault_44 ?_
          rw [if_pos (by omega)] at hk
          exact hk
  · first
    | exfalso; omega
    | skip
      refine kw_icon x_K_fault_8 ?_
      refine kw_iret x_K_fault_9 ?_
      exact kf (fun h => kt_nT (by decide) h5 (vRT h)) I J R ⟨⟨g, hK, hM0⟩, kt_up.rf, kt_up.rf, kt_up.rf⟩
theorem s_K_play (hKS : kt_KS P N z np PX X ty tx I J R) (hW : kt_wf X) (k0 : (xrun tx ty 80 0 0 X).2.1 ≠ 0 → ∀ I' J' R', kt_ok P N z np PX X ty tx I J R I' J' R' → Q (some (.int (-2))) I' J' R')
    (k : (xrun tx ty 80 0 0 X).2.1 = 0 → ∀ I' J' R', kt_ok P N z (xpn np) (xpp np PX X) (xrun tx ty 80 0 0 X).2.2.1 ty tx I J R I' J' R' → Q (some (.int (nI (xrun tx ty 80 0 0 X).2.2.2))) I' J' R') : KW P i_K_play N 0 [some (.ref z), none] [] N I J R Q := by
  obtain ⟨g, hK, hM0⟩ := hKS
  have hn := hW.2.2.1
  have hC := isK_C hK 0 (by decide)
  have hD := isK_C hK 1 (by decide)
  have hS := isK_S hK
  have hL := isK_L hK 1 (by decide)
  have hb0 := isK_b hK 0 (by decide)
  have hb1 := isK_b hK 1 (by decide)
  have hd01 := isK_d hK 0 1 (by decide) (by decide) (by decide)
  have hnp := hM0.1
  have hnp4 := hM0.2.1
  have hx := hM0.2.2.1
  have hty := hx.2.1
  have hh := isK_h hK
  have hrb := xrun_b (tx := tx) (ty := ty) 80 0 0 X
  refine kw_ald_n x_K_play_0 rfl ?_
  refine kw_gr x_K_play_1 (by exact isK_k hK) (by first | exact isK_r1 hK | exact kt_uR_na (by omega) (isK_r1 hK) | exact kt_uR_nj (by decide) (isK_r1 hK) | exact kt_uR_na (by omega) (kt_uR_na (by omega) (isK_r1 hK)) | exact kt_uR_na (by omega) (kt_uR_nj (by decide) (isK_r1 hK)) | exact kt_uR_nj (by decide) (kt_uR_na (by omega) (isK_r1 hK)) | exact kt_uR_nj (by decide) (kt_uR_nj (by decide) (isK_r1 hK))) ?_
  refine kw_ald_n x_K_play_4 rfl ?_
  refine kw_gr x_K_play_5 (by exact isK_k hK) (by first | exact isK_r0 hK | exact kt_uR_na (by omega) (isK_r0 hK) | exact kt_uR_nj (by decide) (isK_r0 hK) | exact kt_uR_na (by omega) (kt_uR_na (by omega) (isK_r0 hK)) | exact kt_uR_na (by omega) (kt_uR_nj (by decide) (isK_r0 hK)) | exact kt_uR_nj (by decide) (kt_uR_na (by omega) (isK_r0 hK)) | exact kt_uR_nj (by decide) (kt_uR_nj (by decide) (isK_r0 hK))) ?_
  refine c_K_play_8 (by first | exact isC_k hC | exact isC_k hD) (Nat.le_of_ble_eq_true rfl) ?_
  refine s_C_copyFrom hC hD hM0.2.2.2.1 hM0.2.2.2.2.1 hn (by omega) (fun I1 J1 u1 u2 u3 u4 => ?_)
  have hM1 := hM0.cp hK u1 u2
  refine kw_ald_n x_K_play_11 rfl ?_
  refine kw_gr x_K_play_12 (by exact isK_k hK) (by first | exact isK_r4 hK | exact kt_uR_na (by omega) (isK_r4 hK) | exact kt_uR_nj (by decide) (isK_r4 hK) | exact kt_uR_na (by omega) (kt_uR_na (by omega) (isK_r4 hK)) | exact kt_uR_na (by omega) (kt_uR_nj (by decide) (isK_r4 hK)) | exact kt_uR_nj (by decide) (kt_uR_na (by omega) (isK_r4 hK)) | exact kt_uR_nj (by decide) (kt_uR_nj (by decide) (isK_r4 hK))) ?_
  refine kw_ald_n x_K_play_15 rfl ?_
  refine kw_gr x_K_play_16 (by exact isK_k hK) (by first | exact isK_r1 hK | exact kt_uR_na (by omega) (isK_r1 hK) | exact kt_uR_nj (by decide) (isK_r1 hK) | exact kt_uR_na (by omega) (kt_uR_na (by omega) (isK_r1 hK)) | exact kt_uR_na (by omega) (kt_uR_nj (by decide) (isK_r1 hK)) | exact kt_uR_nj (by decide) (kt_uR_na (by omega) (isK_r1 hK)) | exact kt_uR_nj (by decide) (kt_uR_nj (by decide) (isK_r1 hK))) ?_
  refine c_K_play_19 (by exact isS_k hS) (Nat.le_of_ble_eq_true rfl) ?_
  refine s_S_runOn hS hD hL (by omega) (by omega) (by omega) hM1.2.2.1 u3 u4 hW (fun I2 J2 w1 w2 w3 w4 w5 => ?_)
  have hM2 := hM1.fs hK w1 w2
  have hok : kt_ok P N z np PX X ty tx I J R I2 J2 R := ⟨⟨g, hK, hM2⟩, (kt_up.fd hK (by decide) u1).tr (fun a ha => w1.1 a (by omega) (by omega) (by omega) (by omega)), (kt_up.fd hK (by decide) u2).tr (kt_up.fx hK (by decide) w2), kt_up.rf⟩
  refine kw_ald_n x_K_play_22 rfl ?_
  refine kw_gr x_K_play_23 (by exact isK_k hK) (by first | exact isK_r4 hK | exact kt_uR_na (by omega) (isK_r4 hK) | exact kt_uR_nj (by decide) (isK_r4 hK) | exact kt_uR_na (by omega) (kt_uR_na (by omega) (isK_r4 hK)) | exact kt_uR_na (by omega) (kt_uR_nj (by decide) (isK_r4 hK)) | exact kt_uR_nj (by decide) (kt_uR_na (by omega) (isK_r4 hK)) | exact kt_uR_nj (by decide) (kt_uR_nj (by decide) (isK_r4 hK))) ?_
  refine kw_gi_e x_K_play_26 (by exact isS_k hS) (by first | exact w3 | exact w4 | exact (w5 (by omega)).1 | exact rfl) ?_
  first | refine kw_if_eq_b x_K_play_29 (fun h29 => ?_) (fun h29 => ?_) | refine kw_if_eq_n x_K_play_29 (by omega) (fun h29 => ?_) (fun h29 => ?_) | refine kw_if_eq x_K_play_29 (fun h29 => ?_) (fun h29 => ?_)
  · first
    | exfalso; omega
    | skip
      refine kw_ald_n x_K_play_35 rfl ?_
      refine kw_gr x_K_play_36 (by exact isK_k hK) (by first | exact isK_r0 hK | exact kt_uR_na (by omega) (isK_r0 hK) | exact kt_uR_nj (by decide) (isK_r0 hK) | exact kt_uR_na (by omega) (kt_uR_na (by omega) (isK_r0 hK)) | exact kt_uR_na (by omega) (kt_uR_nj (by decide) (isK_r0 hK)) | exact kt_uR_nj (by decide) (kt_uR_na (by omega) (isK_r0 hK)) | exact kt_uR_nj (by decide) (kt_uR_nj (by decide) (isK_r0 hK))) ?_
      refine kw_ast_n x_K_play_39 (by decide) ?_
      refine kw_ald_n x_K_play_40 rfl ?_
      refine kw_ald_n x_K_play_41 rfl ?_
      refine kw_gr x_K_play_42 (by exact isK_k hK) (by first | exact isK_r1 hK | exact kt_uR_na (by omega) (isK_r1 hK) | exact kt_uR_nj (by decide) (isK_r1 hK) | exact kt_uR_na (by omega) (kt_uR_na (by omega) (isK_r1 hK)) | exact kt_uR_na (by omega) (kt_uR_nj (by decide) (isK_r1 hK)) | exact kt_uR_nj (by decide) (kt_uR_na (by omega) (isK_r1 hK)) | exact kt_uR_nj (by decide) (kt_uR_nj (by decide) (isK_r1 hK))) ?_
      refine kw_pr x_K_play_45 (by exact isK_k hK) ?_
      refine kw_ald_n x_K_play_48 rfl ?_
      refine kw_ald_n x_K_play_49 rfl ?_
      refine kw_pr x_K_play_50 (by exact isK_k hK) ?_
      refine kw_ald_n x_K_play_53 rfl ?_
      refine kw_ald_n x_K_play_54 rfl ?_
      refine kw_gr x_K_play_55 (by exact isK_k hK) (by first | exact isK_r4 hK | exact kt_uR_na (by omega) (isK_r4 hK) | exact kt_uR_nj (by decide) (isK_r4 hK) | exact kt_uR_na (by omega) (kt_uR_na (by omega) (isK_r4 hK)) | exact kt_uR_na (by omega) (kt_uR_nj (by decide) (isK_r4 hK)) | exact kt_uR_nj (by decide) (kt_uR_na (by omega) (isK_r4 hK)) | exact kt_uR_nj (by decide) (kt_uR_nj (by decide) (isK_r4 hK))) ?_
      refine kw_gi_e x_K_play_58 (by exact isS_k hS) (by first | exact w3 | exact w4 | exact (w5 (by omega)).1 | exact rfl) ?_
      refine c_K_play_61 (by exact isK_k hK) (Nat.le_of_ble_eq_true rfl) ?_
      have hz : (xrun tx ty 80 0 0 X).2.1 = 0 := (by omega)
      obtain ⟨v1, v2, v3, v4⟩ := w5 hz
      have hK2 : kt_isK P N (kt_uR (kt_uR R z 0 (some (g 1))) z 1 (some (g 0))) z (fun j => g (xsx j)) := hK.perm xsx (fun j hj => ⟨xsx_6 hj, rfl⟩) (fun i j _ _ h => xsx_i h) (fun a h1 h2 => by rw [kt_uR_ne _ _ _ h1, kt_uR_ne _ _ _ h1]) (kt_uR_nj (by decide) kt_uR_eq) kt_uR_eq (fun j hj => kt_uR_nj (by omega) (kt_uR_nj (by omega) rfl)) (fun j hj => kt_uR_na (by omega) (kt_uR_na (by omega) (by
        rw [hh j hj, show xsx (2 + j) = 2 + j from by unfold xsx; rw [if_neg (by omega), if_neg (by omega)]])))
      have hRD : kt_RD z (fun j => g (xsx j)) np PX X (xrun tx ty 80 0 0 X).2.2.1 (xrun tx ty 80 0 0 X).2.2.1 ty tx I2 J2 := ⟨hM2.1, hM2.2.1, hM2.2.2.1, v2, v3, ⟨hM2.2.2.2.1, hM2.2.2.2.2.1⟩, fun j hj => (by
        show kt_B (g (xsx (2 + j))) _ _ _ ∧ kt_T (g (xsx (2 + j))) _ _ _
        rw [show xsx (2 + j) = 2 + j from by unfold xsx; rw [if_neg (by omega), if_neg (by omega)]]
        exact hM2.2.2.2.2.2 j hj)⟩
      refine s_K_rec hK2 hRD v4 v4 (kt_ev_self _) (by omega) (fun I3 J3 R3 h3 => ?_)
      rw [xapo_self] at h3
      have h3 := h3.of hok.2.1 hok.2.2.1 (show kt_up z R (kt_uR (kt_uR R z 0 (some (g 1))) z 1 (some (g 0))) from fun a ha => by rw [kt_uR_ne _ _ _ (by omega), kt_uR_ne _ _ _ (by omega)])
      refine kw_iret x_K_play_64 ?_
      exact k hz I3 J3 R3 h3
  · first
    | exfalso; omega
    | skip
      refine kw_bip x_K_play_32 ?_
      refine kw_iret x_K_play_34 ?_
      exact k0 (by omega) I2 J2 R hok
end KT
