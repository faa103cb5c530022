/-! the class: the calls that change -/
theorem kt_ok.of {P : kt_P} {N z np ty : Nat} {PX : Nat → kt_X} {X : kt_X} {tx : Nat → Nat} {I I2 I3 : kt_I} {J J2 J3 : kt_J} {R R2 R3 : kt_R} (h : kt_ok P N z np PX X ty tx I2 J2 R2 I3 J3 R3) (h1 : kt_up z I I2) (h2 : kt_up z J J2) (h3 : kt_up z R R2) : kt_ok P N z np PX X ty tx I J R I3 J3 R3 :=
  ⟨h.1, h1.tr h.2.1, h2.tr h.2.2.1, h3.tr h.2.2.2⟩
section KG
variable {P : kt_P} {N : Nat} {I : kt_I} {J : kt_J} {R : kt_R} {Q : Option Value → kt_I → kt_J → kt_R → Prop} {z np ty : Nat} {tx : Nat → Nat} {PX : Nat → kt_X} {X : kt_X}
theorem s_K_town (hKS : kt_KS P N z np PX X ty tx I J R) (hW : kt_wf X) (kl : xT X = 5 → ∀ I' J' R', kt_ok P N z np PX X ty tx I J R I' J' R' → Q (some (.int (-3))) I' J' R') (k : xT X < 5 → ∀ I' J' R', kt_ok P N z (xpn np) (xpp np PX X) (xtow X) ty tx I J R I' J' R' → Q (some (.int (nI (xT X)))) I' J' R') : KW P i_K_town N 0 [some (.ref z)] [] N I J R Q := by
  obtain ⟨g, hK, hM0⟩ := hKS
  have hn := hW.2.2.1
  have hT5 := hW.2.1
  have hr3 := hW.1
  have hC := isK_C hK 0 (by decide)
  have hD := isK_C hK 1 (by decide)
  have hb0 := isK_b hK 0 (by decide)
  have hb1 := isK_b hK 1 (by decide)
  have hd01 := isK_d hK 0 1 (by decide) (by decide) (by decide)
  refine kw_ald_n x_K_town_0 rfl ?_
  refine kw_gr x_K_town_1 (by exact isK_k hK) (by exact isK_r1 hK) ?_
  refine kw_ald_n x_K_town_4 rfl ?_
  refine kw_gr x_K_town_5 (by exact isK_k hK) (by exact isK_r0 hK) ?_
  refine c_K_town_8 (by first | exact isC_k hC | exact isC_k hD) (Nat.le_of_ble_eq_true rfl) ?_
  refine s_C_copyFrom hC hD hM0.2.2.2.1 hM0.2.2.2.2.1 hn (by omega) (fun I1 J1 u1 u2 u3 u4 => ?_)
  have hM1 := hM0.cp hK u1 u2
  have hok : kt_ok P N z np PX X ty tx I J R I1 J1 R := ⟨⟨g, hK, hM1⟩, kt_up.fd hK (by decide) u1, kt_up.fd hK (by decide) u2, kt_up.rf⟩
  have hB1 := hM1.2.2.2.1
  refine kw_ald_n x_K_town_11 rfl ?_
  refine kw_ald_n x_K_town_12 rfl ?_
  refine kw_gr x_K_town_13 (by exact isK_k hK) (by exact isK_r0 hK) ?_
  refine c_K_town_16 (by first | exact isC_k hC | exact isC_k hD) (Nat.le_of_ble_eq_true rfl) ?_
  refine s_C_addTown hC hB1 hW (fun h5 => ?_) (fun h5 I2 hc => ?_)
  · refine c_K_town_19 (by exact isK_k hK) (Nat.le_of_ble_eq_true rfl) ?_
    refine s_K_recneg (by decide) ?_
    refine kw_iret x_K_town_22 ?_
    exact kl h5 I1 J1 R hok
  refine c_K_town_19 (by exact isK_k hK) (Nat.le_of_ble_eq_true rfl) ?_
  refine s_K_rec hK (kt_RD.of hK hM1 u3 u4 hc) hW (kt_wf_town hW h5) kt_ev_tow (by first | omega | exact Nat.lt_of_le_of_lt (xct_le _ _) (by omega)) (fun I3 J3 R3 h3 => ?_)
  have h3 := h3.of ((kt_up.fd hK (by decide) u1).tr (kt_up.fd hK (by decide) hc.1)) ((kt_up.fd hK (by decide) u2).tr (kt_up.fd hK (by decide) hc.2.1)) kt_up.rf
  rw [xapo_tow] at h3
  refine kw_iret x_K_town_22 ?_
  exact k h5 I3 J3 R3 h3
theorem s_K_deliver (hKS : kt_KS P N z np PX X ty tx I J R) (hW : kt_wf X) {a b c : Int32} (kf : ¬ (vT (xT X) a ∧ vR 0 5 b ∧ vR 1 99 c) → ∀ I' J' R', kt_ok P N z np PX X ty tx I J R I' J' R' → Q (some (.int (-1))) I' J' R') (kl : vT (xT X) a ∧ vR 0 5 b ∧ vR 1 99 c → xn X = 60 → ∀ I' J' R', kt_ok P N z np PX X ty tx I J R I' J' R' → Q (some (.int (-3))) I' J' R')
    (k : ∀ t g p, a = nI t → b = nI g → c = nI p → t < xT X → g ≤ 5 → 1 ≤ p → p ≤ 99 → xn X < 60 → ∀ I' J' R', kt_ok P N z (xpn np) (xpp np PX X) (xapo X (xnew X t 0 g p 0 0)) ty tx I J R I' J' R' → Q (some (.int (nI (xn X)))) I' J' R') : KW P i_K_deliver N 0 [some (.ref z), some (.int a), some (.int b), some (.int c)] [] N I J R Q := by
  obtain ⟨g, hK, hM0⟩ := hKS
  have hn := hW.2.2.1
  have hT5 := hW.2.1
  have hr3 := hW.1
  have hC := isK_C hK 0 (by decide)
  have hD := isK_C hK 1 (by decide)
  have hb0 := isK_b hK 0 (by decide)
  have hb1 := isK_b hK 1 (by decide)
  have hd01 := isK_d hK 0 1 (by decide) (by decide) (by decide)
  refine kw_ald_n x_K_deliver_0 rfl ?_
  refine kw_gr x_K_deliver_1 (by exact isK_k hK) (by exact isK_r1 hK) ?_
  refine kw_ald_n x_K_deliver_4 rfl ?_
  refine kw_gr x_K_deliver_5 (by exact isK_k hK) (by exact isK_r0 hK) ?_
  refine c_K_deliver_8 (by first | exact isC_k hC | exact isC_k hD) (Nat.le_of_ble_eq_true rfl) ?_
  refine s_C_copyFrom hC hD hM0.2.2.2.1 hM0.2.2.2.2.1 hn (by omega) (fun I1 J1 u1 u2 u3 u4 => ?_)
  have hM1 := hM0.cp hK u1 u2
  have hok : kt_ok P N z np PX X ty tx I J R I1 J1 R := ⟨⟨g, hK, hM1⟩, kt_up.fd hK (by decide) u1, kt_up.fd hK (by decide) u2, kt_up.rf⟩
  have hB1 := hM1.2.2.2.1
  refine kw_ald_n x_K_deliver_11 rfl ?_
  refine kw_ald_n x_K_deliver_12 rfl ?_
  refine kw_gr x_K_deliver_13 (by exact isK_k hK) (by exact isK_r0 hK) ?_
  refine kw_ild_n x_K_deliver_16 rfl ?_
  refine kw_ild_n x_K_deliver_17 rfl ?_
  refine kw_ild_n x_K_deliver_18 rfl ?_
  refine c_K_deliver_19 (by first | exact isC_k hC | exact isC_k hD) (Nat.le_of_ble_eq_true rfl) ?_
  refine s_C_makeDelivery hC hB1 hW (fun hf => ?_) (fun hf h60 => ?_) (fun t gd p e1 e2 e3 h1 h2 h3 h4 h5 I2 J2 hc => ?_)
  · refine c_K_deliver_22 (by exact isK_k hK) (Nat.le_of_ble_eq_true rfl) ?_
    refine s_K_recneg (by decide) ?_
    refine kw_iret x_K_deliver_25 ?_
    exact kf hf I1 J1 R hok
  · refine c_K_deliver_22 (by exact isK_k hK) (Nat.le_of_ble_eq_true rfl) ?_
    refine s_K_recneg (by decide) ?_
    refine kw_iret x_K_deliver_25 ?_
    exact kl hf h60 I1 J1 R hok
  refine c_K_deliver_22 (by exact isK_k hK) (Nat.le_of_ble_eq_true rfl) ?_
  refine s_K_rec hK (kt_RD.of hK hM1 u3 u4 hc) hW (kt_wf_new_d hW h1 h2 ⟨h3, h4⟩ (by omega)) kt_ev_new (by first | omega | exact Nat.lt_of_le_of_lt (xct_le _ _) (by omega)) (fun I3 J3 R3 q3 => ?_)
  have q3 := q3.of ((kt_up.fd hK (by decide) u1).tr (kt_up.fd hK (by decide) hc.1)) ((kt_up.fd hK (by decide) u2).tr (kt_up.fd hK (by decide) hc.2.1)) kt_up.rf
  refine kw_iret x_K_deliver_25 ?_
  exact k t gd p e1 e2 e3 h1 h2 h3 h4 h5 I3 J3 R3 q3
theorem s_K_order (hKS : kt_KS P N z np PX X ty tx I J R) (hW : kt_wf X) {a b c d : Int32} (kf : ¬ (vT (xT X) a ∧ vR 0 9 b ∧ vR 0 5 c ∧ vR 1 99 d) → ∀ I' J' R', kt_ok P N z np PX X ty tx I J R I' J' R' → Q (some (.int (-1))) I' J' R') (kl : vT (xT X) a ∧ vR 0 9 b ∧ vR 0 5 c ∧ vR 1 99 d → xn X = 60 → ∀ I' J' R', kt_ok P N z np PX X ty tx I J R I' J' R' → Q (some (.int (-3))) I' J' R')
    (k : ∀ t q g p, a = nI t → b = nI q → c = nI g → d = nI p → t < xT X → q ≤ 9 → g ≤ 5 → 1 ≤ p → p ≤ 99 → xn X < 60 → ∀ I' J' R', kt_ok P N z (xpn np) (xpp np PX X) (xapo X (xnew X t 1 g p (q + 1) 0)) ty tx I J R I' J' R' → Q (some (.int (nI (xn X)))) I' J' R') : KW P i_K_order N 0 [some (.ref z), some (.int a), some (.int b), some (.int c), some (.int d)] [] N I J R Q := by
  obtain ⟨g, hK, hM0⟩ := hKS
  have hn := hW.2.2.1
  have hT5 := hW.2.1
  have hr3 := hW.1
  have hC := isK_C hK 0 (by decide)
  have hD := isK_C hK 1 (by decide)
  have hb0 := isK_b hK 0 (by decide)
  have hb1 := isK_b hK 1 (by decide)
  have hd01 := isK_d hK 0 1 (by decide) (by decide) (by decide)
  refine kw_ald_n x_K_order_0 rfl ?_
  refine kw_gr x_K_order_1 (by exact isK_k hK) (by exact isK_r1 hK) ?_
  refine kw_ald_n x_K_order_4 rfl ?_
  refine kw_gr x_K_order_5 (by exact isK_k hK) (by exact isK_r0 hK) ?_
  refine c_K_order_8 (by first | exact isC_k hC | exact isC_k hD) (Nat.le_of_ble_eq_true rfl) ?_
  refine s_C_copyFrom hC hD hM0.2.2.2.1 hM0.2.2.2.2.1 hn (by omega) (fun I1 J1 u1 u2 u3 u4 => ?_)
  have hM1 := hM0.cp hK u1 u2
  have hok : kt_ok P N z np PX X ty tx I J R I1 J1 R := ⟨⟨g, hK, hM1⟩, kt_up.fd hK (by decide) u1, kt_up.fd hK (by decide) u2, kt_up.rf⟩
  have hB1 := hM1.2.2.2.1
  refine kw_ald_n x_K_order_11 rfl ?_
  refine kw_ald_n x_K_order_12 rfl ?_
  refine kw_gr x_K_order_13 (by exact isK_k hK) (by exact isK_r0 hK) ?_
  refine kw_ild_n x_K_order_16 rfl ?_
  refine kw_ild_n x_K_order_17 rfl ?_
  refine kw_ild_n x_K_order_18 rfl ?_
  refine kw_ild x_K_order_19 rfl ?_
  refine c_K_order_21 (by first | exact isC_k hC | exact isC_k hD) (Nat.le_of_ble_eq_true rfl) ?_
  refine s_C_makeOrder hC hB1 hW (fun hf => ?_) (fun hf h60 => ?_) (fun t pq gd p e1 e0 e2 e3 h1 h0 h2 h3 h4 h5 I2 J2 hc => ?_)
  · refine c_K_order_24 (by exact isK_k hK) (Nat.le_of_ble_eq_true rfl) ?_
    refine s_K_recneg (by decide) ?_
    refine kw_iret x_K_order_27 ?_
    exact kf hf I1 J1 R hok
  · refine c_K_order_24 (by exact isK_k hK) (Nat.le_of_ble_eq_true rfl) ?_
    refine s_K_recneg (by decide) ?_
    refine kw_iret x_K_order_27 ?_
    exact kl hf h60 I1 J1 R hok
  refine c_K_order_24 (by exact isK_k hK) (Nat.le_of_ble_eq_true rfl) ?_
  refine s_K_rec hK (kt_RD.of hK hM1 u3 u4 hc) hW (kt_wf_new_o hW h1 h2 ⟨h3, h4⟩ h0 (by omega)) kt_ev_new (by first | omega | exact Nat.lt_of_le_of_lt (xct_le _ _) (by omega)) (fun I3 J3 R3 q3 => ?_)
  have q3 := q3.of ((kt_up.fd hK (by decide) u1).tr (kt_up.fd hK (by decide) hc.1)) ((kt_up.fd hK (by decide) u2).tr (kt_up.fd hK (by decide) hc.2.1)) kt_up.rf
  refine kw_iret x_K_order_27 ?_
  exact k t pq gd p e1 e0 e2 e3 h1 h0 h2 h3 h4 h5 I3 J3 R3 q3
theorem s_K_cancel (hKS : kt_KS P N z np PX X ty tx I J R) (hW : kt_wf X) {a b : Int32} (kf : ¬ (vT (xT X) a ∧ vT (xn X) b) → ∀ I' J' R', kt_ok P N z np PX X ty tx I J R I' J' R' → Q (some (.int (-1))) I' J' R')
    (kp : ∀ t e, a = nI t → b = nI e → t < xT X → e < xn X → ¬ (xe X e 0 = 1 ∧ xk X t e = true ∧ xcn X t e (xn X) = false) → ∀ I' J' R', kt_ok P N z np PX X ty tx I J R I' J' R' → Q (some (.int (-2))) I' J' R')
    (kl : ∀ t e, a = nI t → b = nI e → t < xT X → e < xn X → (xe X e 0 = 1 ∧ xk X t e = true ∧ xcn X t e (xn X) = false) → xn X = 60 → ∀ I' J' R', kt_ok P N z np PX X ty tx I J R I' J' R' → Q (some (.int (-3))) I' J' R')
    (k : ∀ t e, a = nI t → b = nI e → t < xT X → e < xn X → (xe X e 0 = 1 ∧ xk X t e = true ∧ xcn X t e (xn X) = false) → xn X < 60 → ∀ I' J' R', kt_ok P N z (xpn np) (xpp np PX X) (xapo X (xnew X t 2 (xe X e 3) (xe X e 4) (xe X e 5) (e + 1))) ty tx I J R I' J' R' → Q (some (.int (nI (xn X)))) I' J' R') : KW P i_K_cancel N 0 [some (.ref z), some (.int a), some (.int b)] [] N I J R Q := by
  obtain ⟨g, hK, hM0⟩ := hKS
  have hn := hW.2.2.1
  have hT5 := hW.2.1
  have hr3 := hW.1
  have hC := isK_C hK 0 (by decide)
  have hD := isK_C hK 1 (by decide)
  have hb0 := isK_b hK 0 (by decide)
  have hb1 := isK_b hK 1 (by decide)
  have hd01 := isK_d hK 0 1 (by decide) (by decide) (by decide)
  refine kw_ald_n x_K_cancel_0 rfl ?_
  refine kw_gr x_K_cancel_1 (by exact isK_k hK) (by exact isK_r1 hK) ?_
  refine kw_ald_n x_K_cancel_4 rfl ?_
  refine kw_gr x_K_cancel_5 (by exact isK_k hK) (by exact isK_r0 hK) ?_
  refine c_K_cancel_8 (by first | exact isC_k hC | exact isC_k hD) (Nat.le_of_ble_eq_true rfl) ?_
  refine s_C_copyFrom hC hD hM0.2.2.2.1 hM0.2.2.2.2.1 hn (by omega) (fun I1 J1 u1 u2 u3 u4 => ?_)
  have hM1 := hM0.cp hK u1 u2
  have hok : kt_ok P N z np PX X ty tx I J R I1 J1 R := ⟨⟨g, hK, hM1⟩, kt_up.fd hK (by decide) u1, kt_up.fd hK (by decide) u2, kt_up.rf⟩
  have hB1 := hM1.2.2.2.1
  refine kw_ald_n x_K_cancel_11 rfl ?_
  refine kw_ald_n x_K_cancel_12 rfl ?_
  refine kw_gr x_K_cancel_13 (by exact isK_k hK) (by exact isK_r0 hK) ?_
  refine kw_ild_n x_K_cancel_16 rfl ?_
  refine kw_ild_n x_K_cancel_17 rfl ?_
  refine c_K_cancel_18 (by first | exact isC_k hC | exact isC_k hD) (Nat.le_of_ble_eq_true rfl) ?_
  refine s_C_makeCancellation hC hB1 hW (fun hf => ?_) (fun t e e1 e2 h1 h2 hx => ?_) (fun t e e1 e2 h1 h2 hx h60 => ?_) (fun t e e1 e2 h1 h2 hx h60 I2 J2 hc => ?_)
  · refine c_K_cancel_21 (by exact isK_k hK) (Nat.le_of_ble_eq_true rfl) ?_
    refine s_K_recneg (by decide) ?_
    refine kw_iret x_K_cancel_24 ?_
    exact kf hf I1 J1 R hok
  · refine c_K_cancel_21 (by exact isK_k hK) (Nat.le_of_ble_eq_true rfl) ?_
    refine s_K_recneg (by decide) ?_
    refine kw_iret x_K_cancel_24 ?_
    exact kp t e e1 e2 h1 h2 hx I1 J1 R hok
  · refine c_K_cancel_21 (by exact isK_k hK) (Nat.le_of_ble_eq_true rfl) ?_
    refine s_K_recneg (by decide) ?_
    refine kw_iret x_K_cancel_24 ?_
    exact kl t e e1 e2 h1 h2 hx h60 I1 J1 R hok
  refine c_K_cancel_21 (by exact isK_k hK) (Nat.le_of_ble_eq_true rfl) ?_
  refine s_K_rec hK (kt_RD.of hK hM1 u3 u4 hc) hW (kt_wf_new_c hW h1 h2 hx.1 hx.2.1 (by omega)) kt_ev_new (by first | omega | exact Nat.lt_of_le_of_lt (xct_le _ _) (by omega)) (fun I3 J3 R3 h3 => ?_)
  have h3 := h3.of ((kt_up.fd hK (by decide) u1).tr (kt_up.fd hK (by decide) hc.1)) ((kt_up.fd hK (by decide) u2).tr (kt_up.fd hK (by decide) hc.2.1)) kt_up.rf
  refine kw_iret x_K_cancel_24 ?_
  exact k t e e1 e2 h1 h2 hx h60 I3 J3 R3 h3
theorem s_K_meet (hKS : kt_KS P N z np PX X ty tx I J R) (hW : kt_wf X) {a b : Int32} (kf : ¬ (vT (xT X) a ∧ vT (xT X) b ∧ a ≠ b) → ∀ I' J' R', kt_ok P N z np PX X ty tx I J R I' J' R' → Q (some (.int (-1))) I' J' R')
    (k : ∀ t u, a = nI t → b = nI u → t < xT X → u < xT X → t ≠ u → ∀ I' J' R', kt_ok P N z (xpn np) (xpp np PX X) (xapo X (xhear true t u X)) ty tx I J R I' J' R' → Q (some (.int (nI (xhn true t u X)))) I' J' R') : KW P i_K_meet N 0 [some (.ref z), some (.int a), some (.int b)] [] N I J R Q := by
  obtain ⟨g, hK, hM0⟩ := hKS
  have hn := hW.2.2.1
  have hT5 := hW.2.1
  have hr3 := hW.1
  have hC := isK_C hK 0 (by decide)
  have hD := isK_C hK 1 (by decide)
  have hb0 := isK_b hK 0 (by decide)
  have hb1 := isK_b hK 1 (by decide)
  have hd01 := isK_d hK 0 1 (by decide) (by decide) (by decide)
  refine kw_ald_n x_K_meet_0 rfl ?_
  refine kw_gr x_K_meet_1 (by exact isK_k hK) (by exact isK_r1 hK) ?_
  refine kw_ald_n x_K_meet_4 rfl ?_
  refine kw_gr x_K_meet_5 (by exact isK_k hK) (by exact isK_r0 hK) ?_
  refine c_K_meet_8 (by first | exact isC_k hC | exact isC_k hD) (Nat.le_of_ble_eq_true rfl) ?_
  refine s_C_copyFrom hC hD hM0.2.2.2.1 hM0.2.2.2.2.1 hn (by omega) (fun I1 J1 u1 u2 u3 u4 => ?_)
  have hM1 := hM0.cp hK u1 u2
  have hok : kt_ok P N z np PX X ty tx I J R I1 J1 R := ⟨⟨g, hK, hM1⟩, kt_up.fd hK (by decide) u1, kt_up.fd hK (by decide) u2, kt_up.rf⟩
  have hB1 := hM1.2.2.2.1
  refine kw_ald_n x_K_meet_11 rfl ?_
  refine kw_ald_n x_K_meet_12 rfl ?_
  refine kw_gr x_K_meet_13 (by exact isK_k hK) (by exact isK_r0 hK) ?_
  refine kw_ild_n x_K_meet_16 rfl ?_
  refine kw_ild_n x_K_meet_17 rfl ?_
  refine c_K_meet_18 (by first | exact isC_k hC | exact isC_k hD) (Nat.le_of_ble_eq_true rfl) ?_
  refine s_C_letMeet hC hB1 hW (fun hf => ?_) (fun t u e1 e2 h1 h2 h4 I2 J2 hc => ?_)
  · refine c_K_meet_21 (by exact isK_k hK) (Nat.le_of_ble_eq_true rfl) ?_
    refine s_K_recneg (by decide) ?_
    refine kw_iret x_K_meet_24 ?_
    exact kf hf I1 J1 R hok
  refine c_K_meet_21 (by exact isK_k hK) (Nat.le_of_ble_eq_true rfl) ?_
  refine s_K_rec hK (kt_RD.of hK hM1 u3 u4 hc) hW (kt_wf_hear hW true h1 h2) kt_ev_hear (by first | omega | exact Nat.lt_of_le_of_lt (xct_le _ _) (by omega)) (fun I3 J3 R3 h3 => ?_)
  have h3 := h3.of ((kt_up.fd hK (by decide) u1).tr (kt_up.fd hK (by decide) hc.1)) ((kt_up.fd hK (by decide) u2).tr (kt_up.fd hK (by decide) hc.2.1)) kt_up.rf
  refine kw_iret x_K_meet_24 ?_
  exact k t u e1 e2 h1 h2 h4 I3 J3 R3 h3
theorem s_K_hear (hKS : kt_KS P N z np PX X ty tx I J R) (hW : kt_wf X) {a b : Int32} (kf : ¬ (vT (xT X) a ∧ vT (xT X) b ∧ a ≠ b) → ∀ I' J' R', kt_ok P N z np PX X ty tx I J R I' J' R' → Q (some (.int (-1))) I' J' R')
    (k : ∀ t u, a = nI t → b = nI u → t < xT X → u < xT X → t ≠ u → ∀ I' J' R', kt_ok P N z (xpn np) (xpp np PX X) (xapo X (xhear false t u X)) ty tx I J R I' J' R' → Q (some (.int (nI (xhn false t u X)))) I' J' R') : KW P i_K_hear N 0 [some (.ref z), some (.int a), some (.int b)] [] N I J R Q := by
  obtain ⟨g, hK, hM0⟩ := hKS
  have hn := hW.2.2.1
  have hT5 := hW.2.1
  have hr3 := hW.1
  have hC := isK_C hK 0 (by decide)
  have hD := isK_C hK 1 (by decide)
  have hb0 := isK_b hK 0 (by decide)
  have hb1 := isK_b hK 1 (by decide)
  have hd01 := isK_d hK 0 1 (by decide) (by decide) (by decide)
  refine kw_ald_n x_K_hear_0 rfl ?_
  refine kw_gr x_K_hear_1 (by exact isK_k hK) (by exact isK_r1 hK) ?_
  refine kw_ald_n x_K_hear_4 rfl ?_
  refine kw_gr x_K_hear_5 (by exact isK_k hK) (by exact isK_r0 hK) ?_
  refine c_K_hear_8 (by first | exact isC_k hC | exact isC_k hD) (Nat.le_of_ble_eq_true rfl) ?_
  refine s_C_copyFrom hC hD hM0.2.2.2.1 hM0.2.2.2.2.1 hn (by omega) (fun I1 J1 u1 u2 u3 u4 => ?_)
  have hM1 := hM0.cp hK u1 u2
  have hok : kt_ok P N z np PX X ty tx I J R I1 J1 R := ⟨⟨g, hK, hM1⟩, kt_up.fd hK (by decide) u1, kt_up.fd hK (by decide) u2, kt_up.rf⟩
  have hB1 := hM1.2.2.2.1
  refine kw_ald_n x_K_hear_11 rfl ?_
  refine kw_ald_n x_K_hear_12 rfl ?_
  refine kw_gr x_K_hear_13 (by exact isK_k hK) (by exact isK_r0 hK) ?_
  refine kw_ild_n x_K_hear_16 rfl ?_
  refine kw_ild_n x_K_hear_17 rfl ?_
  refine c_K_hear_18 (by first | exact isC_k hC | exact isC_k hD) (Nat.le_of_ble_eq_true rfl) ?_
  refine s_C_letHear hC hB1 hW (fun hf => ?_) (fun t u e1 e2 h1 h2 h4 I2 J2 hc => ?_)
  · refine c_K_hear_21 (by exact isK_k hK) (Nat.le_of_ble_eq_true rfl) ?_
    refine s_K_recneg (by decide) ?_
    refine kw_iret x_K_hear_24 ?_
    exact kf hf I1 J1 R hok
  refine c_K_hear_21 (by exact isK_k hK) (Nat.le_of_ble_eq_true rfl) ?_
  refine s_K_rec hK (kt_RD.of hK hM1 u3 u4 hc) hW (kt_wf_hear hW false h1 h2) kt_ev_hear (by first | omega | exact Nat.lt_of_le_of_lt (xct_le _ _) (by omega)) (fun I3 J3 R3 h3 => ?_)
  have h3 := h3.of ((kt_up.fd hK (by decide) u1).tr (kt_up.fd hK (by decide) hc.1)) ((kt_up.fd hK (by decide) u2).tr (kt_up.fd hK (by decide) hc.2.1)) kt_up.rf
  refine kw_iret x_K_hear_24 ?_
  exact k t u e1 e2 h1 h2 h4 I3 J3 R3 h3
theorem s_K_rule (hKS : kt_KS P N z np PX X ty tx I J R) (hW : kt_wf X) {a : Int32} (kf : ¬ vR 0 2 a → ∀ I' J' R', kt_ok P N z np PX X ty tx I J R I' J' R' → Q (some (.int (-1))) I' J' R')
    (k : ∀ r, a = nI r → r ≤ 2 → ∀ I' J' R', kt_ok P N z (xpn np) (xpp np PX X) (xapo X (xrul X r)) ty tx I J R I' J' R' → Q (some (.int (nI (xr X)))) I' J' R') : KW P i_K_rule N 0 [some (.ref z), some (.int a)] [] N I J R Q := by
  obtain ⟨g, hK, hM0⟩ := hKS
  have hn := hW.2.2.1
  have hT5 := hW.2.1
  have hr3 := hW.1
  have hC := isK_C hK 0 (by decide)
  have hD := isK_C hK 1 (by decide)
  have hb0 := isK_b hK 0 (by decide)
  have hb1 := isK_b hK 1 (by decide)
  have hd01 := isK_d hK 0 1 (by decide) (by decide) (by decide)
  refine kw_ald_n x_K_rule_0 rfl ?_
  refine kw_gr x_K_rule_1 (by exact isK_k hK) (by exact isK_r1 hK) ?_
  refine kw_ald_n x_K_rule_4 rfl ?_
  refine kw_gr x_K_rule_5 (by exact isK_k hK) (by exact isK_r0 hK) ?_
  refine c_K_rule_8 (by first | exact isC_k hC | exact isC_k hD) (Nat.le_of_ble_eq_true rfl) ?_
  refine s_C_copyFrom hC hD hM0.2.2.2.1 hM0.2.2.2.2.1 hn (by omega) (fun I1 J1 u1 u2 u3 u4 => ?_)
  have hM1 := hM0.cp hK u1 u2
  have hok : kt_ok P N z np PX X ty tx I J R I1 J1 R := ⟨⟨g, hK, hM1⟩, kt_up.fd hK (by decide) u1, kt_up.fd hK (by decide) u2, kt_up.rf⟩
  have hB1 := hM1.2.2.2.1
  refine kw_ald_n x_K_rule_11 rfl ?_
  refine kw_ald_n x_K_rule_12 rfl ?_
  refine kw_gr x_K_rule_13 (by exact isK_k hK) (by exact isK_r0 hK) ?_
  refine kw_ild_n x_K_rule_16 rfl ?_
  refine c_K_rule_17 (by first | exact isC_k hC | exact isC_k hD) (Nat.le_of_ble_eq_true rfl) ?_
  refine s_C_setRule hC hB1 hW (fun hf => ?_) (fun r e1 h1 I2 hc => ?_)
  · refine c_K_rule_20 (by exact isK_k hK) (Nat.le_of_ble_eq_true rfl) ?_
    refine s_K_recneg (by decide) ?_
    refine kw_iret x_K_rule_23 ?_
    exact kf hf I1 J1 R hok
  refine c_K_rule_20 (by exact isK_k hK) (Nat.le_of_ble_eq_true rfl) ?_
  refine s_K_rec hK (kt_RD.of hK hM1 u3 u4 hc) hW (kt_wf_rule hW (by omega)) kt_ev_rul (by first | omega | exact Nat.lt_of_le_of_lt (xct_le _ _) (by omega)) (fun I3 J3 R3 h3 => ?_)
  have h3 := h3.of ((kt_up.fd hK (by decide) u1).tr (kt_up.fd hK (by decide) hc.1)) ((kt_up.fd hK (by decide) u2).tr (kt_up.fd hK (by decide) hc.2.1)) kt_up.rf
  refine kw_iret x_K_rule_23 ?_
  exact k r e1 h1 I3 J3 R3 h3
end KG
