/-! the reference: the changes -/
theorem kt_nT {T : Nat} (hT : T < 2147483648) {v : Int32} (h : decide (0 ≤ v ∧ v < nI T) = false) : ¬ vT T v := fun q => of_decide_eq_false h ((kt_isT hT).mpr q)
theorem kt_yT {T : Nat} (hT : T < 2147483648) {v : Int32} (h : decide (0 ≤ v ∧ v < nI T) = true) : vT T v := (kt_isT hT).mp (of_decide_eq_true h)
theorem kt_nR {lo hi : Nat} (hh : hi < 2147483648 ∧ lo ≤ hi) {v : Int32} (h : decide (nI lo ≤ v ∧ v ≤ nI hi) = false) : ¬ vR lo hi v := fun q => of_decide_eq_false h ((kt_isR hh.1 hh.2).mpr q)
theorem kt_yR {lo hi : Nat} (hh : hi < 2147483648 ∧ lo ≤ hi) {v : Int32} (h : decide (nI lo ≤ v ∧ v ≤ nI hi) = true) : vR lo hi v := (kt_isR hh.1 hh.2).mp (of_decide_eq_true h)
/-- what a change of the reference leaves -/
def kt_ch (m np : Nat) (PX : Nat → kt_X) (bo : Bool) (X X' : kt_X) (I I' : kt_I) : Prop := kt_lc m I I' ∧ kt_enc (I' (m + 1)) X' ∧ kt_pa m (xqn bo np) (xqp bo np PX X) I'
section MO
variable {P : kt_P} {N : Nat} {I : kt_I} {J : kt_J} {R : kt_R} {Q : Option Value → kt_I → kt_J → kt_R → Prop} {m : Nat} {X : kt_X}
theorem s_M_makes2 (hM : kt_isM P N R m) (hE : kt_enc (I (m + 1)) X) (hW : kt_wf X) {np : Nat} {PX : Nat → kt_X} {bo : Bool} (hpa : kt_pa m np PX I) (hbo : I m 5 = kt_bo bo) {t kd gd pi pe wh : Nat} {pv wv : Int32} (hpv : pv = kt_cd 5 pe) (hwv : wv = kt_cd 6 wh) (ht : t < xT X) (hn6 : xn X < 60) (hWn : kt_wf (xnew X t kd gd pi pe wh))
    (k : ∀ I', kt_ch m np PX bo X (xapo X (xnew X t kd gd pi pe wh)) I I' → Q (some (.int (nI (xn X)))) I' J R) :
    KW P i_M_makes N 0 [some (.ref m), some (.int (nI t)), some (.int (nI kd)), some (.int (nI gd)), some (.int (nI pi)), some (.int pv), some (.int wv), none] [] N I J R Q := by
  subst hpv; subst hwv
  exact s_M_makes hM hE hW hpa hbo ht hn6 hWn (fun I' a b c => k I' ⟨a, b, c⟩)
theorem s_M_town (hM : kt_isM P N R m) (hE : kt_enc (I (m + 1)) X) (hW : kt_wf X) {np : Nat} {PX : Nat → kt_X} {bo : Bool} (hpa : kt_pa m np PX I) (hbo : I m 5 = kt_bo bo) (kl : xT X = 5 → Q (some (.int (-3))) I J R) (k : xT X < 5 → ∀ I', kt_ch m np PX bo X (xtow X) I I' → Q (some (.int (nI (xT X)))) I' J R) : KW P i_M_town N 0 [some (.ref m), none] [] N I J R Q := by
  have hn := hW.2.2.1
  have hT := hW.2.1
  refine kw_ald_n x_M_town_0 rfl ?_
  refine kw_gr x_M_town_1 (by exact isM_k hM) (by exact isM_r0 hM) ?_
  refine kw_icon x_M_town_4 ?_
  refine kw_iald_n x_M_town_5 (by first | exact isM_a1 hM | exact isM_a2 hM | exact isM_a3 hM | exact isM_a4 hM | exact isM_a5 hM | exact isM_a6 hM | exact isM_a7 hM | exact isM_a8 hM | exact isM_a10 hM | exact isM_a11 hM) (by omega) (by omega) (by first | exact hE.1 | exact hE.2.1 | exact hE.2.2.1 | exact (hu1 _) | exact rfl) ?_
  refine kw_icon x_M_town_6 ?_
  first | refine kw_ic_ne_n x_M_town_7 ⟨by omega, by omega⟩ (fun h7 => ?_) (fun h7 => ?_) | refine kw_ic_ne x_M_town_7 (fun h7 => ?_) (fun h7 => ?_)
  · first
    | exfalso; omega
    | skip
      refine kw_ald_n x_M_town_13 rfl ?_
      refine c_M_town_14 (by exact isM_k hM) (Nat.le_of_ble_eq_true rfl) ?_
      refine s_M_changes hM hE hW hpa hbo (fun I2 hl2 hE hpa2 hA => ?_)
      have hu1 : ∀ v, kt_u1 I2 (m + 1) (3 + xT X) v (m + 1) 1 = nI (xT X) := (fun v => by simp [kt_u1, show ¬ 1 = 3 + xT X by omega]; exact hE.2.1)
      refine kw_ald_n x_M_town_17 rfl ?_
      refine kw_gr x_M_town_18 (by exact isM_k hM) (by exact isM_r0 hM) ?_
      refine kw_icon x_M_town_21 ?_
      refine kw_iald_n x_M_town_22 (by first | exact isM_a1 hM | exact isM_a2 hM | exact isM_a3 hM | exact isM_a4 hM | exact isM_a5 hM | exact isM_a6 hM | exact isM_a7 hM | exact isM_a8 hM | exact isM_a10 hM | exact isM_a11 hM) (by omega) (by omega) (by first | exact hE.1 | exact hE.2.1 | exact hE.2.2.1 | exact (hu1 _) | exact rfl) ?_
      refine kw_ist_n x_M_town_23 (by decide) ?_
      refine kw_ald_n x_M_town_24 rfl ?_
      refine kw_gr x_M_town_25 (by exact isM_k hM) (by exact isM_r0 hM) ?_
      refine kw_icon x_M_town_28 ?_
      refine kw_ild_n x_M_town_29 rfl ?_
      first | refine kw_iadd_n x_M_town_30 ?_ | refine kw_iadd x_M_town_30 ?_
      refine kw_icon x_M_town_31 ?_
      refine kw_iast_n x_M_town_32 (by first | exact isM_a1 hM | exact isM_a2 hM | exact isM_a3 hM | exact isM_a4 hM | exact isM_a5 hM | exact isM_a6 hM | exact isM_a7 hM | exact isM_a8 hM | exact isM_a10 hM | exact isM_a11 hM) (by omega) (by omega) ?_
      refine kw_ald_n x_M_town_33 rfl ?_
      refine kw_gr x_M_town_34 (by exact isM_k hM) (by exact isM_r0 hM) ?_
      refine kw_icon x_M_town_37 ?_
      refine kw_dup2 x_M_town_38 rfl rfl ?_
      refine kw_iald_n x_M_town_39 (by first | exact isM_a1 hM | exact isM_a2 hM | exact isM_a3 hM | exact isM_a4 hM | exact isM_a5 hM | exact isM_a6 hM | exact isM_a7 hM | exact isM_a8 hM | exact isM_a10 hM | exact isM_a11 hM) (by omega) (by omega) (by first | exact hE.1 | exact hE.2.1 | exact hE.2.2.1 | exact (hu1 _) | exact rfl) ?_
      refine kw_icon x_M_town_40 ?_
      first | refine kw_iadd_n x_M_town_41 ?_ | refine kw_iadd x_M_town_41 ?_
      refine kw_iast_n x_M_town_42 (by first | exact isM_a1 hM | exact isM_a2 hM | exact isM_a3 hM | exact isM_a4 hM | exact isM_a5 hM | exact isM_a6 hM | exact isM_a7 hM | exact isM_a8 hM | exact isM_a10 hM | exact isM_a11 hM) (by omega) (by omega) ?_
      refine kw_ild_n x_M_town_43 rfl ?_
      refine kw_iret x_M_town_44 ?_
      refine k (by omega) _ ⟨(hl2.tr kt_lc.u1).tr kt_lc.u1, ?_, hpa2.same (by simp [kt_u1]) (by simp only [kt_u1_ne _ _ _ (show m + 2 ≠ m + 1 by omega)])⟩
      have h30 : xc X (xT X) = 0 := hW.2.2.2.2.1 _ (Nat.le_refl _)
      have h31 : ∀ j, kt_u1 (kt_u1 I2 (m + 1) (3 + xT X) (nI 0)) (m + 1) 1 (nI (xT X + 1)) (m + 1) j = if j = 1 then nI (xT X + 1) else I2 (m + 1) j := by
        intro j
        by_cases h1 : j = 1
        · simp [kt_u1, h1]
        · by_cases h3 : j = 3 + xT X
          · subst h3
            have h4 := hE.2.2.2.1 (xT X) (by omega)
            rw [h30] at h4
            simp [kt_u1, h1, h4]
          · simp [kt_u1, h1, h3]
      obtain ⟨e1, e2, e3, e4, e5⟩ := hE
      exact ⟨by rw [h31, if_neg (by omega)]; exact e1, by rw [h31, if_pos rfl]; rfl, by rw [h31, if_neg (by omega)]; exact e3, fun t ht => by rw [h31, if_neg (by omega)]; exact e4 t ht, fun e f he hf => by rw [h31, if_neg (by omega)]; exact e5 e f he hf⟩
  · first
    | exfalso; omega
    | skip
      refine kw_bip x_M_town_10 ?_
      refine kw_iret x_M_town_12 ?_
      exact kl (by omega)
theorem s_M_deliver (hM : kt_isM P N R m) (hE : kt_enc (I (m + 1)) X) (hW : kt_wf X) {np : Nat} {PX : Nat → kt_X} {bo : Bool} (hpa : kt_pa m np PX I) (hbo : I m 5 = kt_bo bo) {a b c : Int32} (kf : ¬ (vT (xT X) a ∧ vR 0 5 b ∧ vR 1 99 c) → Q (some (.int (-1))) I J R) (kl : vT (xT X) a ∧ vR 0 5 b ∧ vR 1 99 c → xn X = 60 → Q (some (.int (-3))) I J R)
    (k : ∀ t g p, a = nI t → b = nI g → c = nI p → t < xT X → g ≤ 5 → 1 ≤ p → p ≤ 99 → xn X < 60 → ∀ I', kt_ch m np PX bo X (xapo X (xnew X t 0 g p 0 0)) I I' → Q (some (.int (nI (xn X)))) I' J R) : KW P i_M_deliver N 0 [some (.ref m), some (.int a), some (.int b), some (.int c)] [] N I J R Q := by
  have hn := hW.2.2.1
  have hT := hW.2.1
  refine kw_ald_n x_M_deliver_0 rfl ?_
  refine kw_ild_n x_M_deliver_1 rfl ?_
  refine c_M_deliver_2 (by exact isM_k hM) (Nat.le_of_ble_eq_true rfl) ?_
  refine s_M_isTown hM hE ?_
  first | refine kw_if_eq_b x_M_deliver_5 (fun h5 => ?_) (fun h5 => ?_) | refine kw_if_eq_n x_M_deliver_5 (by omega) (fun h5 => ?_) (fun h5 => ?_) | refine kw_if_eq x_M_deliver_5 (fun h5 => ?_) (fun h5 => ?_)
  · first
    | exfalso; omega
    | skip
      refine kw_icon x_M_deliver_27 ?_
      refine kw_iret x_M_deliver_28 ?_
      exact kf (fun h => by first | exact kt_nT (by omega) h5 h.1 | exact kt_nR (by omega) h14 h.2.1 | exact kt_nR (by omega) h24 h.2.2)
  · first
    | exfalso; omega
    | skip
      obtain ⟨t, ht, rfl⟩ := kt_yT (by omega) h5
      refine kw_ild_n x_M_deliver_8 rfl ?_
      refine kw_icon x_M_deliver_9 ?_
      refine kw_icon x_M_deliver_10 ?_
      refine c_M_deliver_11 (Nat.le_of_ble_eq_true rfl) ?_
      refine s_M_in ?_
      first | refine kw_if_eq_b x_M_deliver_14 (fun h14 => ?_) (fun h14 => ?_) | refine kw_if_eq_n x_M_deliver_14 (by omega) (fun h14 => ?_) (fun h14 => ?_) | refine kw_if_eq x_M_deliver_14 (fun h14 => ?_) (fun h14 => ?_)
      · first
        | exfalso; omega
        | skip
          refine kw_icon x_M_deliver_27 ?_
          refine kw_iret x_M_deliver_28 ?_
          exact kf (fun h => by first | exact kt_nT (by omega) h5 h.1 | exact kt_nR (by omega) h14 h.2.1 | exact kt_nR (by omega) h24 h.2.2)
      · first
        | exfalso; omega
        | skip
          obtain ⟨g, hg1, hg2, rfl⟩ := kt_yR (by omega) h14
          refine kw_ild_n x_M_deliver_17 rfl ?_
          refine kw_icon x_M_deliver_18 ?_
          refine kw_bip x_M_deliver_19 ?_
          refine c_M_deliver_21 (Nat.le_of_ble_eq_true rfl) ?_
          refine s_M_in ?_
          first | refine kw_if_ne_b x_M_deliver_24 (fun h24 => ?_) (fun h24 => ?_) | refine kw_if_ne_s x_M_deliver_24 ⟨by omega, by omega⟩ (fun h24 => ?_) (fun h24 => ?_) | refine kw_if_ne_n x_M_deliver_24 (by omega) (fun h24 => ?_) (fun h24 => ?_) | refine kw_if_ne x_M_deliver_24 (fun h24 => ?_) (fun h24 => ?_)
          · first
            | exfalso; omega
            | skip
              obtain ⟨p, hp1, hp2, rfl⟩ := kt_yR (by omega) h24
              refine kw_ald_n x_M_deliver_29 rfl ?_
              refine kw_gr x_M_deliver_30 (by exact isM_k hM) (by exact isM_r0 hM) ?_
              refine kw_icon x_M_deliver_33 ?_
              refine kw_iald_n x_M_deliver_34 (by first | exact isM_a1 hM | exact isM_a2 hM | exact isM_a3 hM | exact isM_a4 hM | exact isM_a5 hM | exact isM_a6 hM | exact isM_a7 hM | exact isM_a8 hM | exact isM_a10 hM | exact isM_a11 hM) (by omega) (by omega) (by first | exact hE.1 | exact hE.2.1 | exact hE.2.2.1 | exact rfl) ?_
              refine kw_bip x_M_deliver_35 ?_
              first | refine kw_ic_ne_n x_M_deliver_37 ⟨by omega, by omega⟩ (fun h37 => ?_) (fun h37 => ?_) | refine kw_ic_ne x_M_deliver_37 (fun h37 => ?_) (fun h37 => ?_)
              · first
                | exfalso; omega
                | skip
                  refine kw_ald_n x_M_deliver_45 rfl ?_
                  refine kw_ild_n x_M_deliver_46 rfl ?_
                  refine kw_icon x_M_deliver_47 ?_
                  refine kw_ild_n x_M_deliver_48 rfl ?_
                  refine kw_ild_n x_M_deliver_49 rfl ?_
                  refine kw_bip x_M_deliver_50 ?_
                  refine kw_bip x_M_deliver_52 ?_
                  refine c_M_deliver_54 (by exact isM_k hM) (Nat.le_of_ble_eq_true rfl) ?_
                  refine s_M_makes2 hM hE hW hpa hbo (pe := 0) (wh := 0) (by rfl) (by rfl) ht (by omega) (kt_wf_new hW ht (by omega) (by decide) (by omega) ⟨hp1, hp2⟩ ⟨fun _ => rfl, fun q => absurd rfl q, by omega⟩ ⟨fun _ => rfl, fun q => absurd q (by decide)⟩) (fun I' hc => ?_)
                  refine kw_iret x_M_deliver_57 ?_
                  first
                    | exact kl ⟨⟨t, ht, rfl⟩, ⟨g, hg1, hg2, rfl⟩, ⟨p, hp1, hp2, rfl⟩⟩ (by omega)
                    | exact k t g p rfl rfl rfl ht hg2 hp1 hp2 (by omega) I' hc
              · first
                | exfalso; omega
                | skip
                  refine kw_bip x_M_deliver_40 ?_
                  refine kw_goto x_M_deliver_42 ?_
                  refine kw_iret x_M_deliver_57 ?_
                  first
                    | exact kl ⟨⟨t, ht, rfl⟩, ⟨g, hg1, hg2, rfl⟩, ⟨p, hp1, hp2, rfl⟩⟩ (by omega)
                    | exact k t g p rfl rfl rfl ht hg2 hp1 hp2 (by omega) I' hc
          · first
            | exfalso; omega
            | skip
              refine kw_icon x_M_deliver_27 ?_
              refine kw_iret x_M_deliver_28 ?_
              exact kf (fun h => by first | exact kt_nT (by omega) h5 h.1 | exact kt_nR (by omega) h14 h.2.1 | exact kt_nR (by omega) h24 h.2.2)
theorem s_M_order (hM : kt_isM P N R m) (hE : kt_enc (I (m + 1)) X) (hW : kt_wf X) {np : Nat} {PX : Nat → kt_X} {bo : Bool} (hpa : kt_pa m np PX I) (hbo : I m 5 = kt_bo bo) {a b c d : Int32} (kf : ¬ (vT (xT X) a ∧ vR 0 9 b ∧ vR 0 5 c ∧ vR 1 99 d) → Q (some (.int (-1))) I J R) (kl : vT (xT X) a ∧ vR 0 9 b ∧ vR 0 5 c ∧ vR 1 99 d → xn X = 60 → Q (some (.int (-3))) I J R)
    (k : ∀ t q g p, a = nI t → b = nI q → c = nI g → d = nI p → t < xT X → q ≤ 9 → g ≤ 5 → 1 ≤ p → p ≤ 99 → xn X < 60 → ∀ I', kt_ch m np PX bo X (xapo X (xnew X t 1 g p (q + 1) 0)) I I' → Q (some (.int (nI (xn X)))) I' J R) : KW P i_M_order N 0 [some (.ref m), some (.int a), some (.int b), some (.int c), some (.int d)] [] N I J R Q := by
  have hn := hW.2.2.1
  have hT := hW.2.1
  refine kw_ald_n x_M_order_0 rfl ?_
  refine kw_ild_n x_M_order_1 rfl ?_
  refine c_M_order_2 (by exact isM_k hM) (Nat.le_of_ble_eq_true rfl) ?_
  refine s_M_isTown hM hE ?_
  first | refine kw_if_eq_b x_M_order_5 (fun h5 => ?_) (fun h5 => ?_) | refine kw_if_eq_n x_M_order_5 (by omega) (fun h5 => ?_) (fun h5 => ?_) | refine kw_if_eq x_M_order_5 (fun h5 => ?_) (fun h5 => ?_)
  · first
    | exfalso; omega
    | skip
      refine kw_icon x_M_order_38 ?_
      refine kw_iret x_M_order_39 ?_
      exact kf (fun h => by first | exact kt_nT (by omega) h5 h.1 | exact kt_nR (by omega) h15 h.2.1 | exact kt_nR (by omega) h24 h.2.2.1 | exact kt_nR (by omega) h35 h.2.2.2)
  · first
    | exfalso; omega
    | skip
      obtain ⟨t, ht, rfl⟩ := kt_yT (by omega) h5
      refine kw_ild_n x_M_order_8 rfl ?_
      refine kw_icon x_M_order_9 ?_
      refine kw_bip x_M_order_10 ?_
      refine c_M_order_12 (Nat.le_of_ble_eq_true rfl) ?_
      refine s_M_in ?_
      first | refine kw_if_eq_b x_M_order_15 (fun h15 => ?_) (fun h15 => ?_) | refine kw_if_eq_n x_M_order_15 (by omega) (fun h15 => ?_) (fun h15 => ?_) | refine kw_if_eq x_M_order_15 (fun h15 => ?_) (fun h15 => ?_)
      · first
        | exfalso; omega
        | skip
          refine kw_icon x_M_order_38 ?_
          refine kw_iret x_M_order_39 ?_
          exact kf (fun h => by first | exact kt_nT (by omega) h5 h.1 | exact kt_nR (by omega) h15 h.2.1 | exact kt_nR (by omega) h24 h.2.2.1 | exact kt_nR (by omega) h35 h.2.2.2)
      · first
        | exfalso; omega
        | skip
          obtain ⟨q, hq1, hq2, rfl⟩ := kt_yR (by omega) h15
          refine kw_ild_n x_M_order_18 rfl ?_
          refine kw_icon x_M_order_19 ?_
          refine kw_icon x_M_order_20 ?_
          refine c_M_order_21 (Nat.le_of_ble_eq_true rfl) ?_
          refine s_M_in ?_
          first | refine kw_if_eq_b x_M_order_24 (fun h24 => ?_) (fun h24 => ?_) | refine kw_if_eq_n x_M_order_24 (by omega) (fun h24 => ?_) (fun h24 => ?_) | refine kw_if_eq x_M_order_24 (fun h24 => ?_) (fun h24 => ?_)
          · first
            | exfalso; omega
            | skip
              refine kw_icon x_M_order_38 ?_
              refine kw_iret x_M_order_39 ?_
              exact kf (fun h => by first | exact kt_nT (by omega) h5 h.1 | exact kt_nR (by omega) h15 h.2.1 | exact kt_nR (by omega) h24 h.2.2.1 | exact kt_nR (by omega) h35 h.2.2.2)
          · first
            | exfalso; omega
            | skip
              obtain ⟨g, hg1, hg2, rfl⟩ := kt_yR (by omega) h24
              refine kw_ild x_M_order_27 rfl ?_
              refine kw_icon x_M_order_29 ?_
              refine kw_bip x_M_order_30 ?_
              refine c_M_order_32 (Nat.le_of_ble_eq_true rfl) ?_
              refine s_M_in ?_
              first | refine kw_if_ne_b x_M_order_35 (fun h35 => ?_) (fun h35 => ?_) | refine kw_if_ne_s x_M_order_35 ⟨by omega, by omega⟩ (fun h35 => ?_) (fun h35 => ?_) | refine kw_if_ne_n x_M_order_35 (by omega) (fun h35 => ?_) (fun h35 => ?_) | refine kw_if_ne x_M_order_35 (fun h35 => ?_) (fun h35 => ?_)
              · first
                | exfalso; omega
                | skip
                  obtain ⟨p, hp1, hp2, rfl⟩ := kt_yR (by omega) h35
                  refine kw_ald_n x_M_order_40 rfl ?_
                  refine kw_gr x_M_order_41 (by exact isM_k hM) (by exact isM_r0 hM) ?_
                  refine kw_icon x_M_order_44 ?_
                  refine kw_iald_n x_M_order_45 (by first | exact isM_a1 hM | exact isM_a2 hM | exact isM_a3 hM | exact isM_a4 hM | exact isM_a5 hM | exact isM_a6 hM | exact isM_a7 hM | exact isM_a8 hM | exact isM_a10 hM | exact isM_a11 hM) (by omega) (by omega) (by first | exact hE.1 | exact hE.2.1 | exact hE.2.2.1 | exact rfl) ?_
                  refine kw_bip x_M_order_46 ?_
                  first | refine kw_ic_ne_n x_M_order_48 ⟨by omega, by omega⟩ (fun h48 => ?_) (fun h48 => ?_) | refine kw_ic_ne x_M_order_48 (fun h48 => ?_) (fun h48 => ?_)
                  · first
                    | exfalso; omega
                    | skip
                      refine kw_ald_n x_M_order_56 rfl ?_
                      refine kw_ild_n x_M_order_57 rfl ?_
                      refine kw_icon x_M_order_58 ?_
                      refine kw_ild_n x_M_order_59 rfl ?_
                      refine kw_ild x_M_order_60 rfl ?_
                      refine kw_ild_n x_M_order_62 rfl ?_
                      refine kw_bip x_M_order_63 ?_
                      refine c_M_order_65 (by exact isM_k hM) (Nat.le_of_ble_eq_true rfl) ?_
                      refine s_M_makes2 hM hE hW hpa hbo (pe := q + 1) (wh := 0) (by simp [kt_cd]) (by rfl) ht (by omega) (kt_wf_new hW ht (by omega) (by decide) (by omega) ⟨hp1, hp2⟩ ⟨fun q => absurd q (by decide), fun _ => by omega, by omega⟩ ⟨fun _ => rfl, fun q => absurd q (by decide)⟩) (fun I' hc => ?_)
                      refine kw_iret x_M_order_68 ?_
                      first
                        | exact kl ⟨⟨t, ht, rfl⟩, ⟨q, hq1, hq2, rfl⟩, ⟨g, hg1, hg2, rfl⟩, ⟨p, hp1, hp2, rfl⟩⟩ (by omega)
                        | exact k t q g p rfl rfl rfl rfl ht hq2 hg2 hp1 hp2 (by omega) I' hc
                  · first
                    | exfalso; omega
                    | skip
                      refine kw_bip x_M_order_51 ?_
                      refine kw_goto x_M_order_53 ?_
                      refine kw_iret x_M_order_68 ?_
                      first
                        | exact kl ⟨⟨t, ht, rfl⟩, ⟨q, hq1, hq2, rfl⟩, ⟨g, hg1, hg2, rfl⟩, ⟨p, hp1, hp2, rfl⟩⟩ (by omega)
                        | exact k t q g p rfl rfl rfl rfl ht hq2 hg2 hp1 hp2 (by omega) I' hc
              · first
                | exfalso; omega
                | skip
                  refine kw_icon x_M_order_38 ?_
                  refine kw_iret x_M_order_39 ?_
                  exact kf (fun h => by first | exact kt_nT (by omega) h5 h.1 | exact kt_nR (by omega) h15 h.2.1 | exact kt_nR (by omega) h24 h.2.2.1 | exact kt_nR (by omega) h35 h.2.2.2)
theorem s_M_cancel (hM : kt_isM P N R m) (hE : kt_enc (I (m + 1)) X) (hW : kt_wf X) {np : Nat} {PX : Nat → kt_X} {bo : Bool} (hpa : kt_pa m np PX I) (hbo : I m 5 = kt_bo bo) {a b : Int32} (kf : ¬ (vT (xT X) a ∧ vT (xn X) b) → Q (some (.int (-1))) I J R)
    (kp : ∀ t e, a = nI t → b = nI e → t < xT X → e < xn X → ¬ (xe X e 0 = 1 ∧ xk X t e = true ∧ xcn X t e (xn X) = false) → Q (some (.int (-2))) I J R)
    (kl : ∀ t e, a = nI t → b = nI e → t < xT X → e < xn X → (xe X e 0 = 1 ∧ xk X t e = true ∧ xcn X t e (xn X) = false) → xn X = 60 → Q (some (.int (-3))) I J R)
    (k : ∀ t e, a = nI t → b = nI e → t < xT X → e < xn X → (xe X e 0 = 1 ∧ xk X t e = true ∧ xcn X t e (xn X) = false) → xn X < 60 → ∀ I', kt_ch m np PX bo X (xapo X (xnew X t 2 (xe X e 3) (xe X e 4) (xe X e 5) (e + 1))) I I' → Q (some (.int (nI (xn X)))) I' J R) : KW P i_M_cancel N 0 [some (.ref m), some (.int a), some (.int b)] [] N I J R Q := by
  have hn := hW.2.2.1
  have hT := hW.2.1
  refine kw_ald_n x_M_cancel_0 rfl ?_
  refine kw_ild_n x_M_cancel_1 rfl ?_
  refine c_M_cancel_2 (by exact isM_k hM) (Nat.le_of_ble_eq_true rfl) ?_
  refine s_M_isTown hM hE ?_
  first | refine kw_if_eq_b x_M_cancel_5 (fun h5 => ?_) (fun h5 => ?_) | refine kw_if_eq_n x_M_cancel_5 (by omega) (fun h5 => ?_) (fun h5 => ?_) | refine kw_if_eq x_M_cancel_5 (fun h5 => ?_) (fun h5 => ?_)
  · first
    | exfalso; omega
    | skip
      refine kw_icon x_M_cancel_16 ?_
      refine kw_iret x_M_cancel_17 ?_
      exact kf (fun h => by first | exact kt_nT (by omega) h5 h.1 | exact kt_nT (by omega) h13 h.2)
  · first
    | exfalso; omega
    | skip
      obtain ⟨t, ht, rfl⟩ := kt_yT (by omega) h5
      refine kw_ald_n x_M_cancel_8 rfl ?_
      refine kw_ild_n x_M_cancel_9 rfl ?_
      refine c_M_cancel_10 (by exact isM_k hM) (Nat.le_of_ble_eq_true rfl) ?_
      refine s_M_isEvent hM hE ?_
      first | refine kw_if_ne_b x_M_cancel_13 (fun h13 => ?_) (fun h13 => ?_) | refine kw_if_ne_s x_M_cancel_13 ⟨by omega, by omega⟩ (fun h13 => ?_) (fun h13 => ?_) | refine kw_if_ne_n x_M_cancel_13 (by omega) (fun h13 => ?_) (fun h13 => ?_) | refine kw_if_ne x_M_cancel_13 (fun h13 => ?_) (fun h13 => ?_)
      · first
        | exfalso; omega
        | skip
          obtain ⟨e, he, rfl⟩ := kt_yT (by omega) h13
          have hx := hW.2.2.2.2.2.1 e he
          have hx0 := hx.1
          have hx3 := hx.2.2.2.1
          have hx4 := hx.2.2.2.2.1.2
          refine kw_ald_n x_M_cancel_18 rfl ?_
          refine kw_ild_n x_M_cancel_19 rfl ?_
          refine kw_icon x_M_cancel_20 ?_
          refine c_M_cancel_21 (by exact isM_k hM) (Nat.le_of_ble_eq_true rfl) ?_
          first | refine s_M_ofn hM hE hn (by omega) (by decide) ?_ | refine s_M_ofc hM hE hn (by omega) (by decide) ?_
          refine kw_icon x_M_cancel_24 ?_
          first | refine kw_ic_ne_n x_M_cancel_25 ⟨by omega, by omega⟩ (fun h25 => ?_) (fun h25 => ?_) | refine kw_ic_ne x_M_cancel_25 (fun h25 => ?_) (fun h25 => ?_)
          · first
            | exfalso; omega
            | skip
              refine kw_bip x_M_cancel_46 ?_
              refine kw_iret x_M_cancel_48 ?_
              exact kp t e rfl rfl ht he (fun h => by first | exact h25 h.1 | simp_all)
          · first
            | exfalso; omega
            | skip
              refine kw_ald_n x_M_cancel_28 rfl ?_
              refine kw_ild_n x_M_cancel_29 rfl ?_
              refine kw_ild_n x_M_cancel_30 rfl ?_
              refine c_M_cancel_31 (by exact isM_k hM) (Nat.le_of_ble_eq_true rfl) ?_
              refine s_M_knows hM hE hW (by omega) (by omega) ?_
              first | refine kw_if_eq_b x_M_cancel_34 (fun h34 => ?_) (fun h34 => ?_) | refine kw_if_eq_n x_M_cancel_34 (by omega) (fun h34 => ?_) (fun h34 => ?_) | refine kw_if_eq x_M_cancel_34 (fun h34 => ?_) (fun h34 => ?_)
              · first
                | exfalso; omega
                | skip
                  refine kw_bip x_M_cancel_46 ?_
                  refine kw_iret x_M_cancel_48 ?_
                  exact kp t e rfl rfl ht he (fun h => by first | exact h25 h.1 | simp_all)
              · first
                | exfalso; omega
                | skip
                  refine kw_ald_n x_M_cancel_37 rfl ?_
                  refine kw_ild_n x_M_cancel_38 rfl ?_
                  refine kw_ild_n x_M_cancel_39 rfl ?_
                  refine c_M_cancel_40 (by exact isM_k hM) (Nat.le_of_ble_eq_true rfl) ?_
                  refine s_M_isCancelled hM hE hW (by omega) (by omega) ?_
                  first | refine kw_if_eq_b x_M_cancel_43 (fun h43 => ?_) (fun h43 => ?_) | refine kw_if_eq_n x_M_cancel_43 (by omega) (fun h43 => ?_) (fun h43 => ?_) | refine kw_if_eq x_M_cancel_43 (fun h43 => ?_) (fun h43 => ?_)
                  · first
                    | exfalso; omega
                    | skip
                      refine kw_ald_n x_M_cancel_49 rfl ?_
                      refine kw_gr x_M_cancel_50 (by exact isM_k hM) (by exact isM_r0 hM) ?_
                      refine kw_icon x_M_cancel_53 ?_
                      refine kw_iald_n x_M_cancel_54 (by first | exact isM_a1 hM | exact isM_a2 hM | exact isM_a3 hM | exact isM_a4 hM | exact isM_a5 hM | exact isM_a6 hM | exact isM_a7 hM | exact isM_a8 hM | exact isM_a10 hM | exact isM_a11 hM) (by omega) (by omega) (by first | exact hE.1 | exact hE.2.1 | exact hE.2.2.1 | exact rfl) ?_
                      refine kw_bip x_M_cancel_55 ?_
                      first | refine kw_ic_ne_n x_M_cancel_57 ⟨by omega, by omega⟩ (fun h57 => ?_) (fun h57 => ?_) | refine kw_ic_ne x_M_cancel_57 (fun h57 => ?_) (fun h57 => ?_)
                      · first
                        | exfalso; omega
                        | skip
                          refine kw_ald_n x_M_cancel_65 rfl ?_
                          refine kw_ild_n x_M_cancel_66 rfl ?_
                          refine kw_icon x_M_cancel_67 ?_
                          refine kw_ald_n x_M_cancel_68 rfl ?_
                          refine kw_ild_n x_M_cancel_69 rfl ?_
                          refine kw_icon x_M_cancel_70 ?_
                          refine c_M_cancel_71 (by exact isM_k hM) (Nat.le_of_ble_eq_true rfl) ?_
                          first | refine s_M_ofn hM hE hn (by omega) (by decide) ?_ | refine s_M_ofc hM hE hn (by omega) (by decide) ?_
                          refine kw_ald_n x_M_cancel_74 rfl ?_
                          refine kw_ild_n x_M_cancel_75 rfl ?_
                          refine kw_icon x_M_cancel_76 ?_
                          refine c_M_cancel_77 (by exact isM_k hM) (Nat.le_of_ble_eq_true rfl) ?_
                          first | refine s_M_ofn hM hE hn (by omega) (by decide) ?_ | refine s_M_ofc hM hE hn (by omega) (by decide) ?_
                          refine kw_ald_n x_M_cancel_80 rfl ?_
                          refine kw_ild_n x_M_cancel_81 rfl ?_
                          refine kw_icon x_M_cancel_82 ?_
                          refine c_M_cancel_83 (by exact isM_k hM) (Nat.le_of_ble_eq_true rfl) ?_
                          first | refine s_M_ofn hM hE hn (by omega) (by decide) ?_ | refine s_M_ofc hM hE hn (by omega) (by decide) ?_
                          refine kw_ild_n x_M_cancel_86 rfl ?_
                          refine c_M_cancel_87 (by exact isM_k hM) (Nat.le_of_ble_eq_true rfl) ?_
                          refine s_M_makes2 hM hE hW hpa hbo (pe := xe X e 5) (wh := e + 1) rfl (by simp [kt_cd]) ht (by omega) (kt_wf_new hW ht (by omega) (by decide) hx.2.2.2.1 hx.2.2.2.2.1 ⟨fun q => absurd q (by decide), fun _ => hx.2.2.2.2.2.1.2.1 (by omega), hx.2.2.2.2.2.1.2.2⟩ ⟨fun q => absurd rfl q, fun _ => ⟨by omega, by omega, h25, by rw [← kt_xkb (by omega)]; exact h34⟩⟩) (fun I' hc => ?_)
                          refine kw_iret x_M_cancel_90 ?_
                          first
                            | exact kl t e rfl rfl ht he ⟨h25, h34, h43⟩ (by omega)
                            | exact k t e rfl rfl ht he ⟨h25, h34, h43⟩ (by omega) I' hc
                      · first
                        | exfalso; omega
                        | skip
                          refine kw_bip x_M_cancel_60 ?_
                          refine kw_goto x_M_cancel_62 ?_
                          refine kw_iret x_M_cancel_90 ?_
                          first
                            | exact kl t e rfl rfl ht he ⟨h25, h34, h43⟩ (by omega)
                            | exact k t e rfl rfl ht he ⟨h25, h34, h43⟩ (by omega) I' hc
                  · first
                    | exfalso; omega
                    | skip
                      refine kw_bip x_M_cancel_46 ?_
                      refine kw_iret x_M_cancel_48 ?_
                      exact kp t e rfl rfl ht he (fun h => by first | exact h25 h.1 | simp_all)
      · first
        | exfalso; omega
        | skip
          refine kw_icon x_M_cancel_16 ?_
          refine kw_iret x_M_cancel_17 ?_
          exact kf (fun h => by first | exact kt_nT (by omega) h5 h.1 | exact kt_nT (by omega) h13 h.2)
end MO
