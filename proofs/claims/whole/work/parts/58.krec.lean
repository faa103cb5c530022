/-! the class: a change is recorded -/
/-- a change has been made: now holds Y and thinks as in Xo, the spare country is as it was -/
def kt_RD (z : Nat) (g : Nat → Nat) (np : Nat) (PX : Nat → kt_X) (X Xo Y : kt_X) (ty : Nat) (tx : Nat → Nat) (I : kt_I) (J : kt_J) : Prop :=
  I z 3 = nI np ∧ np ≤ 4 ∧ kt_sx (z + 2) ty tx I ∧ kt_B (g 0) Y I J ∧ kt_T (g 0) Xo I J ∧ (kt_B (g 1) X I J ∧ kt_T (g 1) X I J) ∧ ∀ j, j < np → kt_B (g (2 + j)) (PX j) I J ∧ kt_T (g (2 + j)) (PX j) I J
section KP
variable {P : kt_P} {N : Nat} {I I1 I2 : kt_I} {J J1 J2 : kt_J} {R : kt_R} {z np ty : Nat} {g tx : Nat → Nat} {PX : Nat → kt_X} {X Y : kt_X}
/-- a country that isn't touched -/
theorem kt_isK.keep {α : Type} (hK : kt_isK P N R z g) {M M' : Nat → Nat → α} {i j : Nat} (hi : i < 6) (hj : j < 6) (hne : j ≠ i) (h : kt_fx (g i + 1) (g i) M M') : ∀ a, (a = g j ∨ g j + 4 ≤ a) → a ≤ g j + 17 → M' a = M a := by
  intro a h1 h2
  have hb := isK_b hK j hj
  have hd := isK_d hK j i hj hi hne
  exact h a (by omega) (by omega)
theorem kt_KM.cp (hK : kt_isK P N R z g) (hM : kt_KM z g np PX X ty tx I J) (h1 : kt_fd (g 1) I I1) (h2 : kt_fd (g 1) J J1) : kt_KM z g np PX X ty tx I1 J1 := by
  obtain ⟨m1, m2, m3, m4, m5, m6⟩ := hM
  have hb := isK_b hK 1 (by decide)
  have key : ∀ j, j < 6 → j ≠ 1 → ∀ a, (a = g j ∨ g j + 4 ≤ a) → a ≤ g j + 17 → I1 a = I a ∧ J1 a = J a := fun j hj hne a g1 g2 => ⟨hK.keep (by decide) hj hne h1.x a g1 g2, hK.keep (by decide) hj hne h2.x a g1 g2⟩
  exact ⟨by rw [h1 z (by omega)]; exact m1, m2, m3.same (by rw [h1 _ (by omega)]) (h1 _ (by omega)), m4.ext (key 0 (by decide) (by decide)), m5.ext (key 0 (by decide) (by decide)), fun j hj => ⟨(m6 j hj).1.ext (key (2 + j) (by omega) (by omega)), (m6 j hj).2.ext (key (2 + j) (by omega) (by omega))⟩⟩
theorem kt_RD.of (hK : kt_isK P N R z g) (hM : kt_KM z g np PX X ty tx I1 J1) (hB : kt_B (g 1) X I1 J1) (hT : kt_T (g 1) X I1 J1) (hc : kt_cg (g 0) Y I1 J1 I2 J2) : kt_RD z g np PX X X Y ty tx I2 J2 := by
  obtain ⟨m1, m2, m3, m4, m5, m6⟩ := hM
  have hb := isK_b hK 0 (by decide)
  have key : ∀ j, j < 6 → j ≠ 0 → ∀ a, (a = g j ∨ g j + 4 ≤ a) → a ≤ g j + 17 → I2 a = I1 a ∧ J2 a = J1 a := fun j hj hne a g1 g2 => ⟨hK.keep (by decide) hj hne hc.1.x a g1 g2, hK.keep (by decide) hj hne hc.2.1.x a g1 g2⟩
  exact ⟨by rw [hc.1 z (by omega)]; exact m1, m2, m3.same (by rw [hc.1 _ (by omega)]) (hc.1 _ (by omega)), hc.2.2.1, hc.T m5, ⟨hB.ext (key 1 (by decide) (by decide)), hT.ext (key 1 (by decide) (by decide))⟩, fun j hj => ⟨(m6 j hj).1.ext (key (2 + j) (by omega) (by omega)), (m6 j hj).2.ext (key (2 + j) (by omega) (by omega))⟩⟩
theorem kt_up.fd {α : Type} (hK : kt_isK P N R z g) {M M' : Nat → Nat → α} {i : Nat} (hi : i < 6) (h : kt_fd (g i) M M') : kt_up z M M' := fun a ha => by
  have hb := isK_b hK i hi
  exact h a (by omega)
theorem kt_up.fx {α : Type} (hK : kt_isK P N R z g) {M M' : Nat → Nat → α} {i : Nat} (hi : i < 6) (h : kt_fx (g i + 1) (g i) M M') : kt_up z M M' := fun a ha => by
  have hb := isK_b hK i hi
  exact h a (by omega) (by omega)
theorem kt_x7 (h : kt_e7 X Y) (h8 : ∀ e, xe Y e 8 = xe X e 8) : Y = X := by
  obtain ⟨h1, h2, h3, h4, h5⟩ := h
  have hc : xc Y = xc X := funext h4
  have he : xe Y = xe X := by
    funext e f
    by_cases hf : f = 8
    · rw [hf]; exact h8 e
    · exact h5 e f hf
  show (xr Y, xT Y, xn Y, xc Y, xe Y) = (xr X, xT X, xn X, xc X, xe X)
  rw [h1, h2, h3, hc, he]
theorem xac_ex (X : kt_X) (t e : Nat) : (xac X t e && xRf X t e) = false := by
  unfold xac xRf
  by_cases hq : xst X t e = 0
  · rw [hq]; simp
  · rw [decide_eq_false hq]; simp
theorem xapo_tow (X : kt_X) : xapo X (xtow X) = xtow X := by
  refine kt_x7 (kt_apo7 X (xtow X)) (fun e => ?_)
  apply Nat.eq_of_testBit_eq
  intro u
  show (xe (xat (xac X) (xT (xtow X)) (xtow X)).1 e 8).testBit u = _
  rw [xat_bit]
  have hsk : kt_sk X (xtow X) u := ⟨rfl, fun _ _ => rfl, fun e h1 h2 => absurd (show e < xn X from h2) (by omega)⟩
  have h2 := (xac_sk (kt_ev_tow) hsk e).2
  have h3 := xac_ex X u e
  rw [← h2] at h3
  unfold xRf at h3
  have h4 : (decide (e < xn (xtow X)) && xac X u e && decide (xst (xtow X) u e = 1)) = false := by
    cases hx : xac X u e
    · simp
    · rw [hx] at h3
      rw [Bool.true_and] at h3
      rw [Bool.and_true]
      exact h3
  cases hd : decide (u < xT (xtow X))
  · simp
  · rw [Bool.true_and, h4, Bool.or_false]
end KP
section KR2
variable {P : kt_P} {N : Nat} {I : kt_I} {J : kt_J} {R : kt_R} {Q : Option Value → kt_I → kt_J → kt_R → Prop} {z np ty : Nat} {g tx : Nat → Nat} {PX : Nat → kt_X} {X Y : kt_X}
theorem s_K_recneg {v : Int32} (hv : v < 0) (k : Q (some (.int v)) I J R) : KW P i_K_recorded N 0 [some (.ref z), some (.int v)] [] N I J R Q := by
  refine kw_ild_n x_K_recorded_0 rfl ?_
  first | refine kw_if_lt_s x_K_recorded_1 ⟨by omega, by omega⟩ (fun h1 => ?_) (fun h1 => ?_) | refine kw_if_lt_n x_K_recorded_1 (by omega) (fun h1 => ?_) (fun h1 => ?_) | refine kw_if_lt x_K_recorded_1 (fun h1 => ?_) (fun h1 => ?_)
  · skip
    refine kw_ild_n x_K_recorded_15 rfl ?_
    refine kw_iret x_K_recorded_16 ?_
    exact k
  · exfalso; first | exact absurd hv h1 | omega | contradiction | exact absurd (by decide) h1 | exact absurd h1 (by decide)
theorem s_K_rec (hK : kt_isK P N R z g) {Xo : kt_X} (hR : kt_RD z g np PX X Xo Y ty tx I J) (hWX : kt_wf Xo) (hWY : kt_wf Y) (hev : kt_ev Xo Y) {w : Nat} (hw : w < 2147483648)
    (k : ∀ I' J' R', kt_ok P N z (xpn np) (xpp np PX X) (xapo Xo Y) ty tx I J R I' J' R' → Q (some (.int (nI w))) I' J' R') : KW P i_K_recorded N 0 [some (.ref z), some (.int (nI w))] [] N I J R Q := by
  obtain ⟨m1, m2, m3, m4, m5, ⟨m6, m7⟩, m8⟩ := hR
  have hC := isK_C hK 0 (by decide)
  have hb := isK_b hK 0 (by decide)
  refine kw_ild_n x_K_recorded_0 rfl ?_
  first | refine kw_if_lt_s x_K_recorded_1 ⟨by omega, by omega⟩ (fun h1 => ?_) (fun h1 => ?_) | refine kw_if_lt_n x_K_recorded_1 (by omega) (fun h1 => ?_) (fun h1 => ?_) | refine kw_if_lt x_K_recorded_1 (fun h1 => ?_) (fun h1 => ?_)
  · exfalso; first | exact absurd h1 (nI_pos (kt_p31 hw)) | omega | contradiction | exact absurd (by decide) h1 | exact absurd h1 (by decide)
  · skip
    refine kw_ald_n x_K_recorded_4 rfl ?_
    refine kw_gr x_K_recorded_5 (by exact isK_k hK) (by exact isK_r0 hK) ?_
    refine c_K_recorded_8 (by first | exact isC_k hC | exact isC_k hD) (Nat.le_of_ble_eq_true rfl) ?_
    refine s_C_thinkAnew hC (isK_L hK 0 (by decide)) (by omega) m4 m5 hWX hWY hev (fun I1 J1 z1 z2 z3 z4 => ?_)
    refine kw_ald_n x_K_recorded_11 rfl ?_
    refine c_K_recorded_12 (by exact isK_k hK) (Nat.le_of_ble_eq_true rfl) ?_
    refine s_K_keepSpare hK (np := np) (by rw [z1 z (by omega) (by omega)]; exact m1) m2 (fun I2 R2 g' f1 f2 f3 f4 f5 f6 => ?_)
    refine kw_ild_n x_K_recorded_15 rfl ?_
    refine kw_iret x_K_recorded_16 ?_
    have key : ∀ j, j < 6 → j ≠ 0 → ∀ a, (a = g j ∨ g j + 4 ≤ a) → a ≤ g j + 17 → I2 a = I a ∧ J1 a = J a := fun j hj hne a q1 q2 => by
      have hbj := isK_b hK j hj
      exact ⟨by rw [f1 a (by omega)]; exact hK.keep (by decide) hj hne z1 a q1 q2, hK.keep (by decide) hj hne z2 a q1 q2⟩
    have key0 : ∀ a, (a = g 0 ∨ g 0 + 4 ≤ a) → a ≤ g 0 + 17 → I2 a = I1 a ∧ J1 a = J1 a := fun a q1 q2 => ⟨f1 a (by omega), rfl⟩
    refine k I2 J1 R2 ⟨⟨g', f3, f2, ?_, m3.same (by rw [f1 _ (by omega), z1 _ (by omega) (by omega)]) (by rw [f1 _ (by omega), z1 _ (by omega) (by omega)]), ?_, ?_, fun j hj => ?_⟩, fun a ha => ?_, kt_up.fx hK (by decide) z2, fun a ha => f4 a (by omega) (by omega)⟩
    · unfold xpn
      split <;> omega
    · rw [f5]; exact z3.ext key0
    · rw [f5]; exact z4.ext key0
    · rw [f6 j hj]
      unfold xhg xpp
      unfold xpn at hj
      by_cases h4 : np = 4
      · rw [if_pos h4, if_pos h4]
        rw [if_pos h4] at hj
        by_cases h3 : j < 3
        · rw [if_pos h3, if_pos h3]
          exact ⟨(m8 (j + 1) (by omega)).1.ext (key _ (by omega) (by omega)), (m8 (j + 1) (by omega)).2.ext (key _ (by omega) (by omega))⟩
        · rw [if_neg h3, if_neg h3]
          exact ⟨m6.ext (key 1 (by decide) (by decide)), m7.ext (key 1 (by decide) (by decide))⟩
      · rw [if_neg h4, if_neg h4]
        rw [if_neg h4] at hj
        by_cases h3 : j = np
        · rw [if_pos h3, if_pos h3]
          exact ⟨m6.ext (key 1 (by decide) (by decide)), m7.ext (key 1 (by decide) (by decide))⟩
        · rw [if_neg h3, if_neg h3]
          exact ⟨(m8 j (by omega)).1.ext (key _ (by omega) (by omega)), (m8 j (by omega)).2.ext (key _ (by omega) (by omega))⟩
    · rw [f1 a (by omega)]
      exact kt_up.fx hK (by decide) z1 a ha
end KR2
