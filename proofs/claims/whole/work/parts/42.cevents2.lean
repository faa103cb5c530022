/-! the class: its events, the rest -/
/-- cancelled, told in the reference's way and in the class's -/
theorem xcs_cn {X : kt_X} (hW : kt_wf X) {t : Nat} (o : Nat) : ∀ e, e ≤ xn X → xcs X (fun e => decide (e < xn X) && xk X t e) o e = xcn X t o e
  | 0, _ => rfl
  | e + 1, he => by
    have ih := xcs_cn hW (t := t) o e (by omega)
    have hx6 := (hW.2.2.2.2.2.1 e (by omega)).2.2.2.2.2.2.1
    show (xcs X _ o e || _) = (xcn X t o e || _)
    rw [ih]
    congr 1
    have hlt : e < xn X := by omega
    show (decide (e < xn X) && xk X t e && decide (xe X e 0 = 2) && decide (xe X e 6 = o + 1)) = (decide (o < e) && decide (xe X e 0 = 2) && decide (xe X e 6 = o + 1) && xk X t e)
    by_cases h2 : xe X e 0 = 2
    · by_cases h6 : xe X e 6 = o + 1
      · have := (hx6.2 h2).2.1
        simp [h2, h6, hlt, show o < e by omega]
      · simp [h6]
    · simp [h2]
section CE
variable {P : kt_P} {N : Nat} {I : kt_I} {J : kt_J} {R : kt_R} {Q : Option Value → kt_I → kt_J → kt_R → Prop} {lo c : Nat} {X : kt_X}
theorem s_E_isOrder (hC : kt_isC P N R lo c) (hV : kt_V c X I) (hW : kt_wf X) {v : Int32} (k0 : ¬ vT (xn X) v → Q (some (.int (kt_bo false))) I J R) (k : ∀ e, v = nI e → e < xn X → Q (some (.int (kt_bo (decide (xe X e 0 = 1))))) I J R) : KW P i_E_isOrder N 0 [some (.ref (c + 4)), some (.int v)] [] N I J R Q := by
  have hn := hW.2.2.1
  refine kw_ild_n x_E_isOrder_0 rfl ?_
  refine kw_ald_n x_E_isOrder_1 rfl ?_
  refine kw_gi_e x_E_isOrder_2 (by exact isE_k hC) (by first | exact hV.1 | exact hk0 | exact rfl) ?_
  refine c_E_isOrder_5 (Nat.le_of_ble_eq_true rfl) ?_
  refine s_K_isBelow ?_
  first | refine kw_if_eq_b x_E_isOrder_8 (fun h8 => ?_) (fun h8 => ?_) | refine kw_if_eq_n x_E_isOrder_8 (by omega) (fun h8 => ?_) (fun h8 => ?_) | refine kw_if_eq x_E_isOrder_8 (fun h8 => ?_) (fun h8 => ?_)
  · first
    | exfalso; omega
    | skip
      refine kw_icon x_E_isOrder_25 ?_
      first | refine kw_zret_b x_E_isOrder_26 ?_ | refine kw_zret_b (b := true) x_E_isOrder_26 ?_ | refine kw_zret_b (b := false) x_E_isOrder_26 ?_
      first
        | exact k0 (kt_nT (by omega) h8)
        | (have hk := k e rfl he
           first
             | (rw [decide_eq_true h18] at hk; exact hk)
             | (rw [decide_eq_false h18] at hk; exact hk))
  · first
    | exfalso; omega
    | skip
      obtain ⟨e, he, rfl⟩ := kt_yT (by omega) h8
      have hx0 := (hW.2.2.2.2.2.1 e he).1
      have hk0 : I (c + 5) e = nI (xe X e 0) := hV.2 e 0 he (by decide)
      refine kw_ald_n x_E_isOrder_11 rfl ?_
      refine kw_gr x_E_isOrder_12 (by exact isE_k hC) (by exact isE_r1 hC) ?_
      refine kw_ild_n x_E_isOrder_15 rfl ?_
      refine kw_iald_n x_E_isOrder_16 (by first | exact isC_a5 hC | exact isC_a6 hC | exact isC_a7 hC | exact isC_a8 hC | exact isC_a9 hC | exact isC_a10 hC | exact isC_a11 hC | exact isC_a12 hC) (by omega) (by omega) (by first | exact hV.1 | exact hk0 | exact rfl) ?_
      refine kw_icon x_E_isOrder_17 ?_
      first | refine kw_ic_ne_n x_E_isOrder_18 ⟨by omega, by omega⟩ (fun h18 => ?_) (fun h18 => ?_) | refine kw_ic_ne x_E_isOrder_18 (fun h18 => ?_) (fun h18 => ?_)
      · first
        | exfalso; omega
        | skip
          refine kw_icon x_E_isOrder_25 ?_
          first | refine kw_zret_b x_E_isOrder_26 ?_ | refine kw_zret_b (b := true) x_E_isOrder_26 ?_ | refine kw_zret_b (b := false) x_E_isOrder_26 ?_
          first
            | exact k0 (kt_nT (by omega) h8)
            | (have hk := k e rfl he
               first
                 | (rw [decide_eq_true h18] at hk; exact hk)
                 | (rw [decide_eq_false h18] at hk; exact hk))
      · first
        | exfalso; omega
        | skip
          refine kw_icon x_E_isOrder_21 ?_
          refine kw_goto x_E_isOrder_22 ?_
          first | refine kw_zret_b x_E_isOrder_26 ?_ | refine kw_zret_b (b := true) x_E_isOrder_26 ?_ | refine kw_zret_b (b := false) x_E_isOrder_26 ?_
          first
            | exact k0 (kt_nT (by omega) h8)
            | (have hk := k e rfl he
               first
                 | (rw [decide_eq_true h18] at hk; exact hk)
                 | (rw [decide_eq_false h18] at hk; exact hk))
end CE
