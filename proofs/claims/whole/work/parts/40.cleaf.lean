/-! the class: its small methods -/
theorem pq1 (M : Nat) : nJ M - (nJ (M / 2 ^ 1) &&& (6148914691236517205 : Int64)) = nJ (pA1 (pmk 85 8) M) := by
  rw [show (6148914691236517205 : Int64) = nJ (pmk 85 8) from rfl, nJ_and, nJ_sub (Nat.le_trans Nat.and_le_left (Nat.div_le_self _ _))]
  rfl
theorem pq2 (M : Nat) : (nJ M &&& (3689348814741910323 : Int64)) + (nJ (M / 2 ^ 2) &&& (3689348814741910323 : Int64)) = nJ (pA2 (pmk 51 8) M) := by
  rw [show (3689348814741910323 : Int64) = nJ (pmk 51 8) from rfl, nJ_and, nJ_and, nJ_add]
  rfl
theorem pq3 (M : Nat) : (nJ M + nJ (M / 2 ^ 4)) &&& (1085102592571150095 : Int64) = nJ (pA3 (pmk 15 8) M) := by
  rw [show (1085102592571150095 : Int64) = nJ (pmk 15 8) from rfl, nJ_add, nJ_and]
  rfl
theorem pb_2 (M : Nat) : pA2 (pmk 51 8) M < 18446744073709551616 := by
  have h1 : M &&& pmk 51 8 ≤ 3689348814741910323 := Nat.and_le_right
  have h2 : (M / 4) &&& pmk 51 8 ≤ 3689348814741910323 := Nat.and_le_right
  unfold pA2
  omega
theorem pb_3 (M : Nat) : pA3 (pmk 15 8) M ≤ 1085102592571150095 := Nat.and_le_right
theorem pe_1 (M : Nat) : pC 1 M = pc8 (M % 256) := (pz _).symm
theorem pall (M : Nat) : ∀ a4 a5 a6, a4 = pC 8 M + pC 8 M / 256 → a5 = a4 + a4 / 65536 → a6 = a5 + a5 / 4294967296 → a6 % 128 = xct (fun j => M.testBit j) 64 := by
  intro a4 a5 a6 h4 h5 h6
  have h := pfin (pc8_8 (M % 256)) (pc8_8 (M / 256 % 256)) (pc8_8 (M / 256 / 256 % 256)) (pc8_8 (M / 256 / 256 / 256 % 256)) (pc8_8 (M / 256 / 256 / 256 / 256 % 256)) (pc8_8 (M / 256 / 256 / 256 / 256 / 256 % 256)) (pc8_8 (M / 256 / 256 / 256 / 256 / 256 / 256 % 256)) (pc8_8 (M / 256 / 256 / 256 / 256 / 256 / 256 / 256 % 256))
    (h6 := pC 2 (M / 256 / 256 / 256 / 256 / 256 / 256)) (h5 := pC 3 (M / 256 / 256 / 256 / 256 / 256)) (h4 := pC 4 (M / 256 / 256 / 256 / 256)) (h3 := pC 5 (M / 256 / 256 / 256)) (h2 := pC 6 (M / 256 / 256)) (h1 := pC 7 (M / 256)) (h0 := pC 8 M)
    (by rw [← pe_1]; rfl) rfl rfl rfl rfl rfl rfl a4 a5 a6 h4 h5 h6
  rw [h, ← pD_x 8 M]
  rfl
theorem pfl (f : Nat → Bool) : xct (fun j => (nS f 60).testBit j) 64 = xct f 60 := by
  rw [show 64 = 60 + 4 from rfl, xct_sh]
  have h1 : xct (fun j => (nS f 60).testBit j) 60 = xct f 60 := xct_cg 60 (fun e he => by rw [nS_bit]; simp [he])
  have h2 : ∀ j, (nS f 60).testBit (60 + j) = false := fun j => by rw [nS_bit, decide_eq_false (by omega)]; rfl
  rw [h1]
  simp [xct]
  exact ⟨⟨⟨h2 0, h2 1⟩, h2 2⟩, h2 3⟩
theorem kt_lg0 {x y : Int64} : lg_cmp x y = 0 ↔ x = y := by
  unfold lg_cmp
  constructor
  · intro h
    split at h
    · exact absurd h (by decide)
    · split at h
      · assumption
      · exact absurd h (by decide)
  · intro h
    subst h
    rw [if_neg (fun q => Int64.lt_irrefl q), if_pos rfl]
theorem nJ_01 : nJ 1 ≠ nJ 0 := by decide
section CL
variable {P : kt_P} {N : Nat} {I : kt_I} {J : kt_J} {R : kt_R} {Q : Option Value → kt_I → kt_J → kt_R → Prop} {c : Nat}
theorem s_J_bitCount {f : Nat → Bool} (k : Q (some (.int (nI (xct f 60)))) I J R) : KW P i_J_bitCount N 0 [some (.long (kS f)), none] [] N I J R Q := by
  have hM : nS f 60 < 18446744073709551616 := Nat.lt_trans (nS_lt f 60) (by decide)
  have hM1 : pA1 (pmk 85 8) (nS f 60) < 18446744073709551616 := Nat.lt_of_le_of_lt (Nat.sub_le _ _) hM
  have hM2 := pb_2 (pA1 (pmk 85 8) (nS f 60))
  have hM3 := pb_3 (pA2 (pmk 51 8) (pA1 (pmk 85 8) (nS f 60)))
  have hC : pA3 (pmk 15 8) (pA2 (pmk 51 8) (pA1 (pmk 85 8) (nS f 60))) = pC 8 (nS f 60) := pA3_C 8 (nS f 60)
  rw [hC] at hM3
  have h4 : pC 8 (nS f 60) + pC 8 (nS f 60) / 2 ^ 8 < 18446744073709551616 := by omega
  have h5 : pC 8 (nS f 60) + pC 8 (nS f 60) / 2 ^ 8 + (pC 8 (nS f 60) + pC 8 (nS f 60) / 2 ^ 8) / 2 ^ 16 < 18446744073709551616 := by omega
  have hfin := pall (nS f 60) _ _ _ rfl rfl rfl
  rw [pfl] at hfin
  unfold kS
  refine kw_lld_n x_J_bitCount_0 rfl ?_
  refine kw_lld_n x_J_bitCount_1 rfl ?_
  refine kw_icon x_J_bitCount_2 ?_
  refine kw_lushr x_J_bitCount_3 ?_
  rw [nJ_ushr hM (by decide)]
  refine kw_ldc2 x_J_bitCount_4 ?_
  refine kw_land x_J_bitCount_7 ?_
  refine kw_lsub x_J_bitCount_8 ?_
  rw [pq1]
  refine kw_lst_n x_J_bitCount_9 (by decide) ?_
  refine kw_lld_n x_J_bitCount_10 rfl ?_
  refine kw_ldc2 x_J_bitCount_11 ?_
  refine kw_land x_J_bitCount_14 ?_
  refine kw_lld_n x_J_bitCount_15 rfl ?_
  refine kw_icon x_J_bitCount_16 ?_
  refine kw_lushr x_J_bitCount_17 ?_
  rw [nJ_ushr hM1 (by decide)]
  refine kw_ldc2 x_J_bitCount_18 ?_
  refine kw_land x_J_bitCount_21 ?_
  refine kw_ladd x_J_bitCount_22 ?_
  rw [pq2]
  refine kw_lst_n x_J_bitCount_23 (by decide) ?_
  refine kw_lld_n x_J_bitCount_24 rfl ?_
  refine kw_lld_n x_J_bitCount_25 rfl ?_
  refine kw_icon x_J_bitCount_26 ?_
  refine kw_lushr x_J_bitCount_27 ?_
  rw [nJ_ushr hM2 (by decide)]
  refine kw_ladd x_J_bitCount_28 ?_
  refine kw_ldc2 x_J_bitCount_29 ?_
  refine kw_land x_J_bitCount_32 ?_
  rw [pq3, hC]
  refine kw_lst_n x_J_bitCount_33 (by decide) ?_
  refine kw_lld_n x_J_bitCount_34 rfl ?_
  refine kw_lld_n x_J_bitCount_35 rfl ?_
  refine kw_bip x_J_bitCount_36 ?_
  refine kw_lushr x_J_bitCount_38 ?_
  rw [nJ_ushr (by omega) (by decide)]
  refine kw_ladd x_J_bitCount_39 ?_
  rw [nJ_add]
  refine kw_lst_n x_J_bitCount_40 (by decide) ?_
  refine kw_lld_n x_J_bitCount_41 rfl ?_
  refine kw_lld_n x_J_bitCount_42 rfl ?_
  refine kw_bip x_J_bitCount_43 ?_
  refine kw_lushr x_J_bitCount_45 ?_
  rw [nJ_ushr h4 (by decide)]
  refine kw_ladd x_J_bitCount_46 ?_
  rw [nJ_add]
  refine kw_lst_n x_J_bitCount_47 (by decide) ?_
  refine kw_lld_n x_J_bitCount_48 rfl ?_
  refine kw_lld_n x_J_bitCount_49 rfl ?_
  refine kw_bip x_J_bitCount_50 ?_
  refine kw_lushr x_J_bitCount_52 ?_
  rw [nJ_ushr h5 (by decide)]
  refine kw_ladd x_J_bitCount_53 ?_
  rw [nJ_add]
  refine kw_lst_n x_J_bitCount_54 (by decide) ?_
  refine kw_lld_n x_J_bitCount_55 rfl ?_
  refine kw_l2i x_J_bitCount_56 ?_
  refine kw_bip x_J_bitCount_57 ?_
  refine kw_iand x_J_bitCount_59 ?_
  rw [nJ_l2i]
  refine kw_iret x_J_bitCount_60 ?_
  rw [hfin]
  exact k
theorem s_K_has {f : Nat → Bool} {e : Nat} (he : e < 60) (k : Q (some (.int (kt_bo (f e)))) I J R) : KW P i_K_has N 0 [some (.long (kS f)), none, some (.int (nI e))] [] N I J R Q := by
  refine kw_lld_n x_K_has_0 rfl ?_
  refine kw_ild_n x_K_has_1 rfl ?_
  refine kw_lshr x_K_has_2 ?_
  refine kw_lconst x_K_has_3 ?_
  refine kw_land x_K_has_4 ?_
  rw [show (1 : Int64) = nJ 1 from rfl, kS_has f he]
  refine kw_lconst x_K_has_5 ?_
  rw [show (0 : Int64) = nJ 0 from rfl]
  refine kw_lcmp x_K_has_6 ?_
  first | refine kw_if_eq_b x_K_has_7 (fun h7 => ?_) (fun h7 => ?_) | refine kw_if_eq_n x_K_has_7 (by omega) (fun h7 => ?_) (fun h7 => ?_) | refine kw_if_eq x_K_has_7 (fun h7 => ?_) (fun h7 => ?_)
  · first
    | exfalso; omega
    | skip
      refine kw_icon x_K_has_14 ?_
      first | refine kw_zret_b x_K_has_15 ?_ | refine kw_zret_b (b := true) x_K_has_15 ?_ | refine kw_zret_b (b := false) x_K_has_15 ?_
      first
        | (have hf : f e = false := (by
            cases hf : f e with
            | false => rfl
            | true =>
              rw [hf, if_pos rfl] at h7
              exact absurd (kt_lg0.mp h7) nJ_01)
           rw [hf] at k; exact k)
        | (have hf : f e = true := (by
            cases hf : f e with
            | true => rfl
            | false =>
              rw [hf, if_neg (by decide)] at h7
              exact absurd (kt_lg0.mpr rfl) h7)
           rw [hf] at k; exact k)
  · first
    | exfalso; omega
    | skip
      refine kw_icon x_K_has_10 ?_
      refine kw_goto x_K_has_11 ?_
      first | refine kw_zret_b x_K_has_15 ?_ | refine kw_zret_b (b := true) x_K_has_15 ?_ | refine kw_zret_b (b := false) x_K_has_15 ?_
      first
        | (have hf : f e = false := (by
            cases hf : f e with
            | false => rfl
            | true =>
              rw [hf, if_pos rfl] at h7
              exact absurd (kt_lg0.mp h7) nJ_01)
           rw [hf] at k; exact k)
        | (have hf : f e = true := (by
            cases hf : f e with
            | true => rfl
            | false =>
              rw [hf, if_neg (by decide)] at h7
              exact absurd (kt_lg0.mpr rfl) h7)
           rw [hf] at k; exact k)
theorem s_K_isBelow {v : Int32} {b : Nat} (k : Q (some (.int (kt_bo (decide (0 ≤ v ∧ v < nI b))))) I J R) : KW P i_K_isBelow N 0 [some (.int v), some (.int (nI b))] [] N I J R Q := by
  refine kw_ild_n x_K_isBelow_0 rfl ?_
  first | refine kw_if_lt_s x_K_isBelow_1 ⟨by omega, by omega⟩ (fun h1 => ?_) (fun h1 => ?_) | refine kw_if_lt_n x_K_isBelow_1 (by omega) (fun h1 => ?_) (fun h1 => ?_) | refine kw_if_lt x_K_isBelow_1 (fun h1 => ?_) (fun h1 => ?_)
  · first
    | exfalso; omega
    | skip
      refine kw_icon x_K_isBelow_13 ?_
      first | refine kw_zret_b x_K_isBelow_14 ?_ | refine kw_zret_b (b := true) x_K_isBelow_14 ?_ | refine kw_zret_b (b := false) x_K_isBelow_14 ?_
      first
        | (rw [decide_eq_true ⟨Int32.not_lt.mp h1, Int32.not_le.mp h6⟩] at k; exact k)
        | (rw [decide_eq_false (fun q => absurd q.2 (Int32.not_lt.mpr h6))] at k; exact k)
        | (rw [decide_eq_false (fun q => absurd h1 (Int32.not_lt.mpr q.1))] at k; exact k)
  · first
    | exfalso; omega
    | skip
      refine kw_ild_n x_K_isBelow_4 rfl ?_
      refine kw_ild_n x_K_isBelow_5 rfl ?_
      first | refine kw_ic_ge_n x_K_isBelow_6 ⟨by omega, by omega⟩ (fun h6 => ?_) (fun h6 => ?_) | refine kw_ic_ge x_K_isBelow_6 (fun h6 => ?_) (fun h6 => ?_)
      · first
        | exfalso; omega
        | skip
          refine kw_icon x_K_isBelow_13 ?_
          first | refine kw_zret_b x_K_isBelow_14 ?_ | refine kw_zret_b (b := true) x_K_isBelow_14 ?_ | refine kw_zret_b (b := false) x_K_isBelow_14 ?_
          first
            | (rw [decide_eq_true ⟨Int32.not_lt.mp h1, Int32.not_le.mp h6⟩] at k; exact k)
            | (rw [decide_eq_false (fun q => absurd q.2 (Int32.not_lt.mpr h6))] at k; exact k)
            | (rw [decide_eq_false (fun q => absurd h1 (Int32.not_lt.mpr q.1))] at k; exact k)
      · first
        | exfalso; omega
        | skip
          refine kw_icon x_K_isBelow_9 ?_
          refine kw_goto x_K_isBelow_10 ?_
          first | refine kw_zret_b x_K_isBelow_14 ?_ | refine kw_zret_b (b := true) x_K_isBelow_14 ?_ | refine kw_zret_b (b := false) x_K_isBelow_14 ?_
          first
            | (rw [decide_eq_true ⟨Int32.not_lt.mp h1, Int32.not_le.mp h6⟩] at k; exact k)
            | (rw [decide_eq_false (fun q => absurd q.2 (Int32.not_lt.mpr h6))] at k; exact k)
            | (rw [decide_eq_false (fun q => absurd h1 (Int32.not_lt.mpr q.1))] at k; exact k)
end CL
