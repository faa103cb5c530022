/-! the two objects of the law -/
theorem kt_cc8 : kt_cc 8 := ⟨rfl, rfl, by decide, rfl, rfl, rfl, rfl, rfl, rfl⟩
theorem kt_cc23 : kt_cc 23 := ⟨rfl, rfl, by decide, rfl, rfl, rfl, rfl, rfl, rfl⟩
theorem kt_cc38 : kt_cc 38 := ⟨rfl, rfl, by decide, rfl, rfl, rfl, rfl, rfl, rfl⟩
theorem kt_cc53 : kt_cc 53 := ⟨rfl, rfl, by decide, rfl, rfl, rfl, rfl, rfl, rfl⟩
theorem kt_cc68 : kt_cc 68 := ⟨rfl, rfl, by decide, rfl, rfl, rfl, rfl, rfl, rfl⟩
theorem kt_cc83 : kt_cc 83 := ⟨rfl, rfl, by decide, rfl, rfl, rfl, rfl, rfl, rfl⟩
/-- the new object: its references, the looking, the script, six new countries -/
def kt_nk (z : Nat) (I : kt_I) (J : kt_J) (R : kt_R) : Prop :=
  (R z 0 = some (z + 8) ∧ R z 1 = some (z + 23) ∧ R z 2 = some (z + 1) ∧ R z 4 = some (z + 2) ∧ R z 5 = some (z + 5)) ∧ (∀ j, j < 4 → R (z + 1) j = some (z + (38 + 15 * j)))
  ∧ (R (z + 2) 0 = some (z + 3) ∧ R (z + 2) 3 = some (z + 4)) ∧ (R (z + 5) 0 = some (z + 6) ∧ R (z + 5) 2 = some (z + 7)) ∧ (∀ j, I z j = 0) ∧ (∀ j, I (z + 5) j = 0)
  ∧ ∀ j, j < 6 → (∀ q, I (z + (8 + 15 * j)) q = 0) ∧ kt_nc (z + (8 + 15 * j)) (z + 2) I J R
section IN
variable {P : kt_P} {I : kt_I} {J : kt_J} {R : kt_R} {Q : Option Value → kt_I → kt_J → kt_R → Prop}
theorem s_K_init (hI0 : ∀ j, I (kt_z P) j = 0) (k : ∀ I' J' R', kt_nk (kt_z P) I' J' R' → Q none I' J' R') : KW P i_K_init 98 0 [some (.ref (kt_z P)), none] [] 1 I J R Q := by
  refine kw_ald_n x_K_init_0 rfl ?_
  refine kw_objinit x_K_init_1 ⟨by decide, by decide⟩ (Nat.le_of_ble_eq_true rfl) ?_
  refine kw_ald_n x_K_init_4 rfl ?_
  refine kw_icon x_K_init_5 ?_
  refine kw_newQ x_K_init_6 (by exact rfl) ⟨nI_pos (by decide), nI_clamp (by decide), by decide⟩ (by omega) ?_
  refine kw_pr x_K_init_9 (by exact kt_kdo (k := 0) rfl (by omega)) ?_
  refine kw_ald_n x_K_init_12 rfl ?_
  refine kw_new (ci := 2) x_K_init_13 (by decide) (by exact rfl) (by omega) ?_
  refine kw_dup x_K_init_16 rfl ?_
  refine c_K_init_17 (N' := 5) ⟨by omega, by omega⟩ (Nat.le_of_ble_eq_true rfl) ?_
  refine s_L_init (e := 2) rfl rfl rfl (fun I1 R1 x1 w1 hL0_1 hL3_1 => ?_)
  have hA_1 : R1 (kt_z P) 2 = some (kt_z P + 1) := (by rw [w1 _ (by omega)]; exact kt_rw_na (by omega) kt_uR_eq)
  have iz_1 : ∀ j, I1 (kt_z P) j = 0 := (fun j => by rw [x1 _ (by omega), kt_rw_ne _ _ (by omega)]; exact hI0 j)
  refine kw_pr x_K_init_20 (by exact kt_kdo (k := 0) rfl (by omega)) ?_
  refine kw_ald_n x_K_init_23 rfl ?_
  refine kw_new (ci := 3) x_K_init_24 (by decide) (by exact rfl) (by omega) ?_
  refine kw_dup x_K_init_27 rfl ?_
  refine c_K_init_28 (N' := 8) ⟨by omega, by omega⟩ (Nat.le_of_ble_eq_true rfl) ?_
  refine s_S_init (e := 5) rfl rfl rfl (fun I2 R2 x2 w2 hS0_2 hS2_2 => ?_)
  have hL0_2 : R2 (kt_z P + 2) 0 = some (kt_z P + 3) := (by rw [w2 _ (by omega)]; exact kt_rw_na (by omega) (by first | exact kt_uR_na (by omega) hL0_1 | exact kt_uR_nj (by decide) hL0_1))
  have hL3_2 : R2 (kt_z P + 2) 3 = some (kt_z P + 4) := (by rw [w2 _ (by omega)]; exact kt_rw_na (by omega) (by first | exact kt_uR_na (by omega) hL3_1 | exact kt_uR_nj (by decide) hL3_1))
  have hA_2 : R2 (kt_z P) 2 = some (kt_z P + 1) := (by rw [w2 _ (by omega)]; exact kt_rw_na (by omega) (by first | exact kt_uR_na (by omega) hA_1 | exact kt_uR_nj (by decide) hA_1))
  have iz_2 : ∀ j, I2 (kt_z P) j = 0 := (fun j => by rw [x2 _ (by omega), kt_rw_ne _ _ (by omega)]; exact iz_1 j)
  have hB_2 : R2 (kt_z P) 4 = some (kt_z P + 2) := (by rw [w2 _ (by omega)]; exact kt_rw_na (by omega) kt_uR_eq)
  have i5_2 : ∀ j, I2 (kt_z P + 5) j = 0 := (fun j => by rw [x2 _ (by omega)]; exact congrFun (kt_rw_eq _ _ _) j)
  refine kw_pr x_K_init_31 (by exact kt_kdo (k := 0) rfl (by omega)) ?_
  refine kw_ald_n x_K_init_34 rfl ?_
  refine kw_new (ci := 0) x_K_init_35 (by decide) (by exact rfl) (by omega) ?_
  refine kw_dup x_K_init_38 rfl ?_
  refine kw_ald_n x_K_init_39 rfl ?_
  refine kw_gr x_K_init_40 (by exact kt_kdo (k := 0) rfl (by omega)) (by first | exact kt_rw_na (by omega) (kt_uR_nj (by decide) hB_2) | exact kt_rw_na (by omega) (kt_uR_nj (by decide) hB_3)) ?_
  refine c_K_init_43 (N' := 23) ⟨by omega, by omega⟩ (Nat.le_of_ble_eq_true rfl) ?_
  refine s_C_init (c := 8) (lo := kt_z P + 2) kt_cc8 (fun I3 J3 R3 x3 y3 w3 nc8_3 => ?_)
  have hL0_3 : R3 (kt_z P + 2) 0 = some (kt_z P + 3) := (by rw [w3 _ (by omega)]; exact kt_rw_na (by omega) (by first | exact kt_uR_na (by omega) hL0_2 | exact kt_uR_nj (by decide) hL0_2))
  have hL3_3 : R3 (kt_z P + 2) 3 = some (kt_z P + 4) := (by rw [w3 _ (by omega)]; exact kt_rw_na (by omega) (by first | exact kt_uR_na (by omega) hL3_2 | exact kt_uR_nj (by decide) hL3_2))
  have hA_3 : R3 (kt_z P) 2 = some (kt_z P + 1) := (by rw [w3 _ (by omega)]; exact kt_rw_na (by omega) (by first | exact kt_uR_na (by omega) hA_2 | exact kt_uR_nj (by decide) hA_2))
  have iz_3 : ∀ j, I3 (kt_z P) j = 0 := (fun j => by rw [x3 _ (by omega), kt_rw_ne _ _ (by omega)]; exact iz_2 j)
  have hS0_3 : R3 (kt_z P + 5) 0 = some (kt_z P + 6) := (by rw [w3 _ (by omega)]; exact kt_rw_na (by omega) (by first | exact kt_uR_na (by omega) hS0_2 | exact kt_uR_nj (by decide) hS0_2))
  have hS2_3 : R3 (kt_z P + 5) 2 = some (kt_z P + 7) := (by rw [w3 _ (by omega)]; exact kt_rw_na (by omega) (by first | exact kt_uR_na (by omega) hS2_2 | exact kt_uR_nj (by decide) hS2_2))
  have hB_3 : R3 (kt_z P) 4 = some (kt_z P + 2) := (by rw [w3 _ (by omega)]; exact kt_rw_na (by omega) (by first | exact kt_uR_na (by omega) hB_2 | exact kt_uR_nj (by decide) hB_2))
  have i5_3 : ∀ j, I3 (kt_z P + 5) j = 0 := (fun j => by rw [x3 _ (by omega), kt_rw_ne _ _ (by omega)]; exact i5_2 j)
  have hC_3 : R3 (kt_z P) 5 = some (kt_z P + 5) := (by rw [w3 _ (by omega)]; exact kt_rw_na (by omega) kt_uR_eq)
  have ic8_3 : ∀ j, I3 (kt_z P + 8) j = 0 := (fun j => by rw [x3 _ (by omega)]; exact congrFun (kt_rw_eq _ _ _) j)
  refine kw_pr x_K_init_46 (by exact kt_kdo (k := 0) rfl (by omega)) ?_
  refine kw_ald_n x_K_init_49 rfl ?_
  refine kw_new (ci := 0) x_K_init_50 (by decide) (by exact rfl) (by omega) ?_
  refine kw_dup x_K_init_53 rfl ?_
  refine kw_ald_n x_K_init_54 rfl ?_
  refine kw_gr x_K_init_55 (by exact kt_kdo (k := 0) rfl (by omega)) (by first | exact kt_rw_na (by omega) (kt_uR_nj (by decide) hB_2) | exact kt_rw_na (by omega) (kt_uR_nj (by decide) hB_3)) ?_
  refine c_K_init_58 (N' := 38) ⟨by omega, by omega⟩ (Nat.le_of_ble_eq_true rfl) ?_
  refine s_C_init (c := 23) (lo := kt_z P + 2) kt_cc23 (fun I4 J4 R4 x4 y4 w4 nc23_4 => ?_)
  have hL0_4 : R4 (kt_z P + 2) 0 = some (kt_z P + 3) := (by rw [w4 _ (by omega)]; exact kt_rw_na (by omega) (by first | exact kt_uR_na (by omega) hL0_3 | exact kt_uR_nj (by decide) hL0_3))
  have hL3_4 : R4 (kt_z P + 2) 3 = some (kt_z P + 4) := (by rw [w4 _ (by omega)]; exact kt_rw_na (by omega) (by first | exact kt_uR_na (by omega) hL3_3 | exact kt_uR_nj (by decide) hL3_3))
  have hA_4 : R4 (kt_z P) 2 = some (kt_z P + 1) := (by rw [w4 _ (by omega)]; exact kt_rw_na (by omega) (by first | exact kt_uR_na (by omega) hA_3 | exact kt_uR_nj (by decide) hA_3))
  have iz_4 : ∀ j, I4 (kt_z P) j = 0 := (fun j => by rw [x4 _ (by omega), kt_rw_ne _ _ (by omega)]; exact iz_3 j)
  have hS0_4 : R4 (kt_z P + 5) 0 = some (kt_z P + 6) := (by rw [w4 _ (by omega)]; exact kt_rw_na (by omega) (by first | exact kt_uR_na (by omega) hS0_3 | exact kt_uR_nj (by decide) hS0_3))
  have hS2_4 : R4 (kt_z P + 5) 2 = some (kt_z P + 7) := (by rw [w4 _ (by omega)]; exact kt_rw_na (by omega) (by first | exact kt_uR_na (by omega) hS2_3 | exact kt_uR_nj (by decide) hS2_3))
  have hB_4 : R4 (kt_z P) 4 = some (kt_z P + 2) := (by rw [w4 _ (by omega)]; exact kt_rw_na (by omega) (by first | exact kt_uR_na (by omega) hB_3 | exact kt_uR_nj (by decide) hB_3))
  have i5_4 : ∀ j, I4 (kt_z P + 5) j = 0 := (fun j => by rw [x4 _ (by omega), kt_rw_ne _ _ (by omega)]; exact i5_3 j)
  have hC_4 : R4 (kt_z P) 5 = some (kt_z P + 5) := (by rw [w4 _ (by omega)]; exact kt_rw_na (by omega) (by first | exact kt_uR_na (by omega) hC_3 | exact kt_uR_nj (by decide) hC_3))
  have nc8_4 : kt_nc (kt_z P + 8) (kt_z P + 2) I4 J4 R4 := (nc8_3.ext (fun a g1 g2 => by rw [x4 a (by omega), kt_rw_ne _ _ (by omega)]) (fun a g1 g2 => by rw [y4 a (by omega), kt_rw_ne _ _ (by omega)]) (fun a g1 g2 => by rw [w4 a (by omega), kt_rw_ne _ _ (by omega), kt_uR_ne _ _ _ (by omega)]))
  have ic8_4 : ∀ j, I4 (kt_z P + 8) j = 0 := (fun j => by rw [x4 _ (by omega), kt_rw_ne _ _ (by omega)]; exact ic8_3 j)
  have hD_4 : R4 (kt_z P) 0 = some (kt_z P + 8) := (by rw [w4 _ (by omega)]; exact kt_rw_na (by omega) kt_uR_eq)
  have ic23_4 : ∀ j, I4 (kt_z P + 23) j = 0 := (fun j => by rw [x4 _ (by omega)]; exact congrFun (kt_rw_eq _ _ _) j)
  refine kw_pr x_K_init_61 (by exact kt_kdo (k := 0) rfl (by omega)) ?_
  refine kw_icon x_K_init_64 ?_
  refine kw_ist_n x_K_init_65 (by decide) ?_
  refine kw_ild_n x_K_init_66 rfl ?_
  refine kw_icon x_K_init_67 ?_
  first | refine kw_ic_ge_n x_K_init_68 ⟨by omega, by omega⟩ (fun h68 => ?_) (fun h68 => ?_) | refine kw_ic_ge x_K_init_68 (fun h68 => ?_) (fun h68 => ?_)
  · exfalso; first | omega | contradiction | exact absurd (by decide) h68 | exact absurd h68 (by decide)
  · skip
    refine kw_ald_n x_K_init_71 rfl ?_
    refine kw_gr x_K_init_72 (by exact kt_kdo (k := 0) rfl (by omega)) (by first | exact kt_uR_nj (by decide) hA_4 | exact kt_uR_na (by omega) hA_4) ?_
    refine kw_ild_n x_K_init_75 rfl ?_
    refine kw_new (ci := 0) x_K_init_76 (by decide) (by exact rfl) (by omega) ?_
    refine kw_dup x_K_init_79 rfl ?_
    refine kw_ald_n x_K_init_80 rfl ?_
    refine kw_gr x_K_init_81 (by exact kt_kdo (k := 0) rfl (by omega)) (by first | exact kt_rw_na (by omega) (kt_uR_nj (by decide) hB_4) | exact kt_rw_na (by omega) (kt_uR_na (by omega) hB_4)) ?_
    refine c_K_init_84 (N' := 53) ⟨by omega, by omega⟩ (Nat.le_of_ble_eq_true rfl) ?_
    refine s_C_init (c := 38) (lo := kt_z P + 2) kt_cc38 (fun I5 J5 R5 x5 y5 w5 nc38_5 => ?_)
    have hL0_5 : R5 (kt_z P + 2) 0 = some (kt_z P + 3) := (by rw [w5 _ (by omega)]; exact kt_rw_na (by omega) (by first | exact kt_uR_na (by omega) hL0_4 | exact kt_uR_nj (by decide) hL0_4))
    have hL3_5 : R5 (kt_z P + 2) 3 = some (kt_z P + 4) := (by rw [w5 _ (by omega)]; exact kt_rw_na (by omega) (by first | exact kt_uR_na (by omega) hL3_4 | exact kt_uR_nj (by decide) hL3_4))
    have hA_5 : R5 (kt_z P) 2 = some (kt_z P + 1) := (by rw [w5 _ (by omega)]; exact kt_rw_na (by omega) (by first | exact kt_uR_na (by omega) hA_4 | exact kt_uR_nj (by decide) hA_4))
    have iz_5 : ∀ j, I5 (kt_z P) j = 0 := (fun j => by rw [x5 _ (by omega), kt_rw_ne _ _ (by omega)]; exact iz_4 j)
    have hS0_5 : R5 (kt_z P + 5) 0 = some (kt_z P + 6) := (by rw [w5 _ (by omega)]; exact kt_rw_na (by omega) (by first | exact kt_uR_na (by omega) hS0_4 | exact kt_uR_nj (by decide) hS0_4))
    have hS2_5 : R5 (kt_z P + 5) 2 = some (kt_z P + 7) := (by rw [w5 _ (by omega)]; exact kt_rw_na (by omega) (by first | exact kt_uR_na (by omega) hS2_4 | exact kt_uR_nj (by decide) hS2_4))
    have hB_5 : R5 (kt_z P) 4 = some (kt_z P + 2) := (by rw [w5 _ (by omega)]; exact kt_rw_na (by omega) (by first | exact kt_uR_na (by omega) hB_4 | exact kt_uR_nj (by decide) hB_4))
    have i5_5 : ∀ j, I5 (kt_z P + 5) j = 0 := (fun j => by rw [x5 _ (by omega), kt_rw_ne _ _ (by omega)]; exact i5_4 j)
    have hC_5 : R5 (kt_z P) 5 = some (kt_z P + 5) := (by rw [w5 _ (by omega)]; exact kt_rw_na (by omega) (by first | exact kt_uR_na (by omega) hC_4 | exact kt_uR_nj (by decide) hC_4))
    have nc8_5 : kt_nc (kt_z P + 8) (kt_z P + 2) I5 J5 R5 := (nc8_4.ext (fun a g1 g2 => by rw [x5 a (by omega), kt_rw_ne _ _ (by omega)]) (fun a g1 g2 => by rw [y5 a (by omega), kt_rw_ne _ _ (by omega)]) (fun a g1 g2 => by rw [w5 a (by omega), kt_rw_ne _ _ (by omega), kt_uR_ne _ _ _ (by omega)]))
    have ic8_5 : ∀ j, I5 (kt_z P + 8) j = 0 := (fun j => by rw [x5 _ (by omega), kt_rw_ne _ _ (by omega)]; exact ic8_4 j)
    have hD_5 : R5 (kt_z P) 0 = some (kt_z P + 8) := (by rw [w5 _ (by omega)]; exact kt_rw_na (by omega) (by first | exact kt_uR_na (by omega) hD_4 | exact kt_uR_nj (by decide) hD_4))
    have nc23_5 : kt_nc (kt_z P + 23) (kt_z P + 2) I5 J5 R5 := (nc23_4.ext (fun a g1 g2 => by rw [x5 a (by omega), kt_rw_ne _ _ (by omega)]) (fun a g1 g2 => by rw [y5 a (by omega), kt_rw_ne _ _ (by omega)]) (fun a g1 g2 => by rw [w5 a (by omega), kt_rw_ne _ _ (by omega), kt_uR_ne _ _ _ (by omega)]))
    have ic23_5 : ∀ j, I5 (kt_z P + 23) j = 0 := (fun j => by rw [x5 _ (by omega), kt_rw_ne _ _ (by omega)]; exact ic23_4 j)
    have hE_5 : R5 (kt_z P) 1 = some (kt_z P + 23) := (by rw [w5 _ (by omega)]; exact kt_rw_na (by omega) kt_uR_eq)
    have ic38_5 : ∀ j, I5 (kt_z P + 38) j = 0 := (fun j => by rw [x5 _ (by omega)]; exact congrFun (kt_rw_eq _ _ _) j)
    refine kw_aast_n x_K_init_87 (by exact kt_kdo (k := 1) rfl (by omega)) (by exact kt_kdo (k := 38) rfl (by omega)) (by omega) (by omega) ?_
    first | refine kw_iinc_n x_K_init_88 (by decide) rfl ?_ | refine kw_iinc x_K_init_88 (by decide) rfl ?_
    refine kw_goto x_K_init_91 ?_
    refine kw_ild_n x_K_init_66 rfl ?_
    refine kw_icon x_K_init_67 ?_
    first | refine kw_ic_ge_n x_K_init_68 ⟨by omega, by omega⟩ (fun h68 => ?_) (fun h68 => ?_) | refine kw_ic_ge x_K_init_68 (fun h68 => ?_) (fun h68 => ?_)
    · exfalso; first | omega | contradiction | exact absurd (by decide) h68 | exact absurd h68 (by decide)
    · skip
      refine kw_ald_n x_K_init_71 rfl ?_
      refine kw_gr x_K_init_72 (by exact kt_kdo (k := 0) rfl (by omega)) (by first | exact kt_uR_nj (by decide) hA_5 | exact kt_uR_na (by omega) hA_5) ?_
      refine kw_ild_n x_K_init_75 rfl ?_
      refine kw_new (ci := 0) x_K_init_76 (by decide) (by exact rfl) (by omega) ?_
      refine kw_dup x_K_init_79 rfl ?_
      refine kw_ald_n x_K_init_80 rfl ?_
      refine kw_gr x_K_init_81 (by exact kt_kdo (k := 0) rfl (by omega)) (by first | exact kt_rw_na (by omega) (kt_uR_nj (by decide) hB_5) | exact kt_rw_na (by omega) (kt_uR_na (by omega) hB_5)) ?_
      refine c_K_init_84 (N' := 68) ⟨by omega, by omega⟩ (Nat.le_of_ble_eq_true rfl) ?_
      refine s_C_init (c := 53) (lo := kt_z P + 2) kt_cc53 (fun I6 J6 R6 x6 y6 w6 nc53_6 => ?_)
      have hL0_6 : R6 (kt_z P + 2) 0 = some (kt_z P + 3) := (by rw [w6 _ (by omega)]; exact kt_rw_na (by omega) (by first | exact kt_uR_na (by omega) hL0_5 | exact kt_uR_nj (by decide) hL0_5))
      have hL3_6 : R6 (kt_z P + 2) 3 = some (kt_z P + 4) := (by rw [w6 _ (by omega)]; exact kt_rw_na (by omega) (by first | exact kt_uR_na (by omega) hL3_5 | exact kt_uR_nj (by decide) hL3_5))
      have hA_6 : R6 (kt_z P) 2 = some (kt_z P + 1) := (by rw [w6 _ (by omega)]; exact kt_rw_na (by omega) (by first | exact kt_uR_na (by omega) hA_5 | exact kt_uR_nj (by decide) hA_5))
      have iz_6 : ∀ j, I6 (kt_z P) j = 0 := (fun j => by rw [x6 _ (by omega), kt_rw_ne _ _ (by omega)]; exact iz_5 j)
      have hS0_6 : R6 (kt_z P + 5) 0 = some (kt_z P + 6) := (by rw [w6 _ (by omega)]; exact kt_rw_na (by omega) (by first | exact kt_uR_na (by omega) hS0_5 | exact kt_uR_nj (by decide) hS0_5))
      have hS2_6 : R6 (kt_z P + 5) 2 = some (kt_z P + 7) := (by rw [w6 _ (by omega)]; exact kt_rw_na (by omega) (by first | exact kt_uR_na (by omega) hS2_5 | exact kt_uR_nj (by decide) hS2_5))
      have hB_6 : R6 (kt_z P) 4 = some (kt_z P + 2) := (by rw [w6 _ (by omega)]; exact kt_rw_na (by omega) (by first | exact kt_uR_na (by omega) hB_5 | exact kt_uR_nj (by decide) hB_5))
      have i5_6 : ∀ j, I6 (kt_z P + 5) j = 0 := (fun j => by rw [x6 _ (by omega), kt_rw_ne _ _ (by omega)]; exact i5_5 j)
      have hC_6 : R6 (kt_z P) 5 = some (kt_z P + 5) := (by rw [w6 _ (by omega)]; exact kt_rw_na (by omega) (by first | exact kt_uR_na (by omega) hC_5 | exact kt_uR_nj (by decide) hC_5))
      have nc8_6 : kt_nc (kt_z P + 8) (kt_z P + 2) I6 J6 R6 := (nc8_5.ext (fun a g1 g2 => by rw [x6 a (by omega), kt_rw_ne _ _ (by omega)]) (fun a g1 g2 => by rw [y6 a (by omega), kt_rw_ne _ _ (by omega)]) (fun a g1 g2 => by rw [w6 a (by omega), kt_rw_ne _ _ (by omega), kt_uR_ne _ _ _ (by omega)]))
      have ic8_6 : ∀ j, I6 (kt_z P + 8) j = 0 := (fun j => by rw [x6 _ (by omega), kt_rw_ne _ _ (by omega)]; exact ic8_5 j)
      have hD_6 : R6 (kt_z P) 0 = some (kt_z P + 8) := (by rw [w6 _ (by omega)]; exact kt_rw_na (by omega) (by first | exact kt_uR_na (by omega) hD_5 | exact kt_uR_nj (by decide) hD_5))
      have nc23_6 : kt_nc (kt_z P + 23) (kt_z P + 2) I6 J6 R6 := (nc23_5.ext (fun a g1 g2 => by rw [x6 a (by omega), kt_rw_ne _ _ (by omega)]) (fun a g1 g2 => by rw [y6 a (by omega), kt_rw_ne _ _ (by omega)]) (fun a g1 g2 => by rw [w6 a (by omega), kt_rw_ne _ _ (by omega), kt_uR_ne _ _ _ (by omega)]))
      have ic23_6 : ∀ j, I6 (kt_z P + 23) j = 0 := (fun j => by rw [x6 _ (by omega), kt_rw_ne _ _ (by omega)]; exact ic23_5 j)
      have hE_6 : R6 (kt_z P) 1 = some (kt_z P + 23) := (by rw [w6 _ (by omega)]; exact kt_rw_na (by omega) (by first | exact kt_uR_na (by omega) hE_5 | exact kt_uR_nj (by decide) hE_5))
      have nc38_6 : kt_nc (kt_z P + 38) (kt_z P + 2) I6 J6 R6 := (nc38_5.ext (fun a g1 g2 => by rw [x6 a (by omega), kt_rw_ne _ _ (by omega)]) (fun a g1 g2 => by rw [y6 a (by omega), kt_rw_ne _ _ (by omega)]) (fun a g1 g2 => by rw [w6 a (by omega), kt_rw_ne _ _ (by omega), kt_uR_ne _ _ _ (by omega)]))
      have ic38_6 : ∀ j, I6 (kt_z P + 38) j = 0 := (fun j => by rw [x6 _ (by omega), kt_rw_ne _ _ (by omega)]; exact ic38_5 j)
      have hH0_6 : R6 (kt_z P + 1) 0 = some (kt_z P + 38) := (by rw [w6 _ (by omega)]; exact kt_rw_na (by omega) kt_uR_eq)
      have ic53_6 : ∀ j, I6 (kt_z P + 53) j = 0 := (fun j => by rw [x6 _ (by omega)]; exact congrFun (kt_rw_eq _ _ _) j)
      refine kw_aast_n x_K_init_87 (by exact kt_kdo (k := 1) rfl (by omega)) (by exact kt_kdo (k := 53) rfl (by omega)) (by omega) (by omega) ?_
      first | refine kw_iinc_n x_K_init_88 (by decide) rfl ?_ | refine kw_iinc x_K_init_88 (by decide) rfl ?_
      refine kw_goto x_K_init_91 ?_
      refine kw_ild_n x_K_init_66 rfl ?_
      refine kw_icon x_K_init_67 ?_
      first | refine kw_ic_ge_n x_K_init_68 ⟨by omega, by omega⟩ (fun h68 => ?_) (fun h68 => ?_) | refine kw_ic_ge x_K_init_68 (fun h68 => ?_) (fun h68 => ?_)
      · exfalso; first | omega | contradiction | exact absurd (by decide) h68 | exact absurd h68 (by decide)
      · skip
        refine kw_ald_n x_K_init_71 rfl ?_
        refine kw_gr x_K_init_72 (by exact kt_kdo (k := 0) rfl (by omega)) (by first | exact kt_uR_nj (by decide) hA_6 | exact kt_uR_na (by omega) hA_6) ?_
        refine kw_ild_n x_K_init_75 rfl ?_
        refine kw_new (ci := 0) x_K_init_76 (by decide) (by exact rfl) (by omega) ?_
        refine kw_dup x_K_init_79 rfl ?_
        refine kw_ald_n x_K_init_80 rfl ?_
        refine kw_gr x_K_init_81 (by exact kt_kdo (k := 0) rfl (by omega)) (by first | exact kt_rw_na (by omega) (kt_uR_nj (by decide) hB_6) | exact kt_rw_na (by omega) (kt_uR_na (by omega) hB_6)) ?_
        refine c_K_init_84 (N' := 83) ⟨by omega, by omega⟩ (Nat.le_of_ble_eq_true rfl) ?_
        refine s_C_init (c := 68) (lo := kt_z P + 2) kt_cc68 (fun I7 J7 R7 x7 y7 w7 nc68_7 => ?_)
        have hL0_7 : R7 (kt_z P + 2) 0 = some (kt_z P + 3) := (by rw [w7 _ (by omega)]; exact kt_rw_na (by omega) (by first | exact kt_uR_na (by omega) hL0_6 | exact kt_uR_nj (by decide) hL0_6))
        have hL3_7 : R7 (kt_z P + 2) 3 = some (kt_z P + 4) := (by rw [w7 _ (by omega)]; exact kt_rw_na (by omega) (by first | exact kt_uR_na (by omega) hL3_6 | exact kt_uR_nj (by decide) hL3_6))
        have hA_7 : R7 (kt_z P) 2 = some (kt_z P + 1) := (by rw [w7 _ (by omega)]; exact kt_rw_na (by omega) (by first | exact kt_uR_na (by omega) hA_6 | exact kt_uR_nj (by decide) hA_6))
        have iz_7 : ∀ j, I7 (kt_z P) j = 0 := (fun j => by rw [x7 _ (by omega), kt_rw_ne _ _ (by omega)]; exact iz_6 j)
        have hS0_7 : R7 (kt_z P + 5) 0 = some (kt_z P + 6) := (by rw [w7 _ (by omega)]; exact kt_rw_na (by omega) (by first | exact kt_uR_na (by omega) hS0_6 | exact kt_uR_nj (by decide) hS0_6))
        have hS2_7 : R7 (kt_z P + 5) 2 = some (kt_z P + 7) := (by rw [w7 _ (by omega)]; exact kt_rw_na (by omega) (by first | exact kt_uR_na (by omega) hS2_6 | exact kt_uR_nj (by decide) hS2_6))
        have hB_7 : R7 (kt_z P) 4 = some (kt_z P + 2) := (by rw [w7 _ (by omega)]; exact kt_rw_na (by omega) (by first | exact kt_uR_na (by omega) hB_6 | exact kt_uR_nj (by decide) hB_6))
        have i5_7 : ∀ j, I7 (kt_z P + 5) j = 0 := (fun j => by rw [x7 _ (by omega), kt_rw_ne _ _ (by omega)]; exact i5_6 j)
        have hC_7 : R7 (kt_z P) 5 = some (kt_z P + 5) := (by rw [w7 _ (by omega)]; exact kt_rw_na (by omega) (by first | exact kt_uR_na (by omega) hC_6 | exact kt_uR_nj (by decide) hC_6))
        have nc8_7 : kt_nc (kt_z P + 8) (kt_z P + 2) I7 J7 R7 := (nc8_6.ext (fun a g1 g2 => by rw [x7 a (by omega), kt_rw_ne _ _ (by omega)]) (fun a g1 g2 => by rw [y7 a (by omega), kt_rw_ne _ _ (by omega)]) (fun a g1 g2 => by rw [w7 a (by omega), kt_rw_ne _ _ (by omega), kt_uR_ne _ _ _ (by omega)]))
        have ic8_7 : ∀ j, I7 (kt_z P + 8) j = 0 := (fun j => by rw [x7 _ (by omega), kt_rw_ne _ _ (by omega)]; exact ic8_6 j)
        have hD_7 : R7 (kt_z P) 0 = some (kt_z P + 8) := (by rw [w7 _ (by omega)]; exact kt_rw_na (by omega) (by first | exact kt_uR_na (by omega) hD_6 | exact kt_uR_nj (by decide) hD_6))
        have nc23_7 : kt_nc (kt_z P + 23) (kt_z P + 2) I7 J7 R7 := (nc23_6.ext (fun a g1 g2 => by rw [x7 a (by omega), kt_rw_ne _ _ (by omega)]) (fun a g1 g2 => by rw [y7 a (by omega), kt_rw_ne _ _ (by omega)]) (fun a g1 g2 => by rw [w7 a (by omega), kt_rw_ne _ _ (by omega), kt_uR_ne _ _ _ (by omega)]))
        have ic23_7 : ∀ j, I7 (kt_z P + 23) j = 0 := (fun j => by rw [x7 _ (by omega), kt_rw_ne _ _ (by omega)]; exact ic23_6 j)
        have hE_7 : R7 (kt_z P) 1 = some (kt_z P + 23) := (by rw [w7 _ (by omega)]; exact kt_rw_na (by omega) (by first | exact kt_uR_na (by omega) hE_6 | exact kt_uR_nj (by decide) hE_6))
        have nc38_7 : kt_nc (kt_z P + 38) (kt_z P + 2) I7 J7 R7 := (nc38_6.ext (fun a g1 g2 => by rw [x7 a (by omega), kt_rw_ne _ _ (by omega)]) (fun a g1 g2 => by rw [y7 a (by omega), kt_rw_ne _ _ (by omega)]) (fun a g1 g2 => by rw [w7 a (by omega), kt_rw_ne _ _ (by omega), kt_uR_ne _ _ _ (by omega)]))
        have ic38_7 : ∀ j, I7 (kt_z P + 38) j = 0 := (fun j => by rw [x7 _ (by omega), kt_rw_ne _ _ (by omega)]; exact ic38_6 j)
        have hH0_7 : R7 (kt_z P + 1) 0 = some (kt_z P + 38) := (by rw [w7 _ (by omega)]; exact kt_rw_na (by omega) (by first | exact kt_uR_na (by omega) hH0_6 | exact kt_uR_nj (by decide) hH0_6))
        have nc53_7 : kt_nc (kt_z P + 53) (kt_z P + 2) I7 J7 R7 := (nc53_6.ext (fun a g1 g2 => by rw [x7 a (by omega), kt_rw_ne _ _ (by omega)]) (fun a g1 g2 => by rw [y7 a (by omega), kt_rw_ne _ _ (by omega)]) (fun a g1 g2 => by rw [w7 a (by omega), kt_rw_ne _ _ (by omega), kt_uR_ne _ _ _ (by omega)]))
        have ic53_7 : ∀ j, I7 (kt_z P + 53) j = 0 := (fun j => by rw [x7 _ (by omega), kt_rw_ne _ _ (by omega)]; exact ic53_6 j)
        have hH1_7 : R7 (kt_z P + 1) 1 = some (kt_z P + 53) := (by rw [w7 _ (by omega)]; exact kt_rw_na (by omega) kt_uR_eq)
        have ic68_7 : ∀ j, I7 (kt_z P + 68) j = 0 := (fun j => by rw [x7 _ (by omega)]; exact congrFun (kt_rw_eq _ _ _) j)
        refine kw_aast_n x_K_init_87 (by exact kt_kdo (k := 1) rfl (by omega)) (by exact kt_kdo (k := 68) rfl (by omega)) (by omega) (by omega) ?_
        first | refine kw_iinc_n x_K_init_88 (by decide) rfl ?_ | refine kw_iinc x_K_init_88 (by decide) rfl ?_
        refine kw_goto x_K_init_91 ?_
        refine kw_ild_n x_K_init_66 rfl ?_
        refine kw_icon x_K_init_67 ?_
        first | refine kw_ic_ge_n x_K_init_68 ⟨by omega, by omega⟩ (fun h68 => ?_) (fun h68 => ?_) | refine kw_ic_ge x_K_init_68 (fun h68 => ?_) (fun h68 => ?_)
        · exfalso; first | omega | contradiction | exact absurd (by decide) h68 | exact absurd h68 (by decide)
        · skip
          refine kw_ald_n x_K_init_71 rfl ?_
          refine kw_gr x_K_init_72 (by exact kt_kdo (k := 0) rfl (by omega)) (by first | exact kt_uR_nj (by decide) hA_7 | exact kt_uR_na (by omega) hA_7) ?_
          refine kw_ild_n x_K_init_75 rfl ?_
          refine kw_new (ci := 0) x_K_init_76 (by decide) (by exact rfl) (by omega) ?_
          refine kw_dup x_K_init_79 rfl ?_
          refine kw_ald_n x_K_init_80 rfl ?_
          refine kw_gr x_K_init_81 (by exact kt_kdo (k := 0) rfl (by omega)) (by first | exact kt_rw_na (by omega) (kt_uR_nj (by decide) hB_7) | exact kt_rw_na (by omega) (kt_uR_na (by omega) hB_7)) ?_
          refine c_K_init_84 (N' := 98) ⟨by omega, by omega⟩ (Nat.le_of_ble_eq_true rfl) ?_
          refine s_C_init (c := 83) (lo := kt_z P + 2) kt_cc83 (fun I8 J8 R8 x8 y8 w8 nc83_8 => ?_)
          have hL0_8 : R8 (kt_z P + 2) 0 = some (kt_z P + 3) := (by rw [w8 _ (by omega)]; exact kt_rw_na (by omega) (by first | exact kt_uR_na (by omega) hL0_7 | exact kt_uR_nj (by decide) hL0_7))
          have hL3_8 : R8 (kt_z P + 2) 3 = some (kt_z P + 4) := (by rw [w8 _ (by omega)]; exact kt_rw_na (by omega) (by first | exact kt_uR_na (by omega) hL3_7 | exact kt_uR_nj (by decide) hL3_7))
          have hA_8 : R8 (kt_z P) 2 = some (kt_z P + 1) := (by rw [w8 _ (by omega)]; exact kt_rw_na (by omega) (by first | exact kt_uR_na (by omega) hA_7 | exact kt_uR_nj (by decide) hA_7))
          have iz_8 : ∀ j, I8 (kt_z P) j = 0 := (fun j => by rw [x8 _ (by omega), kt_rw_ne _ _ (by omega)]; exact iz_7 j)
          have hS0_8 : R8 (kt_z P + 5) 0 = some (kt_z P + 6) := (by rw [w8 _ (by omega)]; exact kt_rw_na (by omega) (by first | exact kt_uR_na (by omega) hS0_7 | exact kt_uR_nj (by decide) hS0_7))
          have hS2_8 : R8 (kt_z P + 5) 2 = some (kt_z P + 7) := (by rw [w8 _ (by omega)]; exact kt_rw_na (by omega) (by first | exact kt_uR_na (by omega) hS2_7 | exact kt_uR_nj (by decide) hS2_7))
          have hB_8 : R8 (kt_z P) 4 = some (kt_z P + 2) := (by rw [w8 _ (by omega)]; exact kt_rw_na (by omega) (by first | exact kt_uR_na (by omega) hB_7 | exact kt_uR_nj (by decide) hB_7))
          have i5_8 : ∀ j, I8 (kt_z P + 5) j = 0 := (fun j => by rw [x8 _ (by omega), kt_rw_ne _ _ (by omega)]; exact i5_7 j)
          have hC_8 : R8 (kt_z P) 5 = some (kt_z P + 5) := (by rw [w8 _ (by omega)]; exact kt_rw_na (by omega) (by first | exact kt_uR_na (by omega) hC_7 | exact kt_uR_nj (by decide) hC_7))
          have nc8_8 : kt_nc (kt_z P + 8) (kt_z P + 2) I8 J8 R8 := (nc8_7.ext (fun a g1 g2 => by rw [x8 a (by omega), kt_rw_ne _ _ (by omega)]) (fun a g1 g2 => by rw [y8 a (by omega), kt_rw_ne _ _ (by omega)]) (fun a g1 g2 => by rw [w8 a (by omega), kt_rw_ne _ _ (by omega), kt_uR_ne _ _ _ (by omega)]))
          have ic8_8 : ∀ j, I8 (kt_z P + 8) j = 0 := (fun j => by rw [x8 _ (by omega), kt_rw_ne _ _ (by omega)]; exact ic8_7 j)
          have hD_8 : R8 (kt_z P) 0 = some (kt_z P + 8) := (by rw [w8 _ (by omega)]; exact kt_rw_na (by omega) (by first | exact kt_uR_na (by omega) hD_7 | exact kt_uR_nj (by decide) hD_7))
          have nc23_8 : kt_nc (kt_z P + 23) (kt_z P + 2) I8 J8 R8 := (nc23_7.ext (fun a g1 g2 => by rw [x8 a (by omega), kt_rw_ne _ _ (by omega)]) (fun a g1 g2 => by rw [y8 a (by omega), kt_rw_ne _ _ (by omega)]) (fun a g1 g2 => by rw [w8 a (by omega), kt_rw_ne _ _ (by omega), kt_uR_ne _ _ _ (by omega)]))
          have ic23_8 : ∀ j, I8 (kt_z P + 23) j = 0 := (fun j => by rw [x8 _ (by omega), kt_rw_ne _ _ (by omega)]; exact ic23_7 j)
          have hE_8 : R8 (kt_z P) 1 = some (kt_z P + 23) := (by rw [w8 _ (by omega)]; exact kt_rw_na (by omega) (by first | exact kt_uR_na (by omega) hE_7 | exact kt_uR_nj (by decide) hE_7))
          have nc38_8 : kt_nc (kt_z P + 38) (kt_z P + 2) I8 J8 R8 := (nc38_7.ext (fun a g1 g2 => by rw [x8 a (by omega), kt_rw_ne _ _ (by omega)]) (fun a g1 g2 => by rw [y8 a (by omega), kt_rw_ne _ _ (by omega)]) (fun a g1 g2 => by rw [w8 a (by omega), kt_rw_ne _ _ (by omega), kt_uR_ne _ _ _ (by omega)]))
          have ic38_8 : ∀ j, I8 (kt_z P + 38) j = 0 := (fun j => by rw [x8 _ (by omega), kt_rw_ne _ _ (by omega)]; exact ic38_7 j)
          have hH0_8 : R8 (kt_z P + 1) 0 = some (kt_z P + 38) := (by rw [w8 _ (by omega)]; exact kt_rw_na (by omega) (by first | exact kt_uR_na (by omega) hH0_7 | exact kt_uR_nj (by decide) hH0_7))
          have nc53_8 : kt_nc (kt_z P + 53) (kt_z P + 2) I8 J8 R8 := (nc53_7.ext (fun a g1 g2 => by rw [x8 a (by omega), kt_rw_ne _ _ (by omega)]) (fun a g1 g2 => by rw [y8 a (by omega), kt_rw_ne _ _ (by omega)]) (fun a g1 g2 => by rw [w8 a (by omega), kt_rw_ne _ _ (by omega), kt_uR_ne _ _ _ (by omega)]))
          have ic53_8 : ∀ j, I8 (kt_z P + 53) j = 0 := (fun j => by rw [x8 _ (by omega), kt_rw_ne _ _ (by omega)]; exact ic53_7 j)
          have hH1_8 : R8 (kt_z P + 1) 1 = some (kt_z P + 53) := (by rw [w8 _ (by omega)]; exact kt_rw_na (by omega) (by first | exact kt_uR_na (by omega) hH1_7 | exact kt_uR_nj (by decide) hH1_7))
          have nc68_8 : kt_nc (kt_z P + 68) (kt_z P + 2) I8 J8 R8 := (nc68_7.ext (fun a g1 g2 => by rw [x8 a (by omega), kt_rw_ne _ _ (by omega)]) (fun a g1 g2 => by rw [y8 a (by omega), kt_rw_ne _ _ (by omega)]) (fun a g1 g2 => by rw [w8 a (by omega), kt_rw_ne _ _ (by omega), kt_uR_ne _ _ _ (by omega)]))
          have ic68_8 : ∀ j, I8 (kt_z P + 68) j = 0 := (fun j => by rw [x8 _ (by omega), kt_rw_ne _ _ (by omega)]; exact ic68_7 j)
          have hH2_8 : R8 (kt_z P + 1) 2 = some (kt_z P + 68) := (by rw [w8 _ (by omega)]; exact kt_rw_na (by omega) kt_uR_eq)
          have ic83_8 : ∀ j, I8 (kt_z P + 83) j = 0 := (fun j => by rw [x8 _ (by omega)]; exact congrFun (kt_rw_eq _ _ _) j)
          refine kw_aast_n x_K_init_87 (by exact kt_kdo (k := 1) rfl (by omega)) (by exact kt_kdo (k := 83) rfl (by omega)) (by omega) (by omega) ?_
          first | refine kw_iinc_n x_K_init_88 (by decide) rfl ?_ | refine kw_iinc x_K_init_88 (by decide) rfl ?_
          refine kw_goto x_K_init_91 ?_
          refine kw_ild_n x_K_init_66 rfl ?_
          refine kw_icon x_K_init_67 ?_
          first | refine kw_ic_ge_n x_K_init_68 ⟨by omega, by omega⟩ (fun h68 => ?_) (fun h68 => ?_) | refine kw_ic_ge x_K_init_68 (fun h68 => ?_) (fun h68 => ?_)
          · skip
            refine kw_vret x_K_init_94 ?_
            have key : ∀ c, 8 ≤ c → kt_nc (kt_z P + c) (kt_z P + 2) I8 J8 R8 → kt_nc (kt_z P + c) (kt_z P + 2) I8 J8 (kt_uR R8 (kt_z P + 1) (0 + 1 + 1 + 1) (some (kt_z P + 83))) := fun c hc h => h.ext (fun _ _ _ => rfl) (fun _ _ _ => rfl) (fun a g1 g2 => kt_uR_ne _ _ _ (by omega))
            refine k I8 J8 _ ⟨⟨kt_uR_na (by omega) hD_8, kt_uR_na (by omega) hE_8, kt_uR_na (by omega) hA_8, kt_uR_na (by omega) hB_8, kt_uR_na (by omega) hC_8⟩, fun j hj => ?_, ⟨kt_uR_na (by omega) hL0_8, kt_uR_na (by omega) hL3_8⟩, ⟨kt_uR_na (by omega) hS0_8, kt_uR_na (by omega) hS2_8⟩, iz_8, i5_8, fun j hj => ?_⟩
            · rcases (by omega : j = 0 ∨ j = 1 ∨ j = 2 ∨ j = 3) with rfl | rfl | rfl | rfl
              · exact kt_uR_nj (by decide) hH0_8
              · exact kt_uR_nj (by decide) hH1_8
              · exact kt_uR_nj (by decide) hH2_8
              · exact kt_uR_eq
            · rcases (by omega : j = 0 ∨ j = 1 ∨ j = 2 ∨ j = 3 ∨ j = 4 ∨ j = 5) with rfl | rfl | rfl | rfl | rfl | rfl
              · exact ⟨ic8_8, key 8 (by decide) nc8_8⟩
              · exact ⟨ic23_8, key 23 (by decide) nc23_8⟩
              · exact ⟨ic38_8, key 38 (by decide) nc38_8⟩
              · exact ⟨ic53_8, key 53 (by decide) nc53_8⟩
              · exact ⟨ic68_8, key 68 (by decide) nc68_8⟩
              · exact ⟨ic83_8, key 83 (by decide) nc83_8⟩
          · exfalso; first | omega | contradiction | exact absurd (by decide) h68 | exact absurd h68 (by decide)
theorem s_M_init (k : ∀ I' J' R', (∀ a, a < kt_z P + 98 → I' a = I a ∧ J' a = J a ∧ R' a = R a) → I' (kt_z P + 98) = I (kt_z P + 98) → (∀ j, I' (kt_z P + 98 + 1) j = 0) →
    (R' (kt_z P + 98) 0 = some (kt_z P + 98 + 1) ∧ R' (kt_z P + 98) 1 = some (kt_z P + 98 + 2) ∧ R' (kt_z P + 98) 2 = some (kt_z P + 98 + 3) ∧ R' (kt_z P + 98) 3 = some (kt_z P + 98 + 4) ∧ R' (kt_z P + 98) 6 = some (kt_z P + 98 + 5) ∧ R' (kt_z P + 98) 8 = some (kt_z P + 98 + 6) ∧ R' (kt_z P + 98) 9 = some (kt_z P + 98 + 7) ∧ R' (kt_z P + 98) 11 = some (kt_z P + 98 + 8) ∧ R' (kt_z P + 98) 12 = some (kt_z P + 98 + 9) ∧ R' (kt_z P + 98) 13 = some (kt_z P + 98 + 10) ∧ R' (kt_z P + 98) 17 = some (kt_z P + 98 + 11)) → Q none I' J' R') :
    KW P i_M_init 110 0 [some (.ref (kt_z P + 98))] [] (98 + 1) I J R Q := by
  refine kw_ald_n x_M_init_0 rfl ?_
  refine kw_objinit x_M_init_1 ⟨by decide, by decide⟩ (Nat.le_of_ble_eq_true rfl) ?_
  refine kw_ald_n x_M_init_4 rfl ?_
  refine kw_sip x_M_init_5 ?_
  refine kw_newI x_M_init_8 (by exact rfl) ⟨nI_pos (by decide), nI_clamp (by decide), by decide⟩ (by omega) ?_
  refine kw_pr x_M_init_10 (by exact kt_kdo (k := 98) rfl (by omega)) ?_
  refine kw_ald_n x_M_init_13 rfl ?_
  refine kw_sip x_M_init_14 ?_
  refine kw_newI x_M_init_17 (by exact rfl) ⟨nI_pos (by decide), nI_clamp (by decide), by decide⟩ (by omega) ?_
  refine kw_pr x_M_init_19 (by exact kt_kdo (k := 98) rfl (by omega)) ?_
  refine kw_ald_n x_M_init_22 rfl ?_
  refine kw_sip x_M_init_23 ?_
  refine kw_newI x_M_init_26 (by exact rfl) ⟨nI_pos (by decide), nI_clamp (by decide), by decide⟩ (by omega) ?_
  refine kw_pr x_M_init_28 (by exact kt_kdo (k := 98) rfl (by omega)) ?_
  refine kw_ald_n x_M_init_31 rfl ?_
  refine kw_sip x_M_init_32 ?_
  refine kw_newI x_M_init_35 (by exact rfl) ⟨nI_pos (by decide), nI_clamp (by decide), by decide⟩ (by omega) ?_
  refine kw_pr x_M_init_37 (by exact kt_kdo (k := 98) rfl (by omega)) ?_
  refine kw_ald_n x_M_init_40 rfl ?_
  refine kw_bip x_M_init_41 ?_
  refine kw_newI x_M_init_43 (by exact rfl) ⟨nI_pos (by decide), nI_clamp (by decide), by decide⟩ (by omega) ?_
  refine kw_pr x_M_init_45 (by exact kt_kdo (k := 98) rfl (by omega)) ?_
  refine kw_ald_n x_M_init_48 rfl ?_
  refine kw_bip x_M_init_49 ?_
  refine kw_newI x_M_init_51 (by exact rfl) ⟨nI_pos (by decide), nI_clamp (by decide), by decide⟩ (by omega) ?_
  refine kw_pr x_M_init_53 (by exact kt_kdo (k := 98) rfl (by omega)) ?_
  refine kw_ald_n x_M_init_56 rfl ?_
  refine kw_bip x_M_init_57 ?_
  refine kw_newI x_M_init_59 (by exact rfl) ⟨nI_pos (by decide), nI_clamp (by decide), by decide⟩ (by omega) ?_
  refine kw_pr x_M_init_61 (by exact kt_kdo (k := 98) rfl (by omega)) ?_
  refine kw_ald_n x_M_init_64 rfl ?_
  refine kw_bip x_M_init_65 ?_
  refine kw_newI x_M_init_67 (by exact rfl) ⟨nI_pos (by decide), nI_clamp (by decide), by decide⟩ (by omega) ?_
  refine kw_pr x_M_init_69 (by exact kt_kdo (k := 98) rfl (by omega)) ?_
  refine kw_ald_n x_M_init_72 rfl ?_
  refine kw_sip x_M_init_73 ?_
  refine kw_newZ x_M_init_76 (by exact rfl) ⟨nI_pos (by decide), nI_clamp (by decide), by decide⟩ (by omega) ?_
  refine kw_pr x_M_init_78 (by exact kt_kdo (k := 98) rfl (by omega)) ?_
  refine kw_ald_n x_M_init_81 rfl ?_
  refine kw_bip x_M_init_82 ?_
  refine kw_newI x_M_init_84 (by exact rfl) ⟨nI_pos (by decide), nI_clamp (by decide), by decide⟩ (by omega) ?_
  refine kw_pr x_M_init_86 (by exact kt_kdo (k := 98) rfl (by omega)) ?_
  refine kw_ald_n x_M_init_89 rfl ?_
  refine kw_icon x_M_init_90 ?_
  refine kw_newI x_M_init_91 (by exact rfl) ⟨nI_pos (by decide), nI_clamp (by decide), by decide⟩ (by omega) ?_
  refine kw_pr x_M_init_93 (by exact kt_kdo (k := 98) rfl (by omega)) ?_
  refine kw_ald_n x_M_init_96 rfl ?_
  refine kw_gr x_M_init_97 (by exact kt_kdo (k := 98) rfl (by omega)) (by exact kt_uR_nj (by decide) (kt_uR_nj (by decide) (kt_uR_nj (by decide) (kt_uR_nj (by decide) (kt_uR_nj (by decide) (kt_uR_nj (by decide) (kt_uR_nj (by decide) (kt_uR_nj (by decide) (kt_uR_nj (by decide) (kt_uR_nj (by decide) (kt_uR_eq))))))))))) ?_
  refine kw_icon x_M_init_100 ?_
  refine kw_icon x_M_init_101 ?_
  refine kw_iast_n x_M_init_102 (by exact kt_kdo (k := 98 + 1) rfl (by omega)) (by omega) (by omega) ?_
  refine kw_vret x_M_init_103 ?_
  refine k _ _ _ (fun a ha => ⟨?_, rfl, ?_⟩) ?_ (fun j => ?_) ⟨kt_uR_nj (by decide) (kt_uR_nj (by decide) (kt_uR_nj (by decide) (kt_uR_nj (by decide) (kt_uR_nj (by decide) (kt_uR_nj (by decide) (kt_uR_nj (by decide) (kt_uR_nj (by decide) (kt_uR_nj (by decide) (kt_uR_nj (by decide) (kt_uR_eq)))))))))), kt_uR_nj (by decide) (kt_uR_nj (by decide) (kt_uR_nj (by decide) (kt_uR_nj (by decide) (kt_uR_nj (by decide) (kt_uR_nj (by decide) (kt_uR_nj (by decide) (kt_uR_nj (by decide) (kt_uR_nj (by decide) (kt_uR_eq))))))))), kt_uR_nj (by decide) (kt_uR_nj (by decide) (kt_uR_nj (by decide) (kt_uR_nj (by decide) (kt_uR_nj (by decide) (kt_uR_nj (by decide) (kt_uR_nj (by decide) (kt_uR_nj (by decide) (kt_uR_eq)))))))), kt_uR_nj (by decide) (kt_uR_nj (by decide) (kt_uR_nj (by decide) (kt_uR_nj (by decide) (kt_uR_nj (by decide) (kt_uR_nj (by decide) (kt_uR_nj (by decide) (kt_uR_eq))))))), kt_uR_nj (by decide) (kt_uR_nj (by decide) (kt_uR_nj (by decide) (kt_uR_nj (by decide) (kt_uR_nj (by decide) (kt_uR_nj (by decide) (kt_uR_eq)))))), kt_uR_nj (by decide) (kt_uR_nj (by decide) (kt_uR_nj (by decide) (kt_uR_nj (by decide) (kt_uR_nj (by decide) (kt_uR_eq))))), kt_uR_nj (by decide) (kt_uR_nj (by decide) (kt_uR_nj (by decide) (kt_uR_nj (by decide) (kt_uR_eq)))), kt_uR_nj (by decide) (kt_uR_nj (by decide) (kt_uR_nj (by decide) (kt_uR_eq))), kt_uR_nj (by decide) (kt_uR_nj (by decide) (kt_uR_eq)), kt_uR_nj (by decide) (kt_uR_eq), kt_uR_eq⟩
  · rw [kt_u1_ne _ _ _ (by omega), kt_rw_ne _ _ (by omega), kt_rw_ne _ _ (by omega), kt_rw_ne _ _ (by omega), kt_rw_ne _ _ (by omega), kt_rw_ne _ _ (by omega), kt_rw_ne _ _ (by omega), kt_rw_ne _ _ (by omega), kt_rw_ne _ _ (by omega), kt_rw_ne _ _ (by omega), kt_rw_ne _ _ (by omega), kt_rw_ne _ _ (by omega)]
  · rw [kt_uR_ne _ _ _ (by omega), kt_uR_ne _ _ _ (by omega), kt_uR_ne _ _ _ (by omega), kt_uR_ne _ _ _ (by omega), kt_uR_ne _ _ _ (by omega), kt_uR_ne _ _ _ (by omega), kt_uR_ne _ _ _ (by omega), kt_uR_ne _ _ _ (by omega), kt_uR_ne _ _ _ (by omega), kt_uR_ne _ _ _ (by omega), kt_uR_ne _ _ _ (by omega)]
  · rw [kt_u1_ne _ _ _ (by omega), kt_rw_ne _ _ (by omega), kt_rw_ne _ _ (by omega), kt_rw_ne _ _ (by omega), kt_rw_ne _ _ (by omega), kt_rw_ne _ _ (by omega), kt_rw_ne _ _ (by omega), kt_rw_ne _ _ (by omega), kt_rw_ne _ _ (by omega), kt_rw_ne _ _ (by omega), kt_rw_ne _ _ (by omega), kt_rw_ne _ _ (by omega)]
  · by_cases hj : j = 0
    · rw [hj]; exact kt_u1_eq
    · refine kt_u1_nj hj ?_
      exact kt_rw_na (by omega) (kt_rw_na (by omega) (kt_rw_na (by omega) (kt_rw_na (by omega) (kt_rw_na (by omega) (kt_rw_na (by omega) (kt_rw_na (by omega) (kt_rw_na (by omega) (kt_rw_na (by omega) (kt_rw_na (by omega) (congrFun (kt_rw_eq _ _ _) j))))))))))
end IN
