/-! the two objects of the law -/
theorem kt_cc5 : kt_cc 5 := ⟨rfl, rfl, rfl, rfl, rfl, by decide, rfl, rfl, rfl, rfl, rfl, rfl⟩
theorem kt_cc23 : kt_cc 23 := ⟨rfl, rfl, rfl, rfl, rfl, by decide, rfl, rfl, rfl, rfl, rfl, rfl⟩
theorem kt_cc41 : kt_cc 41 := ⟨rfl, rfl, rfl, rfl, rfl, by decide, rfl, rfl, rfl, rfl, rfl, rfl⟩
theorem kt_cc59 : kt_cc 59 := ⟨rfl, rfl, rfl, rfl, rfl, by decide, rfl, rfl, rfl, rfl, rfl, rfl⟩
theorem kt_cc77 : kt_cc 77 := ⟨rfl, rfl, rfl, rfl, rfl, by decide, rfl, rfl, rfl, rfl, rfl, rfl⟩
theorem kt_cc95 : kt_cc 95 := ⟨rfl, rfl, rfl, rfl, rfl, by decide, rfl, rfl, rfl, rfl, rfl, rfl⟩
/-- the new object: its references, the script, six new countries -/
def kt_nk (z : Nat) (I : kt_I) (J : kt_J) (R : kt_R) : Prop :=
  (R z 0 = some (z + 5) ∧ R z 1 = some (z + 23) ∧ R z 2 = some (z + 1) ∧ R z 4 = some (z + 2)) ∧ (∀ j, j < 4 → R (z + 1) j = some (z + (41 + 18 * j)))
  ∧ (R (z + 2) 0 = some (z + 3) ∧ R (z + 2) 2 = some (z + 4)) ∧ (∀ j, I z j = 0) ∧ (∀ j, I (z + 2) j = 0)
  ∧ ∀ j, j < 6 → (∀ q, I (z + (5 + 18 * j)) q = 0) ∧ kt_nc (z + (5 + 18 * j)) I J R
section IN
variable {P : kt_P} {I : kt_I} {J : kt_J} {R : kt_R} {Q : Option Value → kt_I → kt_J → kt_R → Prop}
theorem s_K_init (hI0 : ∀ j, I (kt_z P) j = 0) (k : ∀ I' J' R', kt_nk (kt_z P) I' J' R' → Q none I' J' R') : KW P i_K_init 113 0 [some (.ref (kt_z P)), none] [] 1 I J R Q := by
  refine kw_ald_n x_K_init_0 rfl ?_
  refine kw_objinit x_K_init_1 ⟨by decide, by decide⟩ (Nat.le_of_ble_eq_true rfl) ?_
  refine kw_ald_n x_K_init_4 rfl ?_
  refine kw_icon x_K_init_5 ?_
  refine kw_newQ x_K_init_6 (by exact rfl) ⟨nI_pos (by decide), nI_clamp (by decide), by decide⟩ (by omega) ?_
  refine kw_pr x_K_init_9 (by exact kt_kdo (k := 0) rfl (by omega)) ?_
  refine kw_ald_n x_K_init_12 rfl ?_
  refine kw_new (ci := 3) x_K_init_13 (by decide) (by exact rfl) (by omega) ?_
  refine kw_dup x_K_init_16 rfl ?_
  refine c_K_init_17 (N' := 5) ⟨by omega, by omega⟩ (Nat.le_of_ble_eq_true rfl) ?_
  refine s_S_init (e := 2) rfl rfl rfl (fun I1 R1 x1 w1 hS0_1 hS2_1 => ?_)
  have hA_1 : R1 (kt_z P) 2 = some (kt_z P + 1) := (by rw [w1 _ (by omega)]; exact kt_rw_na (by omega) kt_uR_eq)
  have iz_1 : ∀ j, I1 (kt_z P) j = 0 := (fun j => by rw [x1 _ (by omega), kt_rw_ne _ _ (by omega)]; exact hI0 j)
  have i2_1 : ∀ j, I1 (kt_z P + 2) j = 0 := (fun j => by rw [x1 _ (by omega)]; exact congrFun (kt_rw_eq _ _ _) j)
  refine kw_pr x_K_init_20 (by exact kt_kdo (k := 0) rfl (by omega)) ?_
  refine kw_ald_n x_K_init_23 rfl ?_
  refine kw_new (ci := 0) x_K_init_24 (by decide) (by exact rfl) (by omega) ?_
  refine kw_dup x_K_init_27 rfl ?_
  refine c_K_init_28 (N' := 23) ⟨by omega, by omega⟩ (Nat.le_of_ble_eq_true rfl) ?_
  refine s_C_init (c := 5) kt_cc5 (fun I2 J2 R2 x2 y2 w2 nc5_2 => ?_)
  have hS0_2 : R2 (kt_z P + 2) 0 = some (kt_z P + 3) := (by rw [w2 _ (by omega)]; exact kt_rw_na (by omega) (by first | exact kt_uR_na (by omega) hS0_1 | exact kt_uR_nj (by decide) hS0_1))
  have hS2_2 : R2 (kt_z P + 2) 2 = some (kt_z P + 4) := (by rw [w2 _ (by omega)]; exact kt_rw_na (by omega) (by first | exact kt_uR_na (by omega) hS2_1 | exact kt_uR_nj (by decide) hS2_1))
  have hA_2 : R2 (kt_z P) 2 = some (kt_z P + 1) := (by rw [w2 _ (by omega)]; exact kt_rw_na (by omega) (by first | exact kt_uR_na (by omega) hA_1 | exact kt_uR_nj (by decide) hA_1))
  have iz_2 : ∀ j, I2 (kt_z P) j = 0 := (fun j => by rw [x2 _ (by omega), kt_rw_ne _ _ (by omega)]; exact iz_1 j)
  have i2_2 : ∀ j, I2 (kt_z P + 2) j = 0 := (fun j => by rw [x2 _ (by omega), kt_rw_ne _ _ (by omega)]; exact i2_1 j)
  have hB_2 : R2 (kt_z P) 4 = some (kt_z P + 2) := (by rw [w2 _ (by omega)]; exact kt_rw_na (by omega) kt_uR_eq)
  have ic5_2 : ∀ j, I2 (kt_z P + 5) j = 0 := (fun j => by rw [x2 _ (by omega)]; exact congrFun (kt_rw_eq _ _ _) j)
  refine kw_pr x_K_init_31 (by exact kt_kdo (k := 0) rfl (by omega)) ?_
  refine kw_ald_n x_K_init_34 rfl ?_
  refine kw_new (ci := 0) x_K_init_35 (by decide) (by exact rfl) (by omega) ?_
  refine kw_dup x_K_init_38 rfl ?_
  refine c_K_init_39 (N' := 41) ⟨by omega, by omega⟩ (Nat.le_of_ble_eq_true rfl) ?_
  refine s_C_init (c := 23) kt_cc23 (fun I3 J3 R3 x3 y3 w3 nc23_3 => ?_)
  have hS0_3 : R3 (kt_z P + 2) 0 = some (kt_z P + 3) := (by rw [w3 _ (by omega)]; exact kt_rw_na (by omega) (by first | exact kt_uR_na (by omega) hS0_2 | exact kt_uR_nj (by decide) hS0_2))
  have hS2_3 : R3 (kt_z P + 2) 2 = some (kt_z P + 4) := (by rw [w3 _ (by omega)]; exact kt_rw_na (by omega) (by first | exact kt_uR_na (by omega) hS2_2 | exact kt_uR_nj (by decide) hS2_2))
  have hA_3 : R3 (kt_z P) 2 = some (kt_z P + 1) := (by rw [w3 _ (by omega)]; exact kt_rw_na (by omega) (by first | exact kt_uR_na (by omega) hA_2 | exact kt_uR_nj (by decide) hA_2))
  have iz_3 : ∀ j, I3 (kt_z P) j = 0 := (fun j => by rw [x3 _ (by omega), kt_rw_ne _ _ (by omega)]; exact iz_2 j)
  have i2_3 : ∀ j, I3 (kt_z P + 2) j = 0 := (fun j => by rw [x3 _ (by omega), kt_rw_ne _ _ (by omega)]; exact i2_2 j)
  have hB_3 : R3 (kt_z P) 4 = some (kt_z P + 2) := (by rw [w3 _ (by omega)]; exact kt_rw_na (by omega) (by first | exact kt_uR_na (by omega) hB_2 | exact kt_uR_nj (by decide) hB_2))
  have nc5_3 : kt_nc (kt_z P + 5) I3 J3 R3 := (nc5_2.ext (fun a g1 g2 => by rw [x3 a (by omega), kt_rw_ne _ _ (by omega)]) (fun a g1 g2 => by rw [y3 a (by omega), kt_rw_ne _ _ (by omega)]) (fun a g1 g2 => by rw [w3 a (by omega), kt_rw_ne _ _ (by omega), kt_uR_ne _ _ _ (by omega)]))
  have ic5_3 : ∀ j, I3 (kt_z P + 5) j = 0 := (fun j => by rw [x3 _ (by omega), kt_rw_ne _ _ (by omega)]; exact ic5_2 j)
  have hD_3 : R3 (kt_z P) 0 = some (kt_z P + 5) := (by rw [w3 _ (by omega)]; exact kt_rw_na (by omega) kt_uR_eq)
  have ic23_3 : ∀ j, I3 (kt_z P + 23) j = 0 := (fun j => by rw [x3 _ (by omega)]; exact congrFun (kt_rw_eq _ _ _) j)
  refine kw_pr x_K_init_42 (by exact kt_kdo (k := 0) rfl (by omega)) ?_
  refine kw_icon x_K_init_45 ?_
  refine kw_ist_n x_K_init_46 (by decide) ?_
  refine kw_ild_n x_K_init_47 rfl ?_
  refine kw_icon x_K_init_48 ?_
  first | refine kw_ic_ge_n x_K_init_49 ⟨by omega, by omega⟩ (fun h49 => ?_) (fun h49 => ?_) | refine kw_ic_ge x_K_init_49 (fun h49 => ?_) (fun h49 => ?_)
  · exfalso; first | omega | contradiction | exact absurd (by decide) h49 | exact absurd h49 (by decide)
  · skip
    refine kw_ald_n x_K_init_52 rfl ?_
    refine kw_gr x_K_init_53 (by exact kt_kdo (k := 0) rfl (by omega)) (by first | exact kt_uR_nj (by decide) hA_3 | exact kt_uR_na (by omega) hA_3) ?_
    refine kw_ild_n x_K_init_56 rfl ?_
    refine kw_new (ci := 0) x_K_init_57 (by decide) (by exact rfl) (by omega) ?_
    refine kw_dup x_K_init_60 rfl ?_
    refine c_K_init_61 (N' := 59) ⟨by omega, by omega⟩ (Nat.le_of_ble_eq_true rfl) ?_
    refine s_C_init (c := 41) kt_cc41 (fun I4 J4 R4 x4 y4 w4 nc41_4 => ?_)
    have hS0_4 : R4 (kt_z P + 2) 0 = some (kt_z P + 3) := (by rw [w4 _ (by omega)]; exact kt_rw_na (by omega) (by first | exact kt_uR_na (by omega) hS0_3 | exact kt_uR_nj (by decide) hS0_3))
    have hS2_4 : R4 (kt_z P + 2) 2 = some (kt_z P + 4) := (by rw [w4 _ (by omega)]; exact kt_rw_na (by omega) (by first | exact kt_uR_na (by omega) hS2_3 | exact kt_uR_nj (by decide) hS2_3))
    have hA_4 : R4 (kt_z P) 2 = some (kt_z P + 1) := (by rw [w4 _ (by omega)]; exact kt_rw_na (by omega) (by first | exact kt_uR_na (by omega) hA_3 | exact kt_uR_nj (by decide) hA_3))
    have iz_4 : ∀ j, I4 (kt_z P) j = 0 := (fun j => by rw [x4 _ (by omega), kt_rw_ne _ _ (by omega)]; exact iz_3 j)
    have i2_4 : ∀ j, I4 (kt_z P + 2) j = 0 := (fun j => by rw [x4 _ (by omega), kt_rw_ne _ _ (by omega)]; exact i2_3 j)
    have hB_4 : R4 (kt_z P) 4 = some (kt_z P + 2) := (by rw [w4 _ (by omega)]; exact kt_rw_na (by omega) (by first | exact kt_uR_na (by omega) hB_3 | exact kt_uR_nj (by decide) hB_3))
    have nc5_4 : kt_nc (kt_z P + 5) I4 J4 R4 := (nc5_3.ext (fun a g1 g2 => by rw [x4 a (by omega), kt_rw_ne _ _ (by omega)]) (fun a g1 g2 => by rw [y4 a (by omega), kt_rw_ne _ _ (by omega)]) (fun a g1 g2 => by rw [w4 a (by omega), kt_rw_ne _ _ (by omega), kt_uR_ne _ _ _ (by omega)]))
    have ic5_4 : ∀ j, I4 (kt_z P + 5) j = 0 := (fun j => by rw [x4 _ (by omega), kt_rw_ne _ _ (by omega)]; exact ic5_3 j)
    have hD_4 : R4 (kt_z P) 0 = some (kt_z P + 5) := (by rw [w4 _ (by omega)]; exact kt_rw_na (by omega) (by first | exact kt_uR_na (by omega) hD_3 | exact kt_uR_nj (by decide) hD_3))
    have nc23_4 : kt_nc (kt_z P + 23) I4 J4 R4 := (nc23_3.ext (fun a g1 g2 => by rw [x4 a (by omega), kt_rw_ne _ _ (by omega)]) (fun a g1 g2 => by rw [y4 a (by omega), kt_rw_ne _ _ (by omega)]) (fun a g1 g2 => by rw [w4 a (by omega), kt_rw_ne _ _ (by omega), kt_uR_ne _ _ _ (by omega)]))
    have ic23_4 : ∀ j, I4 (kt_z P + 23) j = 0 := (fun j => by rw [x4 _ (by omega), kt_rw_ne _ _ (by omega)]; exact ic23_3 j)
    have hE_4 : R4 (kt_z P) 1 = some (kt_z P + 23) := (by rw [w4 _ (by omega)]; exact kt_rw_na (by omega) kt_uR_eq)
    have ic41_4 : ∀ j, I4 (kt_z P + 41) j = 0 := (fun j => by rw [x4 _ (by omega)]; exact congrFun (kt_rw_eq _ _ _) j)
    refine kw_aast_n x_K_init_64 (by exact kt_kdo (k := 1) rfl (by omega)) (by exact kt_kdo (k := 41) rfl (by omega)) (by omega) (by omega) ?_
    first | refine kw_iinc_n x_K_init_65 (by decide) rfl ?_ | refine kw_iinc x_K_init_65 (by decide) rfl ?_
    refine kw_goto x_K_init_68 ?_
    refine kw_ild_n x_K_init_47 rfl ?_
    refine kw_icon x_K_init_48 ?_
    first | refine kw_ic_ge_n x_K_init_49 ⟨by omega, by omega⟩ (fun h49 => ?_) (fun h49 => ?_) | refine kw_ic_ge x_K_init_49 (fun h49 => ?_) (fun h49 => ?_)
    · exfalso; first | omega | contradiction | exact absurd (by decide) h49 | exact absurd h49 (by decide)
    · skip
      refine kw_ald_n x_K_init_52 rfl ?_
      refine kw_gr x_K_init_53 (by exact kt_kdo (k := 0) rfl (by omega)) (by first | exact kt_uR_nj (by decide) hA_4 | exact kt_uR_na (by omega) hA_4) ?_
      refine kw_ild_n x_K_init_56 rfl ?_
      refine kw_new (ci := 0) x_K_init_57 (by decide) (by exact rfl) (by omega) ?_
      refine kw_dup x_K_init_60 rfl ?_
      refine c_K_init_61 (N' := 77) ⟨by omega, by omega⟩ (Nat.le_of_ble_eq_true rfl) ?_
      refine s_C_init (c := 59) kt_cc59 (fun I5 J5 R5 x5 y5 w5 nc59_5 => ?_)
      have hS0_5 : R5 (kt_z P + 2) 0 = some (kt_z P + 3) := (by rw [w5 _ (by omega)]; exact kt_rw_na (by omega) (by first | exact kt_uR_na (by omega) hS0_4 | exact kt_uR_nj (by decide) hS0_4))
      have hS2_5 : R5 (kt_z P + 2) 2 = some (kt_z P + 4) := (by rw [w5 _ (by omega)]; exact kt_rw_na (by omega) (by first | exact kt_uR_na (by omega) hS2_4 | exact kt_uR_nj (by decide) hS2_4))
      have hA_5 : R5 (kt_z P) 2 = some (kt_z P + 1) := (by rw [w5 _ (by omega)]; exact kt_rw_na (by omega) (by first | exact kt_uR_na (by omega) hA_4 | exact kt_uR_nj (by decide) hA_4))
      have iz_5 : ∀ j, I5 (kt_z P) j = 0 := (fun j => by rw [x5 _ (by omega), kt_rw_ne _ _ (by omega)]; exact iz_4 j)
      have i2_5 : ∀ j, I5 (kt_z P + 2) j = 0 := (fun j => by rw [x5 _ (by omega), kt_rw_ne _ _ (by omega)]; exact i2_4 j)
      have hB_5 : R5 (kt_z P) 4 = some (kt_z P + 2) := (by rw [w5 _ (by omega)]; exact kt_rw_na (by omega) (by first | exact kt_uR_na (by omega) hB_4 | exact kt_uR_nj (by decide) hB_4))
      have nc5_5 : kt_nc (kt_z P + 5) I5 J5 R5 := (nc5_4.ext (fun a g1 g2 => by rw [x5 a (by omega), kt_rw_ne _ _ (by omega)]) (fun a g1 g2 => by rw [y5 a (by omega), kt_rw_ne _ _ (by omega)]) (fun a g1 g2 => by rw [w5 a (by omega), kt_rw_ne _ _ (by omega), kt_uR_ne _ _ _ (by omega)]))
      have ic5_5 : ∀ j, I5 (kt_z P + 5) j = 0 := (fun j => by rw [x5 _ (by omega), kt_rw_ne _ _ (by omega)]; exact ic5_4 j)
      have hD_5 : R5 (kt_z P) 0 = some (kt_z P + 5) := (by rw [w5 _ (by omega)]; exact kt_rw_na (by omega) (by first | exact kt_uR_na (by omega) hD_4 | exact kt_uR_nj (by decide) hD_4))
      have nc23_5 : kt_nc (kt_z P + 23) I5 J5 R5 := (nc23_4.ext (fun a g1 g2 => by rw [x5 a (by omega), kt_rw_ne _ _ (by omega)]) (fun a g1 g2 => by rw [y5 a (by omega), kt_rw_ne _ _ (by omega)]) (fun a g1 g2 => by rw [w5 a (by omega), kt_rw_ne _ _ (by omega), kt_uR_ne _ _ _ (by omega)]))
      have ic23_5 : ∀ j, I5 (kt_z P + 23) j = 0 := (fun j => by rw [x5 _ (by omega), kt_rw_ne _ _ (by omega)]; exact ic23_4 j)
      have hE_5 : R5 (kt_z P) 1 = some (kt_z P + 23) := (by rw [w5 _ (by omega)]; exact kt_rw_na (by omega) (by first | exact kt_uR_na (by omega) hE_4 | exact kt_uR_nj (by decide) hE_4))
      have nc41_5 : kt_nc (kt_z P + 41) I5 J5 R5 := (nc41_4.ext (fun a g1 g2 => by rw [x5 a (by omega), kt_rw_ne _ _ (by omega)]) (fun a g1 g2 => by rw [y5 a (by omega), kt_rw_ne _ _ (by omega)]) (fun a g1 g2 => by rw [w5 a (by omega), kt_rw_ne _ _ (by omega), kt_uR_ne _ _ _ (by omega)]))
      have ic41_5 : ∀ j, I5 (kt_z P + 41) j = 0 := (fun j => by rw [x5 _ (by omega), kt_rw_ne _ _ (by omega)]; exact ic41_4 j)
      have hH0_5 : R5 (kt_z P + 1) 0 = some (kt_z P + 41) := (by rw [w5 _ (by omega)]; exact kt_rw_na (by omega) kt_uR_eq)
      have ic59_5 : ∀ j, I5 (kt_z P + 59) j = 0 := (fun j => by rw [x5 _ (by omega)]; exact congrFun (kt_rw_eq _ _ _) j)
      refine kw_aast_n x_K_init_64 (by exact kt_kdo (k := 1) rfl (by omega)) (by exact kt_kdo (k := 59) rfl (by omega)) (by omega) (by omega) ?_
      first | refine kw_iinc_n x_K_init_65 (by decide) rfl ?_ | refine kw_iinc x_K_init_65 (by decide) rfl ?_
      refine kw_goto x_K_init_68 ?_
      refine kw_ild_n x_K_init_47 rfl ?_
      refine kw_icon x_K_init_48 ?_
      first | refine kw_ic_ge_n x_K_init_49 ⟨by omega, by omega⟩ (fun h49 => ?_) (fun h49 => ?_) | refine kw_ic_ge x_K_init_49 (fun h49 => ?_) (fun h49 => ?_)
      · exfalso; first | omega | contradiction | exact absurd (by decide) h49 | exact absurd h49 (by decide)
      · skip
        refine kw_ald_n x_K_init_52 rfl ?_
        refine kw_gr x_K_init_53 (by exact kt_kdo (k := 0) rfl (by omega)) (by first | exact kt_uR_nj (by decide) hA_5 | exact kt_uR_na (by omega) hA_5) ?_
        refine kw_ild_n x_K_init_56 rfl ?_
        refine kw_new (ci := 0) x_K_init_57 (by decide) (by exact rfl) (by omega) ?_
        refine kw_dup x_K_init_60 rfl ?_
        refine c_K_init_61 (N' := 95) ⟨by omega, by omega⟩ (Nat.le_of_ble_eq_true rfl) ?_
        refine s_C_init (c := 77) kt_cc77 (fun I6 J6 R6 x6 y6 w6 nc77_6 => ?_)
        have hS0_6 : R6 (kt_z P + 2) 0 = some (kt_z P + 3) := (by rw [w6 _ (by omega)]; exact kt_rw_na (by omega) (by first | exact kt_uR_na (by omega) hS0_5 | exact kt_uR_nj (by decide) hS0_5))
        have hS2_6 : R6 (kt_z P + 2) 2 = some (kt_z P + 4) := (by rw [w6 _ (by omega)]; exact kt_rw_na (by omega) (by first | exact kt_uR_na (by omega) hS2_5 | exact kt_uR_nj (by decide) hS2_5))
        have hA_6 : R6 (kt_z P) 2 = some (kt_z P + 1) := (by rw [w6 _ (by omega)]; exact kt_rw_na (by omega) (by first | exact kt_uR_na (by omega) hA_5 | exact kt_uR_nj (by decide) hA_5))
        have iz_6 : ∀ j, I6 (kt_z P) j = 0 := (fun j => by rw [x6 _ (by omega), kt_rw_ne _ _ (by omega)]; exact iz_5 j)
        have i2_6 : ∀ j, I6 (kt_z P + 2) j = 0 := (fun j => by rw [x6 _ (by omega), kt_rw_ne _ _ (by omega)]; exact i2_5 j)
        have hB_6 : R6 (kt_z P) 4 = some (kt_z P + 2) := (by rw [w6 _ (by omega)]; exact kt_rw_na (by omega) (by first | exact kt_uR_na (by omega) hB_5 | exact kt_uR_nj (by decide) hB_5))
        have nc5_6 : kt_nc (kt_z P + 5) I6 J6 R6 := (nc5_5.ext (fun a g1 g2 => by rw [x6 a (by omega), kt_rw_ne _ _ (by omega)]) (fun a g1 g2 => by rw [y6 a (by omega), kt_rw_ne _ _ (by omega)]) (fun a g1 g2 => by rw [w6 a (by omega), kt_rw_ne _ _ (by omega), kt_uR_ne _ _ _ (by omega)]))
        have ic5_6 : ∀ j, I6 (kt_z P + 5) j = 0 := (fun j => by rw [x6 _ (by omega), kt_rw_ne _ _ (by omega)]; exact ic5_5 j)
        have hD_6 : R6 (kt_z P) 0 = some (kt_z P + 5) := (by rw [w6 _ (by omega)]; exact kt_rw_na (by omega) (by first | exact kt_uR_na (by omega) hD_5 | exact kt_uR_nj (by decide) hD_5))
        have nc23_6 : kt_nc (kt_z P + 23) I6 J6 R6 := (nc23_5.ext (fun a g1 g2 => by rw [x6 a (by omega), kt_rw_ne _ _ (by omega)]) (fun a g1 g2 => by rw [y6 a (by omega), kt_rw_ne _ _ (by omega)]) (fun a g1 g2 => by rw [w6 a (by omega), kt_rw_ne _ _ (by omega), kt_uR_ne _ _ _ (by omega)]))
        have ic23_6 : ∀ j, I6 (kt_z P + 23) j = 0 := (fun j => by rw [x6 _ (by omega), kt_rw_ne _ _ (by omega)]; exact ic23_5 j)
        have hE_6 : R6 (kt_z P) 1 = some (kt_z P + 23) := (by rw [w6 _ (by omega)]; exact kt_rw_na (by omega) (by first | exact kt_uR_na (by omega) hE_5 | exact kt_uR_nj (by decide) hE_5))
        have nc41_6 : kt_nc (kt_z P + 41) I6 J6 R6 := (nc41_5.ext (fun a g1 g2 => by rw [x6 a (by omega), kt_rw_ne _ _ (by omega)]) (fun a g1 g2 => by rw [y6 a (by omega), kt_rw_ne _ _ (by omega)]) (fun a g1 g2 => by rw [w6 a (by omega), kt_rw_ne _ _ (by omega), kt_uR_ne _ _ _ (by omega)]))
        have ic41_6 : ∀ j, I6 (kt_z P + 41) j = 0 := (fun j => by rw [x6 _ (by omega), kt_rw_ne _ _ (by omega)]; exact ic41_5 j)
        have hH0_6 : R6 (kt_z P + 1) 0 = some (kt_z P + 41) := (by rw [w6 _ (by omega)]; exact kt_rw_na (by omega) (by first | exact kt_uR_na (by omega) hH0_5 | exact kt_uR_nj (by decide) hH0_5))
        have nc59_6 : kt_nc (kt_z P + 59) I6 J6 R6 := (nc59_5.ext (fun a g1 g2 => by rw [x6 a (by omega), kt_rw_ne _ _ (by omega)]) (fun a g1 g2 => by rw [y6 a (by omega), kt_rw_ne _ _ (by omega)]) (fun a g1 g2 => by rw [w6 a (by omega), kt_rw_ne _ _ (by omega), kt_uR_ne _ _ _ (by omega)]))
        have ic59_6 : ∀ j, I6 (kt_z P + 59) j = 0 := (fun j => by rw [x6 _ (by omega), kt_rw_ne _ _ (by omega)]; exact ic59_5 j)
        have hH1_6 : R6 (kt_z P + 1) 1 = some (kt_z P + 59) := (by rw [w6 _ (by omega)]; exact kt_rw_na (by omega) kt_uR_eq)
        have ic77_6 : ∀ j, I6 (kt_z P + 77) j = 0 := (fun j => by rw [x6 _ (by omega)]; exact congrFun (kt_rw_eq _ _ _) j)
        refine kw_aast_n x_K_init_64 (by exact kt_kdo (k := 1) rfl (by omega)) (by exact kt_kdo (k := 77) rfl (by omega)) (by omega) (by omega) ?_
        first | refine kw_iinc_n x_K_init_65 (by decide) rfl ?_ | refine kw_iinc x_K_init_65 (by decide) rfl ?_
        refine kw_goto x_K_init_68 ?_
        refine kw_ild_n x_K_init_47 rfl ?_
        refine kw_icon x_K_init_48 ?_
        first | refine kw_ic_ge_n x_K_init_49 ⟨by omega, by omega⟩ (fun h49 => ?_) (fun h49 => ?_) | refine kw_ic_ge x_K_init_49 (fun h49 => ?_) (fun h49 => ?_)
        · exfalso; first | omega | contradiction | exact absurd (by decide) h49 | exact absurd h49 (by decide)
        · skip
          refine kw_ald_n x_K_init_52 rfl ?_
          refine kw_gr x_K_init_53 (by exact kt_kdo (k := 0) rfl (by omega)) (by first | exact kt_uR_nj (by decide) hA_6 | exact kt_uR_na (by omega) hA_6) ?_
          refine kw_ild_n x_K_init_56 rfl ?_
          refine kw_new (ci := 0) x_K_init_57 (by decide) (by exact rfl) (by omega) ?_
          refine kw_dup x_K_init_60 rfl ?_
          refine c_K_init_61 (N' := 113) ⟨by omega, by omega⟩ (Nat.le_of_ble_eq_true rfl) ?_
          refine s_C_init (c := 95) kt_cc95 (fun I7 J7 R7 x7 y7 w7 nc95_7 => ?_)
          have hS0_7 : R7 (kt_z P + 2) 0 = some (kt_z P + 3) := (by rw [w7 _ (by omega)]; exact kt_rw_na (by omega) (by first | exact kt_uR_na (by omega) hS0_6 | exact kt_uR_nj (by decide) hS0_6))
          have hS2_7 : R7 (kt_z P + 2) 2 = some (kt_z P + 4) := (by rw [w7 _ (by omega)]; exact kt_rw_na (by omega) (by first | exact kt_uR_na (by omega) hS2_6 | exact kt_uR_nj (by decide) hS2_6))
          have hA_7 : R7 (kt_z P) 2 = some (kt_z P + 1) := (by rw [w7 _ (by omega)]; exact kt_rw_na (by omega) (by first | exact kt_uR_na (by omega) hA_6 | exact kt_uR_nj (by decide) hA_6))
          have iz_7 : ∀ j, I7 (kt_z P) j = 0 := (fun j => by rw [x7 _ (by omega), kt_rw_ne _ _ (by omega)]; exact iz_6 j)
          have i2_7 : ∀ j, I7 (kt_z P + 2) j = 0 := (fun j => by rw [x7 _ (by omega), kt_rw_ne _ _ (by omega)]; exact i2_6 j)
          have hB_7 : R7 (kt_z P) 4 = some (kt_z P + 2) := (by rw [w7 _ (by omega)]; exact kt_rw_na (by omega) (by first | exact kt_uR_na (by omega) hB_6 | exact kt_uR_nj (by decide) hB_6))
          have nc5_7 : kt_nc (kt_z P + 5) I7 J7 R7 := (nc5_6.ext (fun a g1 g2 => by rw [x7 a (by omega), kt_rw_ne _ _ (by omega)]) (fun a g1 g2 => by rw [y7 a (by omega), kt_rw_ne _ _ (by omega)]) (fun a g1 g2 => by rw [w7 a (by omega), kt_rw_ne _ _ (by omega), kt_uR_ne _ _ _ (by omega)]))
          have ic5_7 : ∀ j, I7 (kt_z P + 5) j = 0 := (fun j => by rw [x7 _ (by omega), kt_rw_ne _ _ (by omega)]; exact ic5_6 j)
          have hD_7 : R7 (kt_z P) 0 = some (kt_z P + 5) := (by rw [w7 _ (by omega)]; exact kt_rw_na (by omega) (by first | exact kt_uR_na (by omega) hD_6 | exact kt_uR_nj (by decide) hD_6))
          have nc23_7 : kt_nc (kt_z P + 23) I7 J7 R7 := (nc23_6.ext (fun a g1 g2 => by rw [x7 a (by omega), kt_rw_ne _ _ (by omega)]) (fun a g1 g2 => by rw [y7 a (by omega), kt_rw_ne _ _ (by omega)]) (fun a g1 g2 => by rw [w7 a (by omega), kt_rw_ne _ _ (by omega), kt_uR_ne _ _ _ (by omega)]))
          have ic23_7 : ∀ j, I7 (kt_z P + 23) j = 0 := (fun j => by rw [x7 _ (by omega), kt_rw_ne _ _ (by omega)]; exact ic23_6 j)
          have hE_7 : R7 (kt_z P) 1 = some (kt_z P + 23) := (by rw [w7 _ (by omega)]; exact kt_rw_na (by omega) (by first | exact kt_uR_na (by omega) hE_6 | exact kt_uR_nj (by decide) hE_6))
          have nc41_7 : kt_nc (kt_z P + 41) I7 J7 R7 := (nc41_6.ext (fun a g1 g2 => by rw [x7 a (by omega), kt_rw_ne _ _ (by omega)]) (fun a g1 g2 => by rw [y7 a (by omega), kt_rw_ne _ _ (by omega)]) (fun a g1 g2 => by rw [w7 a (by omega), kt_rw_ne _ _ (by omega), kt_uR_ne _ _ _ (by omega)]))
          have ic41_7 : ∀ j, I7 (kt_z P + 41) j = 0 := (fun j => by rw [x7 _ (by omega), kt_rw_ne _ _ (by omega)]; exact ic41_6 j)
          have hH0_7 : R7 (kt_z P + 1) 0 = some (kt_z P + 41) := (by rw [w7 _ (by omega)]; exact kt_rw_na (by omega) (by first | exact kt_uR_na (by omega) hH0_6 | exact kt_uR_nj (by decide) hH0_6))
          have nc59_7 : kt_nc (kt_z P + 59) I7 J7 R7 := (nc59_6.ext (fun a g1 g2 => by rw [x7 a (by omega), kt_rw_ne _ _ (by omega)]) (fun a g1 g2 => by rw [y7 a (by omega), kt_rw_ne _ _ (by omega)]) (fun a g1 g2 => by rw [w7 a (by omega), kt_rw_ne _ _ (by omega), kt_uR_ne _ _ _ (by omega)]))
          have ic59_7 : ∀ j, I7 (kt_z P + 59) j = 0 := (fun j => by rw [x7 _ (by omega), kt_rw_ne _ _ (by omega)]; exact ic59_6 j)
          have hH1_7 : R7 (kt_z P + 1) 1 = some (kt_z P + 59) := (by rw [w7 _ (by omega)]; exact kt_rw_na (by omega) (by first | exact kt_uR_na (by omega) hH1_6 | exact kt_uR_nj (by decide) hH1_6))
          have nc77_7 : kt_nc (kt_z P + 77) I7 J7 R7 := (nc77_6.ext (fun a g1 g2 => by rw [x7 a (by omega), kt_rw_ne _ _ (by omega)]) (fun a g1 g2 => by rw [y7 a (by omega), kt_rw_ne _ _ (by omega)]) (fun a g1 g2 => by rw [w7 a (by omega), kt_rw_ne _ _ (by omega), kt_uR_ne _ _ _ (by omega)]))
          have ic77_7 : ∀ j, I7 (kt_z P + 77) j = 0 := (fun j => by rw [x7 _ (by omega), kt_rw_ne _ _ (by omega)]; exact ic77_6 j)
          have hH2_7 : R7 (kt_z P + 1) 2 = some (kt_z P + 77) := (by rw [w7 _ (by omega)]; exact kt_rw_na (by omega) kt_uR_eq)
          have ic95_7 : ∀ j, I7 (kt_z P + 95) j = 0 := (fun j => by rw [x7 _ (by omega)]; exact congrFun (kt_rw_eq _ _ _) j)
          refine kw_aast_n x_K_init_64 (by exact kt_kdo (k := 1) rfl (by omega)) (by exact kt_kdo (k := 95) rfl (by omega)) (by omega) (by omega) ?_
          first | refine kw_iinc_n x_K_init_65 (by decide) rfl ?_ | refine kw_iinc x_K_init_65 (by decide) rfl ?_
          refine kw_goto x_K_init_68 ?_
          refine kw_ild_n x_K_init_47 rfl ?_
          refine kw_icon x_K_init_48 ?_
          first | refine kw_ic_ge_n x_K_init_49 ⟨by omega, by omega⟩ (fun h49 => ?_) (fun h49 => ?_) | refine kw_ic_ge x_K_init_49 (fun h49 => ?_) (fun h49 => ?_)
          · skip
            refine kw_vret x_K_init_71 ?_
            have key : ∀ c, 5 ≤ c → kt_nc (kt_z P + c) I7 J7 R7 → kt_nc (kt_z P + c) I7 J7 (kt_uR R7 (kt_z P + 1) (0 + 1 + 1 + 1) (some (kt_z P + 95))) := fun c hc h => h.ext (fun _ _ _ => rfl) (fun _ _ _ => rfl) (fun a g1 g2 => kt_uR_ne _ _ _ (by omega))
            refine k I7 J7 _ ⟨⟨kt_uR_na (by omega) hD_7, kt_uR_na (by omega) hE_7, kt_uR_na (by omega) hA_7, kt_uR_na (by omega) hB_7⟩, fun j hj => ?_, ⟨kt_uR_na (by omega) hS0_7, kt_uR_na (by omega) hS2_7⟩, iz_7, i2_7, fun j hj => ?_⟩
            · rcases (by omega : j = 0 ∨ j = 1 ∨ j = 2 ∨ j = 3) with rfl | rfl | rfl | rfl
              · exact kt_uR_nj (by decide) hH0_7
              · exact kt_uR_nj (by decide) hH1_7
              · exact kt_uR_nj (by decide) hH2_7
              · exact kt_uR_eq
            · rcases (by omega : j = 0 ∨ j = 1 ∨ j = 2 ∨ j = 3 ∨ j = 4 ∨ j = 5) with rfl | rfl | rfl | rfl | rfl | rfl
              · exact ⟨ic5_7, key 5 (by decide) nc5_7⟩
              · exact ⟨ic23_7, key 23 (by decide) nc23_7⟩
              · exact ⟨ic41_7, key 41 (by decide) nc41_7⟩
              · exact ⟨ic59_7, key 59 (by decide) nc59_7⟩
              · exact ⟨ic77_7, key 77 (by decide) nc77_7⟩
              · exact ⟨ic95_7, key 95 (by decide) nc95_7⟩
          · exfalso; first | omega | contradiction | exact absurd (by decide) h49 | exact absurd h49 (by decide)
theorem s_M_init (k : ∀ I' J' R', (∀ a, a < kt_z P + 113 → I' a = I a ∧ J' a = J a ∧ R' a = R a) → I' (kt_z P + 113) = I (kt_z P + 113) → (∀ j, I' (kt_z P + 113 + 1) j = 0) →
    (R' (kt_z P + 113) 0 = some (kt_z P + 113 + 1) ∧ R' (kt_z P + 113) 1 = some (kt_z P + 113 + 2) ∧ R' (kt_z P + 113) 2 = some (kt_z P + 113 + 3) ∧ R' (kt_z P + 113) 3 = some (kt_z P + 113 + 4) ∧ R' (kt_z P + 113) 6 = some (kt_z P + 113 + 5) ∧ R' (kt_z P + 113) 8 = some (kt_z P + 113 + 6) ∧ R' (kt_z P + 113) 9 = some (kt_z P + 113 + 7) ∧ R' (kt_z P + 113) 11 = some (kt_z P + 113 + 8) ∧ R' (kt_z P + 113) 12 = some (kt_z P + 113 + 9) ∧ R' (kt_z P + 113) 13 = some (kt_z P + 113 + 10) ∧ R' (kt_z P + 113) 17 = some (kt_z P + 113 + 11)) → Q none I' J' R') :
    KW P i_M_init 125 0 [some (.ref (kt_z P + 113))] [] (113 + 1) I J R Q := by
  refine kw_ald_n x_M_init_0 rfl ?_
  refine kw_objinit x_M_init_1 ⟨by decide, by decide⟩ (Nat.le_of_ble_eq_true rfl) ?_
  refine kw_ald_n x_M_init_4 rfl ?_
  refine kw_sip x_M_init_5 ?_
  refine kw_newI x_M_init_8 (by exact rfl) ⟨nI_pos (by decide), nI_clamp (by decide), by decide⟩ (by omega) ?_
  refine kw_pr x_M_init_10 (by exact kt_kdo (k := 113) rfl (by omega)) ?_
  refine kw_ald_n x_M_init_13 rfl ?_
  refine kw_sip x_M_init_14 ?_
  refine kw_newI x_M_init_17 (by exact rfl) ⟨nI_pos (by decide), nI_clamp (by decide), by decide⟩ (by omega) ?_
  refine kw_pr x_M_init_19 (by exact kt_kdo (k := 113) rfl (by omega)) ?_
  refine kw_ald_n x_M_init_22 rfl ?_
  refine kw_sip x_M_init_23 ?_
  refine kw_newI x_M_init_26 (by exact rfl) ⟨nI_pos (by decide), nI_clamp (by decide), by decide⟩ (by omega) ?_
  refine kw_pr x_M_init_28 (by exact kt_kdo (k := 113) rfl (by omega)) ?_
  refine kw_ald_n x_M_init_31 rfl ?_
  refine kw_sip x_M_init_32 ?_
  refine kw_newI x_M_init_35 (by exact rfl) ⟨nI_pos (by decide), nI_clamp (by decide), by decide⟩ (by omega) ?_
  refine kw_pr x_M_init_37 (by exact kt_kdo (k := 113) rfl (by omega)) ?_
  refine kw_ald_n x_M_init_40 rfl ?_
  refine kw_bip x_M_init_41 ?_
  refine kw_newI x_M_init_43 (by exact rfl) ⟨nI_pos (by decide), nI_clamp (by decide), by decide⟩ (by omega) ?_
  refine kw_pr x_M_init_45 (by exact kt_kdo (k := 113) rfl (by omega)) ?_
  refine kw_ald_n x_M_init_48 rfl ?_
  refine kw_bip x_M_init_49 ?_
  refine kw_newI x_M_init_51 (by exact rfl) ⟨nI_pos (by decide), nI_clamp (by decide), by decide⟩ (by omega) ?_
  refine kw_pr x_M_init_53 (by exact kt_kdo (k := 113) rfl (by omega)) ?_
  refine kw_ald_n x_M_init_56 rfl ?_
  refine kw_bip x_M_init_57 ?_
  refine kw_newI x_M_init_59 (by exact rfl) ⟨nI_pos (by decide), nI_clamp (by decide), by decide⟩ (by omega) ?_
  refine kw_pr x_M_init_61 (by exact kt_kdo (k := 113) rfl (by omega)) ?_
  refine kw_ald_n x_M_init_64 rfl ?_
  refine kw_bip x_M_init_65 ?_
  refine kw_newI x_M_init_67 (by exact rfl) ⟨nI_pos (by decide), nI_clamp (by decide), by decide⟩ (by omega) ?_
  refine kw_pr x_M_init_69 (by exact kt_kdo (k := 113) rfl (by omega)) ?_
  refine kw_ald_n x_M_init_72 rfl ?_
  refine kw_sip x_M_init_73 ?_
  refine kw_newZ x_M_init_76 (by exact rfl) ⟨nI_pos (by decide), nI_clamp (by decide), by decide⟩ (by omega) ?_
  refine kw_pr x_M_init_78 (by exact kt_kdo (k := 113) rfl (by omega)) ?_
  refine kw_ald_n x_M_init_81 rfl ?_
  refine kw_bip x_M_init_82 ?_
  refine kw_newI x_M_init_84 (by exact rfl) ⟨nI_pos (by decide), nI_clamp (by decide), by decide⟩ (by omega) ?_
  refine kw_pr x_M_init_86 (by exact kt_kdo (k := 113) rfl (by omega)) ?_
  refine kw_ald_n x_M_init_89 rfl ?_
  refine kw_icon x_M_init_90 ?_
  refine kw_newI x_M_init_91 (by exact rfl) ⟨nI_pos (by decide), nI_clamp (by decide), by decide⟩ (by omega) ?_
  refine kw_pr x_M_init_93 (by exact kt_kdo (k := 113) rfl (by omega)) ?_
  refine kw_ald_n x_M_init_96 rfl ?_
  refine kw_gr x_M_init_97 (by exact kt_kdo (k := 113) rfl (by omega)) (by exact kt_uR_nj (by decide) (kt_uR_nj (by decide) (kt_uR_nj (by decide) (kt_uR_nj (by decide) (kt_uR_nj (by decide) (kt_uR_nj (by decide) (kt_uR_nj (by decide) (kt_uR_nj (by decide) (kt_uR_nj (by decide) (kt_uR_nj (by decide) (kt_uR_eq))))))))))) ?_
  refine kw_icon x_M_init_100 ?_
  refine kw_icon x_M_init_101 ?_
  refine kw_iast_n x_M_init_102 (by exact kt_kdo (k := 113 + 1) rfl (by omega)) (by omega) (by omega) ?_
  refine kw_vret x_M_init_103 ?_
  refine k _ _ _ (fun a ha => ⟨?_, rfl, ?_⟩) ?_ (fun j => ?_) ⟨kt_uR_nj (by decide) (kt_uR_nj (by decide) (kt_uR_nj (by decide) (kt_uR_nj (by decide) (kt_uR_nj (by decide) (kt_uR_nj (by decide) (kt_uR_nj (by decide) (kt_uR_nj (by decide) (kt_uR_nj (by decide) (kt_uR_nj (by decide) (kt_uR_eq)))))))))), kt_uR_nj (by decide) (kt_uR_nj (by decide) (kt_uR_nj (by decide) (kt_uR_nj (by decide) (kt_uR_nj (by decide) (kt_uR_nj (by decide) (kt_uR_nj (by decide) (kt_uR_nj (by decide) (kt_uR_nj (by decide) (kt_uR_eq))))))))), kt_uR_nj (by decide) (kt_uR_nj (by decide) (kt_uR_nj (by decide) (kt_uR_nj (by decide) (kt_uR_nj (by decide) (kt_uR_nj (by decide) (kt_uR_nj (by decide) (kt_uR_nj (by decide) (kt_uR_eq)))))))), kt_uR_nj (by decide) (kt_uR_nj (by decide) (kt_uR_nj (by decide) (kt_uR_nj (by decide) (kt_uR_nj (by decide) (kt_uR_nj (by decide) (kt_uR_nj (by decide) (kt_uR_eq))))))), kt_uR_nj (by decide) (kt_uR_nj (by decide) (kt_uR_nj (by decide) (kt_uR_nj (by decide) (kt_uR_nj (by decide) (kt_uR_nj (by decide) (kt_uR_eq)))))), kt_uR_nj (by decide) (kt_uR_nj (by decide) (kt_uR_nj (by decide) (kt_uR_nj (by decide) (kt_uR_nj (by decide) (kt_uR_eq))))), kt_uR_nj (by decide) (kt_uR_nj (by decide) (kt_uR_nj (by decide) (kt_uR_nj (by decide) (kt_uR_eq)))), kt_uR_nj (by decide) (kt_uR_nj (by decide) (kt_uR_nj (by decide) (kt_uR_eq))), kt_uR_nj (by decide) (kt_uR_nj (by decide) (kt_uR_eq)), kt_uR_nj (by decide) (kt_uR_eq), kt_uR_eq⟩
  · rw [kt_u1_ne _ _ _ (by omega), kt_rw_ne _ _ (by omega), kt_rw_ne _ _ (by omega), kt_rw_ne _ _ (by omega), kt_rw_ne _ _ (by omega), kt_rw_ne _ _ (by omega), kt_rw_ne _ _ (by omega), kt_rw_ne _ _ (by omega), kt_rw_ne _ _ (by omega), kt_rw_ne _ _ (by omega), kt_rw_ne _ _ (by omega), kt_rw_ne _ _ (by omega)]
  · rw [kt_uR_ne _ _ _ (by omega), kt_uR_ne _ _ _ (by omega), kt_uR_ne _ _ _ (by omega), kt_uR_ne _ _ _ (by omega), kt_uR_ne _ _ _ (by omega), kt_uR_ne _ _ _ (by omega), kt_uR_ne _ _ _ (by omega), kt_uR_ne _ _ _ (by omega), kt_uR_ne _ _ _ (by omega), kt_uR_ne _ _ _ (by omega), kt_uR_ne _ _ _ (by omega)]
  · rw [kt_u1_ne _ _ _ (by omega), kt_rw_ne _ _ (by omega), kt_rw_ne _ _ (by omega), kt_rw_ne _ _ (by omega), kt_rw_ne _ _ (by omega), kt_rw_ne _ _ (by omega), kt_rw_ne _ _ (by omega), kt_rw_ne _ _ (by omega), kt_rw_ne _ _ (by omega), kt_rw_ne _ _ (by omega), kt_rw_ne _ _ (by omega), kt_rw_ne _ _ (by omega)]
  · by_cases hj : j = 0
    · rw [hj]; exact kt_u1_eq
    · refine kt_u1_nj hj ?_
      exact kt_rw_na (by omega) (kt_rw_na (by omega) (kt_rw_na (by omega) (kt_rw_na (by omega) (kt_rw_na (by omega) (kt_rw_na (by omega) (kt_rw_na (by omega) (kt_rw_na (by omega) (kt_rw_na (by omega) (kt_rw_na (by omega) (congrFun (kt_rw_eq _ _ _) j))))))))))
end IN
