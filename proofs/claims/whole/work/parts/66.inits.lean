/-! new objects -/
theorem kt_kdo {P : kt_P} {N k t n : Nat} (h : kt_kn k = (t, n)) (hk : k < N) : kt_kd P N (kt_z P + k) = (t, n) := by
  unfold kt_kd
  rw [if_pos ⟨by omega, by omega⟩, show kt_z P + k - kt_z P = k by omega]
  exact h
theorem kt_rw_na {α : Type} {M : Nat → Nat → α} {a q k : Nat} {f : Nat → α} {v : α} (h : q ≠ a) (e : M q k = v) : kt_rw M a f q k = v := by rw [kt_rw_ne _ _ h]; exact e
/-- the cells of a country -/
def kt_cc (c : Nat) : Prop := kt_kn c = (0, 0) ∧ kt_kn (c + 1) = (2, 0) ∧ kt_kn (c + 2) = (6, 60) ∧ kt_kn (c + 3) = (6, 10) ∧ kt_kn (c + 4) = (1, 0) ∧ (∀ i, i < 7 → kt_kn (c + 5 + i) = (6, 60)) ∧ kt_kn (c + 12) = (6, 5) ∧ kt_kn (c + 13) = (7, 5) ∧ kt_kn (c + 14) = (7, 5) ∧ kt_kn (c + 15) = (7, 5) ∧ kt_kn (c + 16) = (7, 5) ∧ kt_kn (c + 17) = (7, 5)
/-- a new country -/
def kt_nc (c : Nat) (I : kt_I) (J : kt_J) (R : kt_R) : Prop :=
  R c 0 = some (c + 1) ∧ R c 1 = some (c + 4) ∧ (∀ k, 4 ≤ k → k < 10 → R c k = some (c + (k + 8))) ∧ (∀ i, i < 7 → R (c + 4) (1 + i) = some (c + (5 + i)))
  ∧ (∀ j, I (c + 4) j = 0) ∧ (∀ j, I (c + 12) j = 0) ∧ (∀ q j, 13 ≤ q → q < 18 → J (c + q) j = 0) ∧ R (c + 1) 0 = some (c + 2) ∧ R (c + 1) 3 = some (c + 3)
theorem kt_nc.ext {c : Nat} {I I' : kt_I} {J J' : kt_J} {R R' : kt_R} (h : kt_nc c I J R) (hI : ∀ a, c ≤ a → a ≤ c + 17 → I' a = I a) (hJ : ∀ a, c ≤ a → a ≤ c + 17 → J' a = J a) (hR : ∀ a, c ≤ a → a ≤ c + 17 → R' a = R a) : kt_nc c I' J' R' := by
  obtain ⟨h1, h2, h3, h4, h5, h6, h7, h8, h9⟩ := h
  exact ⟨by rw [hR c (by omega) (by omega)]; exact h1, by rw [hR c (by omega) (by omega)]; exact h2, fun k g1 g2 => by rw [hR c (by omega) (by omega)]; exact h3 k g1 g2, fun i hi => by rw [hR _ (by omega) (by omega)]; exact h4 i hi, fun j => by rw [hI _ (by omega) (by omega)]; exact h5 j, fun j => by rw [hI _ (by omega) (by omega)]; exact h6 j, fun q j g1 g2 => by rw [hJ _ (by omega) (by omega)]; exact h7 q j g1 g2, by rw [hR _ (by omega) (by omega)]; exact h8, by rw [hR _ (by omega) (by omega)]; exact h9⟩
section IN
variable {P : kt_P} {I : kt_I} {J : kt_J} {R : kt_R} {Q : Option Value → kt_I → kt_J → kt_R → Prop}
theorem s_E_init {e : Nat} (h0 : kt_kn e = (1, 0)) (hk : ∀ i, i < 7 → kt_kn (e + 1 + i) = (6, 60)) (k : ∀ I' R', (∀ a, a < kt_z P + (e + 1) → I' a = I a) → (∀ a, a ≠ kt_z P + e → R' a = R a) → (∀ i, i < 7 → R' (kt_z P + e) (1 + i) = some (kt_z P + (e + 1 + i))) → Q none I' J R') :
    KW P i_E_init (e + 8) 0 [some (.ref (kt_z P + e))] [] (e + 1) I J R Q := by
  refine kw_ald_n x_E_init_0 rfl ?_
  refine kw_objinit x_E_init_1 ⟨by decide, by decide⟩ (Nat.le_of_ble_eq_true rfl) ?_
  refine kw_ald_n x_E_init_4 rfl ?_
  refine kw_bip x_E_init_5 ?_
  refine kw_newI x_E_init_7 (hk 0 (by decide)) ⟨nI_pos (by decide), nI_clamp (by decide), by decide⟩ (by omega) ?_
  refine kw_pr x_E_init_9 (by exact kt_kdo h0 (by omega)) ?_
  refine kw_ald_n x_E_init_12 rfl ?_
  refine kw_bip x_E_init_13 ?_
  refine kw_newI x_E_init_15 (hk 1 (by decide)) ⟨nI_pos (by decide), nI_clamp (by decide), by decide⟩ (by omega) ?_
  refine kw_pr x_E_init_17 (by exact kt_kdo h0 (by omega)) ?_
  refine kw_ald_n x_E_init_20 rfl ?_
  refine kw_bip x_E_init_21 ?_
  refine kw_newI x_E_init_23 (hk 2 (by decide)) ⟨nI_pos (by decide), nI_clamp (by decide), by decide⟩ (by omega) ?_
  refine kw_pr x_E_init_25 (by exact kt_kdo h0 (by omega)) ?_
  refine kw_ald_n x_E_init_28 rfl ?_
  refine kw_bip x_E_init_29 ?_
  refine kw_newI x_E_init_31 (hk 3 (by decide)) ⟨nI_pos (by decide), nI_clamp (by decide), by decide⟩ (by omega) ?_
  refine kw_pr x_E_init_33 (by exact kt_kdo h0 (by omega)) ?_
  refine kw_ald_n x_E_init_36 rfl ?_
  refine kw_bip x_E_init_37 ?_
  refine kw_newI x_E_init_39 (hk 4 (by decide)) ⟨nI_pos (by decide), nI_clamp (by decide), by decide⟩ (by omega) ?_
  refine kw_pr x_E_init_41 (by exact kt_kdo h0 (by omega)) ?_
  refine kw_ald_n x_E_init_44 rfl ?_
  refine kw_bip x_E_init_45 ?_
  refine kw_newI x_E_init_47 (hk 5 (by decide)) ⟨nI_pos (by decide), nI_clamp (by decide), by decide⟩ (by omega) ?_
  refine kw_pr x_E_init_49 (by exact kt_kdo h0 (by omega)) ?_
  refine kw_ald_n x_E_init_52 rfl ?_
  refine kw_bip x_E_init_53 ?_
  refine kw_newI x_E_init_55 (hk 6 (by decide)) ⟨nI_pos (by decide), nI_clamp (by decide), by decide⟩ (by omega) ?_
  refine kw_pr x_E_init_57 (by exact kt_kdo h0 (by omega)) ?_
  refine kw_vret x_E_init_60 ?_
  refine k _ _ (fun a ha => ?_) (fun a ha => ?_) (fun i hi => ?_)
  · rw [kt_rw_ne _ _ (by omega), kt_rw_ne _ _ (by omega), kt_rw_ne _ _ (by omega), kt_rw_ne _ _ (by omega), kt_rw_ne _ _ (by omega), kt_rw_ne _ _ (by omega), kt_rw_ne _ _ (by omega)]
  · rw [kt_uR_ne _ _ _ ha, kt_uR_ne _ _ _ ha, kt_uR_ne _ _ _ ha, kt_uR_ne _ _ _ ha, kt_uR_ne _ _ _ ha, kt_uR_ne _ _ _ ha, kt_uR_ne _ _ _ ha]
  · rcases (by omega : i = 0 ∨ i = 1 ∨ i = 2 ∨ i = 3 ∨ i = 4 ∨ i = 5 ∨ i = 6) with rfl | rfl | rfl | rfl | rfl | rfl | rfl
    · exact kt_uR_nj (by decide) (kt_uR_nj (by decide) (kt_uR_nj (by decide) (kt_uR_nj (by decide) (kt_uR_nj (by decide) (kt_uR_nj (by decide) (kt_uR_eq))))))
    · exact kt_uR_nj (by decide) (kt_uR_nj (by decide) (kt_uR_nj (by decide) (kt_uR_nj (by decide) (kt_uR_nj (by decide) (kt_uR_eq)))))
    · exact kt_uR_nj (by decide) (kt_uR_nj (by decide) (kt_uR_nj (by decide) (kt_uR_nj (by decide) (kt_uR_eq))))
    · exact kt_uR_nj (by decide) (kt_uR_nj (by decide) (kt_uR_nj (by decide) (kt_uR_eq)))
    · exact kt_uR_nj (by decide) (kt_uR_nj (by decide) (kt_uR_eq))
    · exact kt_uR_nj (by decide) (kt_uR_eq)
    · exact kt_uR_eq
theorem s_L_init {e : Nat} (h0 : kt_kn e = (2, 0)) (h1 : kt_kn (e + 1) = (6, 60)) (h2 : kt_kn (e + 1 + 1) = (6, 10)) (k : ∀ I' R', (∀ a, a < kt_z P + (e + 1) → I' a = I a) → (∀ a, a ≠ kt_z P + e → R' a = R a) → R' (kt_z P + e) 0 = some (kt_z P + (e + 1)) → R' (kt_z P + e) 3 = some (kt_z P + (e + 1 + 1)) → Q none I' J R') :
    KW P i_L_init (e + 3) 0 [some (.ref (kt_z P + e))] [] (e + 1) I J R Q := by
  refine kw_ald_n x_L_init_0 rfl ?_
  refine kw_objinit x_L_init_1 ⟨by decide, by decide⟩ (Nat.le_of_ble_eq_true rfl) ?_
  refine kw_ald_n x_L_init_4 rfl ?_
  refine kw_bip x_L_init_5 ?_
  refine kw_newI x_L_init_7 h1 ⟨nI_pos (by decide), nI_clamp (by decide), by decide⟩ (by omega) ?_
  refine kw_pr x_L_init_9 (by exact kt_kdo h0 (by omega)) ?_
  refine kw_ald_n x_L_init_12 rfl ?_
  refine kw_bip x_L_init_13 ?_
  refine kw_newI x_L_init_15 h2 ⟨nI_pos (by decide), nI_clamp (by decide), by decide⟩ (by omega) ?_
  refine kw_pr x_L_init_17 (by exact kt_kdo h0 (by omega)) ?_
  refine kw_vret x_L_init_20 ?_
  exact k _ _ (fun a ha => by rw [kt_rw_ne _ _ (by omega), kt_rw_ne _ _ (by omega)]) (fun a ha => by rw [kt_uR_ne _ _ _ ha, kt_uR_ne _ _ _ ha]) (kt_uR_nj (by decide) kt_uR_eq) kt_uR_eq
theorem s_S_init {e : Nat} (h0 : kt_kn e = (3, 0)) (h1 : kt_kn (e + 1) = (6, 80)) (h2 : kt_kn (e + 1 + 1) = (6, 4)) (k : ∀ I' R', (∀ a, a < kt_z P + (e + 1) → I' a = I a) → (∀ a, a ≠ kt_z P + e → R' a = R a) → R' (kt_z P + e) 0 = some (kt_z P + (e + 1)) → R' (kt_z P + e) 2 = some (kt_z P + (e + 1 + 1)) → Q none I' J R') :
    KW P i_S_init (e + 3) 0 [some (.ref (kt_z P + e))] [] (e + 1) I J R Q := by
  refine kw_ald_n x_S_init_0 rfl ?_
  refine kw_objinit x_S_init_1 ⟨by decide, by decide⟩ (Nat.le_of_ble_eq_true rfl) ?_
  refine kw_ald_n x_S_init_4 rfl ?_
  refine kw_bip x_S_init_5 ?_
  refine kw_newI x_S_init_7 h1 ⟨nI_pos (by decide), nI_clamp (by decide), by decide⟩ (by omega) ?_
  refine kw_pr x_S_init_9 (by exact kt_kdo h0 (by omega)) ?_
  refine kw_ald_n x_S_init_12 rfl ?_
  refine kw_icon x_S_init_13 ?_
  refine kw_newI x_S_init_14 h2 ⟨nI_pos (by decide), nI_clamp (by decide), by decide⟩ (by omega) ?_
  refine kw_pr x_S_init_16 (by exact kt_kdo h0 (by omega)) ?_
  refine kw_vret x_S_init_19 ?_
  exact k _ _ (fun a ha => by rw [kt_rw_ne _ _ (by omega), kt_rw_ne _ _ (by omega)]) (fun a ha => by rw [kt_uR_ne _ _ _ ha, kt_uR_ne _ _ _ ha]) (kt_uR_nj (by decide) kt_uR_eq) kt_uR_eq
theorem s_C_init {c : Nat} (hc : kt_cc c) (k : ∀ I' J' R', (∀ a, a < kt_z P + (c + 1) → I' a = I a) → (∀ a, a < kt_z P + (c + 1) → J' a = J a) → (∀ a, a < kt_z P + c → R' a = R a) → kt_nc (kt_z P + c) I' J' R' → Q none I' J' R') :
    KW P i_C_init (c + 18) 0 [some (.ref (kt_z P + c))] [] (c + 1) I J R Q := by
  refine kw_ald_n x_C_init_0 rfl ?_
  refine kw_objinit x_C_init_1 ⟨by decide, by decide⟩ (Nat.le_of_ble_eq_true rfl) ?_
  refine kw_ald_n x_C_init_4 rfl ?_
  refine kw_new (ci := 2) x_C_init_5 (by decide) hc.2.1 (by omega) ?_
  refine kw_dup x_C_init_8 rfl ?_
  refine c_C_init_9 (N' := c + 4) ⟨by omega, by omega⟩ (Nat.le_of_ble_eq_true rfl) ?_
  refine s_L_init (e := c + 1) hc.2.1 hc.2.2.1 hc.2.2.2.1 (fun I0 R0 v1 v2 v3 v4 => ?_)
  refine kw_pr x_C_init_12 (by exact kt_kdo hc.1 (by omega)) ?_
  refine kw_ald_n x_C_init_15 rfl ?_
  refine kw_new (ci := 1) x_C_init_16 (by decide) hc.2.2.2.2.1 (by omega) ?_
  refine kw_dup x_C_init_19 rfl ?_
  refine c_C_init_20 (N' := c + 12) ⟨by omega, by omega⟩ (Nat.le_of_ble_eq_true rfl) ?_
  refine s_E_init (e := c + 4) hc.2.2.2.2.1 hc.2.2.2.2.2.1 (fun I1 R1 w1 w2 w3 => ?_)
  refine kw_pr x_C_init_23 (by exact kt_kdo hc.1 (by omega)) ?_
  refine kw_ald_n x_C_init_26 rfl ?_
  refine kw_icon x_C_init_27 ?_
  refine kw_newI x_C_init_28 hc.2.2.2.2.2.2.1 ⟨nI_pos (by decide), nI_clamp (by decide), by decide⟩ (by omega) ?_
  refine kw_pr x_C_init_30 (by exact kt_kdo hc.1 (by omega)) ?_
  refine kw_ald_n x_C_init_33 rfl ?_
  refine kw_icon x_C_init_34 ?_
  refine kw_newJ x_C_init_35 hc.2.2.2.2.2.2.2.1 ⟨nI_pos (by decide), nI_clamp (by decide), by decide⟩ (by omega) ?_
  refine kw_pr x_C_init_37 (by exact kt_kdo hc.1 (by omega)) ?_
  refine kw_ald_n x_C_init_40 rfl ?_
  refine kw_icon x_C_init_41 ?_
  refine kw_newJ x_C_init_42 hc.2.2.2.2.2.2.2.2.1 ⟨nI_pos (by decide), nI_clamp (by decide), by decide⟩ (by omega) ?_
  refine kw_pr x_C_init_44 (by exact kt_kdo hc.1 (by omega)) ?_
  refine kw_ald_n x_C_init_47 rfl ?_
  refine kw_icon x_C_init_48 ?_
  refine kw_newJ x_C_init_49 hc.2.2.2.2.2.2.2.2.2.1 ⟨nI_pos (by decide), nI_clamp (by decide), by decide⟩ (by omega) ?_
  refine kw_pr x_C_init_51 (by exact kt_kdo hc.1 (by omega)) ?_
  refine kw_ald_n x_C_init_54 rfl ?_
  refine kw_icon x_C_init_55 ?_
  refine kw_newJ x_C_init_56 hc.2.2.2.2.2.2.2.2.2.2.1 ⟨nI_pos (by decide), nI_clamp (by decide), by decide⟩ (by omega) ?_
  refine kw_pr x_C_init_58 (by exact kt_kdo hc.1 (by omega)) ?_
  refine kw_ald_n x_C_init_61 rfl ?_
  refine kw_icon x_C_init_62 ?_
  refine kw_newJ x_C_init_63 hc.2.2.2.2.2.2.2.2.2.2.2 ⟨nI_pos (by decide), nI_clamp (by decide), by decide⟩ (by omega) ?_
  refine kw_pr x_C_init_65 (by exact kt_kdo hc.1 (by omega)) ?_
  refine kw_vret x_C_init_68 ?_
  refine k _ _ _ (fun a ha => ?_) (fun a ha => ?_) (fun a ha => ?_) ⟨?_, ?_, fun k g1 g2 => ?_, fun i hi => ?_, fun j => ?_, fun j => ?_, fun q j g1 g2 => ?_, ?_, ?_⟩
  · rw [kt_rw_ne _ _ (by omega), w1 a (by omega), kt_rw_ne _ _ (by omega), v1 a (by omega), kt_rw_ne _ _ (by omega)]
  · rw [kt_rw_ne _ _ (by omega), kt_rw_ne _ _ (by omega), kt_rw_ne _ _ (by omega), kt_rw_ne _ _ (by omega), kt_rw_ne _ _ (by omega), kt_rw_ne _ _ (by omega), kt_rw_ne _ _ (by omega)]
  · rw [kt_uR_ne _ _ _ (by omega), kt_uR_ne _ _ _ (by omega), kt_uR_ne _ _ _ (by omega), kt_uR_ne _ _ _ (by omega), kt_uR_ne _ _ _ (by omega), kt_uR_ne _ _ _ (by omega), kt_uR_ne _ _ _ (by omega), w2 a (by omega), kt_rw_ne _ _ (by omega), kt_uR_ne _ _ _ (by omega), v2 a (by omega), kt_rw_ne _ _ (by omega)]
  · exact kt_uR_nj (by decide) (kt_uR_nj (by decide) (kt_uR_nj (by decide) (kt_uR_nj (by decide) (kt_uR_nj (by decide) (kt_uR_nj (by decide) (kt_uR_nj (by decide) (by rw [w2 _ (by omega)]; exact kt_rw_na (by omega) kt_uR_eq)))))))
  · exact kt_uR_nj (by decide) (kt_uR_nj (by decide) (kt_uR_nj (by decide) (kt_uR_nj (by decide) (kt_uR_nj (by decide) (kt_uR_nj (by decide) (kt_uR_eq))))))
  · rcases (by omega : k = 4 ∨ k = 5 ∨ k = 6 ∨ k = 7 ∨ k = 8 ∨ k = 9) with rfl | rfl | rfl | rfl | rfl | rfl
    · exact kt_uR_nj (by decide) (kt_uR_nj (by decide) (kt_uR_nj (by decide) (kt_uR_nj (by decide) (kt_uR_nj (by decide) (kt_uR_eq)))))
    · exact kt_uR_nj (by decide) (kt_uR_nj (by decide) (kt_uR_nj (by decide) (kt_uR_nj (by decide) (kt_uR_eq))))
    · exact kt_uR_nj (by decide) (kt_uR_nj (by decide) (kt_uR_nj (by decide) (kt_uR_eq)))
    · exact kt_uR_nj (by decide) (kt_uR_nj (by decide) (kt_uR_eq))
    · exact kt_uR_nj (by decide) (kt_uR_eq)
    · exact kt_uR_eq
  · rw [kt_uR_ne _ _ _ (by omega), kt_uR_ne _ _ _ (by omega), kt_uR_ne _ _ _ (by omega), kt_uR_ne _ _ _ (by omega), kt_uR_ne _ _ _ (by omega), kt_uR_ne _ _ _ (by omega), kt_uR_ne _ _ _ (by omega)]
    have h9 := w3 i hi
    rw [show kt_z P + (c + 4 + 1 + i) = kt_z P + c + (5 + i) by omega] at h9
    exact h9
  · rw [kt_rw_ne _ _ (by omega), w1 _ (by omega)]
    exact congrFun (kt_rw_eq _ _ _) j
  · exact congrFun (kt_rw_eq _ _ _) j
  · rcases (by omega : q = 13 ∨ q = 14 ∨ q = 15 ∨ q = 16 ∨ q = 17) with rfl | rfl | rfl | rfl | rfl
    · exact kt_rw_na (by omega) (kt_rw_na (by omega) (kt_rw_na (by omega) (kt_rw_na (by omega) (congrFun (kt_rw_eq _ _ _) j))))
    · exact kt_rw_na (by omega) (kt_rw_na (by omega) (kt_rw_na (by omega) (congrFun (kt_rw_eq _ _ _) j)))
    · exact kt_rw_na (by omega) (kt_rw_na (by omega) (congrFun (kt_rw_eq _ _ _) j))
    · exact kt_rw_na (by omega) (congrFun (kt_rw_eq _ _ _) j)
    · exact congrFun (kt_rw_eq _ _ _) j
  · rw [kt_uR_ne _ _ _ (by omega), kt_uR_ne _ _ _ (by omega), kt_uR_ne _ _ _ (by omega), kt_uR_ne _ _ _ (by omega), kt_uR_ne _ _ _ (by omega), kt_uR_ne _ _ _ (by omega), kt_uR_ne _ _ _ (by omega), w2 _ (by omega), kt_rw_ne _ _ (by omega), kt_uR_ne _ _ _ (by omega)]
    exact v3
  · rw [kt_uR_ne _ _ _ (by omega), kt_uR_ne _ _ _ (by omega), kt_uR_ne _ _ _ (by omega), kt_uR_ne _ _ _ (by omega), kt_uR_ne _ _ _ (by omega), kt_uR_ne _ _ _ (by omega), kt_uR_ne _ _ _ (by omega), w2 _ (by omega), kt_rw_ne _ _ (by omega), kt_uR_ne _ _ _ (by omega)]
    exact v4
end IN
