/-! the class: the object of the calls -/
def kt_isK (P : kt_P) (N : Nat) (R : kt_R) (z : Nat) (g : Nat → Nat) : Prop :=
  (kt_kd P N z = (4, 0)) ∧
  (kt_kd P N (z + 1) = (9, 4)) ∧
  (R z 0 = some (g 0)) ∧
  (R z 1 = some (g 1)) ∧
  (R z 2 = some (z + 1)) ∧
  (R z 4 = some (z + 2)) ∧
  (∀ j, j < 4 → R (z + 1) j = some (g (2 + j))) ∧
  (∀ j, j < 6 → kt_isL P N R (g j + 1)) ∧
  (kt_isS P N R (z + 2)) ∧
  (∀ j, j < 6 → kt_isC P N R (g j + 1) (g j)) ∧
  (∀ j, j < 6 → z + 5 ≤ g j ∧ g j + 18 ≤ z + 113) ∧
  (∀ i j, i < 6 → j < 6 → i ≠ j → g i + 18 ≤ g j ∨ g j + 18 ≤ g i)
theorem isK_k {P : kt_P} {N : Nat} {R : kt_R} {z : Nat} {g : Nat → Nat} (h : kt_isK P N R z g) : kt_kd P N z = (4, 0) := h.1
theorem isK_a1 {P : kt_P} {N : Nat} {R : kt_R} {z : Nat} {g : Nat → Nat} (h : kt_isK P N R z g) : kt_kd P N (z + 1) = (9, 4) := h.2.1
theorem isK_r0 {P : kt_P} {N : Nat} {R : kt_R} {z : Nat} {g : Nat → Nat} (h : kt_isK P N R z g) : R z 0 = some (g 0) := h.2.2.1
theorem isK_r1 {P : kt_P} {N : Nat} {R : kt_R} {z : Nat} {g : Nat → Nat} (h : kt_isK P N R z g) : R z 1 = some (g 1) := h.2.2.2.1
theorem isK_r2 {P : kt_P} {N : Nat} {R : kt_R} {z : Nat} {g : Nat → Nat} (h : kt_isK P N R z g) : R z 2 = some (z + 1) := h.2.2.2.2.1
theorem isK_r4 {P : kt_P} {N : Nat} {R : kt_R} {z : Nat} {g : Nat → Nat} (h : kt_isK P N R z g) : R z 4 = some (z + 2) := h.2.2.2.2.2.1
theorem isK_h {P : kt_P} {N : Nat} {R : kt_R} {z : Nat} {g : Nat → Nat} (h : kt_isK P N R z g) : ∀ j, j < 4 → R (z + 1) j = some (g (2 + j)) := h.2.2.2.2.2.2.1
theorem isK_L {P : kt_P} {N : Nat} {R : kt_R} {z : Nat} {g : Nat → Nat} (h : kt_isK P N R z g) : ∀ j, j < 6 → kt_isL P N R (g j + 1) := h.2.2.2.2.2.2.2.1
theorem isK_S {P : kt_P} {N : Nat} {R : kt_R} {z : Nat} {g : Nat → Nat} (h : kt_isK P N R z g) : kt_isS P N R (z + 2) := h.2.2.2.2.2.2.2.2.1
theorem isK_C {P : kt_P} {N : Nat} {R : kt_R} {z : Nat} {g : Nat → Nat} (h : kt_isK P N R z g) : ∀ j, j < 6 → kt_isC P N R (g j + 1) (g j) := h.2.2.2.2.2.2.2.2.2.1
theorem isK_b {P : kt_P} {N : Nat} {R : kt_R} {z : Nat} {g : Nat → Nat} (h : kt_isK P N R z g) : ∀ j, j < 6 → z + 5 ≤ g j ∧ g j + 18 ≤ z + 113 := h.2.2.2.2.2.2.2.2.2.2.1
theorem isK_d {P : kt_P} {N : Nat} {R : kt_R} {z : Nat} {g : Nat → Nat} (h : kt_isK P N R z g) : ∀ i j, i < 6 → j < 6 → i ≠ j → g i + 18 ≤ g j ∨ g j + 18 ≤ g i := h.2.2.2.2.2.2.2.2.2.2.2

/-- what the object holds: how many states, which, the state now, the text -/
def kt_KM (z : Nat) (g : Nat → Nat) (np : Nat) (PX : Nat → kt_X) (X : kt_X) (ty : Nat) (tx : Nat → Nat) (I : kt_I) (J : kt_J) : Prop :=
  I z 3 = nI np ∧ np ≤ 4 ∧ kt_sx (z + 2) ty tx I ∧ kt_B (g 0) X I J ∧ kt_T (g 0) X I J ∧ ∀ j, j < np → kt_B (g (2 + j)) (PX j) I J ∧ kt_T (g (2 + j)) (PX j) I J
def kt_KS (P : kt_P) (N z np : Nat) (PX : Nat → kt_X) (X : kt_X) (ty : Nat) (tx : Nat → Nat) (I : kt_I) (J : kt_J) (R : kt_R) : Prop := ∃ g, kt_isK P N R z g ∧ kt_KM z g np PX X ty tx I J
/-- behind the object nothing has changed -/
def kt_up {α : Type} (z : Nat) (M M' : Nat → Nat → α) : Prop := ∀ a, z + 113 ≤ a → M' a = M a
theorem kt_up.rf {α : Type} {z : Nat} {M : Nat → Nat → α} : kt_up z M M := fun _ _ => rfl
theorem kt_up.tr {α : Type} {z : Nat} {M M' M'' : Nat → Nat → α} (h : kt_up z M M') (h' : kt_up z M' M'') : kt_up z M M'' := fun a ha => (h' a ha).trans (h a ha)
def kt_ok (P : kt_P) (N z np : Nat) (PX : Nat → kt_X) (X : kt_X) (ty : Nat) (tx : Nat → Nat) (I : kt_I) (J : kt_J) (R : kt_R) (I' : kt_I) (J' : kt_J) (R' : kt_R) : Prop :=
  kt_KS P N z np PX X ty tx I' J' R' ∧ kt_up z I I' ∧ kt_up z J J' ∧ kt_up z R R'
theorem kt_isC.R {P : kt_P} {N lo c : Nat} {R R' : kt_R} (h : kt_isC P N R lo c) (h0 : R' c = R c) (h1 : R' (c + 4) = R (c + 4)) : kt_isC P N R' lo c := by
  unfold kt_isC at h ⊢
  rw [h0, h1]
  exact h
theorem kt_isL.R {P : kt_P} {N lo : Nat} {R R' : kt_R} (h : kt_isL P N R lo) (h0 : R' lo = R lo) : kt_isL P N R' lo := by
  unfold kt_isL at h ⊢
  rw [h0]
  exact h
theorem kt_isS.R {P : kt_P} {N lo : Nat} {R R' : kt_R} (h : kt_isS P N R lo) (h0 : R' lo = R lo) : kt_isS P N R' lo := by
  unfold kt_isS at h ⊢
  rw [h0]
  exact h
theorem kt_isM.R {P : kt_P} {N m : Nat} {R R' : kt_R} (h : kt_isM P N R m) (h0 : R' m = R m) : kt_isM P N R' m := by
  unfold kt_isM at h ⊢
  rw [h0]
  exact h
/-- the countries change their places -/
theorem kt_isK.perm {P : kt_P} {N z : Nat} {R R' : kt_R} {g g' : Nat → Nat} (h : kt_isK P N R z g) (σ : Nat → Nat) (hσ : ∀ j, j < 6 → σ j < 6 ∧ g' j = g (σ j)) (hi : ∀ i j, i < 6 → j < 6 → σ i = σ j → i = j) (hR : ∀ a, a ≠ z → a ≠ z + 1 → R' a = R a) (h0 : R' z 0 = some (g' 0)) (h1 : R' z 1 = some (g' 1)) (h2 : ∀ j, 2 ≤ j → R' z j = R z j) (hh : ∀ j, j < 4 → R' (z + 1) j = some (g' (2 + j))) : kt_isK P N R' z g' := by
  refine ⟨isK_k h, isK_a1 h, h0, h1, by rw [h2 2 (by decide)]; exact isK_r2 h, by rw [h2 4 (by decide)]; exact isK_r4 h, hh, fun j hj => ?_, (isK_S h).R (hR _ (by omega) (by omega)), fun j hj => ?_, fun j hj => ?_, fun i j hi' hj hne => ?_⟩
  · have hb := isK_b h (σ j) (hσ j hj).1
    rw [(hσ j hj).2]
    exact (isK_L h (σ j) (hσ j hj).1).R (hR _ (by omega) (by omega))
  · have hb := isK_b h (σ j) (hσ j hj).1
    rw [(hσ j hj).2]
    exact (isK_C h (σ j) (hσ j hj).1).R (hR _ (by omega) (by omega)) (hR _ (by omega) (by omega))
  · rw [(hσ j hj).2]
    exact isK_b h (σ j) (hσ j hj).1
  · rw [(hσ i hi').2, (hσ j hj).2]
    exact isK_d h _ _ (hσ i hi').1 (hσ j hj).1 (fun q => hne (hi i j hi' hj q))
theorem kt_uR_eq {R : kt_R} {a j : Nat} {x : Option Nat} : kt_uR R a j x a j = x := by simp [kt_uR]
theorem kt_uR_nj {R : kt_R} {a j k : Nat} {x v : Option Nat} (h : k ≠ j) (e : R a k = v) : kt_uR R a j x a k = v := by simp [kt_uR, h]; exact e
theorem kt_uR_na {R : kt_R} {a b j k : Nat} {x v : Option Nat} (h : a ≠ b) (e : R a k = v) : kt_uR R b j x a k = v := by rw [kt_uR_ne _ _ _ h]; exact e
/-- which country holds which state behind a change -/
def xhg (np : Nat) (g : Nat → Nat) (j : Nat) : Nat := if np = 4 then (if j < 3 then g (2 + (j + 1)) else g 1) else (if j = np then g 1 else g (2 + j))
def xs1 (np j : Nat) : Nat := if j = 1 then 2 + np else if j = 2 + np then 1 else j
def xs4 (j : Nat) : Nat := if j = 0 then 0 else if j = 5 then 1 else j + 1
theorem xs1_i {np i j : Nat} (h : xs1 np i = xs1 np j) : i = j := by
  unfold xs1 at h
  repeat' split at h
  all_goals omega
theorem xs4_i {i j : Nat} (hi : i < 6) (hj : j < 6) (h : xs4 i = xs4 j) : i = j := by
  unfold xs4 at h
  repeat' split at h
  all_goals omega
theorem xs1_6 {np j : Nat} (hn : np < 4) (hj : j < 6) : xs1 np j < 6 := by
  unfold xs1
  repeat' split
  all_goals omega
theorem xs4_6 {j : Nat} (hj : j < 6) : xs4 j < 6 := by
  unfold xs4
  repeat' split
  all_goals omega
section KK
variable {P : kt_P} {N : Nat} {I : kt_I} {J : kt_J} {R : kt_R} {Q : Option Value → kt_I → kt_J → kt_R → Prop} {z : Nat} {g : Nat → Nat}
theorem s_K_keepSpare (hK : kt_isK P N R z g) {np : Nat} (hnp : I z 3 = nI np) (h4 : np ≤ 4)
    (k : ∀ I' R' g', (∀ a, a ≠ z → I' a = I a) → I' z 3 = nI (xpn np) → kt_isK P N R' z g' → (∀ a, a ≠ z → a ≠ z + 1 → R' a = R a) → g' 0 = g 0 → (∀ j, j < xpn np → g' (2 + j) = xhg np g j) → Q none I' J R') :
    KW P i_K_keepSpare N 0 [some (.ref z), none, none] [] N I J R Q := by
  have hh := isK_h hK
  by_cases hlt : np < 4
  · skip
    refine kw_ald_n x_K_keepSpare_0 rfl ?_
    refine kw_gi_e x_K_keepSpare_1 (by exact isK_k hK) (by first | exact hnp | exact rfl) ?_
    refine kw_icon x_K_keepSpare_4 ?_
    refine c_K_keepSpare_5 (Nat.le_of_ble_eq_true rfl) ?_
    refine s_K_isBelow (b := 4) ?_
    first | refine kw_if_eq_b x_K_keepSpare_8 (fun h8 => ?_) (fun h8 => ?_) | refine kw_if_eq_n x_K_keepSpare_8 (by omega) (fun h8 => ?_) (fun h8 => ?_) | refine kw_if_eq x_K_keepSpare_8 (fun h8 => ?_) (fun h8 => ?_)
    · exfalso; first | exact kt_nT (T := 4) (by decide) h8 ⟨np, hlt, rfl⟩ | omega | contradiction | exact absurd (by decide) h8 | exact absurd h8 (by decide)
    · skip
      refine kw_ald_n x_K_keepSpare_11 rfl ?_
      refine kw_gr x_K_keepSpare_12 (by exact isK_k hK) (by first | exact isK_r2 hK | exact kt_uR_na (by omega) (isK_r2 hK) | exact kt_uR_nj (by decide) (isK_r2 hK)) ?_
      refine kw_ald_n x_K_keepSpare_15 rfl ?_
      refine kw_gi_e x_K_keepSpare_16 (by exact isK_k hK) (by first | exact hnp | exact hh _ (by omega) | exact rfl) ?_
      refine kw_aald_n x_K_keepSpare_19 (by exact isK_a1 hK) (by omega) (by omega) (by first | exact hnp | exact hh _ (by omega)) ?_
      refine kw_ast_n x_K_keepSpare_20 (by decide) ?_
      refine kw_ald_n x_K_keepSpare_21 rfl ?_
      refine kw_gr x_K_keepSpare_22 (by exact isK_k hK) (by first | exact isK_r2 hK | exact kt_uR_na (by omega) (isK_r2 hK) | exact kt_uR_nj (by decide) (isK_r2 hK)) ?_
      refine kw_ald_n x_K_keepSpare_25 rfl ?_
      refine kw_gi_e x_K_keepSpare_26 (by exact isK_k hK) (by first | exact hnp | exact hh _ (by omega) | exact rfl) ?_
      refine kw_ald_n x_K_keepSpare_29 rfl ?_
      refine kw_gr x_K_keepSpare_30 (by exact isK_k hK) (by first | exact isK_r1 hK | exact kt_uR_na (by omega) (isK_r1 hK) | exact kt_uR_nj (by decide) (isK_r1 hK)) ?_
      refine kw_aast_n x_K_keepSpare_33 (by exact isK_a1 hK) (by first | exact isC_k (isK_C hK 1 (by decide)) | exact isC_k (isK_C hK (2 + 1) (by decide)) | exact isC_k (isK_C hK (2 + (1 + 1)) (by decide)) | exact isC_k (isK_C hK (2 + (1 + 1 + 1)) (by decide))) (by omega) (by omega) ?_
      refine kw_ald_n x_K_keepSpare_34 rfl ?_
      refine kw_ald_n x_K_keepSpare_35 rfl ?_
      refine kw_pr x_K_keepSpare_36 (by exact isK_k hK) ?_
      refine kw_ald_n x_K_keepSpare_39 rfl ?_
      refine kw_dup x_K_keepSpare_40 rfl ?_
      refine kw_gi_e x_K_keepSpare_41 (by exact isK_k hK) (by first | exact hnp | exact hh _ (by omega) | exact rfl) ?_
      refine kw_icon x_K_keepSpare_44 ?_
      first | refine kw_iadd_n x_K_keepSpare_45 ?_ | refine kw_iadd x_K_keepSpare_45 ?_
      refine kw_pi x_K_keepSpare_46 (by exact isK_k hK) ?_
      refine kw_vret x_K_keepSpare_49 ?_
      have hp1 : xpn np = np + 1 := (by unfold xpn; rw [if_neg (by omega)])
      refine k (kt_u1 I z 3 (nI (np + 1))) _ (fun j => g (xs1 np j)) (fun a ha => kt_u1_ne _ _ _ ha) (by rw [hp1]; exact kt_u1_eq) (hK.perm (xs1 np) (fun j hj => ⟨xs1_6 (by omega) hj, rfl⟩) (fun i j _ _ h => xs1_i h) (fun a h1 h2 => by rw [kt_uR_ne _ _ _ h1, kt_uR_ne _ _ _ h2]) ?_ kt_uR_eq (fun j hj => kt_uR_nj (by omega) (kt_uR_na (by omega) rfl)) (fun j hj => ?_)) (fun a h1 h2 => by rw [kt_uR_ne _ _ _ h1, kt_uR_ne _ _ _ h2]) ?_ (fun j hj => ?_)
      · refine kt_uR_nj (by decide) (kt_uR_na (by omega) ?_)
        rw [isK_r0 hK, show xs1 np 0 = 0 from by unfold xs1; rw [if_neg (by decide), if_neg (by omega)]]
      · refine kt_uR_na (by omega) ?_
        by_cases hjn : j = np
        · subst hjn
          rw [kt_uR_eq, show xs1 j (2 + j) = 1 from by unfold xs1; rw [if_neg (by omega), if_pos rfl]]
        · refine kt_uR_nj hjn ?_
          rw [hh j hj, show xs1 np (2 + j) = 2 + j from by unfold xs1; rw [if_neg (by omega), if_neg (by omega)]]
      · show g (xs1 np 0) = g 0
        rw [show xs1 np 0 = 0 from by unfold xs1; rw [if_neg (by decide), if_neg (by omega)]]
      · show g (xs1 np (2 + j)) = xhg np g j
        unfold xhg xs1
        rw [if_neg (show ¬ np = 4 by omega), if_neg (show ¬ 2 + j = 1 by omega)]
        by_cases hjn : j = np
        · rw [if_pos (show 2 + j = 2 + np by omega), if_pos hjn]
        · rw [if_neg (show ¬ 2 + j = 2 + np by omega), if_neg hjn]
  · obtain rfl : np = 4 := (by omega)
    refine kw_ald_n x_K_keepSpare_0 rfl ?_
    refine kw_gi_e x_K_keepSpare_1 (by exact isK_k hK) (by first | exact hnp | exact rfl) ?_
    refine kw_icon x_K_keepSpare_4 ?_
    refine c_K_keepSpare_5 (Nat.le_of_ble_eq_true rfl) ?_
    refine s_K_isBelow (b := 4) ?_
    first | refine kw_if_eq_b x_K_keepSpare_8 (fun h8 => ?_) (fun h8 => ?_) | refine kw_if_eq_n x_K_keepSpare_8 (by omega) (fun h8 => ?_) (fun h8 => ?_) | refine kw_if_eq x_K_keepSpare_8 (fun h8 => ?_) (fun h8 => ?_)
    · skip
      refine kw_ald_n x_K_keepSpare_50 rfl ?_
      refine kw_gr x_K_keepSpare_51 (by exact isK_k hK) (by first | exact isK_r2 hK | exact kt_uR_na (by omega) (isK_r2 hK) | exact kt_uR_nj (by decide) (isK_r2 hK) | exact kt_uR_na (by omega) (kt_uR_na (by omega) (isK_r2 hK)) | exact kt_uR_na (by omega) (kt_uR_nj (by decide) (isK_r2 hK)) | exact kt_uR_nj (by decide) (kt_uR_na (by omega) (isK_r2 hK)) | exact kt_uR_nj (by decide) (kt_uR_nj (by decide) (isK_r2 hK)) | exact kt_uR_na (by omega) (kt_uR_na (by omega) (kt_uR_na (by omega) (isK_r2 hK))) | exact kt_uR_na (by omega) (kt_uR_na (by omega) (kt_uR_nj (by decide) (isK_r2 hK))) | exact kt_uR_na (by omega) (kt_uR_nj (by decide) (kt_uR_na (by omega) (isK_r2 hK))) | exact kt_uR_na (by omega) (kt_uR_nj (by decide) (kt_uR_nj (by decide) (isK_r2 hK))) | exact kt_uR_nj (by decide) (kt_uR_na (by omega) (kt_uR_na (by omega) (isK_r2 hK))) | exact kt_uR_nj (by decide) (kt_uR_na (by omega) (kt_uR_nj (by decide) (isK_r2 hK))) | exact kt_uR_nj (by decide) (kt_uR_nj (by decide) (kt_uR_na (by omega) (isK_r2 hK))) | exact kt_uR_nj (by decide) (kt_uR_nj (by decide) (kt_uR_nj (by decide) (isK_r2 hK))) | exact kt_uR_na (by omega) (kt_uR_na (by omega) (kt_uR_na (by omega) (kt_uR_na (by omega) (isK_r2 hK)))) | exact kt_uR_na (by omega) (kt_uR_na (by omega) (kt_uR_na (by omega) (kt_uR_nj (by decide) (isK_r2 hK)))) | exact kt_uR_na (by omega) (kt_uR_na (by omega) (kt_uR_nj (by decide) (kt_uR_na (by omega) (isK_r2 hK)))) | exact kt_uR_na (by omega) (kt_uR_na (by omega) (kt_uR_nj (by decide) (kt_uR_nj (by decide) (isK_r2 hK)))) | exact kt_uR_na (by omega) (kt_uR_nj (by decide) (kt_uR_na (by omega) (kt_uR_na (by omega) (isK_r2 hK)))) | exact kt_uR_na (by omega) (kt_uR_nj (by decide) (kt_uR_na (by omega) (kt_uR_nj (by decide) (isK_r2 hK)))) | exact kt_uR_na (by omega) (kt_uR_nj (by decide) (kt_uR_nj (by decide) (kt_uR_na (by omega) (isK_r2 hK)))) | exact kt_uR_na (by omega) (kt_uR_nj (by decide) (kt_uR_nj (by decide) (kt_uR_nj (by decide) (isK_r2 hK)))) | exact kt_uR_nj (by decide) (kt_uR_na (by omega) (kt_uR_na (by omega) (kt_uR_na (by omega) (isK_r2 hK)))) | exact kt_uR_nj (by decide) (kt_uR_na (by omega) (kt_uR_na (by omega) (kt_uR_nj (by decide) (isK_r2 hK)))) | exact kt_uR_nj (by decide) (kt_uR_na (by omega) (kt_uR_nj (by decide) (kt_uR_na (by omega) (isK_r2 hK)))) | exact kt_uR_nj (by decide) (kt_uR_na (by omega) (kt_uR_nj (by decide) (kt_uR_nj (by decide) (isK_r2 hK)))) | exact kt_uR_nj (by decide) (kt_uR_nj (by decide) (kt_uR_na (by omega) (kt_uR_na (by omega) (isK_r2 hK)))) | exact kt_uR_nj (by decide) (kt_uR_nj (by decide) (kt_uR_na (by omega) (kt_uR_nj (by decide) (isK_r2 hK)))) | exact kt_uR_nj (by decide) (kt_uR_nj (by decide) (kt_uR_nj (by decide) (kt_uR_na (by omega) (isK_r2 hK)))) | exact kt_uR_nj (by decide) (kt_uR_nj (by decide) (kt_uR_nj (by decide) (kt_uR_nj (by decide) (isK_r2 hK))))) ?_
      refine kw_icon x_K_keepSpare_54 ?_
      refine kw_aald_n x_K_keepSpare_55 (by exact isK_a1 hK) (by omega) (by omega) (by first | exact hnp | exact hh _ (by omega) | exact kt_uR_nj (by decide) (hh _ (by omega)) | exact kt_uR_nj (by decide) (kt_uR_nj (by decide) (hh _ (by omega)))) ?_
      refine kw_ast_n x_K_keepSpare_56 (by decide) ?_
      refine kw_icon x_K_keepSpare_57 ?_
      refine kw_ist_n x_K_keepSpare_58 (by decide) ?_
      refine kw_ild_n x_K_keepSpare_59 rfl ?_
      refine kw_icon x_K_keepSpare_60 ?_
      first | refine kw_ic_ge_n x_K_keepSpare_61 ⟨by omega, by omega⟩ (fun h61 => ?_) (fun h61 => ?_) | refine kw_ic_ge x_K_keepSpare_61 (fun h61 => ?_) (fun h61 => ?_)
      · exfalso; first | omega | contradiction | exact absurd (by decide) h61 | exact absurd h61 (by decide)
      · skip
        refine kw_ald_n x_K_keepSpare_64 rfl ?_
        refine kw_gr x_K_keepSpare_65 (by exact isK_k hK) (by first | exact isK_r2 hK | exact kt_uR_na (by omega) (isK_r2 hK) | exact kt_uR_nj (by decide) (isK_r2 hK) | exact kt_uR_na (by omega) (kt_uR_na (by omega) (isK_r2 hK)) | exact kt_uR_na (by omega) (kt_uR_nj (by decide) (isK_r2 hK)) | exact kt_uR_nj (by decide) (kt_uR_na (by omega) (isK_r2 hK)) | exact kt_uR_nj (by decide) (kt_uR_nj (by decide) (isK_r2 hK)) | exact kt_uR_na (by omega) (kt_uR_na (by omega) (kt_uR_na (by omega) (isK_r2 hK))) | exact kt_uR_na (by omega) (kt_uR_na (by omega) (kt_uR_nj (by decide) (isK_r2 hK))) | exact kt_uR_na (by omega) (kt_uR_nj (by decide) (kt_uR_na (by omega) (isK_r2 hK))) | exact kt_uR_na (by omega) (kt_uR_nj (by decide) (kt_uR_nj (by decide) (isK_r2 hK))) | exact kt_uR_nj (by decide) (kt_uR_na (by omega) (kt_uR_na (by omega) (isK_r2 hK))) | exact kt_uR_nj (by decide) (kt_uR_na (by omega) (kt_uR_nj (by decide) (isK_r2 hK))) | exact kt_uR_nj (by decide) (kt_uR_nj (by decide) (kt_uR_na (by omega) (isK_r2 hK))) | exact kt_uR_nj (by decide) (kt_uR_nj (by decide) (kt_uR_nj (by decide) (isK_r2 hK))) | exact kt_uR_na (by omega) (kt_uR_na (by omega) (kt_uR_na (by omega) (kt_uR_na (by omega) (isK_r2 hK)))) | exact kt_uR_na (by omega) (kt_uR_na (by omega) (kt_uR_na (by omega) (kt_uR_nj (by decide) (isK_r2 hK)))) | exact kt_uR_na (by omega) (kt_uR_na (by omega) (kt_uR_nj (by decide) (kt_uR_na (by omega) (isK_r2 hK)))) | exact kt_uR_na (by omega) (kt_uR_na (by omega) (kt_uR_nj (by decide) (kt_uR_nj (by decide) (isK_r2 hK)))) | exact kt_uR_na (by omega) (kt_uR_nj (by decide) (kt_uR_na (by omega) (kt_uR_na (by omega) (isK_r2 hK)))) | exact kt_uR_na (by omega) (kt_uR_nj (by decide) (kt_uR_na (by omega) (kt_uR_nj (by decide) (isK_r2 hK)))) | exact kt_uR_na (by omega) (kt_uR_nj (by decide) (kt_uR_nj (by decide) (kt_uR_na (by omega) (isK_r2 hK)))) | exact kt_uR_na (by omega) (kt_uR_nj (by decide) (kt_uR_nj (by decide) (kt_uR_nj (by decide) (isK_r2 hK)))) | exact kt_uR_nj (by decide) (kt_uR_na (by omega) (kt_uR_na (by omega) (kt_uR_na (by omega) (isK_r2 hK)))) | exact kt_uR_nj (by decide) (kt_uR_na (by omega) (kt_uR_na (by omega) (kt_uR_nj (by decide) (isK_r2 hK)))) | exact kt_uR_nj (by decide) (kt_uR_na (by omega) (kt_uR_nj (by decide) (kt_uR_na (by omega) (isK_r2 hK)))) | exact kt_uR_nj (by decide) (kt_uR_na (by omega) (kt_uR_nj (by decide) (kt_uR_nj (by decide) (isK_r2 hK)))) | exact kt_uR_nj (by decide) (kt_uR_nj (by decide) (kt_uR_na (by omega) (kt_uR_na (by omega) (isK_r2 hK)))) | exact kt_uR_nj (by decide) (kt_uR_nj (by decide) (kt_uR_na (by omega) (kt_uR_nj (by decide) (isK_r2 hK)))) | exact kt_uR_nj (by decide) (kt_uR_nj (by decide) (kt_uR_nj (by decide) (kt_uR_na (by omega) (isK_r2 hK)))) | exact kt_uR_nj (by decide) (kt_uR_nj (by decide) (kt_uR_nj (by decide) (kt_uR_nj (by decide) (isK_r2 hK))))) ?_
        refine kw_ild_n x_K_keepSpare_68 rfl ?_
        refine kw_icon x_K_keepSpare_69 ?_
        first | refine kw_isub_n x_K_keepSpare_70 (by omega) ?_ | refine kw_isub x_K_keepSpare_70 ?_
        refine kw_ald_n x_K_keepSpare_71 rfl ?_
        refine kw_gr x_K_keepSpare_72 (by exact isK_k hK) (by first | exact isK_r2 hK | exact kt_uR_na (by omega) (isK_r2 hK) | exact kt_uR_nj (by decide) (isK_r2 hK) | exact kt_uR_na (by omega) (kt_uR_na (by omega) (isK_r2 hK)) | exact kt_uR_na (by omega) (kt_uR_nj (by decide) (isK_r2 hK)) | exact kt_uR_nj (by decide) (kt_uR_na (by omega) (isK_r2 hK)) | exact kt_uR_nj (by decide) (kt_uR_nj (by decide) (isK_r2 hK)) | exact kt_uR_na (by omega) (kt_uR_na (by omega) (kt_uR_na (by omega) (isK_r2 hK))) | exact kt_uR_na (by omega) (kt_uR_na (by omega) (kt_uR_nj (by decide) (isK_r2 hK))) | exact kt_uR_na (by omega) (kt_uR_nj (by decide) (kt_uR_na (by omega) (isK_r2 hK))) | exact kt_uR_na (by omega) (kt_uR_nj (by decide) (kt_uR_nj (by decide) (isK_r2 hK))) | exact kt_uR_nj (by decide) (kt_uR_na (by omega) (kt_uR_na (by omega) (isK_r2 hK))) | exact kt_uR_nj (by decide) (kt_uR_na (by omega) (kt_uR_nj (by decide) (isK_r2 hK))) | exact kt_uR_nj (by decide) (kt_uR_nj (by decide) (kt_uR_na (by omega) (isK_r2 hK))) | exact kt_uR_nj (by decide) (kt_uR_nj (by decide) (kt_uR_nj (by decide) (isK_r2 hK))) | exact kt_uR_na (by omega) (kt_uR_na (by omega) (kt_uR_na (by omega) (kt_uR_na (by omega) (isK_r2 hK)))) | exact kt_uR_na (by omega) (kt_uR_na (by omega) (kt_uR_na (by omega) (kt_uR_nj (by decide) (isK_r2 hK)))) | exact kt_uR_na (by omega) (kt_uR_na (by omega) (kt_uR_nj (by decide) (kt_uR_na (by omega) (isK_r2 hK)))) | exact kt_uR_na (by omega) (kt_uR_na (by omega) (kt_uR_nj (by decide) (kt_uR_nj (by decide) (isK_r2 hK)))) | exact kt_uR_na (by omega) (kt_uR_nj (by decide) (kt_uR_na (by omega) (kt_uR_na (by omega) (isK_r2 hK)))) | exact kt_uR_na (by omega) (kt_uR_nj (by decide) (kt_uR_na (by omega) (kt_uR_nj (by decide) (isK_r2 hK)))) | exact kt_uR_na (by omega) (kt_uR_nj (by decide) (kt_uR_nj (by decide) (kt_uR_na (by omega) (isK_r2 hK)))) | exact kt_uR_na (by omega) (kt_uR_nj (by decide) (kt_uR_nj (by decide) (kt_uR_nj (by decide) (isK_r2 hK)))) | exact kt_uR_nj (by decide) (kt_uR_na (by omega) (kt_uR_na (by omega) (kt_uR_na (by omega) (isK_r2 hK)))) | exact kt_uR_nj (by decide) (kt_uR_na (by omega) (kt_uR_na (by omega) (kt_uR_nj (by decide) (isK_r2 hK)))) | exact kt_uR_nj (by decide) (kt_uR_na (by omega) (kt_uR_nj (by decide) (kt_uR_na (by omega) (isK_r2 hK)))) | exact kt_uR_nj (by decide) (kt_uR_na (by omega) (kt_uR_nj (by decide) (kt_uR_nj (by decide) (isK_r2 hK)))) | exact kt_uR_nj (by decide) (kt_uR_nj (by decide) (kt_uR_na (by omega) (kt_uR_na (by omega) (isK_r2 hK)))) | exact kt_uR_nj (by decide) (kt_uR_nj (by decide) (kt_uR_na (by omega) (kt_uR_nj (by decide) (isK_r2 hK)))) | exact kt_uR_nj (by decide) (kt_uR_nj (by decide) (kt_uR_nj (by decide) (kt_uR_na (by omega) (isK_r2 hK)))) | exact kt_uR_nj (by decide) (kt_uR_nj (by decide) (kt_uR_nj (by decide) (kt_uR_nj (by decide) (isK_r2 hK))))) ?_
        refine kw_ild_n x_K_keepSpare_75 rfl ?_
        refine kw_aald_n x_K_keepSpare_76 (by exact isK_a1 hK) (by omega) (by omega) (by first | exact hnp | exact hh _ (by omega) | exact kt_uR_nj (by decide) (hh _ (by omega)) | exact kt_uR_nj (by decide) (kt_uR_nj (by decide) (hh _ (by omega)))) ?_
        refine kw_aast_n x_K_keepSpare_77 (by exact isK_a1 hK) (by first | exact isC_k (isK_C hK 1 (by decide)) | exact isC_k (isK_C hK (2 + 1) (by decide)) | exact isC_k (isK_C hK (2 + (1 + 1)) (by decide)) | exact isC_k (isK_C hK (2 + (1 + 1 + 1)) (by decide))) (by omega) (by omega) ?_
        first | refine kw_iinc_n x_K_keepSpare_78 (by decide) rfl ?_ | refine kw_iinc x_K_keepSpare_78 (by decide) rfl ?_
        refine kw_goto x_K_keepSpare_81 ?_
        refine kw_ild_n x_K_keepSpare_59 rfl ?_
        refine kw_icon x_K_keepSpare_60 ?_
        first | refine kw_ic_ge_n x_K_keepSpare_61 ⟨by omega, by omega⟩ (fun h61 => ?_) (fun h61 => ?_) | refine kw_ic_ge x_K_keepSpare_61 (fun h61 => ?_) (fun h61 => ?_)
        · exfalso; first | omega | contradiction | exact absurd (by decide) h61 | exact absurd h61 (by decide)
        · skip
          refine kw_ald_n x_K_keepSpare_64 rfl ?_
          refine kw_gr x_K_keepSpare_65 (by exact isK_k hK) (by first | exact isK_r2 hK | exact kt_uR_na (by omega) (isK_r2 hK) | exact kt_uR_nj (by decide) (isK_r2 hK) | exact kt_uR_na (by omega) (kt_uR_na (by omega) (isK_r2 hK)) | exact kt_uR_na (by omega) (kt_uR_nj (by decide) (isK_r2 hK)) | exact kt_uR_nj (by decide) (kt_uR_na (by omega) (isK_r2 hK)) | exact kt_uR_nj (by decide) (kt_uR_nj (by decide) (isK_r2 hK)) | exact kt_uR_na (by omega) (kt_uR_na (by omega) (kt_uR_na (by omega) (isK_r2 hK))) | exact kt_uR_na (by omega) (kt_uR_na (by omega) (kt_uR_nj (by decide) (isK_r2 hK))) | exact kt_uR_na (by omega) (kt_uR_nj (by decide) (kt_uR_na (by omega) (isK_r2 hK))) | exact kt_uR_na (by omega) (kt_uR_nj (by decide) (kt_uR_nj (by decide) (isK_r2 hK))) | exact kt_uR_nj (by decide) (kt_uR_na (by omega) (kt_uR_na (by omega) (isK_r2 hK))) | exact kt_uR_nj (by decide) (kt_uR_na (by omega) (kt_uR_nj (by decide) (isK_r2 hK))) | exact kt_uR_nj (by decide) (kt_uR_nj (by decide) (kt_uR_na (by omega) (isK_r2 hK))) | exact kt_uR_nj (by decide) (kt_uR_nj (by decide) (kt_uR_nj (by decide) (isK_r2 hK))) | exact kt_uR_na (by omega) (kt_uR_na (by omega) (kt_uR_na (by omega) (kt_uR_na (by omega) (isK_r2 hK)))) | exact kt_uR_na (by omega) (kt_uR_na (by omega) (kt_uR_na (by omega) (kt_uR_nj (by decide) (isK_r2 hK)))) | exact kt_uR_na (by omega) (kt_uR_na (by omega) (kt_uR_nj (by decide) (kt_uR_na (by omega) (isK_r2 hK)))) | exact kt_uR_na (by omega) (kt_uR_na (by omega) (kt_uR_nj (by decide) (kt_uR_nj (by decide) (isK_r2 hK)))) | exact kt_uR_na (by omega) (kt_uR_nj (by decide) (kt_uR_na (by omega) (kt_uR_na (by omega) (isK_r2 hK)))) | exact kt_uR_na (by omega) (kt_uR_nj (by decide) (kt_uR_na (by omega) (kt_uR_nj (by decide) (isK_r2 hK)))) | exact kt_uR_na (by omega) (kt_uR_nj (by decide) (kt_uR_nj (by decide) (kt_uR_na (by omega) (isK_r2 hK)))) | exact kt_uR_na (by omega) (kt_uR_nj (by decide) (kt_uR_nj (by decide) (kt_uR_nj (by decide) (isK_r2 hK)))) | exact kt_uR_nj (by decide) (kt_uR_na (by omega) (kt_uR_na (by omega) (kt_uR_na (by omega) (isK_r2 hK)))) | exact kt_uR_nj (by decide) (kt_uR_na (by omega) (kt_uR_na (by omega) (kt_uR_nj (by decide) (isK_r2 hK)))) | exact kt_uR_nj (by decide) (kt_uR_na (by omega) (kt_uR_nj (by decide) (kt_uR_na (by omega) (isK_r2 hK)))) | exact kt_uR_nj (by decide) (kt_uR_na (by omega) (kt_uR_nj (by decide) (kt_uR_nj (by decide) (isK_r2 hK)))) | exact kt_uR_nj (by decide) (kt_uR_nj (by decide) (kt_uR_na (by omega) (kt_uR_na (by omega) (isK_r2 hK)))) | exact kt_uR_nj (by decide) (kt_uR_nj (by decide) (kt_uR_na (by omega) (kt_uR_nj (by decide) (isK_r2 hK)))) | exact kt_uR_nj (by decide) (kt_uR_nj (by decide) (kt_uR_nj (by decide) (kt_uR_na (by omega) (isK_r2 hK)))) | exact kt_uR_nj (by decide) (kt_uR_nj (by decide) (kt_uR_nj (by decide) (kt_uR_nj (by decide) (isK_r2 hK))))) ?_
          refine kw_ild_n x_K_keepSpare_68 rfl ?_
          refine kw_icon x_K_keepSpare_69 ?_
          first | refine kw_isub_n x_K_keepSpare_70 (by omega) ?_ | refine kw_isub x_K_keepSpare_70 ?_
          refine kw_ald_n x_K_keepSpare_71 rfl ?_
          refine kw_gr x_K_keepSpare_72 (by exact isK_k hK) (by first | exact isK_r2 hK | exact kt_uR_na (by omega) (isK_r2 hK) | exact kt_uR_nj (by decide) (isK_r2 hK) | exact kt_uR_na (by omega) (kt_uR_na (by omega) (isK_r2 hK)) | exact kt_uR_na (by omega) (kt_uR_nj (by decide) (isK_r2 hK)) | exact kt_uR_nj (by decide) (kt_uR_na (by omega) (isK_r2 hK)) | exact kt_uR_nj (by decide) (kt_uR_nj (by decide) (isK_r2 hK)) | exact kt_uR_na (by omega) (kt_uR_na (by omega) (kt_uR_na (by omega) (isK_r2 hK))) | exact kt_uR_na (by omega) (kt_uR_na (by omega) (kt_uR_nj (by decide) (isK_r2 hK))) | exact kt_uR_na (by omega) (kt_uR_nj (by decide) (kt_uR_na (by omega) (isK_r2 hK))) | exact kt_uR_na (by omega) (kt_uR_nj (by decide) (kt_uR_nj (by decide) (isK_r2 hK))) | exact kt_uR_nj (by decide) (kt_uR_na (by omega) (kt_uR_na (by omega) (isK_r2 hK))) | exact kt_uR_nj (by decide) (kt_uR_na (by omega) (kt_uR_nj (by decide) (isK_r2 hK))) | exact kt_uR_nj (by decide) (kt_uR_nj (by decide) (kt_uR_na (by omega) (isK_r2 hK))) | exact kt_uR_nj (by decide) (kt_uR_nj (by decide) (kt_uR_nj (by decide) (isK_r2 hK))) | exact kt_uR_na (by omega) (kt_uR_na (by omega) (kt_uR_na (by omega) (kt_uR_na (by omega) (isK_r2 hK)))) | exact kt_uR_na (by omega) (kt_uR_na (by omega) (kt_uR_na (by omega) (kt_uR_nj (by decide) (isK_r2 hK)))) | exact kt_uR_na (by omega) (kt_uR_na (by omega) (kt_uR_nj (by decide) (kt_uR_na (by omega) (isK_r2 hK)))) | exact kt_uR_na (by omega) (kt_uR_na (by omega) (kt_uR_nj (by decide) (kt_uR_nj (by decide) (isK_r2 hK)))) | exact kt_uR_na (by omega) (kt_uR_nj (by decide) (kt_uR_na (by omega) (kt_uR_na (by omega) (isK_r2 hK)))) | exact kt_uR_na (by omega) (kt_uR_nj (by decide) (kt_uR_na (by omega) (kt_uR_nj (by decide) (isK_r2 hK)))) | exact kt_uR_na (by omega) (kt_uR_nj (by decide) (kt_uR_nj (by decide) (kt_uR_na (by omega) (isK_r2 hK)))) | exact kt_uR_na (by omega) (kt_uR_nj (by decide) (kt_uR_nj (by decide) (kt_uR_nj (by decide) (isK_r2 hK)))) | exact kt_uR_nj (by decide) (kt_uR_na (by omega) (kt_uR_na (by omega) (kt_uR_na (by omega) (isK_r2 hK)))) | exact kt_uR_nj (by decide) (kt_uR_na (by omega) (kt_uR_na (by omega) (kt_uR_nj (by decide) (isK_r2 hK)))) | exact kt_uR_nj (by decide) (kt_uR_na (by omega) (kt_uR_nj (by decide) (kt_uR_na (by omega) (isK_r2 hK)))) | exact kt_uR_nj (by decide) (kt_uR_na (by omega) (kt_uR_nj (by decide) (kt_uR_nj (by decide) (isK_r2 hK)))) | exact kt_uR_nj (by decide) (kt_uR_nj (by decide) (kt_uR_na (by omega) (kt_uR_na (by omega) (isK_r2 hK)))) | exact kt_uR_nj (by decide) (kt_uR_nj (by decide) (kt_uR_na (by omega) (kt_uR_nj (by decide) (isK_r2 hK)))) | exact kt_uR_nj (by decide) (kt_uR_nj (by decide) (kt_uR_nj (by decide) (kt_uR_na (by omega) (isK_r2 hK)))) | exact kt_uR_nj (by decide) (kt_uR_nj (by decide) (kt_uR_nj (by decide) (kt_uR_nj (by decide) (isK_r2 hK))))) ?_
          refine kw_ild_n x_K_keepSpare_75 rfl ?_
          refine kw_aald_n x_K_keepSpare_76 (by exact isK_a1 hK) (by omega) (by omega) (by first | exact hnp | exact hh _ (by omega) | exact kt_uR_nj (by decide) (hh _ (by omega)) | exact kt_uR_nj (by decide) (kt_uR_nj (by decide) (hh _ (by omega)))) ?_
          refine kw_aast_n x_K_keepSpare_77 (by exact isK_a1 hK) (by first | exact isC_k (isK_C hK 1 (by decide)) | exact isC_k (isK_C hK (2 + 1) (by decide)) | exact isC_k (isK_C hK (2 + (1 + 1)) (by decide)) | exact isC_k (isK_C hK (2 + (1 + 1 + 1)) (by decide))) (by omega) (by omega) ?_
          first | refine kw_iinc_n x_K_keepSpare_78 (by decide) rfl ?_ | refine kw_iinc x_K_keepSpare_78 (by decide) rfl ?_
          refine kw_goto x_K_keepSpare_81 ?_
          refine kw_ild_n x_K_keepSpare_59 rfl ?_
          refine kw_icon x_K_keepSpare_60 ?_
          first | refine kw_ic_ge_n x_K_keepSpare_61 ⟨by omega, by omega⟩ (fun h61 => ?_) (fun h61 => ?_) | refine kw_ic_ge x_K_keepSpare_61 (fun h61 => ?_) (fun h61 => ?_)
          · exfalso; first | omega | contradiction | exact absurd (by decide) h61 | exact absurd h61 (by decide)
          · skip
            refine kw_ald_n x_K_keepSpare_64 rfl ?_
            refine kw_gr x_K_keepSpare_65 (by exact isK_k hK) (by first | exact isK_r2 hK | exact kt_uR_na (by omega) (isK_r2 hK) | exact kt_uR_nj (by decide) (isK_r2 hK) | exact kt_uR_na (by omega) (kt_uR_na (by omega) (isK_r2 hK)) | exact kt_uR_na (by omega) (kt_uR_nj (by decide) (isK_r2 hK)) | exact kt_uR_nj (by decide) (kt_uR_na (by omega) (isK_r2 hK)) | exact kt_uR_nj (by decide) (kt_uR_nj (by decide) (isK_r2 hK)) | exact kt_uR_na (by omega) (kt_uR_na (by omega) (kt_uR_na (by omega) (isK_r2 hK))) | exact kt_uR_na (by omega) (kt_uR_na (by omega) (kt_uR_nj (by decide) (isK_r2 hK))) | exact kt_uR_na (by omega) (kt_uR_nj (by decide) (kt_uR_na (by omega) (isK_r2 hK))) | exact kt_uR_na (by omega) (kt_uR_nj (by decide) (kt_uR_nj (by decide) (isK_r2 hK))) | exact kt_uR_nj (by decide) (kt_uR_na (by omega) (kt_uR_na (by omega) (isK_r2 hK))) | exact kt_uR_nj (by decide) (kt_uR_na (by omega) (kt_uR_nj (by decide) (isK_r2 hK))) | exact kt_uR_nj (by decide) (kt_uR_nj (by decide) (kt_uR_na (by omega) (isK_r2 hK))) | exact kt_uR_nj (by decide) (kt_uR_nj (by decide) (kt_uR_nj (by decide) (isK_r2 hK))) | exact kt_uR_na (by omega) (kt_uR_na (by omega) (kt_uR_na (by omega) (kt_uR_na (by omega) (isK_r2 hK)))) | exact kt_uR_na (by omega) (kt_uR_na (by omega) (kt_uR_na (by omega) (kt_uR_nj (by decide) (isK_r2 hK)))) | exact kt_uR_na (by omega) (kt_uR_na (by omega) (kt_uR_nj (by decide) (kt_uR_na (by omega) (isK_r2 hK)))) | exact kt_uR_na (by omega) (kt_uR_na (by omega) (kt_uR_nj (by decide) (kt_uR_nj (by decide) (isK_r2 hK)))) | exact kt_uR_na (by omega) (kt_uR_nj (by decide) (kt_uR_na (by omega) (kt_uR_na (by omega) (isK_r2 hK)))) | exact kt_uR_na (by omega) (kt_uR_nj (by decide) (kt_uR_na (by omega) (kt_uR_nj (by decide) (isK_r2 hK)))) | exact kt_uR_na (by omega) (kt_uR_nj (by decide) (kt_uR_nj (by decide) (kt_uR_na (by omega) (isK_r2 hK)))) | exact kt_uR_na (by omega) (kt_uR_nj (by decide) (kt_uR_nj (by decide) (kt_uR_nj (by decide) (isK_r2 hK)))) | exact kt_uR_nj (by decide) (kt_uR_na (by omega) (kt_uR_na (by omega) (kt_uR_na (by omega) (isK_r2 hK)))) | exact kt_uR_nj (by decide) (kt_uR_na (by omega) (kt_uR_na (by omega) (kt_uR_nj (by decide) (isK_r2 hK)))) | exact kt_uR_nj (by decide) (kt_uR_na (by omega) (kt_uR_nj (by decide) (kt_uR_na (by omega) (isK_r2 hK)))) | exact kt_uR_nj (by decide) (kt_uR_na (by omega) (kt_uR_nj (by decide) (kt_uR_nj (by decide) (isK_r2 hK)))) | exact kt_uR_nj (by decide) (kt_uR_nj (by decide) (kt_uR_na (by omega) (kt_uR_na (by omega) (isK_r2 hK)))) | exact kt_uR_nj (by decide) (kt_uR_nj (by decide) (kt_uR_na (by omega) (kt_uR_nj (by decide) (isK_r2 hK)))) | exact kt_uR_nj (by decide) (kt_uR_nj (by decide) (kt_uR_nj (by decide) (kt_uR_na (by omega) (isK_r2 hK)))) | exact kt_uR_nj (by decide) (kt_uR_nj (by decide) (kt_uR_nj (by decide) (kt_uR_nj (by decide) (isK_r2 hK))))) ?_
            refine kw_ild_n x_K_keepSpare_68 rfl ?_
            refine kw_icon x_K_keepSpare_69 ?_
            first | refine kw_isub_n x_K_keepSpare_70 (by omega) ?_ | refine kw_isub x_K_keepSpare_70 ?_
            refine kw_ald_n x_K_keepSpare_71 rfl ?_
            refine kw_gr x_K_keepSpare_72 (by exact isK_k hK) (by first | exact isK_r2 hK | exact kt_uR_na (by omega) (isK_r2 hK) | exact kt_uR_nj (by decide) (isK_r2 hK) | exact kt_uR_na (by omega) (kt_uR_na (by omega) (isK_r2 hK)) | exact kt_uR_na (by omega) (kt_uR_nj (by decide) (isK_r2 hK)) | exact kt_uR_nj (by decide) (kt_uR_na (by omega) (isK_r2 hK)) | exact kt_uR_nj (by decide) (kt_uR_nj (by decide) (isK_r2 hK)) | exact kt_uR_na (by omega) (kt_uR_na (by omega) (kt_uR_na (by omega) (isK_r2 hK))) | exact kt_uR_na (by omega) (kt_uR_na (by omega) (kt_uR_nj (by decide) (isK_r2 hK))) | exact kt_uR_na (by omega) (kt_uR_nj (by decide) (kt_uR_na (by omega) (isK_r2 hK))) | exact kt_uR_na (by omega) (kt_uR_nj (by decide) (kt_uR_nj (by decide) (isK_r2 hK))) | exact kt_uR_nj (by decide) (kt_uR_na (by omega) (kt_uR_na (by omega) (isK_r2 hK))) | exact kt_uR_nj (by decide) (kt_uR_na (by omega) (kt_uR_nj (by decide) (isK_r2 hK))) | exact kt_uR_nj (by decide) (kt_uR_nj (by decide) (kt_uR_na (by omega) (isK_r2 hK))) | exact kt_uR_nj (by decide) (kt_uR_nj (by decide) (kt_uR_nj (by decide) (isK_r2 hK))) | exact kt_uR_na (by omega) (kt_uR_na (by omega) (kt_uR_na (by omega) (kt_uR_na (by omega) (isK_r2 hK)))) | exact kt_uR_na (by omega) (kt_uR_na (by omega) (kt_uR_na (by omega) (kt_uR_nj (by decide) (isK_r2 hK)))) | exact kt_uR_na (by omega) (kt_uR_na (by omega) (kt_uR_nj (by decide) (kt_uR_na (by omega) (isK_r2 hK)))) | exact kt_uR_na (by omega) (kt_uR_na (by omega) (kt_uR_nj (by decide) (kt_uR_nj (by decide) (isK_r2 hK)))) | exact kt_uR_na (by omega) (kt_uR_nj (by decide) (kt_uR_na (by omega) (kt_uR_na (by omega) (isK_r2 hK)))) | exact kt_uR_na (by omega) (kt_uR_nj (by decide) (kt_uR_na (by omega) (kt_uR_nj (by decide) (isK_r2 hK)))) | exact kt_uR_na (by omega) (kt_uR_nj (by decide) (kt_uR_nj (by decide) (kt_uR_na (by omega) (isK_r2 hK)))) | exact kt_uR_na (by omega) (kt_uR_nj (by decide) (kt_uR_nj (by decide) (kt_uR_nj (by decide) (isK_r2 hK)))) | exact kt_uR_nj (by decide) (kt_uR_na (by omega) (kt_uR_na (by omega) (kt_uR_na (by omega) (isK_r2 hK)))) | exact kt_uR_nj (by decide) (kt_uR_na (by omega) (kt_uR_na (by omega) (kt_uR_nj (by decide) (isK_r2 hK)))) | exact kt_uR_nj (by decide) (kt_uR_na (by omega) (kt_uR_nj (by decide) (kt_uR_na (by omega) (isK_r2 hK)))) | exact kt_uR_nj (by decide) (kt_uR_na (by omega) (kt_uR_nj (by decide) (kt_uR_nj (by decide) (isK_r2 hK)))) | exact kt_uR_nj (by decide) (kt_uR_nj (by decide) (kt_uR_na (by omega) (kt_uR_na (by omega) (isK_r2 hK)))) | exact kt_uR_nj (by decide) (kt_uR_nj (by decide) (kt_uR_na (by omega) (kt_uR_nj (by decide) (isK_r2 hK)))) | exact kt_uR_nj (by decide) (kt_uR_nj (by decide) (kt_uR_nj (by decide) (kt_uR_na (by omega) (isK_r2 hK)))) | exact kt_uR_nj (by decide) (kt_uR_nj (by decide) (kt_uR_nj (by decide) (kt_uR_nj (by decide) (isK_r2 hK))))) ?_
            refine kw_ild_n x_K_keepSpare_75 rfl ?_
            refine kw_aald_n x_K_keepSpare_76 (by exact isK_a1 hK) (by omega) (by omega) (by first | exact hnp | exact hh _ (by omega) | exact kt_uR_nj (by decide) (hh _ (by omega)) | exact kt_uR_nj (by decide) (kt_uR_nj (by decide) (hh _ (by omega)))) ?_
            refine kw_aast_n x_K_keepSpare_77 (by exact isK_a1 hK) (by first | exact isC_k (isK_C hK 1 (by decide)) | exact isC_k (isK_C hK (2 + 1) (by decide)) | exact isC_k (isK_C hK (2 + (1 + 1)) (by decide)) | exact isC_k (isK_C hK (2 + (1 + 1 + 1)) (by decide))) (by omega) (by omega) ?_
            first | refine kw_iinc_n x_K_keepSpare_78 (by decide) rfl ?_ | refine kw_iinc x_K_keepSpare_78 (by decide) rfl ?_
            refine kw_goto x_K_keepSpare_81 ?_
            refine kw_ild_n x_K_keepSpare_59 rfl ?_
            refine kw_icon x_K_keepSpare_60 ?_
            first | refine kw_ic_ge_n x_K_keepSpare_61 ⟨by omega, by omega⟩ (fun h61 => ?_) (fun h61 => ?_) | refine kw_ic_ge x_K_keepSpare_61 (fun h61 => ?_) (fun h61 => ?_)
            · skip
              refine kw_ald_n x_K_keepSpare_84 rfl ?_
              refine kw_gr x_K_keepSpare_85 (by exact isK_k hK) (by first | exact isK_r2 hK | exact kt_uR_na (by omega) (isK_r2 hK) | exact kt_uR_nj (by decide) (isK_r2 hK) | exact kt_uR_na (by omega) (kt_uR_na (by omega) (isK_r2 hK)) | exact kt_uR_na (by omega) (kt_uR_nj (by decide) (isK_r2 hK)) | exact kt_uR_nj (by decide) (kt_uR_na (by omega) (isK_r2 hK)) | exact kt_uR_nj (by decide) (kt_uR_nj (by decide) (isK_r2 hK)) | exact kt_uR_na (by omega) (kt_uR_na (by omega) (kt_uR_na (by omega) (isK_r2 hK))) | exact kt_uR_na (by omega) (kt_uR_na (by omega) (kt_uR_nj (by decide) (isK_r2 hK))) | exact kt_uR_na (by omega) (kt_uR_nj (by decide) (kt_uR_na (by omega) (isK_r2 hK))) | exact kt_uR_na (by omega) (kt_uR_nj (by decide) (kt_uR_nj (by decide) (isK_r2 hK))) | exact kt_uR_nj (by decide) (kt_uR_na (by omega) (kt_uR_na (by omega) (isK_r2 hK))) | exact kt_uR_nj (by decide) (kt_uR_na (by omega) (kt_uR_nj (by decide) (isK_r2 hK))) | exact kt_uR_nj (by decide) (kt_uR_nj (by decide) (kt_uR_na (by omega) (isK_r2 hK))) | exact kt_uR_nj (by decide) (kt_uR_nj (by decide) (kt_uR_nj (by decide) (isK_r2 hK))) | exact kt_uR_na (by omega) (kt_uR_na (by omega) (kt_uR_na (by omega) (kt_uR_na (by omega) (isK_r2 hK)))) | exact kt_uR_na (by omega) (kt_uR_na (by omega) (kt_uR_na (by omega) (kt_uR_nj (by decide) (isK_r2 hK)))) | exact kt_uR_na (by omega) (kt_uR_na (by omega) (kt_uR_nj (by decide) (kt_uR_na (by omega) (isK_r2 hK)))) | exact kt_uR_na (by omega) (kt_uR_na (by omega) (kt_uR_nj (by decide) (kt_uR_nj (by decide) (isK_r2 hK)))) | exact kt_uR_na (by omega) (kt_uR_nj (by decide) (kt_uR_na (by omega) (kt_uR_na (by omega) (isK_r2 hK)))) | exact kt_uR_na (by omega) (kt_uR_nj (by decide) (kt_uR_na (by omega) (kt_uR_nj (by decide) (isK_r2 hK)))) | exact kt_uR_na (by omega) (kt_uR_nj (by decide) (kt_uR_nj (by decide) (kt_uR_na (by omega) (isK_r2 hK)))) | exact kt_uR_na (by omega) (kt_uR_nj (by decide) (kt_uR_nj (by decide) (kt_uR_nj (by decide) (isK_r2 hK)))) | exact kt_uR_nj (by decide) (kt_uR_na (by omega) (kt_uR_na (by omega) (kt_uR_na (by omega) (isK_r2 hK)))) | exact kt_uR_nj (by decide) (kt_uR_na (by omega) (kt_uR_na (by omega) (kt_uR_nj (by decide) (isK_r2 hK)))) | exact kt_uR_nj (by decide) (kt_uR_na (by omega) (kt_uR_nj (by decide) (kt_uR_na (by omega) (isK_r2 hK)))) | exact kt_uR_nj (by decide) (kt_uR_na (by omega) (kt_uR_nj (by decide) (kt_uR_nj (by decide) (isK_r2 hK)))) | exact kt_uR_nj (by decide) (kt_uR_nj (by decide) (kt_uR_na (by omega) (kt_uR_na (by omega) (isK_r2 hK)))) | exact kt_uR_nj (by decide) (kt_uR_nj (by decide) (kt_uR_na (by omega) (kt_uR_nj (by decide) (isK_r2 hK)))) | exact kt_uR_nj (by decide) (kt_uR_nj (by decide) (kt_uR_nj (by decide) (kt_uR_na (by omega) (isK_r2 hK)))) | exact kt_uR_nj (by decide) (kt_uR_nj (by decide) (kt_uR_nj (by decide) (kt_uR_nj (by decide) (isK_r2 hK))))) ?_
              refine kw_icon x_K_keepSpare_88 ?_
              refine kw_ald_n x_K_keepSpare_89 rfl ?_
              refine kw_gr x_K_keepSpare_90 (by exact isK_k hK) (by first | exact isK_r1 hK | exact kt_uR_na (by omega) (isK_r1 hK) | exact kt_uR_nj (by decide) (isK_r1 hK) | exact kt_uR_na (by omega) (kt_uR_na (by omega) (isK_r1 hK)) | exact kt_uR_na (by omega) (kt_uR_nj (by decide) (isK_r1 hK)) | exact kt_uR_nj (by decide) (kt_uR_na (by omega) (isK_r1 hK)) | exact kt_uR_nj (by decide) (kt_uR_nj (by decide) (isK_r1 hK)) | exact kt_uR_na (by omega) (kt_uR_na (by omega) (kt_uR_na (by omega) (isK_r1 hK))) | exact kt_uR_na (by omega) (kt_uR_na (by omega) (kt_uR_nj (by decide) (isK_r1 hK))) | exact kt_uR_na (by omega) (kt_uR_nj (by decide) (kt_uR_na (by omega) (isK_r1 hK))) | exact kt_uR_na (by omega) (kt_uR_nj (by decide) (kt_uR_nj (by decide) (isK_r1 hK))) | exact kt_uR_nj (by decide) (kt_uR_na (by omega) (kt_uR_na (by omega) (isK_r1 hK))) | exact kt_uR_nj (by decide) (kt_uR_na (by omega) (kt_uR_nj (by decide) (isK_r1 hK))) | exact kt_uR_nj (by decide) (kt_uR_nj (by decide) (kt_uR_na (by omega) (isK_r1 hK))) | exact kt_uR_nj (by decide) (kt_uR_nj (by decide) (kt_uR_nj (by decide) (isK_r1 hK))) | exact kt_uR_na (by omega) (kt_uR_na (by omega) (kt_uR_na (by omega) (kt_uR_na (by omega) (isK_r1 hK)))) | exact kt_uR_na (by omega) (kt_uR_na (by omega) (kt_uR_na (by omega) (kt_uR_nj (by decide) (isK_r1 hK)))) | exact kt_uR_na (by omega) (kt_uR_na (by omega) (kt_uR_nj (by decide) (kt_uR_na (by omega) (isK_r1 hK)))) | exact kt_uR_na (by omega) (kt_uR_na (by omega) (kt_uR_nj (by decide) (kt_uR_nj (by decide) (isK_r1 hK)))) | exact kt_uR_na (by omega) (kt_uR_nj (by decide) (kt_uR_na (by omega) (kt_uR_na (by omega) (isK_r1 hK)))) | exact kt_uR_na (by omega) (kt_uR_nj (by decide) (kt_uR_na (by omega) (kt_uR_nj (by decide) (isK_r1 hK)))) | exact kt_uR_na (by omega) (kt_uR_nj (by decide) (kt_uR_nj (by decide) (kt_uR_na (by omega) (isK_r1 hK)))) | exact kt_uR_na (by omega) (kt_uR_nj (by decide) (kt_uR_nj (by decide) (kt_uR_nj (by decide) (isK_r1 hK)))) | exact kt_uR_nj (by decide) (kt_uR_na (by omega) (kt_uR_na (by omega) (kt_uR_na (by omega) (isK_r1 hK)))) | exact kt_uR_nj (by decide) (kt_uR_na (by omega) (kt_uR_na (by omega) (kt_uR_nj (by decide) (isK_r1 hK)))) | exact kt_uR_nj (by decide) (kt_uR_na (by omega) (kt_uR_nj (by decide) (kt_uR_na (by omega) (isK_r1 hK)))) | exact kt_uR_nj (by decide) (kt_uR_na (by omega) (kt_uR_nj (by decide) (kt_uR_nj (by decide) (isK_r1 hK)))) | exact kt_uR_nj (by decide) (kt_uR_nj (by decide) (kt_uR_na (by omega) (kt_uR_na (by omega) (isK_r1 hK)))) | exact kt_uR_nj (by decide) (kt_uR_nj (by decide) (kt_uR_na (by omega) (kt_uR_nj (by decide) (isK_r1 hK)))) | exact kt_uR_nj (by decide) (kt_uR_nj (by decide) (kt_uR_nj (by decide) (kt_uR_na (by omega) (isK_r1 hK)))) | exact kt_uR_nj (by decide) (kt_uR_nj (by decide) (kt_uR_nj (by decide) (kt_uR_nj (by decide) (isK_r1 hK))))) ?_
              refine kw_aast_n x_K_keepSpare_93 (by exact isK_a1 hK) (by first | exact isC_k (isK_C hK 1 (by decide)) | exact isC_k (isK_C hK (2 + 1) (by decide)) | exact isC_k (isK_C hK (2 + (1 + 1)) (by decide)) | exact isC_k (isK_C hK (2 + (1 + 1 + 1)) (by decide))) (by omega) (by omega) ?_
              refine kw_ald_n x_K_keepSpare_94 rfl ?_
              refine kw_ald_n x_K_keepSpare_95 rfl ?_
              refine kw_pr x_K_keepSpare_96 (by exact isK_k hK) ?_
              refine kw_vret x_K_keepSpare_99 ?_
              have hp1 : xpn 4 = 4 := rfl
              refine k I _ (fun j => g (xs4 j)) (fun _ _ => rfl) (by rw [hp1]; exact hnp) (hK.perm xs4 (fun j hj => ⟨xs4_6 hj, rfl⟩) (fun i j hi hj h => xs4_i hi hj h) (fun a h1 h2 => by rw [kt_uR_ne _ _ _ h1, kt_uR_ne _ _ _ h2, kt_uR_ne _ _ _ h2, kt_uR_ne _ _ _ h2, kt_uR_ne _ _ _ h2]) ?_ kt_uR_eq (fun j hj => kt_uR_nj (by omega) (kt_uR_na (by omega) (kt_uR_na (by omega) (kt_uR_na (by omega) (kt_uR_na (by omega) rfl))))) (fun j hj => ?_)) (fun a h1 h2 => by rw [kt_uR_ne _ _ _ h1, kt_uR_ne _ _ _ h2, kt_uR_ne _ _ _ h2, kt_uR_ne _ _ _ h2, kt_uR_ne _ _ _ h2]) rfl (fun j hj => ?_)
              · exact kt_uR_nj (by decide) (kt_uR_na (by omega) (kt_uR_na (by omega) (kt_uR_na (by omega) (kt_uR_na (by omega) (isK_r0 hK)))))
              · refine kt_uR_na (by omega) ?_
                rcases (by omega : j = 0 ∨ j = 1 ∨ j = 2 ∨ j = 3) with rfl | rfl | rfl | rfl
                · exact kt_uR_nj (by decide) (kt_uR_nj (by decide) (kt_uR_nj (by decide) kt_uR_eq))
                · exact kt_uR_nj (by decide) (kt_uR_nj (by decide) kt_uR_eq)
                · exact kt_uR_nj (by decide) kt_uR_eq
                · exact kt_uR_eq
              · rcases (by omega : j = 0 ∨ j = 1 ∨ j = 2 ∨ j = 3) with rfl | rfl | rfl | rfl <;> rfl
            · exfalso; first | omega | contradiction | exact absurd (by decide) h61 | exact absurd h61 (by decide)
    · exfalso; first | (obtain ⟨e, he, hq⟩ := kt_yT (T := 4) (by decide) h8; have := kt_inj hq (by omega) (by omega); omega) | omega | contradiction | exact absurd (by decide) h8 | exact absurd h8 (by decide)
end KK
