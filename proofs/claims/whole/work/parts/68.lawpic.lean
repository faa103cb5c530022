/-! the law: both objects tell the same state -/
theorem kw_sld_n {P : kt_P} {i NM pc pc' : Nat} {L : List (Option Value)} {st : List Value} {N : Nat} {I : kt_I} {J : kt_J} {R : kt_R} {Q : Option Value → kt_I → kt_J → kt_R → Prop} {k : Nat} (hd : kt_dc i pc .iaload 1 pc') (hk : k < kt_L P) (hL : kt_L P < 2147483648) (kk : KW P i NM pc' L (.int (kt_x P k) :: st) N I J R Q) : KW P i NM pc L (.int (nI k) :: .ref (kt_b P) :: st) N I J R Q :=
  kw_sld hd (kt_vin hk hL).1 (by rw [(kt_vin hk hL).2]; exact kk)
def kt_MS (P : kt_P) (N m np : Nat) (PX : Nat → kt_X) (X : kt_X) (ty : Nat) (tx : Nat → Nat) (I : kt_I) (R : kt_R) : Prop := kt_isM P N R m ∧ kt_enc (I (m + 1)) X ∧ kt_pa m np PX I ∧ I m 5 = kt_bo false ∧ kt_tx m ty tx I
theorem kt_MS.up {P : kt_P} {N z np ty : Nat} {PX : Nat → kt_X} {X : kt_X} {tx : Nat → Nat} {I I' : kt_I} {R R' : kt_R} (h : kt_MS P N (z + 113) np PX X ty tx I R) (h1 : kt_up z I I') (h2 : kt_up z R R') : kt_MS P N (z + 113) np PX X ty tx I' R' := by
  obtain ⟨g1, g2, g3, g4, g5⟩ := h
  exact ⟨g1.R (h2 _ (by omega)), by rw [h1 _ (by omega)]; exact g2, g3.same (by rw [h1 _ (by omega)]) (h1 _ (by omega)), by rw [h1 _ (by omega)]; exact g4, g5.same (by rw [h1 _ (by omega)]) (h1 _ (by omega))⟩
theorem kt_KS.lo {P : kt_P} {N z np ty : Nat} {PX : Nat → kt_X} {X : kt_X} {tx : Nat → Nat} {I I' : kt_I} {J : kt_J} {R : kt_R} (h : kt_KS P N z np PX X ty tx I J R) (h1 : ∀ a, a < z + 113 → I' a = I a) : kt_KS P N z np PX X ty tx I' J R := by
  obtain ⟨g, hK, m1, m2, m3, m4, m5, m6⟩ := h
  have key : ∀ j, j < 6 → ∀ a, (a = g j ∨ g j + 4 ≤ a) → a ≤ g j + 17 → I' a = I a ∧ J a = J a := fun j hj a q1 q2 => by
    have hb := isK_b hK j hj
    exact ⟨h1 a (by omega), rfl⟩
  exact ⟨g, hK, by rw [h1 z (by omega)]; exact m1, m2, m3.same (by rw [h1 _ (by omega)]) (h1 _ (by omega)), m4.ext (key 0 (by decide)), m5.ext (key 0 (by decide)), fun j hj => ⟨(m6 j hj).1.ext (key _ (by omega)), (m6 j hj).2.ext (key _ (by omega))⟩⟩
def kt_LI (P : kt_P) (np : Nat) (PX : Nat → kt_X) (X : kt_X) (ty : Nat) (tx : Nat → Nat) (I : kt_I) (J : kt_J) (R : kt_R) : Prop :=
  kt_KS P 125 (kt_z P) np PX X ty tx I J R ∧ kt_MS P 125 (kt_z P + 113) np PX X ty tx I R ∧ kt_wf X ∧ ∀ j, j < np → kt_wf (PX j)
section LI
variable {P : kt_P} {np ty np' ty' : Nat} {PX PX' : Nat → kt_X} {X X' : kt_X} {tx tx' : Nat → Nat} {I I1 I2 : kt_I} {J J1 : kt_J} {R R1 : kt_R}
theorem kt_ok.rf {N z : Nat} (h : kt_KS P N z np PX X ty tx I J R) : kt_ok P N z np PX X ty tx I J R I J R := ⟨h, kt_up.rf, kt_up.rf, kt_up.rf⟩
theorem kt_LI.same (h3 : kt_ok P 125 (kt_z P) np PX X ty tx I J R I1 J1 R1) (hM : kt_MS P 125 (kt_z P + 113) np PX X ty tx I1 R1) (hW : kt_wf X) (hP : ∀ j, j < np → kt_wf (PX j)) : kt_LI P np PX X ty tx I1 J1 R1 := ⟨h3.1, hM, hW, hP⟩
theorem kt_LI.of (h3 : kt_ok P 125 (kt_z P) np' PX' X' ty tx I J R I1 J1 R1) (hM : kt_MS P 125 (kt_z P + 113) np PX X ty tx I1 R1) (hlo : ∀ a, a < kt_z P + 113 → I2 a = I1 a) (hE : kt_enc (I2 (kt_z P + 113 + 1)) X') (hpa : kt_pa (kt_z P + 113) np' PX' I2) (h5 : I2 (kt_z P + 113) 5 = kt_bo false) (h7 : I2 (kt_z P + 113) 7 = I1 (kt_z P + 113) 7) (ht : I2 (kt_z P + 113 + 5) = I1 (kt_z P + 113 + 5)) (hW : kt_wf X') (hP : ∀ j, j < np' → kt_wf (PX' j)) : kt_LI P np' PX' X' ty tx I2 J1 R1 :=
  ⟨h3.1.lo hlo, ⟨hM.1, hE, hpa, h5, hM.2.2.2.2.same h7 ht⟩, hW, hP⟩
theorem kt_wf_pp (hW : kt_wf X) (hP : ∀ j, j < np → kt_wf (PX j)) (j : Nat) (hj : j < xpn np) : kt_wf (xpp np PX X j) := by
  unfold xpn at hj
  unfold xpp
  by_cases h4 : np = 4
  · rw [if_pos h4] at hj ⊢
    split
    · exact hP _ (by omega)
    · exact hW
  · rw [if_neg h4] at hj ⊢
    split
    · exact hW
    · exact hP _ (by omega)
theorem kt_LI.change (h3 : kt_ok P 125 (kt_z P) (xpn np) (xpp np PX X) X' ty tx I J R I1 J1 R1) (hM : kt_MS P 125 (kt_z P + 113) np PX X ty tx I1 R1) (hc : kt_ch (kt_z P + 113) np PX false X X' I1 I2) (hW : kt_wf X) (hP : ∀ j, j < np → kt_wf (PX j)) (hW' : kt_wf X') : kt_LI P (xpn np) (xpp np PX X) X' ty tx I2 J1 R1 := by
  obtain ⟨c1, c2, c3⟩ := hc
  exact kt_LI.of h3 hM (fun a ha => c1.1 a (by omega) (by omega) (by omega) (by omega) (by omega) (by omega) (by omega)) c2 c3 (by rw [c1.2 5 (by decide) (by decide)]; exact hM.2.2.2.1) (c1.2 7 (by decide) (by decide)) (c1.1 _ (by omega) (by omega) (by omega) (by omega) (by omega) (by omega) (by omega)) hW' (kt_wf_pp hW hP)
theorem kt_LI.lm (h3 : kt_ok P 125 (kt_z P) np PX X ty tx I J R I1 J1 R1) (hM : kt_MS P 125 (kt_z P + 113) np PX X ty tx I1 R1) (hl : kt_lm (kt_z P + 113) I1 I2) (hW : kt_wf X) (hP : ∀ j, j < np → kt_wf (PX j)) : kt_LI P np PX X ty tx I2 J1 R1 :=
  kt_LI.of h3 hM (fun a ha => hl.1 a (by omega) (by omega) (by omega) (by omega)) (hl.enc hM.2.1) (hM.2.2.1.same (hl.2 4 (by decide)) (hl.1 _ (by omega) (by omega) (by omega) (by omega))) (by rw [hl.2 5 (by decide)]; exact hM.2.2.2.1) (hl.2 7 (by decide)) (hl.1 _ (by omega) (by omega) (by omega) (by omega)) hW hP
theorem kt_LI.ly (h3 : kt_ok P 125 (kt_z P) np PX X ty tx I J R I1 J1 R1) (hM : kt_MS P 125 (kt_z P + 113) np PX X ty tx I1 R1) (hl : kt_ly (kt_z P + 113) I1 I2) (hE : kt_enc (I2 (kt_z P + 113 + 1)) X) (hW : kt_wf X) (hP : ∀ j, j < np → kt_wf (PX j)) : kt_LI P np PX X ty tx I2 J1 R1 :=
  kt_LI.of h3 hM (fun a ha => hl.1 a (by omega) (by omega) (by omega) (by omega) (by omega) (by omega) (by omega) (by omega)) hE (hM.2.2.1.same (hl.2 4 (by decide)) (hl.1 _ (by omega) (by omega) (by omega) (by omega) (by omega) (by omega) (by omega) (by omega))) (by rw [hl.2 5 (by decide)]; exact hM.2.2.2.1) (hl.2 7 (by decide)) (hl.1 _ (by omega) (by omega) (by omega) (by omega) (by omega) (by omega) (by omega) (by omega)) hW hP
theorem kt_LI.lg (h3 : kt_ok P 125 (kt_z P) np' PX' X' ty tx I J R I1 J1 R1) (hM : kt_MS P 125 (kt_z P + 113) np PX X ty tx I1 R1) (hl : kt_lg (kt_z P + 113) I1 I2) (hE : kt_enc (I2 (kt_z P + 113 + 1)) X') (hpa : kt_pa (kt_z P + 113) np' PX' I2) (h5 : I2 (kt_z P + 113) 5 = kt_bo false) (hW : kt_wf X') (hP : ∀ j, j < np' → kt_wf (PX' j)) : kt_LI P np' PX' X' ty tx I2 J1 R1 :=
  kt_LI.of h3 hM (fun a ha => hl.1 a (by omega) (by omega) (by omega) (by omega) (by omega) (by omega) (by omega) (by omega) (by omega)) hE hpa h5 (hl.2 7 (by decide) (by decide) (by decide) (by decide) (by decide) (by decide)) (hl.1 _ (by omega) (by omega) (by omega) (by omega) (by omega) (by omega) (by omega) (by omega) (by omega)) hW hP
theorem kt_LI.lc (h3 : kt_ok P 125 (kt_z P) np' PX' X' ty tx I J R I1 J1 R1) (hM : kt_MS P 125 (kt_z P + 113) np PX X ty tx I1 R1) (hl : kt_lc (kt_z P + 113) I1 I2) (hE : kt_enc (I2 (kt_z P + 113 + 1)) X') (hpa : kt_pa (kt_z P + 113) np' PX' I2) (hW : kt_wf X') (hP : ∀ j, j < np' → kt_wf (PX' j)) : kt_LI P np' PX' X' ty tx I2 J1 R1 :=
  kt_LI.of h3 hM (fun a ha => hl.1 a (by omega) (by omega) (by omega) (by omega) (by omega) (by omega) (by omega)) hE hpa (by rw [hl.2 5 (by decide) (by decide)]; exact hM.2.2.2.1) (hl.2 7 (by decide) (by decide)) (hl.1 _ (by omega) (by omega) (by omega) (by omega) (by omega) (by omega) (by omega)) hW hP
theorem kt_LI.tp {v : Nat} (h3 : kt_ok P 125 (kt_z P) np PX X (ty + 1) (xup tx ty v) I J R I1 J1 R1) (hM : kt_MS P 125 (kt_z P + 113) np PX X ty tx I1 R1) (hv : 32 ≤ v ∧ v ≤ 126) (hty : ty < 80) (hW : kt_wf X) (hP : ∀ j, j < np → kt_wf (PX j)) : kt_LI P np PX X (ty + 1) (xup tx ty v) (kt_u1 (kt_u1 I1 (kt_z P + 113 + 5) ty (nI v)) (kt_z P + 113) 7 (nI (ty + 1))) J1 R1 := by
  obtain ⟨g1, g2, g3, g4, g5⟩ := hM
  refine ⟨h3.1.lo (fun a ha => by rw [kt_u1_ne _ _ _ (by omega), kt_u1_ne _ _ _ (by omega)]), ⟨g1, by rw [kt_u1_ne _ _ _ (by omega), kt_u1_ne _ _ _ (by omega)]; exact g2, g3.same (kt_u1_nj (by decide) (kt_u1_na (by omega) rfl)) (by rw [kt_u1_ne _ _ _ (by omega), kt_u1_ne _ _ _ (by omega)]), kt_u1_nj (by decide) (kt_u1_na (by omega) g4), kt_u1_eq, hty, fun j hj => ?_⟩, hW, hP⟩
  by_cases hjt : j = ty
  · subst hjt
    rw [xup_eq]
    exact ⟨kt_u1_na (by omega) kt_u1_eq, hv⟩
  · rw [xup_ne _ _ hjt]
    have h := g5.2.2 j (by omega)
    exact ⟨kt_u1_na (by omega) (kt_u1_nj hjt h.1), h.2⟩
theorem kt_LI.cl (h3 : kt_ok P 125 (kt_z P) np PX X 0 tx I J R I1 J1 R1) (hM : kt_MS P 125 (kt_z P + 113) np PX X ty tx I1 R1) (hW : kt_wf X) (hP : ∀ j, j < np → kt_wf (PX j)) : kt_LI P np PX X 0 tx (kt_u1 I1 (kt_z P + 113) 7 (nI 0)) J1 R1 := by
  obtain ⟨g1, g2, g3, g4, g5⟩ := hM
  exact ⟨h3.1.lo (fun a ha => kt_u1_ne _ _ _ (by omega)), ⟨g1, by rw [kt_u1_ne _ _ _ (by omega)]; exact g2, g3.same (kt_u1_nj (by decide) rfl) (kt_u1_ne _ _ _ (by omega)), kt_u1_nj (by decide) g4, kt_u1_eq, by decide, fun j hj => absurd hj (Nat.not_lt_zero j)⟩, hW, hP⟩
end LI
