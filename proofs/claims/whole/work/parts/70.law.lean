/-! the law: its loop, its beginning -/
def kt_X0 : kt_X := (0, 0, 0, fun _ => 0, fun _ _ => 0)
theorem kt_wf0 : kt_wf kt_X0 := ⟨by decide, by decide, by decide, fun _ => Nat.le_refl _, fun _ _ => rfl, fun e he => absurd he (Nat.not_lt_zero e), fun e f _ hf => absurd hf (Nat.not_lt_zero f)⟩
theorem kt_k0 {x : Int64} {f : Nat → Bool} (hx : x = 0) (h : ∀ e, f e = false) : x = kS f := by
  rw [hx]
  exact (show (0 : Int64) = nJ 0 from rfl).trans (kS_0.trans (kS_cg (fun e _ => (h e).symm)))
theorem kt_n0 {x : Int32} (hx : x = 0) : x = nI 0 := hx
theorem xK0 (t e : Nat) : xK kt_X0 t e = false := rfl
theorem xSy0 (t e : Nat) : xSy kt_X0 t e = false := rfl
theorem xac0 (t e : Nat) : xac kt_X0 t e = false := rfl
theorem xRf0 (t e : Nat) : xRf kt_X0 t e = false := rfl
section L0
variable {P : kt_P} {I I' : kt_I} {J J' : kt_J} {R R' : kt_R}
theorem kt_nk.ext {z : Nat} (h : kt_nk z I J R) (h1 : ∀ a, a < z + 113 → I' a = I a ∧ J' a = J a ∧ R' a = R a) : kt_nk z I' J' R' := by
  obtain ⟨⟨a1, a2, a3, a4⟩, b, ⟨d1, d2⟩, e, f, n⟩ := h
  have hr : ∀ a, a < z + 113 → R' a = R a := fun a ha => (h1 a ha).2.2
  have hi : ∀ a, a < z + 113 → I' a = I a := fun a ha => (h1 a ha).1
  refine ⟨⟨by rw [hr z (by omega)]; exact a1, by rw [hr z (by omega)]; exact a2, by rw [hr z (by omega)]; exact a3, by rw [hr z (by omega)]; exact a4⟩, fun j hj => by rw [hr _ (by omega)]; exact b j hj, ⟨by rw [hr _ (by omega)]; exact d1, by rw [hr _ (by omega)]; exact d2⟩, fun j => by rw [hi _ (by omega)]; exact e j, fun j => by rw [hi _ (by omega)]; exact f j, fun j hj => ⟨fun q => by rw [hi _ (by omega)]; exact (n j hj).1 q, (n j hj).2.ext (fun a g1 g2 => hi a (by omega)) (fun a g1 g2 => (h1 a (by omega)).2.1) (fun a g1 g2 => hr a (by omega))⟩⟩
theorem kt_isC_of {N ci : Nat} (hc : kt_cc ci) (hN : ci + 18 ≤ N) (h : kt_nc (kt_z P + ci) I J R) : kt_isC P N R (kt_z P + ci + 1) (kt_z P + ci) := by
  obtain ⟨k0, -, -, -, k4, k5, k12, k13, k14, k15, k16, k17⟩ := hc
  obtain ⟨n1, n2, n3, n4, -, -, -, -, -⟩ := h
  exact ⟨kt_kdo k0 (by omega), kt_kdo (k := ci + 4) k4 (by omega),
    kt_kdo (k := ci + 5) (k5 0 (by decide)) (by omega), kt_kdo (k := ci + 6) (k5 1 (by decide)) (by omega), kt_kdo (k := ci + 7) (k5 2 (by decide)) (by omega), kt_kdo (k := ci + 8) (k5 3 (by decide)) (by omega), kt_kdo (k := ci + 9) (k5 4 (by decide)) (by omega), kt_kdo (k := ci + 10) (k5 5 (by decide)) (by omega), kt_kdo (k := ci + 11) (k5 6 (by decide)) (by omega),
    kt_kdo (k := ci + 12) k12 (by omega), kt_kdo (k := ci + 13) k13 (by omega), kt_kdo (k := ci + 14) k14 (by omega), kt_kdo (k := ci + 15) k15 (by omega), kt_kdo (k := ci + 16) k16 (by omega), kt_kdo (k := ci + 17) k17 (by omega), n1, n2, n3 4 (by decide) (by decide), n3 5 (by decide) (by decide), n3 6 (by decide) (by decide), n3 7 (by decide) (by decide), n3 8 (by decide) (by decide), n3 9 (by decide) (by decide),
    n4 0 (by decide), n4 1 (by decide), n4 2 (by decide), n4 3 (by decide), n4 4 (by decide), n4 5 (by decide), n4 6 (by decide)⟩
theorem kt_isL_of {N ci : Nat} (hc : kt_cc ci) (hN : ci + 18 ≤ N) (h : kt_nc (kt_z P + ci) I J R) : kt_isL P N R (kt_z P + ci + 1) := by
  obtain ⟨-, k1, k2, k3, -⟩ := hc
  obtain ⟨-, -, -, -, -, -, -, n8, n9⟩ := h
  exact ⟨kt_kdo (k := ci + 1) k1 (by omega), kt_kdo (k := ci + 2) k2 (by omega), kt_kdo (k := ci + 3) k3 (by omega), n8, n9⟩
theorem kt_KS0 {PX : Nat → kt_X} {tx : Nat → Nat} (h : kt_nk (kt_z P) I J R) : kt_KS P 125 (kt_z P) 0 PX kt_X0 0 tx I J R := by
  obtain ⟨⟨a1, a2, a3, a4⟩, b, ⟨d1, d2⟩, e, f, n⟩ := h
  refine ⟨fun j => kt_z P + (5 + 18 * j), ⟨kt_kdo (k := 0) rfl (by decide), kt_kdo (k := 1) rfl (by decide), a1, a2, a3, a4, fun j hj => ?_, fun j hj => ?_, ⟨kt_kdo (k := 2) rfl (by decide), kt_kdo (k := 3) rfl (by decide), kt_kdo (k := 4) rfl (by decide), d1, d2⟩, fun j hj => ?_, fun j hj => ⟨by dsimp only; omega, by dsimp only; omega⟩, fun i j hi hj hij => by dsimp only; omega⟩, ?_⟩
  · rw [b j hj, show 41 + 18 * j = 5 + 18 * (2 + j) by omega]
  · have hn := (n j hj).2
    rcases (by omega : j = 0 ∨ j = 1 ∨ j = 2 ∨ j = 3 ∨ j = 4 ∨ j = 5) with rfl | rfl | rfl | rfl | rfl | rfl
    · exact kt_isL_of kt_cc5 (by decide) hn
    · exact kt_isL_of kt_cc23 (by decide) hn
    · exact kt_isL_of kt_cc41 (by decide) hn
    · exact kt_isL_of kt_cc59 (by decide) hn
    · exact kt_isL_of kt_cc77 (by decide) hn
    · exact kt_isL_of kt_cc95 (by decide) hn
  · have hn := (n j hj).2
    rcases (by omega : j = 0 ∨ j = 1 ∨ j = 2 ∨ j = 3 ∨ j = 4 ∨ j = 5) with rfl | rfl | rfl | rfl | rfl | rfl
    · exact kt_isC_of kt_cc5 (by decide) hn
    · exact kt_isC_of kt_cc23 (by decide) hn
    · exact kt_isC_of kt_cc41 (by decide) hn
    · exact kt_isC_of kt_cc59 (by decide) hn
    · exact kt_isC_of kt_cc77 (by decide) hn
    · exact kt_isC_of kt_cc95 (by decide) hn
  · obtain ⟨i0, -, -, -, -, n5, n9, nJ, -, -⟩ := n 0 (by decide)
    exact ⟨kt_n0 (e 3), by decide, ⟨kt_n0 (f 1), by decide, fun j hj => absurd hj (Nat.not_lt_zero j)⟩, ⟨⟨kt_n0 (n5 0), fun e f he => absurd he (Nat.not_lt_zero e)⟩, kt_n0 (i0 2), kt_n0 (i0 3), fun t _ => kt_n0 (n9 t), fun t _ => kt_k0 (nJ 13 t (by decide) (by decide)) (xK0 t), fun t _ => kt_k0 (nJ 16 t (by decide) (by decide)) (xSy0 t)⟩,
      ⟨kt_n0 (i0 10), fun t _ => kt_k0 (nJ 14 t (by decide) (by decide)) (xac0 t), fun t _ => kt_k0 (nJ 15 t (by decide) (by decide)) (xRf0 t), fun t _ => kt_k0 (nJ 17 t (by decide) (by decide)) (xK0 t)⟩, fun j hj => absurd hj (Nat.not_lt_zero j)⟩
end L0
section LL
variable {P : kt_P} {I : kt_I} {J : kt_J} {R : kt_R} {Q : Option Value → kt_I → kt_J → kt_R → Prop}
theorem s_law_loop (hL : kt_L P ≤ 2560) (kq : ∀ I J R, Q (some (.int (kt_bo true))) I J R) : ∀ (d i np : Nat) (PX : Nat → kt_X) (X : kt_X) (ty : Nat) (tx : Nat → Nat) (I : kt_I) (J : kt_J) (R : kt_R), kt_L P < i + 5 + 5 * d → i ≤ 3000 → kt_LI P np PX X ty tx I J R →
    KW P i_law_law 125 18 [some (.ref (kt_b P)), some (.ref (kt_z P)), some (.ref (kt_z P + 113)), some (.int (nI i))] [] 125 I J R Q := by
  intro d
  induction d with
  | zero =>
    intro i np PX X ty tx I J R h1 hi3 hLI
    by_cases h5 : kt_L P < 5
    · skip
      refine kw_ild_n x_law_law_18 rfl ?_
      refine kw_ald_n x_law_law_19 rfl ?_
      refine kw_slen x_law_law_20 ?_
      refine kw_icon x_law_law_21 ?_
      first | refine kw_isub_n x_law_law_22 (by omega) ?_ | refine kw_isub x_law_law_22 ?_
      first | refine kw_ic_gt_n x_law_law_23 ⟨by omega, by omega⟩ (fun h23 => ?_) (fun h23 => ?_) | refine kw_ic_gt x_law_law_23 (fun h23 => ?_) (fun h23 => ?_)
      · skip
        refine kw_icon x_law_law_852 ?_
        first | refine kw_zret_b x_law_law_853 ?_ | refine kw_zret_b (b := true) x_law_law_853 ?_ | refine kw_zret_b (b := false) x_law_law_853 ?_
        exact kq I J R
      · exfalso; first | exact h23 (Int32.lt_of_lt_of_le ((kt_s_lt (by omega) (by omega)).mpr h5) (nI_pos' (kt_p31 (by omega)))) | omega | contradiction | exact absurd (by decide) h23 | exact absurd h23 (by decide)
    · skip
      refine kw_ild_n x_law_law_18 rfl ?_
      refine kw_ald_n x_law_law_19 rfl ?_
      refine kw_slen x_law_law_20 ?_
      refine kw_icon x_law_law_21 ?_
      first | refine kw_isub_n x_law_law_22 (by omega) ?_ | refine kw_isub x_law_law_22 ?_
      first | refine kw_ic_gt_n x_law_law_23 ⟨by omega, by omega⟩ (fun h23 => ?_) (fun h23 => ?_) | refine kw_ic_gt x_law_law_23 (fun h23 => ?_) (fun h23 => ?_)
      · skip
        refine kw_icon x_law_law_852 ?_
        first | refine kw_zret_b x_law_law_853 ?_ | refine kw_zret_b (b := true) x_law_law_853 ?_ | refine kw_zret_b (b := false) x_law_law_853 ?_
        exact kq I J R
      · exfalso; first | omega | contradiction | exact absurd (by decide) h23 | exact absurd h23 (by decide)
  | succ d ih =>
    intro i np PX X ty tx I J R h1 hi3 hLI
    by_cases h5 : kt_L P < 5
    · skip
      refine kw_ild_n x_law_law_18 rfl ?_
      refine kw_ald_n x_law_law_19 rfl ?_
      refine kw_slen x_law_law_20 ?_
      refine kw_icon x_law_law_21 ?_
      first | refine kw_isub_n x_law_law_22 (by omega) ?_ | refine kw_isub x_law_law_22 ?_
      first | refine kw_ic_gt_n x_law_law_23 ⟨by omega, by omega⟩ (fun h23 => ?_) (fun h23 => ?_) | refine kw_ic_gt x_law_law_23 (fun h23 => ?_) (fun h23 => ?_)
      · skip
        refine kw_icon x_law_law_852 ?_
        first | refine kw_zret_b x_law_law_853 ?_ | refine kw_zret_b (b := true) x_law_law_853 ?_ | refine kw_zret_b (b := false) x_law_law_853 ?_
        exact kq I J R
      · exfalso; first | exact h23 (Int32.lt_of_lt_of_le ((kt_s_lt (by omega) (by omega)).mpr h5) (nI_pos' (kt_p31 (by omega)))) | omega | contradiction | exact absurd (by decide) h23 | exact absurd h23 (by decide)
    · skip
      refine kw_ild_n x_law_law_18 rfl ?_
      refine kw_ald_n x_law_law_19 rfl ?_
      refine kw_slen x_law_law_20 ?_
      refine kw_icon x_law_law_21 ?_
      first | refine kw_isub_n x_law_law_22 (by omega) ?_ | refine kw_isub x_law_law_22 ?_
      first | refine kw_ic_gt_n x_law_law_23 ⟨by omega, by omega⟩ (fun h23 => ?_) (fun h23 => ?_) | refine kw_ic_gt x_law_law_23 (fun h23 => ?_) (fun h23 => ?_)
      · first
        | exfalso; omega
        | skip
          refine kw_icon x_law_law_852 ?_
          first | refine kw_zret_b x_law_law_853 ?_ | refine kw_zret_b (b := true) x_law_law_853 ?_ | refine kw_zret_b (b := false) x_law_law_853 ?_
          exact kq I J R
      · first
        | exfalso; omega
        | skip
          refine kw_ald_n x_law_law_26 rfl ?_
          refine kw_ild_n x_law_law_27 rfl ?_
          refine kw_sld_n x_law_law_28 (by omega) (by omega) ?_
          refine kw_bip x_law_law_29 ?_
          refine kw_iand x_law_law_31 ?_
          have next : ∀ np PX X ty tx I J R, kt_LI P np PX X ty tx I J R → KW P i_law_law 125 846 [some (.ref (kt_b P)), some (.ref (kt_z P)), some (.ref (kt_z P + 113)), some (.int (nI i))] [] 125 I J R Q := by
            intro np PX X ty tx I J R hLI
            first | refine kw_iinc_n x_law_law_846 (by decide) rfl ?_ | refine kw_iinc x_law_law_846 (by decide) rfl ?_
            refine kw_goto x_law_law_849 ?_
            exact ih (i + 5) np PX X ty tx I J R (by omega) (by omega) hLI
          have hi5 : i + 5 ≤ kt_L P := by omega
          refine s_law_law_32 (fun _ => s_law_0 hLI hi5 hL next) (fun _ => s_law_1 hLI hi5 hL next) (fun _ => s_law_2 hLI hi5 hL next) (fun _ => s_law_3 hLI hi5 hL next) (fun _ => s_law_4 hLI hi5 hL next) (fun _ => s_law_5 hLI hi5 hL next) (fun _ => s_law_6 hLI hi5 hL next) (fun _ => s_law_7 hLI hi5 hL next) (fun _ => s_law_8 hLI hi5 hL next) (fun _ => s_law_9 hLI hi5 hL next) (fun _ => s_law_10 hLI hi5 hL next) (fun _ => s_law_11 hLI hi5 hL next) (fun _ => s_law_12 hLI hi5 hL next) (fun _ => s_law_13 hLI hi5 hL next) (fun _ => s_law_14 hLI hi5 hL next) (fun _ => s_law_15 hLI hi5 hL next) (fun _ => s_law_16 hLI hi5 hL next) (fun _ => s_law_17 hLI hi5 hL next) (fun _ => s_law_18 hLI hi5 hL next) (fun _ => s_law_19 hLI hi5 hL next) (fun _ => s_law_20 hLI hi5 hL next) (fun _ => s_law_21 hLI hi5 hL next) (fun _ => s_law_22 hLI hi5 hL next) (fun _ => s_law_23 hLI hi5 hL next) (fun _ _ _ _ _ _ _ _ _ _ _ _ _ _ _ _ _ _ _ _ _ _ _ _ => next np PX X ty tx I J R hLI)
theorem s_law_law (hL : kt_L P ≤ 2560) (kq : ∀ I J R, Q (some (.int (kt_bo true))) I J R) : KW P i_law_law 125 0 [some (.ref (kt_b P)), none, none, none] [] 0 I J R Q := by
  refine kw_new (ci := 4) x_law_law_0 (by decide) (by exact rfl) (by omega) ?_
  refine kw_dup x_law_law_3 rfl ?_
  refine c_law_law_4 (N' := 113) ⟨by omega, by omega⟩ (Nat.le_of_ble_eq_true rfl) ?_
  refine s_K_init (fun j => congrFun (kt_rw_eq _ _ _) j) (fun I1 J1 R1 hnk => ?_)
  refine kw_ast_n x_law_law_7 (by decide) ?_
  refine kw_new (ci := 5) x_law_law_8 (by decide) (by exact rfl) (by omega) ?_
  refine kw_dup x_law_law_11 rfl ?_
  refine c_law_law_12 (N' := 125) ⟨by omega, by omega⟩ (Nat.le_of_ble_eq_true rfl) ?_
  refine s_M_init (fun I2 J2 R2 f1 f2 f3 f4 => ?_)
  refine kw_ast_n x_law_law_15 (by decide) ?_
  refine kw_icon x_law_law_16 ?_
  refine kw_ist_n x_law_law_17 (by decide) ?_
  have hz : ∀ j, I2 (kt_z P + 113) j = 0 := fun j => by rw [f2]; exact congrFun (kt_rw_eq _ _ _) j
  refine s_law_loop hL kq 600 0 0 (fun _ => kt_X0) kt_X0 0 (fun _ => 0) I2 J2 R2 (by omega) (by decide) ⟨kt_KS0 (hnk.ext (fun a ha => ?_)), ⟨?_, ⟨kt_n0 (f3 0), kt_n0 (f3 1), kt_n0 (f3 2), fun t _ => kt_n0 (f3 _), fun e f he => absurd he (Nat.not_lt_zero e)⟩, ⟨kt_n0 (hz 4), by decide, fun j hj => absurd hj (Nat.not_lt_zero j)⟩, hz 5, ⟨kt_n0 (hz 7), by decide, fun j hj => absurd hj (Nat.not_lt_zero j)⟩⟩, kt_wf0, fun j hj => absurd hj (Nat.not_lt_zero j)⟩
  · obtain ⟨g1, g2, g3⟩ := f1 a ha
    exact ⟨g1.trans (kt_rw_ne _ _ (by omega)), g2.trans (kt_rw_ne _ _ (by omega)), g3.trans (kt_rw_ne _ _ (by omega))⟩
  · obtain ⟨r0, r1, r2, r3, r6, r8, r9, r11, r12, r13, r17⟩ := f4
    exact ⟨kt_kdo (k := 113) rfl (by decide), kt_kdo (k := 114) rfl (by decide), kt_kdo (k := 115) rfl (by decide), kt_kdo (k := 116) rfl (by decide), kt_kdo (k := 117) rfl (by decide), kt_kdo (k := 118) rfl (by decide), kt_kdo (k := 119) rfl (by decide), kt_kdo (k := 120) rfl (by decide), kt_kdo (k := 121) rfl (by decide), kt_kdo (k := 122) rfl (by decide), kt_kdo (k := 123) rfl (by decide), kt_kdo (k := 124) rfl (by decide), r0, r1, r2, r3, r6, r8, r9, r11, r12, r13, r17⟩
end LL
