/-! the class: the text is run on a country -/
theorem kt_V.u1 {c a j : Nat} {X : kt_X} {I : kt_I} {v : Int32} (h : a < c + 4 ∨ c + 11 < a) (hV : kt_V c X I) : kt_V c X (kt_u1 I a j v) := hV.ext (fun q h1 h2 => kt_u1_ne _ _ _ (by omega))
theorem kt_B.u1 {c a j : Nat} {X : kt_X} {I : kt_I} {J : kt_J} {v : Int32} (h : a < c ∨ c + 17 < a) (hB : kt_B c X I J) : kt_B c X (kt_u1 I a j v) J := hB.ext (fun q h1 h2 => ⟨kt_u1_ne _ _ _ (by omega), rfl⟩)
theorem kt_T.u1 {c a j : Nat} {X : kt_X} {I : kt_I} {J : kt_J} {v : Int32} (h : a < c ∨ c + 17 < a) (hT : kt_T c X I J) : kt_T c X (kt_u1 I a j v) J := hT.ext (fun q h1 h2 => ⟨kt_u1_ne _ _ _ (by omega), rfl⟩)
/-- only the country at c, the looking and the script's numbers have changed -/
def kt_fs (sc lo c : Nat) (I I' : kt_I) : Prop := (∀ a, (a < c ∨ c + 17 < a) → (a < lo ∨ lo + 2 < a) → a ≠ sc → a ≠ sc + 2 → I' a = I a) ∧ I' sc 1 = I sc 1
theorem kt_fs.rf {sc lo c : Nat} {I : kt_I} : kt_fs sc lo c I I := ⟨fun _ _ _ _ _ => rfl, rfl⟩
theorem kt_fs.tr {sc lo c : Nat} {I I' I'' : kt_I} (h : kt_fs sc lo c I I') (h' : kt_fs sc lo c I' I'') : kt_fs sc lo c I I'' := ⟨fun a h1 h2 h3 h4 => (h'.1 a h1 h2 h3 h4).trans (h.1 a h1 h2 h3 h4), h'.2.trans h.2⟩
theorem kt_fs.u1 {sc lo c j : Nat} {I : kt_I} {v : Int32} (h : j ≠ 1) : kt_fs sc lo c I (kt_u1 I sc j v) := ⟨fun a _ _ h3 _ => kt_u1_ne _ _ _ h3, kt_u1_nj (fun q => h q.symm) rfl⟩
theorem kt_fs.r {sc lo c : Nat} {I I' : kt_I} (h : ∀ a, a ≠ sc + 2 → I' a = I a) : kt_fs sc lo c I I' := ⟨fun a _ _ _ h4 => h a h4, by rw [h sc (by omega)]⟩
theorem kt_fx.s {sc lo c : Nat} {I I' : kt_I} (h : kt_fx lo c I I') (h1 : sc + 2 < c ∨ c + 17 < sc) (h2 : sc + 2 < lo ∨ lo + 2 < sc) : kt_fs sc lo c I I' := ⟨fun a g1 g2 _ _ => h a g1 g2, by rw [h sc (by omega) (by omega)]⟩
theorem kt_fs.sx {sc lo c ty : Nat} {tx : Nat → Nat} {I I' : kt_I} (h : kt_fs sc lo c I I') (h1 : sc + 2 < c ∨ c + 17 < sc) (h2 : sc + 2 < lo ∨ lo + 2 < sc) (hx : kt_sx sc ty tx I) : kt_sx sc ty tx I' := hx.same h.2 (h.1 _ (by omega) (by omega) (by omega) (by omega))
section CR
variable {P : kt_P} {N : Nat} {I : kt_I} {J : kt_J} {R : kt_R} {Q : Option Value → kt_I → kt_J → kt_R → Prop} {sc lo c ty : Nat} {tx : Nat → Nat} {X : kt_X}
theorem s_S_run_lp (hS : kt_isS P N R sc) (hC : kt_isC P N R lo c) (hL : kt_isL P N R lo) (hlc : lo = c + 1) (hsc : sc + 2 < c ∨ c + 17 < sc) (hsl : sc + 2 < lo ∨ lo + 2 < sc) {r : kt_ru}
    (k : ∀ I' J', kt_fs sc lo c I I' → kt_fx lo c J J' → I' sc 5 = nI r.2.1 → I' sc 4 = nI r.1 → (r.2.1 = 0 → I' sc 3 = nI r.2.2.2 ∧ kt_B c r.2.2.1 I' J' ∧ kt_T c r.2.2.1 I' J' ∧ kt_wf r.2.2.1) → Q none I' J' R) :
    ∀ (f s q : Nat) (X : kt_X) (I1 : kt_I) (J1 : kt_J) (v2 : Option Value), f + q = 80 → s ≤ 200 → xrun tx ty f s q X = r → kt_fs sc lo c I I1 → kt_fx lo c J J1 → kt_sx sc ty tx I1 → I1 sc 3 = nI q → I1 sc 4 = nI s → I1 sc 5 = nI 0 → kt_B c X I1 J1 → kt_T c X I1 J1 → kt_wf X →
      KW P i_S_runOn N 15 [some (.ref sc), some (.ref c), v2] [] N I1 J1 R Q := by
  intro f
  induction f with
  | zero =>
    intro s q X I1 J1 v2 h1 hs2 hr hf hfJ hx m3 m4 m5 hB hT hW
    have hty := hx.2.1
    have hr2 : r = (s, 0, X, q) := hr.symm
    subst hr2
    refine kw_ald_n x_S_runOn_15 rfl ?_
    refine kw_gi_e x_S_runOn_16 (by exact isS_k hS) (by first | exact m3 | exact m4 | exact m5 | exact hx.1 | exact (hx.2.2 _ (by omega)).1 | exact rfl) ?_
    refine kw_bip x_S_runOn_19 ?_
    first | refine kw_ic_ge_n x_S_runOn_21 ⟨by omega, by omega⟩ (fun h21 => ?_) (fun h21 => ?_) | refine kw_ic_ge x_S_runOn_21 (fun h21 => ?_) (fun h21 => ?_)
    · first
      | exfalso; omega
      | skip
        refine kw_vret x_S_runOn_103 ?_
        exact k I1 J1 hf hfJ m5 m4 (fun _ => ⟨m3, hB, hT, hW⟩)
    · first
      | exfalso; omega
      | skip
        skip
  | succ f ih =>
    intro s q X I1 J1 v2 h1 hs2 hr hf hfJ hx m3 m4 m5 hB hT hW
    have hty := hx.2.1
    have hx0 : kt_sx sc ty tx I := ⟨by rw [← hf.2]; exact hx.1, hx.2.1, fun j hj => by rw [← hf.1 (sc + 1) (by omega) (by omega) (by omega) (by omega)]; exact hx.2.2 j hj⟩
    refine kw_ald_n x_S_runOn_15 rfl ?_
    refine kw_gi_e x_S_runOn_16 (by exact isS_k hS) (by first | exact m3 | exact m4 | exact m5 | exact hx.1 | exact n3 | exact n4 | exact n1 | exact kt_u1_eq | exact w3 | exact w5 | exact rfl) ?_
    refine kw_bip x_S_runOn_19 ?_
    first | refine kw_ic_ge_n x_S_runOn_21 ⟨by omega, by omega⟩ (fun h21 => ?_) (fun h21 => ?_) | refine kw_ic_ge x_S_runOn_21 (fun h21 => ?_) (fun h21 => ?_)
    · first
      | exfalso; omega
      | skip
        refine kw_vret x_S_runOn_103 ?_
        have hr2 : r = (s, 0, X, q) := (by rw [← hr, xrun, if_neg (by omega)])
        subst hr2
        exact k I1 J1 hf hfJ m5 m4 (fun _ => ⟨m3, hB, hT, hW⟩)
    · first
      | exfalso; omega
      | skip
        refine kw_ald_n x_S_runOn_24 rfl ?_
        refine kw_gi_e x_S_runOn_25 (by exact isS_k hS) (by first | exact m3 | exact m4 | exact m5 | exact hx.1 | exact n3 | exact n4 | exact n1 | exact kt_u1_eq | exact w3 | exact w5 | exact rfl) ?_
        refine kw_ald_n x_S_runOn_28 rfl ?_
        refine kw_gi_e x_S_runOn_29 (by exact isS_k hS) (by first | exact m3 | exact m4 | exact m5 | exact hx.1 | exact n3 | exact n4 | exact n1 | exact kt_u1_eq | exact w3 | exact w5 | exact rfl) ?_
        first | refine kw_ic_ge_n x_S_runOn_32 ⟨by omega, by omega⟩ (fun h32 => ?_) (fun h32 => ?_) | refine kw_ic_ge x_S_runOn_32 (fun h32 => ?_) (fun h32 => ?_)
        · first
          | exfalso; omega
          | skip
            refine kw_vret x_S_runOn_103 ?_
            have hr2 : r = (s, 0, X, q) := (by rw [← hr, xrun, if_neg (by omega)])
            subst hr2
            exact k I1 J1 hf hfJ m5 m4 (fun _ => ⟨m3, hB, hT, hW⟩)
        · first
          | exfalso; omega
          | skip
            refine kw_ald_n x_S_runOn_35 rfl ?_
            refine kw_ald_n x_S_runOn_36 rfl ?_
            refine kw_gi_e x_S_runOn_37 (by exact isS_k hS) (by first | exact m3 | exact m4 | exact m5 | exact hx.1 | exact n3 | exact n4 | exact n1 | exact kt_u1_eq | exact w3 | exact w5 | exact rfl) ?_
            refine c_S_runOn_40 (by exact isS_k hS) (Nat.le_of_ble_eq_true rfl) ?_
            have hs : s < ty := (by omega)
            refine s_S_read hS hx hs (fun hok I2 f1 => ?_) (fun hok I2 f1 f2 => ?_)
            · refine kw_ist_n x_S_runOn_43 (by decide) ?_
              refine kw_ald_n x_S_runOn_44 rfl ?_
              refine kw_ild_n x_S_runOn_45 rfl ?_
              first | refine kw_if_ge_n x_S_runOn_46 (by omega) (fun h46 => ?_) (fun h46 => ?_) | refine kw_if_ge x_S_runOn_46 (fun h46 => ?_) (fun h46 => ?_)
              · exfalso; first | omega | contradiction | exact absurd (by decide) h46 | exact absurd h46 (by decide)
              · skip
                refine kw_icon x_S_runOn_49 ?_
                refine kw_goto x_S_runOn_50 ?_
                refine kw_pi x_S_runOn_70 (by exact isS_k hS) ?_
                refine kw_ald_n x_S_runOn_73 rfl ?_
                refine kw_gi_e x_S_runOn_74 (by exact isS_k hS) (by first | exact m3 | exact m4 | exact m5 | exact hx.1 | exact n3 | exact n4 | exact n1 | exact kt_u1_eq | exact rfl) ?_
                first | refine kw_if_eq_b x_S_runOn_77 (fun h77 => ?_) (fun h77 => ?_) | refine kw_if_eq_n x_S_runOn_77 (by omega) (fun h77 => ?_) (fun h77 => ?_) | refine kw_if_eq x_S_runOn_77 (fun h77 => ?_) (fun h77 => ?_)
                · exfalso; first | omega | contradiction | exact absurd (by decide) h77 | exact absurd h77 (by decide)
                · skip
                  refine kw_vret x_S_runOn_80 ?_
                  have hr2 : r = (s, 1, X, q + 1) := (by rw [← hr, xrun, if_pos hs, if_neg (by rw [hok]; decide)])
                  subst hr2
                  refine k _ J1 (hf.tr ((kt_fs.r f1).tr (kt_fs.u1 (by decide)))) hfJ kt_u1_eq (kt_u1_nj (by decide) (by rw [f1 sc (by omega)]; exact m4)) (fun q => absurd q (show ¬ (1 : Nat) = 0 by decide))
            have hpl := (xoks_le hok).1
            have hpos := (xoks_le hok).2
            have n3 : I2 sc 3 = nI q := (by rw [f1 sc (by omega)]; exact m3)
            have n4 : I2 sc 4 = nI s := (by rw [f1 sc (by omega)]; exact m4)
            have n1 : I2 (sc + 1) s = nI (tx s) := (by rw [f1 _ (by omega)]; exact (hx.2.2 s hs).1)
            have hB2 : kt_B c X I2 J1 := hB.ext (fun a g1 g2 => ⟨f1 a (by omega), rfl⟩)
            have hT2 : kt_T c X I2 J1 := hT.ext (fun a g1 g2 => ⟨f1 a (by omega), rfl⟩)
            refine kw_ist_n x_S_runOn_43 (by decide) ?_
            refine kw_ald_n x_S_runOn_44 rfl ?_
            refine kw_ild_n x_S_runOn_45 rfl ?_
            first | refine kw_if_ge_n x_S_runOn_46 (by omega) (fun h46 => ?_) (fun h46 => ?_) | refine kw_if_ge x_S_runOn_46 (fun h46 => ?_) (fun h46 => ?_)
            · skip
              refine kw_ald_n x_S_runOn_53 rfl ?_
              refine kw_ald_n x_S_runOn_54 rfl ?_
              refine kw_ald_n x_S_runOn_55 rfl ?_
              refine kw_gr x_S_runOn_56 (by exact isS_k hS) (by exact isS_r0 hS) ?_
              refine kw_ald_n x_S_runOn_59 rfl ?_
              refine kw_gi_e x_S_runOn_60 (by exact isS_k hS) (by first | exact m3 | exact m4 | exact m5 | exact hx.1 | exact n3 | exact n4 | exact n1 | exact kt_u1_eq | exact w3 | exact w5 | exact rfl) ?_
              refine kw_iald_n x_S_runOn_63 (by first | exact isS_a1 hS | exact isS_a2 hS | exact isC_a5 hC | exact isC_a6 hC | exact isC_a7 hC | exact isC_a8 hC | exact isC_a9 hC | exact isC_a10 hC | exact isC_a11 hC | exact isC_a12 hC | exact isL_a1 hL | exact isL_a2 hL) (by omega) (by omega) (by first | exact m3 | exact m4 | exact m5 | exact hx.1 | exact n3 | exact n4 | exact n1 | exact kt_u1_eq | exact w3 | exact w5 | exact rfl) ?_
              refine c_S_runOn_64 (by exact isS_k hS) (Nat.le_of_ble_eq_true rfl) ?_
              refine s_S_doCommand hS hC hB2 hW (a := xnm tx ty s) (fun j hj => xvq_lt (xsg_x hx) _ (xdg_2 _ _ _)) hpos f2 (fun v hxd hv => ?_) (fun w Y hxd hw hWY hev I3 J3 hc => ?_)
              · by_cases hv1 : v = -1
                · refine c_S_runOn_67 (Nat.le_of_ble_eq_true rfl) ?_
                  refine s_S_reasonOf ?_
                  rw [if_pos hv, if_pos hv1]
                  refine kw_pi x_S_runOn_70 (by exact isS_k hS) ?_
                  refine kw_ald_n x_S_runOn_73 rfl ?_
                  refine kw_gi_e x_S_runOn_74 (by exact isS_k hS) (by first | exact m3 | exact m4 | exact m5 | exact hx.1 | exact n3 | exact n4 | exact n1 | exact kt_u1_eq | exact rfl) ?_
                  first | refine kw_if_eq_b x_S_runOn_77 (fun h77 => ?_) (fun h77 => ?_) | refine kw_if_eq_n x_S_runOn_77 (by omega) (fun h77 => ?_) (fun h77 => ?_) | refine kw_if_eq x_S_runOn_77 (fun h77 => ?_) (fun h77 => ?_)
                  · exfalso; first | omega | contradiction | exact absurd (by decide) h77 | exact absurd h77 (by decide)
                  · skip
                    refine kw_vret x_S_runOn_80 ?_
                    have hr2 : r = (s, 2, (xdo X (tx s) (xnm tx ty s)).2, q + 1) := (by rw [← hr, xrun, if_pos hs, if_pos hok, if_pos (by rw [hxd]; exact hv), hxd, if_pos hv1])
                    subst hr2
                    refine k _ J1 (hf.tr ((kt_fs.r f1).tr (kt_fs.u1 (by decide)))) hfJ kt_u1_eq (kt_u1_nj (by decide) n4) (fun q => absurd q (show ¬ (2 : Nat) = 0 by decide))
                · refine c_S_runOn_67 (Nat.le_of_ble_eq_true rfl) ?_
                  refine s_S_reasonOf ?_
                  rw [if_pos hv, if_neg hv1]
                  refine kw_pi x_S_runOn_70 (by exact isS_k hS) ?_
                  refine kw_ald_n x_S_runOn_73 rfl ?_
                  refine kw_gi_e x_S_runOn_74 (by exact isS_k hS) (by first | exact m3 | exact m4 | exact m5 | exact hx.1 | exact n3 | exact n4 | exact n1 | exact kt_u1_eq | exact rfl) ?_
                  first | refine kw_if_eq_b x_S_runOn_77 (fun h77 => ?_) (fun h77 => ?_) | refine kw_if_eq_n x_S_runOn_77 (by omega) (fun h77 => ?_) (fun h77 => ?_) | refine kw_if_eq x_S_runOn_77 (fun h77 => ?_) (fun h77 => ?_)
                  · exfalso; first | omega | contradiction | exact absurd (by decide) h77 | exact absurd h77 (by decide)
                  · skip
                    refine kw_vret x_S_runOn_80 ?_
                    have hr2 : r = (s, 3, (xdo X (tx s) (xnm tx ty s)).2, q + 1) := (by rw [← hr, xrun, if_pos hs, if_pos hok, if_pos (by rw [hxd]; exact hv), hxd, if_neg hv1])
                    subst hr2
                    refine k _ J1 (hf.tr ((kt_fs.r f1).tr (kt_fs.u1 (by decide)))) hfJ kt_u1_eq (kt_u1_nj (by decide) n4) (fun q => absurd q (show ¬ (3 : Nat) = 0 by decide))
              refine c_S_runOn_67 (Nat.le_of_ble_eq_true rfl) ?_
              refine s_S_reasonOf ?_
              rw [if_neg (nI_pos (kt_p31 (by omega)))]
              refine kw_pi x_S_runOn_70 (by exact isS_k hS) ?_
              refine kw_ald_n x_S_runOn_73 rfl ?_
              refine kw_gi_e x_S_runOn_74 (by exact isS_k hS) (by first | exact m3 | exact m4 | exact m5 | exact hx.1 | exact n3 | exact n4 | exact n1 | exact kt_u1_eq | exact w3 | exact w5 | exact rfl) ?_
              first | refine kw_if_eq_b x_S_runOn_77 (fun h77 => ?_) (fun h77 => ?_) | refine kw_if_eq_n x_S_runOn_77 (by omega) (fun h77 => ?_) (fun h77 => ?_) | refine kw_if_eq x_S_runOn_77 (fun h77 => ?_) (fun h77 => ?_)
              · skip
                refine kw_ald_n x_S_runOn_81 rfl ?_
                refine c_S_runOn_82 (by exact isC_k hC) (Nat.le_of_ble_eq_true rfl) ?_
                refine s_C_thinkAnew hC hL hlc (Y := Y) (X := X) (hc.2.2.1.u1 (by omega)) ((hc.T hT2).u1 (by omega)) hW hWY hev (fun I4 J4 z1 z2 z3 z4 => ?_)
                have w3 : I4 sc 3 = nI q := (by rw [z1 sc (by omega) (by omega)]; exact kt_u1_nj (by decide) (by rw [hc.1 sc (by omega)]; exact n3))
                have w5 : I4 sc 5 = nI 0 := (by rw [z1 sc (by omega) (by omega)]; exact kt_u1_eq)
                refine kw_ald_n x_S_runOn_85 rfl ?_
                refine kw_dup x_S_runOn_86 rfl ?_
                refine kw_gi_e x_S_runOn_87 (by exact isS_k hS) (by first | exact m3 | exact m4 | exact m5 | exact hx.1 | exact n3 | exact n4 | exact n1 | exact kt_u1_eq | exact w3 | exact w5 | exact rfl) ?_
                refine kw_icon x_S_runOn_90 ?_
                first | refine kw_iadd_n x_S_runOn_91 ?_ | refine kw_iadd x_S_runOn_91 ?_
                refine kw_pi x_S_runOn_92 (by exact isS_k hS) ?_
                refine kw_ald_n x_S_runOn_95 rfl ?_
                refine kw_ild_n x_S_runOn_96 rfl ?_
                refine kw_pi x_S_runOn_97 (by exact isS_k hS) ?_
                refine kw_goto x_S_runOn_100 ?_
                have hr2 : xrun tx ty f (xps tx ty s (xnb (tx s))) (q + 1) (xapo X Y) = r := (by rw [← hr, xrun, if_pos hs, if_pos hok, if_neg (by rw [hxd]; exact nI_pos (kt_p31 (by omega))), hxd])
                have hpe := xps_le tx ty s (xnb (tx s))
                have hf4 : kt_fs sc lo c I I4 := hf.tr ((kt_fs.r f1).tr ((hc.1.x (lo := lo)).s hsc hsl |>.tr ((kt_fs.u1 (by decide)).tr (z1.s hsc hsl))))
                have hf5 := hf4.tr ((kt_fs.u1 (sc := sc) (lo := lo) (c := c) (j := 3) (I := I4) (v := nI (q + 1)) (by decide)).tr (kt_fs.u1 (sc := sc) (lo := lo) (c := c) (j := 4) (v := nI (xps tx ty s (xnb (tx s)))) (by decide)))
                exact ih (xps tx ty s (xnb (tx s))) (q + 1) (xapo X Y) _ J4 _ (by omega) (by omega) hr2 hf5 (hfJ.tr ((hc.2.1.x).tr z2)) (hf5.sx hsc hsl hx0) (kt_u1_nj (by decide) kt_u1_eq) kt_u1_eq (kt_u1_nj (by decide) (kt_u1_nj (by decide) w5)) ((z3.u1 (by omega)).u1 (by omega)) ((z4.u1 (by omega)).u1 (by omega)) (kt_wf_apo hWY)
              · exfalso; first | omega | contradiction | exact absurd (by decide) h77 | exact absurd h77 (by decide)
            · exfalso; first | omega | contradiction | exact absurd (by decide) h46 | exact absurd h46 (by decide)
theorem s_S_runOn (hS : kt_isS P N R sc) (hC : kt_isC P N R lo c) (hL : kt_isL P N R lo) (hlc : lo = c + 1) (hsc : sc + 2 < c ∨ c + 17 < sc) (hsl : sc + 2 < lo ∨ lo + 2 < sc) (hx : kt_sx sc ty tx I) (hB : kt_B c X I J) (hT : kt_T c X I J) (hW : kt_wf X)
    (k : ∀ I' J', kt_fs sc lo c I I' → kt_fx lo c J J' → I' sc 5 = nI (xrun tx ty 80 0 0 X).2.1 → I' sc 4 = nI (xrun tx ty 80 0 0 X).1 → ((xrun tx ty 80 0 0 X).2.1 = 0 → I' sc 3 = nI (xrun tx ty 80 0 0 X).2.2.2 ∧ kt_B c (xrun tx ty 80 0 0 X).2.2.1 I' J' ∧ kt_T c (xrun tx ty 80 0 0 X).2.2.1 I' J' ∧ kt_wf (xrun tx ty 80 0 0 X).2.2.1) → Q none I' J' R) :
    KW P i_S_runOn N 0 [some (.ref sc), some (.ref c), none] [] N I J R Q := by
  refine kw_ald_n x_S_runOn_0 rfl ?_
  refine kw_icon x_S_runOn_1 ?_
  refine kw_pi x_S_runOn_2 (by exact isS_k hS) ?_
  refine kw_ald_n x_S_runOn_5 rfl ?_
  refine kw_icon x_S_runOn_6 ?_
  refine kw_pi x_S_runOn_7 (by exact isS_k hS) ?_
  refine kw_ald_n x_S_runOn_10 rfl ?_
  refine kw_icon x_S_runOn_11 ?_
  refine kw_pi x_S_runOn_12 (by exact isS_k hS) ?_
  have hf5 := ((kt_fs.u1 (sc := sc) (lo := lo) (c := c) (j := 3) (I := I) (v := nI 0) (by decide)).tr (kt_fs.u1 (sc := sc) (lo := lo) (c := c) (j := 4) (v := nI 0) (by decide))).tr (kt_fs.u1 (sc := sc) (lo := lo) (c := c) (j := 5) (v := nI 0) (by decide))
  exact s_S_run_lp hS hC hL hlc hsc hsl (tx := tx) (ty := ty) k 80 0 0 X _ J _ (by omega) (by omega) rfl hf5 kt_fx.rf (hf5.sx hsc hsl hx) (kt_u1_nj (by decide) (kt_u1_nj (by decide) kt_u1_eq)) (kt_u1_nj (by decide) kt_u1_eq) kt_u1_eq (((hB.u1 (by omega)).u1 (by omega)).u1 (by omega)) (((hT.u1 (by omega)).u1 (by omega)).u1 (by omega)) hW
end CR
