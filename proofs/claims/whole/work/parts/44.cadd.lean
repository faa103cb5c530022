/-! the class: an event is added -/
theorem kt_u1_na {I : kt_I} {a b j k : Nat} {x v : Int32} (h : a ≠ b) (e : I a k = v) : kt_u1 I b j x a k = v := by rw [kt_u1_ne _ _ _ h]; exact e
def kt_av (kd t ck g p : Int32) : Nat → Int32
  | 0 => kd
  | 1 => t
  | 2 => ck
  | 3 => g
  | 4 => p
  | _ => -4
section CE
variable {P : kt_P} {N : Nat} {I : kt_I} {J : kt_J} {R : kt_R} {Q : Option Value → kt_I → kt_J → kt_R → Prop} {lo c : Nat} {X : kt_X}
theorem s_E_add (hC : kt_isC P N R lo c) (hV : kt_V c X I) (hW : kt_wf X) {kd t ck g p : Int32} (k0 : xn X = 60 → Q (some (.int (-3))) I J R)
    (k : xn X < 60 → ∀ I', (∀ a, a ≠ c + 4 → (a < c + 5 ∨ c + 11 < a) → I' a = I a) → (∀ j, j ≠ 0 → I' (c + 4) j = I (c + 4) j) → I' (c + 4) 0 = nI (xn X + 1) → (∀ f e, f < 7 → I' (c + 5 + f) e = if e = xn X then kt_av kd t ck g p f else I (c + 5 + f) e) → Q (some (.int (nI (xn X)))) I' J R) :
    KW P i_E_add N 0 [some (.ref (c + 4)), some (.int kd), some (.int t), some (.int ck), some (.int g), some (.int p)] [] N I J R Q := by
  have hn := hW.2.2.1
  refine kw_ald_n x_E_add_0 rfl ?_
  refine kw_gi_e x_E_add_1 (by exact isE_k hC) (by first | exact hV.1 | exact kt_u1_na (by omega) (hV.1) | exact kt_u1_na (by omega) (kt_u1_na (by omega) (hV.1)) | exact kt_u1_na (by omega) (kt_u1_na (by omega) (kt_u1_na (by omega) (hV.1))) | exact kt_u1_na (by omega) (kt_u1_na (by omega) (kt_u1_na (by omega) (kt_u1_na (by omega) (hV.1)))) | exact kt_u1_na (by omega) (kt_u1_na (by omega) (kt_u1_na (by omega) (kt_u1_na (by omega) (kt_u1_na (by omega) (hV.1))))) | exact kt_u1_na (by omega) (kt_u1_na (by omega) (kt_u1_na (by omega) (kt_u1_na (by omega) (kt_u1_na (by omega) (kt_u1_na (by omega) (hV.1)))))) | exact kt_u1_na (by omega) (kt_u1_na (by omega) (kt_u1_na (by omega) (kt_u1_na (by omega) (kt_u1_na (by omega) (kt_u1_na (by omega) (kt_u1_na (by omega) (hV.1))))))) | exact kt_u1_eq | exact rfl) ?_
  refine kw_bip x_E_add_4 ?_
  refine c_E_add_6 (Nat.le_of_ble_eq_true rfl) ?_
  refine s_K_isBelow (b := 60) ?_
  first | refine kw_if_ne_b x_E_add_9 (fun h9 => ?_) (fun h9 => ?_) | refine kw_if_ne_s x_E_add_9 ⟨by omega, by omega⟩ (fun h9 => ?_) (fun h9 => ?_) | refine kw_if_ne_n x_E_add_9 (by omega) (fun h9 => ?_) (fun h9 => ?_) | refine kw_if_ne x_E_add_9 (fun h9 => ?_) (fun h9 => ?_)
  · first
    | exfalso; omega
    | skip
      have hlt : xn X < 60 := (by
        obtain ⟨e, he, hq⟩ := kt_yT (T := 60) (by decide) h9
        have := kt_inj hq (by omega) (by omega)
        omega)
      refine kw_ald_n x_E_add_15 rfl ?_
      refine kw_gr x_E_add_16 (by exact isE_k hC) (by exact isE_r1 hC) ?_
      refine kw_ald_n x_E_add_19 rfl ?_
      refine kw_gi_e x_E_add_20 (by exact isE_k hC) (by first | exact hV.1 | exact kt_u1_na (by omega) (hV.1) | exact kt_u1_na (by omega) (kt_u1_na (by omega) (hV.1)) | exact kt_u1_na (by omega) (kt_u1_na (by omega) (kt_u1_na (by omega) (hV.1))) | exact kt_u1_na (by omega) (kt_u1_na (by omega) (kt_u1_na (by omega) (kt_u1_na (by omega) (hV.1)))) | exact kt_u1_na (by omega) (kt_u1_na (by omega) (kt_u1_na (by omega) (kt_u1_na (by omega) (kt_u1_na (by omega) (hV.1))))) | exact kt_u1_na (by omega) (kt_u1_na (by omega) (kt_u1_na (by omega) (kt_u1_na (by omega) (kt_u1_na (by omega) (kt_u1_na (by omega) (hV.1)))))) | exact kt_u1_na (by omega) (kt_u1_na (by omega) (kt_u1_na (by omega) (kt_u1_na (by omega) (kt_u1_na (by omega) (kt_u1_na (by omega) (kt_u1_na (by omega) (hV.1))))))) | exact kt_u1_eq | exact rfl) ?_
      refine kw_ild_n x_E_add_23 rfl ?_
      refine kw_iast_n x_E_add_24 (by first | exact isC_a5 hC | exact isC_a6 hC | exact isC_a7 hC | exact isC_a8 hC | exact isC_a9 hC | exact isC_a10 hC | exact isC_a11 hC | exact isC_a12 hC) (by omega) (by omega) ?_
      refine kw_ald_n x_E_add_25 rfl ?_
      refine kw_gr x_E_add_26 (by exact isE_k hC) (by exact isE_r2 hC) ?_
      refine kw_ald_n x_E_add_29 rfl ?_
      refine kw_gi_e x_E_add_30 (by exact isE_k hC) (by first | exact hV.1 | exact kt_u1_na (by omega) (hV.1) | exact kt_u1_na (by omega) (kt_u1_na (by omega) (hV.1)) | exact kt_u1_na (by omega) (kt_u1_na (by omega) (kt_u1_na (by omega) (hV.1))) | exact kt_u1_na (by omega) (kt_u1_na (by omega) (kt_u1_na (by omega) (kt_u1_na (by omega) (hV.1)))) | exact kt_u1_na (by omega) (kt_u1_na (by omega) (kt_u1_na (by omega) (kt_u1_na (by omega) (kt_u1_na (by omega) (hV.1))))) | exact kt_u1_na (by omega) (kt_u1_na (by omega) (kt_u1_na (by omega) (kt_u1_na (by omega) (kt_u1_na (by omega) (kt_u1_na (by omega) (hV.1)))))) | exact kt_u1_na (by omega) (kt_u1_na (by omega) (kt_u1_na (by omega) (kt_u1_na (by omega) (kt_u1_na (by omega) (kt_u1_na (by omega) (kt_u1_na (by omega) (hV.1))))))) | exact kt_u1_eq | exact rfl) ?_
      refine kw_ild_n x_E_add_33 rfl ?_
      refine kw_iast_n x_E_add_34 (by first | exact isC_a5 hC | exact isC_a6 hC | exact isC_a7 hC | exact isC_a8 hC | exact isC_a9 hC | exact isC_a10 hC | exact isC_a11 hC | exact isC_a12 hC) (by omega) (by omega) ?_
      refine kw_ald_n x_E_add_35 rfl ?_
      refine kw_gr x_E_add_36 (by exact isE_k hC) (by exact isE_r3 hC) ?_
      refine kw_ald_n x_E_add_39 rfl ?_
      refine kw_gi_e x_E_add_40 (by exact isE_k hC) (by first | exact hV.1 | exact kt_u1_na (by omega) (hV.1) | exact kt_u1_na (by omega) (kt_u1_na (by omega) (hV.1)) | exact kt_u1_na (by omega) (kt_u1_na (by omega) (kt_u1_na (by omega) (hV.1))) | exact kt_u1_na (by omega) (kt_u1_na (by omega) (kt_u1_na (by omega) (kt_u1_na (by omega) (hV.1)))) | exact kt_u1_na (by omega) (kt_u1_na (by omega) (kt_u1_na (by omega) (kt_u1_na (by omega) (kt_u1_na (by omega) (hV.1))))) | exact kt_u1_na (by omega) (kt_u1_na (by omega) (kt_u1_na (by omega) (kt_u1_na (by omega) (kt_u1_na (by omega) (kt_u1_na (by omega) (hV.1)))))) | exact kt_u1_na (by omega) (kt_u1_na (by omega) (kt_u1_na (by omega) (kt_u1_na (by omega) (kt_u1_na (by omega) (kt_u1_na (by omega) (kt_u1_na (by omega) (hV.1))))))) | exact kt_u1_eq | exact rfl) ?_
      refine kw_ild_n x_E_add_43 rfl ?_
      refine kw_iast_n x_E_add_44 (by first | exact isC_a5 hC | exact isC_a6 hC | exact isC_a7 hC | exact isC_a8 hC | exact isC_a9 hC | exact isC_a10 hC | exact isC_a11 hC | exact isC_a12 hC) (by omega) (by omega) ?_
      refine kw_ald_n x_E_add_45 rfl ?_
      refine kw_gr x_E_add_46 (by exact isE_k hC) (by exact isE_r4 hC) ?_
      refine kw_ald_n x_E_add_49 rfl ?_
      refine kw_gi_e x_E_add_50 (by exact isE_k hC) (by first | exact hV.1 | exact kt_u1_na (by omega) (hV.1) | exact kt_u1_na (by omega) (kt_u1_na (by omega) (hV.1)) | exact kt_u1_na (by omega) (kt_u1_na (by omega) (kt_u1_na (by omega) (hV.1))) | exact kt_u1_na (by omega) (kt_u1_na (by omega) (kt_u1_na (by omega) (kt_u1_na (by omega) (hV.1)))) | exact kt_u1_na (by omega) (kt_u1_na (by omega) (kt_u1_na (by omega) (kt_u1_na (by omega) (kt_u1_na (by omega) (hV.1))))) | exact kt_u1_na (by omega) (kt_u1_na (by omega) (kt_u1_na (by omega) (kt_u1_na (by omega) (kt_u1_na (by omega) (kt_u1_na (by omega) (hV.1)))))) | exact kt_u1_na (by omega) (kt_u1_na (by omega) (kt_u1_na (by omega) (kt_u1_na (by omega) (kt_u1_na (by omega) (kt_u1_na (by omega) (kt_u1_na (by omega) (hV.1))))))) | exact kt_u1_eq | exact rfl) ?_
      refine kw_ild x_E_add_53 rfl ?_
      refine kw_iast_n x_E_add_55 (by first | exact isC_a5 hC | exact isC_a6 hC | exact isC_a7 hC | exact isC_a8 hC | exact isC_a9 hC | exact isC_a10 hC | exact isC_a11 hC | exact isC_a12 hC) (by omega) (by omega) ?_
      refine kw_ald_n x_E_add_56 rfl ?_
      refine kw_gr x_E_add_57 (by exact isE_k hC) (by exact isE_r5 hC) ?_
      refine kw_ald_n x_E_add_60 rfl ?_
      refine kw_gi_e x_E_add_61 (by exact isE_k hC) (by first | exact hV.1 | exact kt_u1_na (by omega) (hV.1) | exact kt_u1_na (by omega) (kt_u1_na (by omega) (hV.1)) | exact kt_u1_na (by omega) (kt_u1_na (by omega) (kt_u1_na (by omega) (hV.1))) | exact kt_u1_na (by omega) (kt_u1_na (by omega) (kt_u1_na (by omega) (kt_u1_na (by omega) (hV.1)))) | exact kt_u1_na (by omega) (kt_u1_na (by omega) (kt_u1_na (by omega) (kt_u1_na (by omega) (kt_u1_na (by omega) (hV.1))))) | exact kt_u1_na (by omega) (kt_u1_na (by omega) (kt_u1_na (by omega) (kt_u1_na (by omega) (kt_u1_na (by omega) (kt_u1_na (by omega) (hV.1)))))) | exact kt_u1_na (by omega) (kt_u1_na (by omega) (kt_u1_na (by omega) (kt_u1_na (by omega) (kt_u1_na (by omega) (kt_u1_na (by omega) (kt_u1_na (by omega) (hV.1))))))) | exact kt_u1_eq | exact rfl) ?_
      refine kw_ild x_E_add_64 rfl ?_
      refine kw_iast_n x_E_add_66 (by first | exact isC_a5 hC | exact isC_a6 hC | exact isC_a7 hC | exact isC_a8 hC | exact isC_a9 hC | exact isC_a10 hC | exact isC_a11 hC | exact isC_a12 hC) (by omega) (by omega) ?_
      refine kw_ald_n x_E_add_67 rfl ?_
      refine kw_gr x_E_add_68 (by exact isE_k hC) (by exact isE_r6 hC) ?_
      refine kw_ald_n x_E_add_71 rfl ?_
      refine kw_gi_e x_E_add_72 (by exact isE_k hC) (by first | exact hV.1 | exact kt_u1_na (by omega) (hV.1) | exact kt_u1_na (by omega) (kt_u1_na (by omega) (hV.1)) | exact kt_u1_na (by omega) (kt_u1_na (by omega) (kt_u1_na (by omega) (hV.1))) | exact kt_u1_na (by omega) (kt_u1_na (by omega) (kt_u1_na (by omega) (kt_u1_na (by omega) (hV.1)))) | exact kt_u1_na (by omega) (kt_u1_na (by omega) (kt_u1_na (by omega) (kt_u1_na (by omega) (kt_u1_na (by omega) (hV.1))))) | exact kt_u1_na (by omega) (kt_u1_na (by omega) (kt_u1_na (by omega) (kt_u1_na (by omega) (kt_u1_na (by omega) (kt_u1_na (by omega) (hV.1)))))) | exact kt_u1_na (by omega) (kt_u1_na (by omega) (kt_u1_na (by omega) (kt_u1_na (by omega) (kt_u1_na (by omega) (kt_u1_na (by omega) (kt_u1_na (by omega) (hV.1))))))) | exact kt_u1_eq | exact rfl) ?_
      refine kw_bip x_E_add_75 ?_
      refine kw_iast_n x_E_add_77 (by first | exact isC_a5 hC | exact isC_a6 hC | exact isC_a7 hC | exact isC_a8 hC | exact isC_a9 hC | exact isC_a10 hC | exact isC_a11 hC | exact isC_a12 hC) (by omega) (by omega) ?_
      refine kw_ald_n x_E_add_78 rfl ?_
      refine kw_gr x_E_add_79 (by exact isE_k hC) (by exact isE_r7 hC) ?_
      refine kw_ald_n x_E_add_82 rfl ?_
      refine kw_gi_e x_E_add_83 (by exact isE_k hC) (by first | exact hV.1 | exact kt_u1_na (by omega) (hV.1) | exact kt_u1_na (by omega) (kt_u1_na (by omega) (hV.1)) | exact kt_u1_na (by omega) (kt_u1_na (by omega) (kt_u1_na (by omega) (hV.1))) | exact kt_u1_na (by omega) (kt_u1_na (by omega) (kt_u1_na (by omega) (kt_u1_na (by omega) (hV.1)))) | exact kt_u1_na (by omega) (kt_u1_na (by omega) (kt_u1_na (by omega) (kt_u1_na (by omega) (kt_u1_na (by omega) (hV.1))))) | exact kt_u1_na (by omega) (kt_u1_na (by omega) (kt_u1_na (by omega) (kt_u1_na (by omega) (kt_u1_na (by omega) (kt_u1_na (by omega) (hV.1)))))) | exact kt_u1_na (by omega) (kt_u1_na (by omega) (kt_u1_na (by omega) (kt_u1_na (by omega) (kt_u1_na (by omega) (kt_u1_na (by omega) (kt_u1_na (by omega) (hV.1))))))) | exact kt_u1_eq | exact rfl) ?_
      refine kw_bip x_E_add_86 ?_
      refine kw_iast_n x_E_add_88 (by first | exact isC_a5 hC | exact isC_a6 hC | exact isC_a7 hC | exact isC_a8 hC | exact isC_a9 hC | exact isC_a10 hC | exact isC_a11 hC | exact isC_a12 hC) (by omega) (by omega) ?_
      refine kw_ald_n x_E_add_89 rfl ?_
      refine kw_dup x_E_add_90 rfl ?_
      refine kw_gi_e x_E_add_91 (by exact isE_k hC) (by first | exact hV.1 | exact kt_u1_na (by omega) (hV.1) | exact kt_u1_na (by omega) (kt_u1_na (by omega) (hV.1)) | exact kt_u1_na (by omega) (kt_u1_na (by omega) (kt_u1_na (by omega) (hV.1))) | exact kt_u1_na (by omega) (kt_u1_na (by omega) (kt_u1_na (by omega) (kt_u1_na (by omega) (hV.1)))) | exact kt_u1_na (by omega) (kt_u1_na (by omega) (kt_u1_na (by omega) (kt_u1_na (by omega) (kt_u1_na (by omega) (hV.1))))) | exact kt_u1_na (by omega) (kt_u1_na (by omega) (kt_u1_na (by omega) (kt_u1_na (by omega) (kt_u1_na (by omega) (kt_u1_na (by omega) (hV.1)))))) | exact kt_u1_na (by omega) (kt_u1_na (by omega) (kt_u1_na (by omega) (kt_u1_na (by omega) (kt_u1_na (by omega) (kt_u1_na (by omega) (kt_u1_na (by omega) (hV.1))))))) | exact kt_u1_eq | exact rfl) ?_
      refine kw_icon x_E_add_94 ?_
      first | refine kw_iadd_n x_E_add_95 ?_ | refine kw_iadd x_E_add_95 ?_
      refine kw_pi x_E_add_96 (by exact isE_k hC) ?_
      refine kw_ald_n x_E_add_99 rfl ?_
      refine kw_gi_e x_E_add_100 (by exact isE_k hC) (by first | exact hV.1 | exact kt_u1_na (by omega) (hV.1) | exact kt_u1_na (by omega) (kt_u1_na (by omega) (hV.1)) | exact kt_u1_na (by omega) (kt_u1_na (by omega) (kt_u1_na (by omega) (hV.1))) | exact kt_u1_na (by omega) (kt_u1_na (by omega) (kt_u1_na (by omega) (kt_u1_na (by omega) (hV.1)))) | exact kt_u1_na (by omega) (kt_u1_na (by omega) (kt_u1_na (by omega) (kt_u1_na (by omega) (kt_u1_na (by omega) (hV.1))))) | exact kt_u1_na (by omega) (kt_u1_na (by omega) (kt_u1_na (by omega) (kt_u1_na (by omega) (kt_u1_na (by omega) (kt_u1_na (by omega) (hV.1)))))) | exact kt_u1_na (by omega) (kt_u1_na (by omega) (kt_u1_na (by omega) (kt_u1_na (by omega) (kt_u1_na (by omega) (kt_u1_na (by omega) (kt_u1_na (by omega) (hV.1))))))) | exact kt_u1_eq | exact rfl) ?_
      refine kw_icon x_E_add_103 ?_
      first | refine kw_isub_n x_E_add_104 (by omega) ?_ | refine kw_isub x_E_add_104 ?_
      refine kw_iret x_E_add_105 ?_
      first
        | exact k0 (Nat.le_antisymm hn (Nat.not_lt.mp fun q => kt_nT (T := 60) (by decide) h9 ⟨_, q, rfl⟩))
        | (refine k hlt _ (fun a h1 h2 => ?_) (fun j hj => ?_) kt_u1_eq (fun f e hf => ?_)
           · rw [kt_u1_ne _ _ _ (by omega), kt_u1_ne _ _ _ (by omega), kt_u1_ne _ _ _ (by omega), kt_u1_ne _ _ _ (by omega), kt_u1_ne _ _ _ (by omega), kt_u1_ne _ _ _ (by omega), kt_u1_ne _ _ _ (by omega), kt_u1_ne _ _ _ (by omega)]
           · exact kt_u1_nj hj (kt_u1_na (by omega) (kt_u1_na (by omega) (kt_u1_na (by omega) (kt_u1_na (by omega) (kt_u1_na (by omega) (kt_u1_na (by omega) (kt_u1_na (by omega) rfl)))))))
           · have hf7 : f = 0 ∨ f = 1 ∨ f = 2 ∨ f = 3 ∨ f = 4 ∨ f = 5 ∨ f = 6 := (by omega)
             rcases hf7 with rfl | rfl | rfl | rfl | rfl | rfl | rfl <;> simp [kt_u1, kt_av, show ¬ c + 5 = c + 4 by omega])
  · first
    | exfalso; omega
    | skip
      refine kw_bip x_E_add_12 ?_
      refine kw_iret x_E_add_14 ?_
      first
        | exact k0 (Nat.le_antisymm hn (Nat.not_lt.mp fun q => kt_nT (T := 60) (by decide) h9 ⟨_, q, rfl⟩))
        | (refine k hlt _ (fun a h1 h2 => ?_) (fun j hj => ?_) kt_u1_eq (fun f e hf => ?_)
           · rw [kt_u1_ne _ _ _ (by omega), kt_u1_ne _ _ _ (by omega), kt_u1_ne _ _ _ (by omega), kt_u1_ne _ _ _ (by omega), kt_u1_ne _ _ _ (by omega), kt_u1_ne _ _ _ (by omega), kt_u1_ne _ _ _ (by omega), kt_u1_ne _ _ _ (by omega)]
           · exact kt_u1_nj hj (kt_u1_na (by omega) (kt_u1_na (by omega) (kt_u1_na (by omega) (kt_u1_na (by omega) (kt_u1_na (by omega) (kt_u1_na (by omega) (kt_u1_na (by omega) rfl)))))))
           · have hf7 : f = 0 ∨ f = 1 ∨ f = 2 ∨ f = 3 ∨ f = 4 ∨ f = 5 ∨ f = 6 := (by omega)
             rcases hf7 with rfl | rfl | rfl | rfl | rfl | rfl | rfl <;> simp [kt_u1, kt_av, show ¬ c + 5 = c + 4 by omega])
end CE
