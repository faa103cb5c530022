/-! the reference: a new event -/
def xnv (X : kt_X) (t kd gd pi pe wh : Nat) : Nat → Nat
  | 0 => kd
  | 1 => t
  | 2 => xc X t + 1
  | 3 => gd
  | 4 => pi
  | 5 => pe
  | 6 => wh
  | 7 => 2 ^ t
  | _ => 0
def xnew (X : kt_X) (t kd gd pi pe wh : Nat) : kt_X := (xr X, xT X, xn X + 1, xup (xc X) t (xc X t + 1), fun e f => if e = xn X then xnv X t kd gd pi pe wh f else xe X e f)
/-- apologies behind a change from X to Y -/
def xapo (X Y : kt_X) : kt_X := (xat (xac X) (xT Y) Y).1
def kt_ep (S : Nat → Int32) (X : kt_X) (t : Nat) (vals : Nat → Int32) (k : Nat) : Prop := S 0 = nI (xr X) ∧ S 1 = nI (xT X) ∧ S 2 = nI (xn X + 1) ∧ (∀ t', t' < 5 → S (3 + t') = nI (xup (xc X) t (xc X t + 1) t')) ∧ (∀ e f, e < xn X → f < 9 → S (8 + 9 * e + f) = kt_cd f (xe X e f)) ∧ ∀ f, f < k → S (8 + 9 * xn X + f) = vals f
theorem kt_ep.s {I : kt_I} {a : Nat} {X : kt_X} {t : Nat} {vals : Nat → Int32} {k : Nat} (h : kt_ep (I a) X t vals k) {v : Int32} (hv : v = vals k) : kt_ep (kt_u1 I a (8 + 9 * xn X + k) v a) X t vals (k + 1) := by
  obtain ⟨h1, h2, h3, h4, h5, h6⟩ := h
  have key : ∀ j, j ≠ 8 + 9 * xn X + k → kt_u1 I a (8 + 9 * xn X + k) v a j = I a j := fun j hj => by simp [kt_u1, hj]
  refine ⟨by rw [key 0 (by omega)]; exact h1, by rw [key 1 (by omega)]; exact h2, by rw [key 2 (by omega)]; exact h3, fun t' ht => ?_, fun e f he hf => ?_, fun f hf => ?_⟩
  · by_cases hc : 3 + t' = 8 + 9 * xn X + k
    · omega
    · rw [key _ hc]; exact h4 t' ht
  · by_cases hc : 8 + 9 * e + f = 8 + 9 * xn X + k
    · omega
    · rw [key _ hc]; exact h5 e f he hf
  · by_cases hc : f = k
    · subst hc
      rw [hv.symm]
      simp [kt_u1]
    · rw [key _ (by omega)]
      exact h6 f (by omega)
theorem kt_ep.fin {S : Nat → Int32} {X : kt_X} {t kd gd pi pe wh : Nat} (h : kt_ep S X t (fun f => kt_cd f (xnv X t kd gd pi pe wh f)) 9) : kt_enc S (xnew X t kd gd pi pe wh) := by
  obtain ⟨h1, h2, h3, h4, h5, h6⟩ := h
  refine ⟨h1, h2, h3, h4, fun e f he hf => ?_⟩
  have he2 : e < xn X + 1 := he
  show _ = kt_cd f (if e = xn X then xnv X t kd gd pi pe wh f else xe X e f)
  by_cases hc : e = xn X
  · rw [if_pos hc, hc]
    exact h6 f hf
  · rw [if_neg hc]
    exact h5 e f (by omega) hf
theorem kt_sh1 : ∀ t, t < 5 → nI 1 <<< (nI t &&& 31) = nI (2 ^ t) := by decide +kernel
section MN
variable {P : kt_P} {N : Nat} {I : kt_I} {J : kt_J} {R : kt_R} {Q : Option Value → kt_I → kt_J → kt_R → Prop} {m : Nat} {X : kt_X}

theorem s_M_makes (hM : kt_isM P N R m) (hE : kt_enc (I (m + 1)) X) (hW : kt_wf X) {np : Nat} {PX : Nat → kt_X} {bo : Bool} (hpa : kt_pa m np PX I) (hbo : I m 5 = kt_bo bo) {t kd gd pi pe wh : Nat} (ht : t < xT X) (hn6 : xn X < 60) (hWn : kt_wf (xnew X t kd gd pi pe wh))
    (k : ∀ I', kt_lc m I I' → kt_enc (I' (m + 1)) (xapo X (xnew X t kd gd pi pe wh)) → kt_pa m (xqn bo np) (xqp bo np PX X) I' → Q (some (.int (nI (xn X)))) I' J R) :
    KW P i_M_makes N 0 [some (.ref m), some (.int (nI t)), some (.int (nI kd)), some (.int (nI gd)), some (.int (nI pi)), some (.int (kt_cd 5 pe)), some (.int (kt_cd 6 wh)), none] [] N I J R Q := by
  have hT := hW.2.1
  refine kw_ald_n x_M_makes_0 rfl ?_
  refine c_M_makes_1 (by exact isM_k hM) (Nat.le_of_ble_eq_true rfl) ?_
  refine s_M_changes hM hE hW hpa hbo (fun I2 hl2 hE hpa2 hA => ?_)
  have hck : kt_u1 I2 (m + 1) 2 (nI (xn X + 1)) (m + 1) (3 + t) = nI (xc X t) := (by simp [kt_u1, show ¬ 3 + t = 2 by omega]; exact hE.2.2.2.1 t (by omega))
  have hck2 : ∀ (v w a b : Int32) (c : Nat), kt_u1 (kt_u1 (kt_u1 (kt_u1 I2 (m + 1) 2 v) (m + 1) (3 + t) w) (m + 1) (8 + 9 * xn X + 0) a) (m + 1) (8 + 9 * xn X + 1) b (m + 1) (3 + t) = w := (fun v w a b c => by simp [kt_u1, show ¬ 3 + t = 8 + 9 * xn X + 1 by omega, show ¬ 3 + t = 8 + 9 * xn X by omega])
  refine kw_ald_n x_M_makes_4 rfl ?_
  refine kw_gr x_M_makes_5 (by exact isM_k hM) (by exact isM_r0 hM) ?_
  refine kw_icon x_M_makes_8 ?_
  refine kw_iald_n x_M_makes_9 (by first | exact isM_a1 hM | exact isM_a2 hM | exact isM_a3 hM | exact isM_a4 hM | exact isM_a5 hM | exact isM_a6 hM | exact isM_a7 hM | exact isM_a8 hM | exact isM_a10 hM | exact isM_a11 hM) (by omega) (by omega) (by first | exact hE.1 | exact hE.2.1 | exact hE.2.2.1 | exact hck | exact (hck2 _ _ _ _ 0) | exact rfl) ?_
  refine kw_ist x_M_makes_10 (by decide) ?_
  refine kw_ald_n x_M_makes_12 rfl ?_
  refine kw_gr x_M_makes_13 (by exact isM_k hM) (by exact isM_r0 hM) ?_
  refine kw_icon x_M_makes_16 ?_
  refine kw_dup2 x_M_makes_17 rfl rfl ?_
  refine kw_iald_n x_M_makes_18 (by first | exact isM_a1 hM | exact isM_a2 hM | exact isM_a3 hM | exact isM_a4 hM | exact isM_a5 hM | exact isM_a6 hM | exact isM_a7 hM | exact isM_a8 hM | exact isM_a10 hM | exact isM_a11 hM) (by omega) (by omega) (by first | exact hE.1 | exact hE.2.1 | exact hE.2.2.1 | exact hck | exact (hck2 _ _ _ _ 0) | exact rfl) ?_
  refine kw_icon x_M_makes_19 ?_
  first | refine kw_iadd_n x_M_makes_20 ?_ | refine kw_iadd x_M_makes_20 ?_
  refine kw_iast_n x_M_makes_21 (by first | exact isM_a1 hM | exact isM_a2 hM | exact isM_a3 hM | exact isM_a4 hM | exact isM_a5 hM | exact isM_a6 hM | exact isM_a7 hM | exact isM_a8 hM | exact isM_a10 hM | exact isM_a11 hM) (by omega) (by omega) ?_
  refine kw_ald_n x_M_makes_22 rfl ?_
  refine kw_gr x_M_makes_23 (by exact isM_k hM) (by exact isM_r0 hM) ?_
  refine kw_icon x_M_makes_26 ?_
  refine kw_ild_n x_M_makes_27 rfl ?_
  first | refine kw_iadd_n x_M_makes_28 ?_ | refine kw_iadd x_M_makes_28 ?_
  refine kw_dup2 x_M_makes_29 rfl rfl ?_
  refine kw_iald_n x_M_makes_30 (by first | exact isM_a1 hM | exact isM_a2 hM | exact isM_a3 hM | exact isM_a4 hM | exact isM_a5 hM | exact isM_a6 hM | exact isM_a7 hM | exact isM_a8 hM | exact isM_a10 hM | exact isM_a11 hM) (by omega) (by omega) (by first | exact hE.1 | exact hE.2.1 | exact hE.2.2.1 | exact hck | exact (hck2 _ _ _ _ 0) | exact rfl) ?_
  refine kw_icon x_M_makes_31 ?_
  first | refine kw_iadd_n x_M_makes_32 ?_ | refine kw_iadd x_M_makes_32 ?_
  refine kw_iast_n x_M_makes_33 (by first | exact isM_a1 hM | exact isM_a2 hM | exact isM_a3 hM | exact isM_a4 hM | exact isM_a5 hM | exact isM_a6 hM | exact isM_a7 hM | exact isM_a8 hM | exact isM_a10 hM | exact isM_a11 hM) (by omega) (by omega) ?_
  refine kw_ald_n x_M_makes_34 rfl ?_
  refine kw_ild x_M_makes_35 rfl ?_
  refine kw_icon x_M_makes_37 ?_
  refine kw_ild_n x_M_makes_38 rfl ?_
  refine c_M_makes_39 (by exact isM_k hM) (Nat.le_of_ble_eq_true rfl) ?_
  refine s_M_puts hM (by omega) (by decide) ?_
  refine kw_ald_n x_M_makes_42 rfl ?_
  refine kw_ild x_M_makes_43 rfl ?_
  refine kw_icon x_M_makes_45 ?_
  refine kw_ild_n x_M_makes_46 rfl ?_
  refine c_M_makes_47 (by exact isM_k hM) (Nat.le_of_ble_eq_true rfl) ?_
  refine s_M_puts hM (by omega) (by decide) ?_
  refine kw_ald_n x_M_makes_50 rfl ?_
  refine kw_ild x_M_makes_51 rfl ?_
  refine kw_icon x_M_makes_53 ?_
  refine kw_ald_n x_M_makes_54 rfl ?_
  refine kw_gr x_M_makes_55 (by exact isM_k hM) (by exact isM_r0 hM) ?_
  refine kw_icon x_M_makes_58 ?_
  refine kw_ild_n x_M_makes_59 rfl ?_
  first | refine kw_iadd_n x_M_makes_60 ?_ | refine kw_iadd x_M_makes_60 ?_
  refine kw_iald_n x_M_makes_61 (by first | exact isM_a1 hM | exact isM_a2 hM | exact isM_a3 hM | exact isM_a4 hM | exact isM_a5 hM | exact isM_a6 hM | exact isM_a7 hM | exact isM_a8 hM | exact isM_a10 hM | exact isM_a11 hM) (by omega) (by omega) (by first | exact hE.1 | exact hE.2.1 | exact hE.2.2.1 | exact hck | exact (hck2 _ _ _ _ 0) | exact rfl) ?_
  refine c_M_makes_62 (by exact isM_k hM) (Nat.le_of_ble_eq_true rfl) ?_
  refine s_M_puts hM (by omega) (by decide) ?_
  refine kw_ald_n x_M_makes_65 rfl ?_
  refine kw_ild x_M_makes_66 rfl ?_
  refine kw_icon x_M_makes_68 ?_
  refine kw_ild_n x_M_makes_69 rfl ?_
  refine c_M_makes_70 (by exact isM_k hM) (Nat.le_of_ble_eq_true rfl) ?_
  refine s_M_puts hM (by omega) (by decide) ?_
  refine kw_ald_n x_M_makes_73 rfl ?_
  refine kw_ild x_M_makes_74 rfl ?_
  refine kw_icon x_M_makes_76 ?_
  refine kw_ild x_M_makes_77 rfl ?_
  refine c_M_makes_79 (by exact isM_k hM) (Nat.le_of_ble_eq_true rfl) ?_
  refine s_M_puts hM (by omega) (by decide) ?_
  refine kw_ald_n x_M_makes_82 rfl ?_
  refine kw_ild x_M_makes_83 rfl ?_
  refine kw_icon x_M_makes_85 ?_
  refine kw_ild x_M_makes_86 rfl ?_
  refine c_M_makes_88 (by exact isM_k hM) (Nat.le_of_ble_eq_true rfl) ?_
  refine s_M_puts hM (by omega) (by decide) ?_
  refine kw_ald_n x_M_makes_91 rfl ?_
  refine kw_ild x_M_makes_92 rfl ?_
  refine kw_bip x_M_makes_94 ?_
  refine kw_ild x_M_makes_96 rfl ?_
  refine c_M_makes_98 (by exact isM_k hM) (Nat.le_of_ble_eq_true rfl) ?_
  refine s_M_puts hM (by omega) (by decide) ?_
  refine kw_ald_n x_M_makes_101 rfl ?_
  refine kw_ild x_M_makes_102 rfl ?_
  refine kw_bip x_M_makes_104 ?_
  refine kw_icon x_M_makes_106 ?_
  refine kw_ild_n x_M_makes_107 rfl ?_
  refine kw_ishl x_M_makes_108 ?_
  refine c_M_makes_109 (by exact isM_k hM) (Nat.le_of_ble_eq_true rfl) ?_
  refine s_M_puts hM (by omega) (by decide) ?_
  refine kw_ald_n x_M_makes_112 rfl ?_
  refine kw_ild x_M_makes_113 rfl ?_
  refine kw_bip x_M_makes_115 ?_
  refine kw_icon x_M_makes_117 ?_
  refine c_M_makes_118 (by exact isM_k hM) (Nat.le_of_ble_eq_true rfl) ?_
  refine s_M_puts hM (by omega) (by decide) ?_
  have h0 : kt_ep (kt_u1 (kt_u1 I2 (m + 1) 2 (nI (xn X + 1))) (m + 1) (3 + t) (nI (xc X t + 1)) (m + 1)) X t (fun f => kt_cd f (xnv X t kd gd pi pe wh f)) 0 := by
    have key : ∀ j, j ≠ 2 → j ≠ 3 + t → kt_u1 (kt_u1 I2 (m + 1) 2 (nI (xn X + 1))) (m + 1) (3 + t) (nI (xc X t + 1)) (m + 1) j = I2 (m + 1) j := fun j h1 h2 => by simp [kt_u1, h1, h2]
    refine ⟨by rw [key 0 (by omega) (by omega)]; exact hE.1, by rw [key 1 (by omega) (by omega)]; exact hE.2.1, by simp [kt_u1, show ¬ 2 = 3 + t by omega], fun t' ht' => ?_, fun e f he hf => by rw [key _ (by omega) (by omega)]; exact hE.2.2.2.2 e f he hf, fun f hf => absurd hf (Nat.not_lt_zero f)⟩
    by_cases hc : t' = t
    · subst hc
      rw [xup_eq]
      simp [kt_u1]
    · rw [xup_ne _ _ hc, key _ (by omega) (by omega)]
      exact hE.2.2.2.1 t' ht'
  have hE := ((((((((((h0.s (v := nI kd) (by rfl)).s (v := nI t) (by rfl)).s (v := nI (xc X t + 1)) (by rfl)).s (v := nI gd) (by rfl)).s (v := nI pi) (by rfl)).s (v := kt_cd 5 pe) (by rfl)).s (v := kt_cd 6 wh) (by rfl)).s (v := nI 1 <<< (nI t &&& 31)) (by rw [kt_sh1 t (by omega)]; rfl)).s (v := nI 0) (by rfl)).fin)
  have hTn : xT (xnew X t kd gd pi pe wh) = xT X := rfl
  refine kw_ald_n x_M_makes_121 rfl ?_
  refine kw_ald_n x_M_makes_122 rfl ?_
  refine kw_gr x_M_makes_123 (by exact isM_k hM) (by exact isM_r0 hM) ?_
  refine kw_icon x_M_makes_126 ?_
  refine kw_iald_n x_M_makes_127 (by first | exact isM_a1 hM | exact isM_a2 hM | exact isM_a3 hM | exact isM_a4 hM | exact isM_a5 hM | exact isM_a6 hM | exact isM_a7 hM | exact isM_a8 hM | exact isM_a10 hM | exact isM_a11 hM) (by omega) (by omega) (by first | exact hE.1 | exact hE.2.1 | exact hE.2.2.1 | exact hck | exact (hck2 _ _ _ _ 0) | exact rfl) ?_
  refine c_M_makes_128 (by exact isM_k hM) (Nat.le_of_ble_eq_true rfl) ?_
  refine s_M_apologizes hM hE hWn (ac := xac X) (fun t' e ht' he => by simp only [kt_u1_ne _ _ _ (show m + 9 ≠ m + 1 by omega)]; exact hA t' e ht' he) (fun I3 hl3 hE3 => ?_)
  refine kw_pop x_M_makes_131 rfl ?_
  refine kw_ild x_M_makes_132 rfl ?_
  refine kw_iret x_M_makes_134 ?_
  exact k I3 ((hl2.tr ⟨fun a _ h2 _ _ _ _ _ => by simp only [kt_u1_ne _ _ _ h2], fun j _ _ => by simp [kt_u1]⟩).tr hl3.lc) hE3 (hpa2.same (by rw [hl3.2 4 (by decide)]; simp [kt_u1]) (by rw [hl3.1 _ (by omega) (by omega) (by omega) (by omega) (by omega)]; simp only [kt_u1_ne _ _ _ (show m + 2 ≠ m + 1 by omega)]))
end MN
