theorem xstk_le {X : kt_X} (h : kt_wf X) (t g : Nat) : ∀ e, e ≤ xn X → xstk X t g e ≤ 99 * e
  | 0, _ => Nat.le_refl _
  | e + 1, he => by
    have h1 := xstk_le h t g e (by omega)
    have h2 := (h.2.2.2.2.2.1 e (by omega)).2.2.2.2.1.2
    unfold xstk
    by_cases hc : xe X e 0 = 0 ∧ xe X e 3 = g ∧ xk X t e = true
    · rw [if_pos hc]; omega
    · rw [if_neg hc]; omega
theorem xsp_lw {X : kt_X} {t g : Nat} {s : kt_σ} (hw : kt_lw X t g s) {p : Nat} (hp : xpk X t g s.2.1 s.2.2.1 (xn X) = some p) : kt_lw X t g (xsp X s p) := by
  obtain ⟨le, G, st, c, r⟩ := s
  obtain ⟨h1, h2, h3⟩ := hw
  simp only at h1 h2 h3 hp
  have hpp := xpk_some hp
  have hst : st p = 3 := by
    have := hpp.2
    simp [xop] at this
    exact this.1.1.1
  have key : ∀ v, v < 3 → c + 1 + xct (xop X t g (xup st p v)) (xn X) ≤ xn X := by
    intro v hv
    have := xct_drop (f := xop X t g st) (g := xop X t g (xup st p v)) hpp.1 hpp.2 (by simp [xop, xup]; omega) (fun e he => by simp [xop, xup, he])
    omega
  have h4 : ∀ v, v < 4 → ∀ e, xup st p v e < 4 := by
    intro v hv e
    by_cases he : e = p
    · subst he; rw [xup_eq]; exact hv
    · rw [xup_ne _ _ he]; exact h1 e
  unfold xsp
  by_cases hc : xe X p 4 ≤ le
  · simp only [if_pos hc]
    refine ⟨h4 0 (by omega), fun q => ?_, key 0 (by omega)⟩
    have := h2 q
    by_cases hq : q = xe X p 5 - 1
    · simp only [hq, xup_eq]
      rw [← hq]
      omega
    · simp only [xup_ne _ _ hq]
      omega
  · simp only [if_neg hc]
    exact ⟨h4 1 (by omega), h2, key 1 (by omega)⟩
section MK
variable {P : kt_P} {N : Nat} {I : kt_I} {J : kt_J} {R : kt_R} {Q : Option Value → kt_I → kt_J → kt_R → Prop} {m : Nat} {X : kt_X}

theorem s_M_looks_dec (hM : kt_isM P N R m) (hE : kt_enc (I (m + 1)) X) (hW : kt_wf X) {t g le c p : Nat} {G s r : Nat → Nat} (hS : kt_le m (xn X) (le, G, s, c, r) I) (hw : kt_lw X t g (le, G, s, c, r)) (hp : xpk X t g G s (xn X) = some p)
    (k : ∀ I' v5 v6, kt_lm m I I' → kt_le m (xn X) (xsp X (le, G, s, c, r) p) I' → KW P i_M_looks N 39 [some (.ref m), some (.int (nI t)), some (.int (nI g)), some (.int (nI (xsp X (le, G, s, c, r) p).1)), some (.int (nI p)), v5, v6] [] N I' J R Q) (v5 v6 : Option Value) :
    KW P i_M_looks N 149 [some (.ref m), some (.int (nI t)), some (.int (nI g)), some (.int (nI le)), some (.int (nI p)), v5, v6] [] N I J R Q := by
  have hn := hW.2.2.1
  obtain ⟨hpn, hpo⟩ := xpk_some hp
  have hk1 : xe X p 0 = 1 := by
    simp [xop] at hpo
    exact hpo.1.1.2
  have hx := hW.2.2.2.2.2.1 p hpn
  have hx4 := hx.2.2.2.2.1
  have hx5 := hx.2.2.2.2.2.1.2.1 (by omega)
  have hx52 := hx.2.2.2.2.2.1.2.2
  obtain ⟨hw1, hw2, hw3⟩ := hw
  obtain ⟨hS1, hG, hL, hRw⟩ := hS
  simp only at hw1 hw2 hw3 hS1 hG hL hRw
  have hct := xct_pos hpn hpo
  have hle := hw2 0
  have hgq := hw2 (xe X p 5 - 1)
  have hG1 : ∀ p a q, q < 10 → kt_u1 I (m + 6) p a (m + 8) q = nI (G q) := fun p a q hq => by rw [kt_u1_ne I p a (by omega)]; exact hG q hq
  have hL2 : ∀ p a q b, kt_u1 (kt_u1 I (m + 6) p a) (m + 8) q b m 10 = nI c := fun p a q b => by rw [kt_u1_ne _ q b (by omega), kt_u1_ne _ p a (by omega)]; exact hL
  have hL3 : ∀ p a q b r d, kt_u1 (kt_u1 (kt_u1 I (m + 6) p a) (m + 8) q b) (m + 7) r d m 10 = nI c := fun p a q b r d => by rw [kt_u1_ne _ r d (by omega)]; exact hL2 p a q b
  have hlm : ∀ a b d f, kt_lm m I (kt_u1 (kt_u1 (kt_u1 (kt_u1 I (m + 6) p a) (m + 8) (xe X p 5 - 1) b) (m + 7) c d) m 10 f) := fun a b d f =>
    ⟨fun q h1 h2 h3 h4 => by rw [kt_u1_ne _ _ _ h1, kt_u1_ne _ _ _ h3, kt_u1_ne _ _ _ h4, kt_u1_ne _ _ _ h2], fun j hj => by simp [kt_u1, hj]⟩
  have hle4 : ∀ a b v w, a = nI v → v < 3 → b = nI w → kt_le m (xn X) (le, xup G (xe X p 5 - 1) w, xup s p v, c + 1, xup r c p) (kt_u1 (kt_u1 (kt_u1 (kt_u1 I (m + 6) p a) (m + 8) (xe X p 5 - 1) b) (m + 7) c (nI p)) m 10 (nI (c + 1))) := by
    intro a b v w ha hv hb
    subst ha; subst hb
    refine ⟨fun e he => ?_, fun q hq => ?_, ?_, fun j hj => ?_⟩
    · rw [kt_u1_ne _ _ _ (by omega), kt_u1_ne _ _ _ (by omega), kt_u1_ne _ _ _ (by omega)]
      by_cases h : e = p
      · subst h
        simp only [xup_eq]
        rw [kt_sc_n hv]
        simp [kt_u1]
      · simp only [xup_ne _ _ h]
        simp [kt_u1, h]
        exact hS1 e he
    · rw [kt_u1_ne _ _ _ (by omega), kt_u1_ne _ _ _ (by omega)]
      by_cases h : q = xe X p 5 - 1
      · subst h
        simp only [xup_eq]
        simp [kt_u1]
      · simp only [xup_ne _ _ h]
        simp [kt_u1, h]
        exact hG q hq
    · simp [kt_u1]
    · rw [kt_u1_ne _ _ _ (by omega)]
      by_cases h : j = c
      · subst h
        simp only [xup_eq]
        simp [kt_u1]
      · simp only [xup_ne _ _ h]
        simp [kt_u1, h]
        exact hRw j (by simp only at hj; omega)
  refine kw_ild x_M_looks_149 rfl ?_
  first | refine kw_if_lt_s x_M_looks_151 ⟨by omega, by omega⟩ (fun h151 => ?_) (fun h151 => ?_) | refine kw_if_lt_n x_M_looks_151 (by omega) (fun h151 => ?_) (fun h151 => ?_) | refine kw_if_lt x_M_looks_151 (fun h151 => ?_) (fun h151 => ?_)
  · first
    | exfalso; omega
    | skip
      first
        | (have hs : xsp X (le, G, s, c, r) p = (le - xe X p 4, xup G (xe X p 5 - 1) (G (xe X p 5 - 1) + xe X p 4), xup s p 0, c + 1, xup r c p) := (by unfold xsp; rw [if_pos (show xe X p 4 ≤ le by omega)])
           rw [hs] at k
           exact k _ _ _ (hlm _ _ _ _) (hle4 _ _ 0 _ rfl (by omega) rfl))
        | (have hs : xsp X (le, G, s, c, r) p = (le, G, xup s p 1, c + 1, xup r c p) := (by unfold xsp; rw [if_neg (show ¬ xe X p 4 ≤ le by omega)])
           have hg0 : xup G (xe X p 5 - 1) (G (xe X p 5 - 1) + 0) = G := (by funext q; by_cases hq : q = xe X p 5 - 1; (subst hq; rw [xup_eq]; rfl); (rw [xup_ne _ _ hq]))
           rw [hs] at k
           have h9 := hle4 (nI 1) (nI (G (xe X p 5 - 1) + 0)) 1 _ rfl (by omega) rfl
           rw [hg0] at h9
           exact k _ _ _ (hlm _ _ _ _) h9)
  · first
    | exfalso; omega
    | skip
      refine kw_ald_n x_M_looks_154 rfl ?_
      refine kw_ild x_M_looks_155 rfl ?_
      refine kw_icon x_M_looks_157 ?_
      refine c_M_looks_158 (by exact isM_k hM) (Nat.le_of_ble_eq_true rfl) ?_
      first | refine s_M_ofn hM hE hn (by omega) (by decide) ?_ | refine s_M_of5 hM hE hn (by omega) (by omega) ?_ | refine s_M_ofn hM (kt_eu hE (by omega)) hn (by omega) (by decide) ?_ | refine s_M_of5 hM (kt_eu hE (by omega)) hn (by omega) (by omega) ?_
      refine kw_ild_n x_M_looks_161 rfl ?_
      first | refine kw_ic_gt_n x_M_looks_162 ⟨by omega, by omega⟩ (fun h162 => ?_) (fun h162 => ?_) | refine kw_ic_gt x_M_looks_162 (fun h162 => ?_) (fun h162 => ?_)
      · first
        | exfalso; omega
        | skip
          refine kw_icon x_M_looks_169 ?_
          refine kw_ist x_M_looks_170 (by decide) ?_
          refine kw_ald_n x_M_looks_172 rfl ?_
          refine kw_gr x_M_looks_173 (by exact isM_k hM) (by exact isM_r8 hM) ?_
          refine kw_ild x_M_looks_176 rfl ?_
          refine kw_ild x_M_looks_178 rfl ?_
          first | refine kw_if_eq_b x_M_looks_180 (fun h180 => ?_) (fun h180 => ?_) | refine kw_if_eq_n x_M_looks_180 (by omega) (fun h180 => ?_) (fun h180 => ?_) | refine kw_if_eq x_M_looks_180 (fun h180 => ?_) (fun h180 => ?_)
          · first
            | exfalso; omega
            | skip
              refine kw_icon x_M_looks_187 ?_
              refine kw_iast_n x_M_looks_188 (by first | exact isM_a1 hM | exact isM_a2 hM | exact isM_a3 hM | exact isM_a4 hM | exact isM_a5 hM | exact isM_a6 hM | exact isM_a7 hM | exact isM_a8 hM | exact isM_a10 hM | exact isM_a11 hM) (by omega) (by omega) ?_
              refine kw_ild_n x_M_looks_189 rfl ?_
              refine kw_ild x_M_looks_190 rfl ?_
              first | refine kw_if_eq_b x_M_looks_192 (fun h192 => ?_) (fun h192 => ?_) | refine kw_if_eq_n x_M_looks_192 (by omega) (fun h192 => ?_) (fun h192 => ?_) | refine kw_if_eq x_M_looks_192 (fun h192 => ?_) (fun h192 => ?_)
              · first
                | exfalso; omega
                | skip
                  refine kw_icon x_M_looks_205 ?_
                  first | refine kw_isub_n x_M_looks_206 (by omega) ?_ | refine kw_isub x_M_looks_206 ?_
                  refine kw_ist_n x_M_looks_207 (by decide) ?_
                  refine kw_ald_n x_M_looks_208 rfl ?_
                  refine kw_gr x_M_looks_209 (by exact isM_k hM) (by exact isM_r11 hM) ?_
                  refine kw_ald_n x_M_looks_212 rfl ?_
                  refine kw_ild x_M_looks_213 rfl ?_
                  refine kw_icon x_M_looks_215 ?_
                  refine c_M_looks_216 (by exact isM_k hM) (Nat.le_of_ble_eq_true rfl) ?_
                  first | refine s_M_ofn hM hE hn (by omega) (by decide) ?_ | refine s_M_of5 hM hE hn (by omega) (by omega) ?_ | refine s_M_ofn hM (kt_eu hE (by omega)) hn (by omega) (by decide) ?_ | refine s_M_of5 hM (kt_eu hE (by omega)) hn (by omega) (by omega) ?_
                  refine kw_dup2 x_M_looks_219 rfl rfl ?_
                  refine kw_iald_n x_M_looks_220 (by first | exact isM_a1 hM | exact isM_a2 hM | exact isM_a3 hM | exact isM_a4 hM | exact isM_a5 hM | exact isM_a6 hM | exact isM_a7 hM | exact isM_a8 hM | exact isM_a10 hM | exact isM_a11 hM) (by omega) (by omega) (by first | exact hL | exact hL2 _ _ _ _ | exact hL3 _ _ _ _ _ _ | exact hG1 _ _ _ (by omega) | exact hE.1 | exact hE.2.1 | exact hE.2.2.1 | exact rfl) ?_
                  refine kw_ild x_M_looks_221 rfl ?_
                  first | refine kw_if_eq_b x_M_looks_223 (fun h223 => ?_) (fun h223 => ?_) | refine kw_if_eq_n x_M_looks_223 (by omega) (fun h223 => ?_) (fun h223 => ?_) | refine kw_if_eq x_M_looks_223 (fun h223 => ?_) (fun h223 => ?_)
                  · first
                    | exfalso; omega
                    | skip
                      refine kw_icon x_M_looks_236 ?_
                      first | refine kw_iadd_n x_M_looks_237 ?_ | refine kw_iadd x_M_looks_237 ?_
                      refine kw_iast_n x_M_looks_238 (by first | exact isM_a1 hM | exact isM_a2 hM | exact isM_a3 hM | exact isM_a4 hM | exact isM_a5 hM | exact isM_a6 hM | exact isM_a7 hM | exact isM_a8 hM | exact isM_a10 hM | exact isM_a11 hM) (by omega) (by omega) ?_
                      refine kw_ald_n x_M_looks_239 rfl ?_
                      refine kw_gr x_M_looks_240 (by exact isM_k hM) (by exact isM_r9 hM) ?_
                      refine kw_ald_n x_M_looks_243 rfl ?_
                      refine kw_gi_e x_M_looks_244 (by exact isM_k hM) (by first | exact hL | exact hL2 _ _ _ _ | exact hL3 _ _ _ _ _ _ | exact hG1 _ _ _ (by omega) | exact hE.1 | exact hE.2.1 | exact hE.2.2.1 | exact rfl) ?_
                      refine kw_ild x_M_looks_247 rfl ?_
                      refine kw_iast_n x_M_looks_249 (by first | exact isM_a1 hM | exact isM_a2 hM | exact isM_a3 hM | exact isM_a4 hM | exact isM_a5 hM | exact isM_a6 hM | exact isM_a7 hM | exact isM_a8 hM | exact isM_a10 hM | exact isM_a11 hM) (by omega) (by omega) ?_
                      refine kw_ald_n x_M_looks_250 rfl ?_
                      refine kw_dup x_M_looks_251 rfl ?_
                      refine kw_gi_e x_M_looks_252 (by exact isM_k hM) (by first | exact hL | exact hL2 _ _ _ _ | exact hL3 _ _ _ _ _ _ | exact hG1 _ _ _ (by omega) | exact hE.1 | exact hE.2.1 | exact hE.2.2.1 | exact rfl) ?_
                      refine kw_icon x_M_looks_255 ?_
                      first | refine kw_iadd_n x_M_looks_256 ?_ | refine kw_iadd x_M_looks_256 ?_
                      refine kw_pi x_M_looks_257 (by exact isM_k hM) ?_
                      refine kw_goto x_M_looks_260 ?_
                      first
                        | (have hs : xsp X (le, G, s, c, r) p = (le - xe X p 4, xup G (xe X p 5 - 1) (G (xe X p 5 - 1) + xe X p 4), xup s p 0, c + 1, xup r c p) := (by unfold xsp; rw [if_pos (show xe X p 4 ≤ le by omega)])
                           rw [hs] at k
                           exact k _ _ _ (hlm _ _ _ _) (hle4 _ _ 0 _ rfl (by omega) rfl))
                        | (have hs : xsp X (le, G, s, c, r) p = (le, G, xup s p 1, c + 1, xup r c p) := (by unfold xsp; rw [if_neg (show ¬ xe X p 4 ≤ le by omega)])
                           have hg0 : xup G (xe X p 5 - 1) (G (xe X p 5 - 1) + 0) = G := (by funext q; by_cases hq : q = xe X p 5 - 1; (subst hq; rw [xup_eq]; rfl); (rw [xup_ne _ _ hq]))
                           rw [hs] at k
                           have h9 := hle4 (nI 1) (nI (G (xe X p 5 - 1) + 0)) 1 _ rfl (by omega) rfl
                           rw [hg0] at h9
                           exact k _ _ _ (hlm _ _ _ _) h9)
                  · first
                    | exfalso; omega
                    | skip
                      refine kw_ald_n x_M_looks_226 rfl ?_
                      refine kw_ild x_M_looks_227 rfl ?_
                      refine kw_icon x_M_looks_229 ?_
                      refine c_M_looks_230 (by exact isM_k hM) (Nat.le_of_ble_eq_true rfl) ?_
                      first | refine s_M_ofn hM hE hn (by omega) (by decide) ?_ | refine s_M_of5 hM hE hn (by omega) (by omega) ?_ | refine s_M_ofn hM (kt_eu hE (by omega)) hn (by omega) (by decide) ?_ | refine s_M_of5 hM (kt_eu hE (by omega)) hn (by omega) (by omega) ?_
                      refine kw_goto x_M_looks_233 ?_
                      first | refine kw_iadd_n x_M_looks_237 ?_ | refine kw_iadd x_M_looks_237 ?_
                      refine kw_iast_n x_M_looks_238 (by first | exact isM_a1 hM | exact isM_a2 hM | exact isM_a3 hM | exact isM_a4 hM | exact isM_a5 hM | exact isM_a6 hM | exact isM_a7 hM | exact isM_a8 hM | exact isM_a10 hM | exact isM_a11 hM) (by omega) (by omega) ?_
                      refine kw_ald_n x_M_looks_239 rfl ?_
                      refine kw_gr x_M_looks_240 (by exact isM_k hM) (by exact isM_r9 hM) ?_
                      refine kw_ald_n x_M_looks_243 rfl ?_
                      refine kw_gi_e x_M_looks_244 (by exact isM_k hM) (by first | exact hL | exact hL2 _ _ _ _ | exact hL3 _ _ _ _ _ _ | exact hG1 _ _ _ (by omega) | exact hE.1 | exact hE.2.1 | exact hE.2.2.1 | exact rfl) ?_
                      refine kw_ild x_M_looks_247 rfl ?_
                      refine kw_iast_n x_M_looks_249 (by first | exact isM_a1 hM | exact isM_a2 hM | exact isM_a3 hM | exact isM_a4 hM | exact isM_a5 hM | exact isM_a6 hM | exact isM_a7 hM | exact isM_a8 hM | exact isM_a10 hM | exact isM_a11 hM) (by omega) (by omega) ?_
                      refine kw_ald_n x_M_looks_250 rfl ?_
                      refine kw_dup x_M_looks_251 rfl ?_
                      refine kw_gi_e x_M_looks_252 (by exact isM_k hM) (by first | exact hL | exact hL2 _ _ _ _ | exact hL3 _ _ _ _ _ _ | exact hG1 _ _ _ (by omega) | exact hE.1 | exact hE.2.1 | exact hE.2.2.1 | exact rfl) ?_
                      refine kw_icon x_M_looks_255 ?_
                      first | refine kw_iadd_n x_M_looks_256 ?_ | refine kw_iadd x_M_looks_256 ?_
                      refine kw_pi x_M_looks_257 (by exact isM_k hM) ?_
                      refine kw_goto x_M_looks_260 ?_
                      first
                        | (have hs : xsp X (le, G, s, c, r) p = (le - xe X p 4, xup G (xe X p 5 - 1) (G (xe X p 5 - 1) + xe X p 4), xup s p 0, c + 1, xup r c p) := (by unfold xsp; rw [if_pos (show xe X p 4 ≤ le by omega)])
                           rw [hs] at k
                           exact k _ _ _ (hlm _ _ _ _) (hle4 _ _ 0 _ rfl (by omega) rfl))
                        | (have hs : xsp X (le, G, s, c, r) p = (le, G, xup s p 1, c + 1, xup r c p) := (by unfold xsp; rw [if_neg (show ¬ xe X p 4 ≤ le by omega)])
                           have hg0 : xup G (xe X p 5 - 1) (G (xe X p 5 - 1) + 0) = G := (by funext q; by_cases hq : q = xe X p 5 - 1; (subst hq; rw [xup_eq]; rfl); (rw [xup_ne _ _ hq]))
                           rw [hs] at k
                           have h9 := hle4 (nI 1) (nI (G (xe X p 5 - 1) + 0)) 1 _ rfl (by omega) rfl
                           rw [hg0] at h9
                           exact k _ _ _ (hlm _ _ _ _) h9)
              · first
                | exfalso; omega
                | skip
                  refine kw_ald_n x_M_looks_195 rfl ?_
                  refine kw_ild x_M_looks_196 rfl ?_
                  refine kw_icon x_M_looks_198 ?_
                  refine c_M_looks_199 (by exact isM_k hM) (Nat.le_of_ble_eq_true rfl) ?_
                  first | refine s_M_ofn hM hE hn (by omega) (by decide) ?_ | refine s_M_of5 hM hE hn (by omega) (by omega) ?_ | refine s_M_ofn hM (kt_eu hE (by omega)) hn (by omega) (by decide) ?_ | refine s_M_of5 hM (kt_eu hE (by omega)) hn (by omega) (by omega) ?_
                  refine kw_goto x_M_looks_202 ?_
                  first | refine kw_isub_n x_M_looks_206 (by omega) ?_ | refine kw_isub x_M_looks_206 ?_
                  refine kw_ist_n x_M_looks_207 (by decide) ?_
                  refine kw_ald_n x_M_looks_208 rfl ?_
                  refine kw_gr x_M_looks_209 (by exact isM_k hM) (by exact isM_r11 hM) ?_
                  refine kw_ald_n x_M_looks_212 rfl ?_
                  refine kw_ild x_M_looks_213 rfl ?_
                  refine kw_icon x_M_looks_215 ?_
                  refine c_M_looks_216 (by exact isM_k hM) (Nat.le_of_ble_eq_true rfl) ?_
                  first | refine s_M_ofn hM hE hn (by omega) (by decide) ?_ | refine s_M_of5 hM hE hn (by omega) (by omega) ?_ | refine s_M_ofn hM (kt_eu hE (by omega)) hn (by omega) (by decide) ?_ | refine s_M_of5 hM (kt_eu hE (by omega)) hn (by omega) (by omega) ?_
                  refine kw_dup2 x_M_looks_219 rfl rfl ?_
                  refine kw_iald_n x_M_looks_220 (by first | exact isM_a1 hM | exact isM_a2 hM | exact isM_a3 hM | exact isM_a4 hM | exact isM_a5 hM | exact isM_a6 hM | exact isM_a7 hM | exact isM_a8 hM | exact isM_a10 hM | exact isM_a11 hM) (by omega) (by omega) (by first | exact hL | exact hL2 _ _ _ _ | exact hL3 _ _ _ _ _ _ | exact hG1 _ _ _ (by omega) | exact hE.1 | exact hE.2.1 | exact hE.2.2.1 | exact rfl) ?_
                  refine kw_ild x_M_looks_221 rfl ?_
                  first | refine kw_if_eq_b x_M_looks_223 (fun h223 => ?_) (fun h223 => ?_) | refine kw_if_eq_n x_M_looks_223 (by omega) (fun h223 => ?_) (fun h223 => ?_) | refine kw_if_eq x_M_looks_223 (fun h223 => ?_) (fun h223 => ?_)
                  · first
                    | exfalso; omega
                    | skip
                      refine kw_icon x_M_looks_236 ?_
                      first | refine kw_iadd_n x_M_looks_237 ?_ | refine kw_iadd x_M_looks_237 ?_
                      refine kw_iast_n x_M_looks_238 (by first | exact isM_a1 hM | exact isM_a2 hM | exact isM_a3 hM | exact isM_a4 hM | exact isM_a5 hM | exact isM_a6 hM | exact isM_a7 hM | exact isM_a8 hM | exact isM_a10 hM | exact isM_a11 hM) (by omega) (by omega) ?_
                      refine kw_ald_n x_M_looks_239 rfl ?_
                      refine kw_gr x_M_looks_240 (by exact isM_k hM) (by exact isM_r9 hM) ?_
                      refine kw_ald_n x_M_looks_243 rfl ?_
                      refine kw_gi_e x_M_looks_244 (by exact isM_k hM) (by first | exact hL | exact hL2 _ _ _ _ | exact hL3 _ _ _ _ _ _ | exact hG1 _ _ _ (by omega) | exact hE.1 | exact hE.2.1 | exact hE.2.2.1 | exact rfl) ?_
                      refine kw_ild x_M_looks_247 rfl ?_
                      refine kw_iast_n x_M_looks_249 (by first | exact isM_a1 hM | exact isM_a2 hM | exact isM_a3 hM | exact isM_a4 hM | exact isM_a5 hM | exact isM_a6 hM | exact isM_a7 hM | exact isM_a8 hM | exact isM_a10 hM | exact isM_a11 hM) (by omega) (by omega) ?_
                      refine kw_ald_n x_M_looks_250 rfl ?_
                      refine kw_dup x_M_looks_251 rfl ?_
                      refine kw_gi_e x_M_looks_252 (by exact isM_k hM) (by first | exact hL | exact hL2 _ _ _ _ | exact hL3 _ _ _ _ _ _ | exact hG1 _ _ _ (by omega) | exact hE.1 | exact hE.2.1 | exact hE.2.2.1 | exact rfl) ?_
                      refine kw_icon x_M_looks_255 ?_
                      first | refine kw_iadd_n x_M_looks_256 ?_ | refine kw_iadd x_M_looks_256 ?_
                      refine kw_pi x_M_looks_257 (by exact isM_k hM) ?_
                      refine kw_goto x_M_looks_260 ?_
                      first
                        | (have hs : xsp X (le, G, s, c, r) p = (le - xe X p 4, xup G (xe X p 5 - 1) (G (xe X p 5 - 1) + xe X p 4), xup s p 0, c + 1, xup r c p) := (by unfold xsp; rw [if_pos (show xe X p 4 ≤ le by omega)])
                           rw [hs] at k
                           exact k _ _ _ (hlm _ _ _ _) (hle4 _ _ 0 _ rfl (by omega) rfl))
                        | (have hs : xsp X (le, G, s, c, r) p = (le, G, xup s p 1, c + 1, xup r c p) := (by unfold xsp; rw [if_neg (show ¬ xe X p 4 ≤ le by omega)])
                           have hg0 : xup G (xe X p 5 - 1) (G (xe X p 5 - 1) + 0) = G := (by funext q; by_cases hq : q = xe X p 5 - 1; (subst hq; rw [xup_eq]; rfl); (rw [xup_ne _ _ hq]))
                           rw [hs] at k
                           have h9 := hle4 (nI 1) (nI (G (xe X p 5 - 1) + 0)) 1 _ rfl (by omega) rfl
                           rw [hg0] at h9
                           exact k _ _ _ (hlm _ _ _ _) h9)
                  · first
                    | exfalso; omega
                    | skip
                      refine kw_ald_n x_M_looks_226 rfl ?_
                      refine kw_ild x_M_looks_227 rfl ?_
                      refine kw_icon x_M_looks_229 ?_
                      refine c_M_looks_230 (by exact isM_k hM) (Nat.le_of_ble_eq_true rfl) ?_
                      first | refine s_M_ofn hM hE hn (by omega) (by decide) ?_ | refine s_M_of5 hM hE hn (by omega) (by omega) ?_ | refine s_M_ofn hM (kt_eu hE (by omega)) hn (by omega) (by decide) ?_ | refine s_M_of5 hM (kt_eu hE (by omega)) hn (by omega) (by omega) ?_
                      refine kw_goto x_M_looks_233 ?_
                      first | refine kw_iadd_n x_M_looks_237 ?_ | refine kw_iadd x_M_looks_237 ?_
                      refine kw_iast_n x_M_looks_238 (by first | exact isM_a1 hM | exact isM_a2 hM | exact isM_a3 hM | exact isM_a4 hM | exact isM_a5 hM | exact isM_a6 hM | exact isM_a7 hM | exact isM_a8 hM | exact isM_a10 hM | exact isM_a11 hM) (by omega) (by omega) ?_
                      refine kw_ald_n x_M_looks_239 rfl ?_
                      refine kw_gr x_M_looks_240 (by exact isM_k hM) (by exact isM_r9 hM) ?_
                      refine kw_ald_n x_M_looks_243 rfl ?_
                      refine kw_gi_e x_M_looks_244 (by exact isM_k hM) (by first | exact hL | exact hL2 _ _ _ _ | exact hL3 _ _ _ _ _ _ | exact hG1 _ _ _ (by omega) | exact hE.1 | exact hE.2.1 | exact hE.2.2.1 | exact rfl) ?_
                      refine kw_ild x_M_looks_247 rfl ?_
                      refine kw_iast_n x_M_looks_249 (by first | exact isM_a1 hM | exact isM_a2 hM | exact isM_a3 hM | exact isM_a4 hM | exact isM_a5 hM | exact isM_a6 hM | exact isM_a7 hM | exact isM_a8 hM | exact isM_a10 hM | exact isM_a11 hM) (by omega) (by omega) ?_
                      refine kw_ald_n x_M_looks_250 rfl ?_
                      refine kw_dup x_M_looks_251 rfl ?_
                      refine kw_gi_e x_M_looks_252 (by exact isM_k hM) (by first | exact hL | exact hL2 _ _ _ _ | exact hL3 _ _ _ _ _ _ | exact hG1 _ _ _ (by omega) | exact hE.1 | exact hE.2.1 | exact hE.2.2.1 | exact rfl) ?_
                      refine kw_icon x_M_looks_255 ?_
                      first | refine kw_iadd_n x_M_looks_256 ?_ | refine kw_iadd x_M_looks_256 ?_
                      refine kw_pi x_M_looks_257 (by exact isM_k hM) ?_
                      refine kw_goto x_M_looks_260 ?_
                      first
                        | (have hs : xsp X (le, G, s, c, r) p = (le - xe X p 4, xup G (xe X p 5 - 1) (G (xe X p 5 - 1) + xe X p 4), xup s p 0, c + 1, xup r c p) := (by unfold xsp; rw [if_pos (show xe X p 4 ≤ le by omega)])
                           rw [hs] at k
                           exact k _ _ _ (hlm _ _ _ _) (hle4 _ _ 0 _ rfl (by omega) rfl))
                        | (have hs : xsp X (le, G, s, c, r) p = (le, G, xup s p 1, c + 1, xup r c p) := (by unfold xsp; rw [if_neg (show ¬ xe X p 4 ≤ le by omega)])
                           have hg0 : xup G (xe X p 5 - 1) (G (xe X p 5 - 1) + 0) = G := (by funext q; by_cases hq : q = xe X p 5 - 1; (subst hq; rw [xup_eq]; rfl); (rw [xup_ne _ _ hq]))
                           rw [hs] at k
                           have h9 := hle4 (nI 1) (nI (G (xe X p 5 - 1) + 0)) 1 _ rfl (by omega) rfl
                           rw [hg0] at h9
                           exact k _ _ _ (hlm _ _ _ _) h9)
          · first
            | exfalso; omega
            | skip
              refine kw_icon x_M_looks_183 ?_
              refine kw_goto x_M_looks_184 ?_
              refine kw_iast_n x_M_looks_188 (by first | exact isM_a1 hM | exact isM_a2 hM | exact isM_a3 hM | exact isM_a4 hM | exact isM_a5 hM | exact isM_a6 hM | exact isM_a7 hM | exact isM_a8 hM | exact isM_a10 hM | exact isM_a11 hM) (by omega) (by omega) ?_
              refine kw_ild_n x_M_looks_189 rfl ?_
              refine kw_ild x_M_looks_190 rfl ?_
              first | refine kw_if_eq_b x_M_looks_192 (fun h192 => ?_) (fun h192 => ?_) | refine kw_if_eq_n x_M_looks_192 (by omega) (fun h192 => ?_) (fun h192 => ?_) | refine kw_if_eq x_M_looks_192 (fun h192 => ?_) (fun h192 => ?_)
              · first
                | exfalso; omega
                | skip
                  refine kw_icon x_M_looks_205 ?_
                  first | refine kw_isub_n x_M_looks_206 (by omega) ?_ | refine kw_isub x_M_looks_206 ?_
                  refine kw_ist_n x_M_looks_207 (by decide) ?_
                  refine kw_ald_n x_M_looks_208 rfl ?_
                  refine kw_gr x_M_looks_209 (by exact isM_k hM) (by exact isM_r11 hM) ?_
                  refine kw_ald_n x_M_looks_212 rfl ?_
                  refine kw_ild x_M_looks_213 rfl ?_
                  refine kw_icon x_M_looks_215 ?_
                  refine c_M_looks_216 (by exact isM_k hM) (Nat.le_of_ble_eq_true rfl) ?_
                  first | refine s_M_ofn hM hE hn (by omega) (by decide) ?_ | refine s_M_of5 hM hE hn (by omega) (by omega) ?_ | refine s_M_ofn hM (kt_eu hE (by omega)) hn (by omega) (by decide) ?_ | refine s_M_of5 hM (kt_eu hE (by omega)) hn (by omega) (by omega) ?_
                  refine kw_dup2 x_M_looks_219 rfl rfl ?_
                  refine kw_iald_n x_M_looks_220 (by first | exact isM_a1 hM | exact isM_a2 hM | exact isM_a3 hM | exact isM_a4 hM | exact isM_a5 hM | exact isM_a6 hM | exact isM_a7 hM | exact isM_a8 hM | exact isM_a10 hM | exact isM_a11 hM) (by omega) (by omega) (by first | exact hL | exact hL2 _ _ _ _ | exact hL3 _ _ _ _ _ _ | exact hG1 _ _ _ (by omega) | exact hE.1 | exact hE.2.1 | exact hE.2.2.1 | exact rfl) ?_
                  refine kw_ild x_M_looks_221 rfl ?_
                  first | refine kw_if_eq_b x_M_looks_223 (fun h223 => ?_) (fun h223 => ?_) | refine kw_if_eq_n x_M_looks_223 (by omega) (fun h223 => ?_) (fun h223 => ?_) | refine kw_if_eq x_M_looks_223 (fun h223 => ?_) (fun h223 => ?_)
                  · first
                    | exfalso; omega
                    | skip
                      refine kw_icon x_M_looks_236 ?_
                      first | refine kw_iadd_n x_M_looks_237 ?_ | refine kw_iadd x_M_looks_237 ?_
                      refine kw_iast_n x_M_looks_238 (by first | exact isM_a1 hM | exact isM_a2 hM | exact isM_a3 hM | exact isM_a4 hM | exact isM_a5 hM | exact isM_a6 hM | exact isM_a7 hM | exact isM_a8 hM | exact isM_a10 hM | exact isM_a11 hM) (by omega) (by omega) ?_
                      refine kw_ald_n x_M_looks_239 rfl ?_
                      refine kw_gr x_M_looks_240 (by exact isM_k hM) (by exact isM_r9 hM) ?_
                      refine kw_ald_n x_M_looks_243 rfl ?_
                      refine kw_gi_e x_M_looks_244 (by exact isM_k hM) (by first | exact hL | exact hL2 _ _ _ _ | exact hL3 _ _ _ _ _ _ | exact hG1 _ _ _ (by omega) | exact hE.1 | exact hE.2.1 | exact hE.2.2.1 | exact rfl) ?_
                      refine kw_ild x_M_looks_247 rfl ?_
                      refine kw_iast_n x_M_looks_249 (by first | exact isM_a1 hM | exact isM_a2 hM | exact isM_a3 hM | exact isM_a4 hM | exact isM_a5 hM | exact isM_a6 hM | exact isM_a7 hM | exact isM_a8 hM | exact isM_a10 hM | exact isM_a11 hM) (by omega) (by omega) ?_
                      refine kw_ald_n x_M_looks_250 rfl ?_
                      refine kw_dup x_M_looks_251 rfl ?_
                      refine kw_gi_e x_M_looks_252 (by exact isM_k hM) (by first | exact hL | exact hL2 _ _ _ _ | exact hL3 _ _ _ _ _ _ | exact hG1 _ _ _ (by omega) | exact hE.1 | exact hE.2.1 | exact hE.2.2.1 | exact rfl) ?_
                      refine kw_icon x_M_looks_255 ?_
                      first | refine kw_iadd_n x_M_looks_256 ?_ | refine kw_iadd x_M_looks_256 ?_
                      refine kw_pi x_M_looks_257 (by exact isM_k hM) ?_
                      refine kw_goto x_M_looks_260 ?_
                      first
                        | (have hs : xsp X (le, G, s, c, r) p = (le - xe X p 4, xup G (xe X p 5 - 1) (G (xe X p 5 - 1) + xe X p 4), xup s p 0, c + 1, xup r c p) := (by unfold xsp; rw [if_pos (show xe X p 4 ≤ le by omega)])
                           rw [hs] at k
                           exact k _ _ _ (hlm _ _ _ _) (hle4 _ _ 0 _ rfl (by omega) rfl))
                        | (have hs : xsp X (le, G, s, c, r) p = (le, G, xup s p 1, c + 1, xup r c p) := (by unfold xsp; rw [if_neg (show ¬ xe X p 4 ≤ le by omega)])
                           have hg0 : xup G (xe X p 5 - 1) (G (xe X p 5 - 1) + 0) = G := (by funext q; by_cases hq : q = xe X p 5 - 1; (subst hq; rw [xup_eq]; rfl); (rw [xup_ne _ _ hq]))
                           rw [hs] at k
                           have h9 := hle4 (nI 1) (nI (G (xe X p 5 - 1) + 0)) 1 _ rfl (by omega) rfl
                           rw [hg0] at h9
                           exact k _ _ _ (hlm _ _ _ _) h9)
                  · first
                    | exfalso; omega
                    | skip
                      refine kw_ald_n x_M_looks_226 rfl ?_
                      refine kw_ild x_M_looks_227 rfl ?_
                      refine kw_icon x_M_looks_229 ?_
                      refine c_M_looks_230 (by exact isM_k hM) (Nat.le_of_ble_eq_true rfl) ?_
                      first | refine s_M_ofn hM hE hn (by omega) (by decide) ?_ | refine s_M_of5 hM hE hn (by omega) (by omega) ?_ | refine s_M_ofn hM (kt_eu hE (by omega)) hn (by omega) (by decide) ?_ | refine s_M_of5 hM (kt_eu hE (by omega)) hn (by omega) (by omega) ?_
                      refine kw_goto x_M_looks_233 ?_
                      first | refine kw_iadd_n x_M_looks_237 ?_ | refine kw_iadd x_M_looks_237 ?_
                      refine kw_iast_n x_M_looks_238 (by first | exact isM_a1 hM | exact isM_a2 hM | exact isM_a3 hM | exact isM_a4 hM | exact isM_a5 hM | exact isM_a6 hM | exact isM_a7 hM | exact isM_a8 hM | exact isM_a10 hM | exact isM_a11 hM) (by omega) (by omega) ?_
                      refine kw_ald_n x_M_looks_239 rfl ?_
                      refine kw_gr x_M_looks_240 (by exact isM_k hM) (by exact isM_r9 hM) ?_
                      refine kw_ald_n x_M_looks_243 rfl ?_
                      refine kw_gi_e x_M_looks_244 (by exact isM_k hM) (by first | exact hL | exact hL2 _ _ _ _ | exact hL3 _ _ _ _ _ _ | exact hG1 _ _ _ (by omega) | exact hE.1 | exact hE.2.1 | exact hE.2.2.1 | exact rfl) ?_
                      refine kw_ild x_M_looks_247 rfl ?_
                      refine kw_iast_n x_M_looks_249 (by first | exact isM_a1 hM | exact isM_a2 hM | exact isM_a3 hM | exact isM_a4 hM | exact isM_a5 hM | exact isM_a6 hM | exact isM_a7 hM | exact isM_a8 hM | exact isM_a10 hM | exact isM_a11 hM) (by omega) (by omega) ?_
                      refine kw_ald_n x_M_looks_250 rfl ?_
                      refine kw_dup x_M_looks_251 rfl ?_
                      refine kw_gi_e x_M_looks_252 (by exact isM_k hM) (by first | exact hL | exact hL2 _ _ _ _ | exact hL3 _ _ _ _ _ _ | exact hG1 _ _ _ (by omega) | exact hE.1 | exact hE.2.1 | exact hE.2.2.1 | exact rfl) ?_
                      refine kw_icon x_M_looks_255 ?_
                      first | refine kw_iadd_n x_M_looks_256 ?_ | refine kw_iadd x_M_looks_256 ?_
                      refine kw_pi x_M_looks_257 (by exact isM_k hM) ?_
                      refine kw_goto x_M_looks_260 ?_
                      first
                        | (have hs : xsp X (le, G, s, c, r) p = (le - xe X p 4, xup G (xe X p 5 - 1) (G (xe X p 5 - 1) + xe X p 4), xup s p 0, c + 1, xup r c p) := (by unfold xsp; rw [if_pos (show xe X p 4 ≤ le by omega)])
                           rw [hs] at k
                           exact k _ _ _ (hlm _ _ _ _) (hle4 _ _ 0 _ rfl (by omega) rfl))
                        | (have hs : xsp X (le, G, s, c, r) p = (le, G, xup s p 1, c + 1, xup r c p) := (by unfold xsp; rw [if_neg (show ¬ xe X p 4 ≤ le by omega)])
                           have hg0 : xup G (xe X p 5 - 1) (G (xe X p 5 - 1) + 0) = G := (by funext q; by_cases hq : q = xe X p 5 - 1; (subst hq; rw [xup_eq]; rfl); (rw [xup_ne _ _ hq]))
                           rw [hs] at k
                           have h9 := hle4 (nI 1) (nI (G (xe X p 5 - 1) + 0)) 1 _ rfl (by omega) rfl
                           rw [hg0] at h9
                           exact k _ _ _ (hlm _ _ _ _) h9)
              · first
                | exfalso; omega
                | skip
                  refine kw_ald_n x_M_looks_195 rfl ?_
                  refine kw_ild x_M_looks_196 rfl ?_
                  refine kw_icon x_M_looks_198 ?_
                  refine c_M_looks_199 (by exact isM_k hM) (Nat.le_of_ble_eq_true rfl) ?_
                  first | refine s_M_ofn hM hE hn (by omega) (by decide) ?_ | refine s_M_of5 hM hE hn (by omega) (by omega) ?_ | refine s_M_ofn hM (kt_eu hE (by omega)) hn (by omega) (by decide) ?_ | refine s_M_of5 hM (kt_eu hE (by omega)) hn (by omega) (by omega) ?_
                  refine kw_goto x_M_looks_202 ?_
                  first | refine kw_isub_n x_M_looks_206 (by omega) ?_ | refine kw_isub x_M_looks_206 ?_
                  refine kw_ist_n x_M_looks_207 (by decide) ?_
                  refine kw_ald_n x_M_looks_208 rfl ?_
                  refine kw_gr x_M_looks_209 (by exact isM_k hM) (by exact isM_r11 hM) ?_
                  refine kw_ald_n x_M_looks_212 rfl ?_
                  refine kw_ild x_M_looks_213 rfl ?_
                  refine kw_icon x_M_looks_215 ?_
                  refine c_M_looks_216 (by exact isM_k hM) (Nat.le_of_ble_eq_true rfl) ?_
                  first | refine s_M_ofn hM hE hn (by omega) (by decide) ?_ | refine s_M_of5 hM hE hn (by omega) (by omega) ?_ | refine s_M_ofn hM (kt_eu hE (by omega)) hn (by omega) (by decide) ?_ | refine s_M_of5 hM (kt_eu hE (by omega)) hn (by omega) (by omega) ?_
                  refine kw_dup2 x_M_looks_219 rfl rfl ?_
                  refine kw_iald_n x_M_looks_220 (by first | exact isM_a1 hM | exact isM_a2 hM | exact isM_a3 hM | exact isM_a4 hM | exact isM_a5 hM | exact isM_a6 hM | exact isM_a7 hM | exact isM_a8 hM | exact isM_a10 hM | exact isM_a11 hM) (by omega) (by omega) (by first | exact hL | exact hL2 _ _ _ _ | exact hL3 _ _ _ _ _ _ | exact hG1 _ _ _ (by omega) | exact hE.1 | exact hE.2.1 | exact hE.2.2.1 | exact rfl) ?_
                  refine kw_ild x_M_looks_221 rfl ?_
                  first | refine kw_if_eq_b x_M_looks_223 (fun h223 => ?_) (fun h223 => ?_) | refine kw_if_eq_n x_M_looks_223 (by omega) (fun h223 => ?_) (fun h223 => ?_) | refine kw_if_eq x_M_looks_223 (fun h223 => ?_) (fun h223 => ?_)
                  · first
                    | exfalso; omega
                    | skip
                      refine kw_icon x_M_looks_236 ?_
                      first | refine kw_iadd_n x_M_looks_237 ?_ | refine kw_iadd x_M_looks_237 ?_
                      refine kw_iast_n x_M_looks_238 (by first | exact isM_a1 hM | exact isM_a2 hM | exact isM_a3 hM | exact isM_a4 hM | exact isM_a5 hM | exact isM_a6 hM | exact isM_a7 hM | exact isM_a8 hM | exact isM_a10 hM | exact isM_a11 hM) (by omega) (by omega) ?_
                      refine kw_ald_n x_M_looks_239 rfl ?_
                      refine kw_gr x_M_looks_240 (by exact isM_k hM) (by exact isM_r9 hM) ?_
                      refine kw_ald_n x_M_looks_243 rfl ?_
                      refine kw_gi_e x_M_looks_244 (by exact isM_k hM) (by first | exact hL | exact hL2 _ _ _ _ | exact hL3 _ _ _ _ _ _ | exact hG1 _ _ _ (by omega) | exact hE.1 | exact hE.2.1 | exact hE.2.2.1 | exact rfl) ?_
                      refine kw_ild x_M_looks_247 rfl ?_
                      refine kw_iast_n x_M_looks_249 (by first | exact isM_a1 hM | exact isM_a2 hM | exact isM_a3 hM | exact isM_a4 hM | exact isM_a5 hM | exact isM_a6 hM | exact isM_a7 hM | exact isM_a8 hM | exact isM_a10 hM | exact isM_a11 hM) (by omega) (by omega) ?_
                      refine kw_ald_n x_M_looks_250 rfl ?_
                      refine kw_dup x_M_looks_251 rfl ?_
                      refine kw_gi_e x_M_looks_252 (by exact isM_k hM) (by first | exact hL | exact hL2 _ _ _ _ | exact hL3 _ _ _ _ _ _ | exact hG1 _ _ _ (by omega) | exact hE.1 | exact hE.2.1 | exact hE.2.2.1 | exact rfl) ?_
                      refine kw_icon x_M_looks_255 ?_
                      first | refine kw_iadd_n x_M_looks_256 ?_ | refine kw_iadd x_M_looks_256 ?_
                      refine kw_pi x_M_looks_257 (by exact isM_k hM) ?_
                      refine kw_goto x_M_looks_260 ?_
                      first
                        | (have hs : xsp X (le, G, s, c, r) p = (le - xe X p 4, xup G (xe X p 5 - 1) (G (xe X p 5 - 1) + xe X p 4), xup s p 0, c + 1, xup r c p) := (by unfold xsp; rw [if_pos (show xe X p 4 ≤ le by omega)])
                           rw [hs] at k
                           exact k _ _ _ (hlm _ _ _ _) (hle4 _ _ 0 _ rfl (by omega) rfl))
                        | (have hs : xsp X (le, G, s, c, r) p = (le, G, xup s p 1, c + 1, xup r c p) := (by unfold xsp; rw [if_neg (show ¬ xe X p 4 ≤ le by omega)])
                           have hg0 : xup G (xe X p 5 - 1) (G (xe X p 5 - 1) + 0) = G := (by funext q; by_cases hq : q = xe X p 5 - 1; (subst hq; rw [xup_eq]; rfl); (rw [xup_ne _ _ hq]))
                           rw [hs] at k
                           have h9 := hle4 (nI 1) (nI (G (xe X p 5 - 1) + 0)) 1 _ rfl (by omega) rfl
                           rw [hg0] at h9
                           exact k _ _ _ (hlm _ _ _ _) h9)
                  · first
                    | exfalso; omega
                    | skip
                      refine kw_ald_n x_M_looks_226 rfl ?_
                      refine kw_ild x_M_looks_227 rfl ?_
                      refine kw_icon x_M_looks_229 ?_
                      refine c_M_looks_230 (by exact isM_k hM) (Nat.le_of_ble_eq_true rfl) ?_
                      first | refine s_M_ofn hM hE hn (by omega) (by decide) ?_ | refine s_M_of5 hM hE hn (by omega) (by omega) ?_ | refine s_M_ofn hM (kt_eu hE (by omega)) hn (by omega) (by decide) ?_ | refine s_M_of5 hM (kt_eu hE (by omega)) hn (by omega) (by omega) ?_
                      refine kw_goto x_M_looks_233 ?_
                      first | refine kw_iadd_n x_M_looks_237 ?_ | refine kw_iadd x_M_looks_237 ?_
                      refine kw_iast_n x_M_looks_238 (by first | exact isM_a1 hM | exact isM_a2 hM | exact isM_a3 hM | exact isM_a4 hM | exact isM_a5 hM | exact isM_a6 hM | exact isM_a7 hM | exact isM_a8 hM | exact isM_a10 hM | exact isM_a11 hM) (by omega) (by omega) ?_
                      refine kw_ald_n x_M_looks_239 rfl ?_
                      refine kw_gr x_M_looks_240 (by exact isM_k hM) (by exact isM_r9 hM) ?_
                      refine kw_ald_n x_M_looks_243 rfl ?_
                      refine kw_gi_e x_M_looks_244 (by exact isM_k hM) (by first | exact hL | exact hL2 _ _ _ _ | exact hL3 _ _ _ _ _ _ | exact hG1 _ _ _ (by omega) | exact hE.1 | exact hE.2.1 | exact hE.2.2.1 | exact rfl) ?_
                      refine kw_ild x_M_looks_247 rfl ?_
                      refine kw_iast_n x_M_looks_249 (by first | exact isM_a1 hM | exact isM_a2 hM | exact isM_a3 hM | exact isM_a4 hM | exact isM_a5 hM | exact isM_a6 hM | exact isM_a7 hM | exact isM_a8 hM | exact isM_a10 hM | exact isM_a11 hM) (by omega) (by omega) ?_
                      refine kw_ald_n x_M_looks_250 rfl ?_
                      refine kw_dup x_M_looks_251 rfl ?_
                      refine kw_gi_e x_M_looks_252 (by exact isM_k hM) (by first | exact hL | exact hL2 _ _ _ _ | exact hL3 _ _ _ _ _ _ | exact hG1 _ _ _ (by omega) | exact hE.1 | exact hE.2.1 | exact hE.2.2.1 | exact rfl) ?_
                      refine kw_icon x_M_looks_255 ?_
                      first | refine kw_iadd_n x_M_looks_256 ?_ | refine kw_iadd x_M_looks_256 ?_
                      refine kw_pi x_M_looks_257 (by exact isM_k hM) ?_
                      refine kw_goto x_M_looks_260 ?_
                      first
                        | (have hs : xsp X (le, G, s, c, r) p = (le - xe X p 4, xup G (xe X p 5 - 1) (G (xe X p 5 - 1) + xe X p 4), xup s p 0, c + 1, xup r c p) := (by unfold xsp; rw [if_pos (show xe X p 4 ≤ le by omega)])
                           rw [hs] at k
                           exact k _ _ _ (hlm _ _ _ _) (hle4 _ _ 0 _ rfl (by omega) rfl))
                        | (have hs : xsp X (le, G, s, c, r) p = (le, G, xup s p 1, c + 1, xup r c p) := (by unfold xsp; rw [if_neg (show ¬ xe X p 4 ≤ le by omega)])
                           have hg0 : xup G (xe X p 5 - 1) (G (xe X p 5 - 1) + 0) = G := (by funext q; by_cases hq : q = xe X p 5 - 1; (subst hq; rw [xup_eq]; rfl); (rw [xup_ne _ _ hq]))
                           rw [hs] at k
                           have h9 := hle4 (nI 1) (nI (G (xe X p 5 - 1) + 0)) 1 _ rfl (by omega) rfl
                           rw [hg0] at h9
                           exact k _ _ _ (hlm _ _ _ _) h9)
      · first
        | exfalso; omega
        | skip
          refine kw_icon x_M_looks_165 ?_
          refine kw_goto x_M_looks_166 ?_
          refine kw_ist x_M_looks_170 (by decide) ?_
          refine kw_ald_n x_M_looks_172 rfl ?_
          refine kw_gr x_M_looks_173 (by exact isM_k hM) (by exact isM_r8 hM) ?_
          refine kw_ild x_M_looks_176 rfl ?_
          refine kw_ild x_M_looks_178 rfl ?_
          first | refine kw_if_eq_b x_M_looks_180 (fun h180 => ?_) (fun h180 => ?_) | refine kw_if_eq_n x_M_looks_180 (by omega) (fun h180 => ?_) (fun h180 => ?_) | refine kw_if_eq x_M_looks_180 (fun h180 => ?_) (fun h180 => ?_)
          · first
            | exfalso; omega
            | skip
              refine kw_icon x_M_looks_187 ?_
              refine kw_iast_n x_M_looks_188 (by first | exact isM_a1 hM | exact isM_a2 hM | exact isM_a3 hM | exact isM_a4 hM | exact isM_a5 hM | exact isM_a6 hM | exact isM_a7 hM | exact isM_a8 hM | exact isM_a10 hM | exact isM_a11 hM) (by omega) (by omega) ?_
              refine kw_ild_n x_M_looks_189 rfl ?_
              refine kw_ild x_M_looks_190 rfl ?_
              first | refine kw_if_eq_b x_M_looks_192 (fun h192 => ?_) (fun h192 => ?_) | refine kw_if_eq_n x_M_looks_192 (by omega) (fun h192 => ?_) (fun h192 => ?_) | refine kw_if_eq x_M_looks_192 (fun h192 => ?_) (fun h192 => ?_)
              · first
                | exfalso; omega
                | skip
                  refine kw_icon x_M_looks_205 ?_
                  first | refine kw_isub_n x_M_looks_206 (by omega) ?_ | refine kw_isub x_M_looks_206 ?_
                  refine kw_ist_n x_M_looks_207 (by decide) ?_
                  refine kw_ald_n x_M_looks_208 rfl ?_
                  refine kw_gr x_M_looks_209 (by exact isM_k hM) (by exact isM_r11 hM) ?_
                  refine kw_ald_n x_M_looks_212 rfl ?_
                  refine kw_ild x_M_looks_213 rfl ?_
                  refine kw_icon x_M_looks_215 ?_
                  refine c_M_looks_216 (by exact isM_k hM) (Nat.le_of_ble_eq_true rfl) ?_
                  first | refine s_M_ofn hM hE hn (by omega) (by decide) ?_ | refine s_M_of5 hM hE hn (by omega) (by omega) ?_ | refine s_M_ofn hM (kt_eu hE (by omega)) hn (by omega) (by decide) ?_ | refine s_M_of5 hM (kt_eu hE (by omega)) hn (by omega) (by omega) ?_
                  refine kw_dup2 x_M_looks_219 rfl rfl ?_
                  refine kw_iald_n x_M_looks_220 (by first | exact isM_a1 hM | exact isM_a2 hM | exact isM_a3 hM | exact isM_a4 hM | exact isM_a5 hM | exact isM_a6 hM | exact isM_a7 hM | exact isM_a8 hM | exact isM_a10 hM | exact isM_a11 hM) (by omega) (by omega) (by first | exact hL | exact hL2 _ _ _ _ | exact hL3 _ _ _ _ _ _ | exact hG1 _ _ _ (by omega) | exact hE.1 | exact hE.2.1 | exact hE.2.2.1 | exact rfl) ?_
                  refine kw_ild x_M_looks_221 rfl ?_
                  first | refine kw_if_eq_b x_M_looks_223 (fun h223 => ?_) (fun h223 => ?_) | refine kw_if_eq_n x_M_looks_223 (by omega) (fun h223 => ?_) (fun h223 => ?_) | refine kw_if_eq x_M_looks_223 (fun h223 => ?_) (fun h223 => ?_)
                  · first
                    | exfalso; omega
                    | skip
                      refine kw_icon x_M_looks_236 ?_
                      first | refine kw_iadd_n x_M_looks_237 ?_ | refine kw_iadd x_M_looks_237 ?_
                      refine kw_iast_n x_M_looks_238 (by first | exact isM_a1 hM | exact isM_a2 hM | exact isM_a3 hM | exact isM_a4 hM | exact isM_a5 hM | exact isM_a6 hM | exact isM_a7 hM | exact isM_a8 hM | exact isM_a10 hM | exact isM_a11 hM) (by omega) (by omega) ?_
                      refine kw_ald_n x_M_looks_239 rfl ?_
                      refine kw_gr x_M_looks_240 (by exact isM_k hM) (by exact isM_r9 hM) ?_
                      refine kw_ald_n x_M_looks_243 rfl ?_
                      refine kw_gi_e x_M_looks_244 (by exact isM_k hM) (by first | exact hL | exact hL2 _ _ _ _ | exact hL3 _ _ _ _ _ _ | exact hG1 _ _ _ (by omega) | exact hE.1 | exact hE.2.1 | exact hE.2.2.1 | exact rfl) ?_
                      refine kw_ild x_M_looks_247 rfl ?_
                      refine kw_iast_n x_M_looks_249 (by first | exact isM_a1 hM | exact isM_a2 hM | exact isM_a3 hM | exact isM_a4 hM | exact isM_a5 hM | exact isM_a6 hM | exact isM_a7 hM | exact isM_a8 hM | exact isM_a10 hM | exact isM_a11 hM) (by omega) (by omega) ?_
                      refine kw_ald_n x_M_looks_250 rfl ?_
                      refine kw_dup x_M_looks_251 rfl ?_
                      refine kw_gi_e x_M_looks_252 (by exact isM_k hM) (by first | exact hL | exact hL2 _ _ _ _ | exact hL3 _ _ _ _ _ _ | exact hG1 _ _ _ (by omega) | exact hE.1 | exact hE.2.1 | exact hE.2.2.1 | exact rfl) ?_
                      refine kw_icon x_M_looks_255 ?_
                      first | refine kw_iadd_n x_M_looks_256 ?_ | refine kw_iadd x_M_looks_256 ?_
                      refine kw_pi x_M_looks_257 (by exact isM_k hM) ?_
                      refine kw_goto x_M_looks_260 ?_
                      first
                        | (have hs : xsp X (le, G, s, c, r) p = (le - xe X p 4, xup G (xe X p 5 - 1) (G (xe X p 5 - 1) + xe X p 4), xup s p 0, c + 1, xup r c p) := (by unfold xsp; rw [if_pos (show xe X p 4 ≤ le by omega)])
                           rw [hs] at k
                           exact k _ _ _ (hlm _ _ _ _) (hle4 _ _ 0 _ rfl (by omega) rfl))
                        | (have hs : xsp X (le, G, s, c, r) p = (le, G, xup s p 1, c + 1, xup r c p) := (by unfold xsp; rw [if_neg (show ¬ xe X p 4 ≤ le by omega)])
                           have hg0 : xup G (xe X p 5 - 1) (G (xe X p 5 - 1) + 0) = G := (by funext q; by_cases hq : q = xe X p 5 - 1; (subst hq; rw [xup_eq]; rfl); (rw [xup_ne _ _ hq]))
                           rw [hs] at k
                           have h9 := hle4 (nI 1) (nI (G (xe X p 5 - 1) + 0)) 1 _ rfl (by omega) rfl
                           rw [hg0] at h9
                           exact k _ _ _ (hlm _ _ _ _) h9)
                  · first
                    | exfalso; omega
                    | skip
                      refine kw_ald_n x_M_looks_226 rfl ?_
                      refine kw_ild x_M_looks_227 rfl ?_
                      refine kw_icon x_M_looks_229 ?_
                      refine c_M_looks_230 (by exact isM_k hM) (Nat.le_of_ble_eq_true rfl) ?_
                      first | refine s_M_ofn hM hE hn (by omega) (by decide) ?_ | refine s_M_of5 hM hE hn (by omega) (by omega) ?_ | refine s_M_ofn hM (kt_eu hE (by omega)) hn (by omega) (by decide) ?_ | refine s_M_of5 hM (kt_eu hE (by omega)) hn (by omega) (by omega) ?_
                      refine kw_goto x_M_looks_233 ?_
                      first | refine kw_iadd_n x_M_looks_237 ?_ | refine kw_iadd x_M_looks_237 ?_
                      refine kw_iast_n x_M_looks_238 (by first | exact isM_a1 hM | exact isM_a2 hM | exact isM_a3 hM | exact isM_a4 hM | exact isM_a5 hM | exact isM_a6 hM | exact isM_a7 hM | exact isM_a8 hM | exact isM_a10 hM | exact isM_a11 hM) (by omega) (by omega) ?_
                      refine kw_ald_n x_M_looks_239 rfl ?_
                      refine kw_gr x_M_looks_240 (by exact isM_k hM) (by exact isM_r9 hM) ?_
                      refine kw_ald_n x_M_looks_243 rfl ?_
                      refine kw_gi_e x_M_looks_244 (by exact isM_k hM) (by first | exact hL | exact hL2 _ _ _ _ | exact hL3 _ _ _ _ _ _ | exact hG1 _ _ _ (by omega) | exact hE.1 | exact hE.2.1 | exact hE.2.2.1 | exact rfl) ?_
                      refine kw_ild x_M_looks_247 rfl ?_
                      refine kw_iast_n x_M_looks_249 (by first | exact isM_a1 hM | exact isM_a2 hM | exact isM_a3 hM | exact isM_a4 hM | exact isM_a5 hM | exact isM_a6 hM | exact isM_a7 hM | exact isM_a8 hM | exact isM_a10 hM | exact isM_a11 hM) (by omega) (by omega) ?_
                      refine kw_ald_n x_M_looks_250 rfl ?_
                      refine kw_dup x_M_looks_251 rfl ?_
                      refine kw_gi_e x_M_looks_252 (by exact isM_k hM) (by first | exact hL | exact hL2 _ _ _ _ | exact hL3 _ _ _ _ _ _ | exact hG1 _ _ _ (by omega) | exact hE.1 | exact hE.2.1 | exact hE.2.2.1 | exact rfl) ?_
                      refine kw_icon x_M_looks_255 ?_
                      first | refine kw_iadd_n x_M_looks_256 ?_ | refine kw_iadd x_M_looks_256 ?_
                      refine kw_pi x_M_looks_257 (by exact isM_k hM) ?_
                      refine kw_goto x_M_looks_260 ?_
                      first
                        | (have hs : xsp X (le, G, s, c, r) p = (le - xe X p 4, xup G (xe X p 5 - 1) (G (xe X p 5 - 1) + xe X p 4), xup s p 0, c + 1, xup r c p) := (by unfold xsp; rw [if_pos (show xe X p 4 ≤ le by omega)])
                           rw [hs] at k
                           exact k _ _ _ (hlm _ _ _ _) (hle4 _ _ 0 _ rfl (by omega) rfl))
                        | (have hs : xsp X (le, G, s, c, r) p = (le, G, xup s p 1, c + 1, xup r c p) := (by unfold xsp; rw [if_neg (show ¬ xe X p 4 ≤ le by omega)])
                           have hg0 : xup G (xe X p 5 - 1) (G (xe X p 5 - 1) + 0) = G := (by funext q; by_cases hq : q = xe X p 5 - 1; (subst hq; rw [xup_eq]; rfl); (rw [xup_ne _ _ hq]))
                           rw [hs] at k
                           have h9 := hle4 (nI 1) (nI (G (xe X p 5 - 1) + 0)) 1 _ rfl (by omega) rfl
                           rw [hg0] at h9
                           exact k _ _ _ (hlm _ _ _ _) h9)
              · first
                | exfalso; omega
                | skip
                  refine kw_ald_n x_M_looks_195 rfl ?_
                  refine kw_ild x_M_looks_196 rfl ?_
                  refine kw_icon x_M_looks_198 ?_
                  refine c_M_looks_199 (by exact isM_k hM) (Nat.le_of_ble_eq_true rfl) ?_
                  first | refine s_M_ofn hM hE hn (by omega) (by decide) ?_ | refine s_M_of5 hM hE hn (by omega) (by omega) ?_ | refine s_M_ofn hM (kt_eu hE (by omega)) hn (by omega) (by decide) ?_ | refine s_M_of5 hM (kt_eu hE (by omega)) hn (by omega) (by omega) ?_
                  refine kw_goto x_M_looks_202 ?_
                  first | refine kw_isub_n x_M_looks_206 (by omega) ?_ | refine kw_isub x_M_looks_206 ?_
                  refine kw_ist_n x_M_looks_207 (by decide) ?_
                  refine kw_ald_n x_M_looks_208 rfl ?_
                  refine kw_gr x_M_looks_209 (by exact isM_k hM) (by exact isM_r11 hM) ?_
                  refine kw_ald_n x_M_looks_212 rfl ?_
                  refine kw_ild x_M_looks_213 rfl ?_
                  refine kw_icon x_M_looks_215 ?_
                  refine c_M_looks_216 (by exact isM_k hM) (Nat.le_of_ble_eq_true rfl) ?_
                  first | refine s_M_ofn hM hE hn (by omega) (by decide) ?_ | refine s_M_of5 hM hE hn (by omega) (by omega) ?_ | refine s_M_ofn hM (kt_eu hE (by omega)) hn (by omega) (by decide) ?_ | refine s_M_of5 hM (kt_eu hE (by omega)) hn (by omega) (by omega) ?_
                  refine kw_dup2 x_M_looks_219 rfl rfl ?_
                  refine kw_iald_n x_M_looks_220 (by first | exact isM_a1 hM | exact isM_a2 hM | exact isM_a3 hM | exact isM_a4 hM | exact isM_a5 hM | exact isM_a6 hM | exact isM_a7 hM | exact isM_a8 hM | exact isM_a10 hM | exact isM_a11 hM) (by omega) (by omega) (by first | exact hL | exact hL2 _ _ _ _ | exact hL3 _ _ _ _ _ _ | exact hG1 _ _ _ (by omega) | exact hE.1 | exact hE.2.1 | exact hE.2.2.1 | exact rfl) ?_
                  refine kw_ild x_M_looks_221 rfl ?_
                  first | refine kw_if_eq_b x_M_looks_223 (fun h223 => ?_) (fun h223 => ?_) | refine kw_if_eq_n x_M_looks_223 (by omega) (fun h223 => ?_) (fun h223 => ?_) | refine kw_if_eq x_M_looks_223 (fun h223 => ?_) (fun h223 => ?_)
                  · first
                    | exfalso; omega
                    | skip
                      refine kw_icon x_M_looks_236 ?_
                      first | refine kw_iadd_n x_M_looks_237 ?_ | refine kw_iadd x_M_looks_237 ?_
                      refine kw_iast_n x_M_looks_238 (by first | exact isM_a1 hM | exact isM_a2 hM | exact isM_a3 hM | exact isM_a4 hM | exact isM_a5 hM | exact isM_a6 hM | exact isM_a7 hM | exact isM_a8 hM | exact isM_a10 hM | exact isM_a11 hM) (by omega) (by omega) ?_
                      refine kw_ald_n x_M_looks_239 rfl ?_
                      refine kw_gr x_M_looks_240 (by exact isM_k hM) (by exact isM_r9 hM) ?_
                      refine kw_ald_n x_M_looks_243 rfl ?_
                      refine kw_gi_e x_M_looks_244 (by exact isM_k hM) (by first | exact hL | exact hL2 _ _ _ _ | exact hL3 _ _ _ _ _ _ | exact hG1 _ _ _ (by omega) | exact hE.1 | exact hE.2.1 | exact hE.2.2.1 | exact rfl) ?_
                      refine kw_ild x_M_looks_247 rfl ?_
                      refine kw_iast_n x_M_looks_249 (by first | exact isM_a1 hM | exact isM_a2 hM | exact isM_a3 hM | exact isM_a4 hM | exact isM_a5 hM | exact isM_a6 hM | exact isM_a7 hM | exact isM_a8 hM | exact isM_a10 hM | exact isM_a11 hM) (by omega) (by omega) ?_
                      refine kw_ald_n x_M_looks_250 rfl ?_
                      refine kw_dup x_M_looks_251 rfl ?_
                      refine kw_gi_e x_M_looks_252 (by exact isM_k hM) (by first | exact hL | exact hL2 _ _ _ _ | exact hL3 _ _ _ _ _ _ | exact hG1 _ _ _ (by omega) | exact hE.1 | exact hE.2.1 | exact hE.2.2.1 | exact rfl) ?_
                      refine kw_icon x_M_looks_255 ?_
                      first | refine kw_iadd_n x_M_looks_256 ?_ | refine kw_iadd x_M_looks_256 ?_
                      refine kw_pi x_M_looks_257 (by exact isM_k hM) ?_
                      refine kw_goto x_M_looks_260 ?_
                      first
                        | (have hs : xsp X (le, G, s, c, r) p = (le - xe X p 4, xup G (xe X p 5 - 1) (G (xe X p 5 - 1) + xe X p 4), xup s p 0, c + 1, xup r c p) := (by unfold xsp; rw [if_pos (show xe X p 4 ≤ le by omega)])
                           rw [hs] at k
                           exact k _ _ _ (hlm _ _ _ _) (hle4 _ _ 0 _ rfl (by omega) rfl))
                        | (have hs : xsp X (le, G, s, c, r) p = (le, G, xup s p 1, c + 1, xup r c p) := (by unfold xsp; rw [if_neg (show ¬ xe X p 4 ≤ le by omega)])
                           have hg0 : xup G (xe X p 5 - 1) (G (xe X p 5 - 1) + 0) = G := (by funext q; by_cases hq : q = xe X p 5 - 1; (subst hq; rw [xup_eq]; rfl); (rw [xup_ne _ _ hq]))
                           rw [hs] at k
                           have h9 := hle4 (nI 1) (nI (G (xe X p 5 - 1) + 0)) 1 _ rfl (by omega) rfl
                           rw [hg0] at h9
                           exact k _ _ _ (hlm _ _ _ _) h9)
                  · first
                    | exfalso; omega
                    | skip
                      refine kw_ald_n x_M_looks_226 rfl ?_
                      refine kw_ild x_M_looks_227 rfl ?_
                      refine kw_icon x_M_looks_229 ?_
                      refine c_M_looks_230 (by exact isM_k hM) (Nat.le_of_ble_eq_true rfl) ?_
                      first | refine s_M_ofn hM hE hn (by omega) (by decide) ?_ | refine s_M_of5 hM hE hn (by omega) (by omega) ?_ | refine s_M_ofn hM (kt_eu hE (by omega)) hn (by omega) (by decide) ?_ | refine s_M_of5 hM (kt_eu hE (by omega)) hn (by omega) (by omega) ?_
                      refine kw_goto x_M_looks_233 ?_
                      first | refine kw_iadd_n x_M_looks_237 ?_ | refine kw_iadd x_M_looks_237 ?_
                      refine kw_iast_n x_M_looks_238 (by first | exact isM_a1 hM | exact isM_a2 hM | exact isM_a3 hM | exact isM_a4 hM | exact isM_a5 hM | exact isM_a6 hM | exact isM_a7 hM | exact isM_a8 hM | exact isM_a10 hM | exact isM_a11 hM) (by omega) (by omega) ?_
                      refine kw_ald_n x_M_looks_239 rfl ?_
                      refine kw_gr x_M_looks_240 (by exact isM_k hM) (by exact isM_r9 hM) ?_
                      refine kw_ald_n x_M_looks_243 rfl ?_
                      refine kw_gi_e x_M_looks_244 (by exact isM_k hM) (by first | exact hL | exact hL2 _ _ _ _ | exact hL3 _ _ _ _ _ _ | exact hG1 _ _ _ (by omega) | exact hE.1 | exact hE.2.1 | exact hE.2.2.1 | exact rfl) ?_
                      refine kw_ild x_M_looks_247 rfl ?_
                      refine kw_iast_n x_M_looks_249 (by first | exact isM_a1 hM | exact isM_a2 hM | exact isM_a3 hM | exact isM_a4 hM | exact isM_a5 hM | exact isM_a6 hM | exact isM_a7 hM | exact isM_a8 hM | exact isM_a10 hM | exact isM_a11 hM) (by omega) (by omega) ?_
                      refine kw_ald_n x_M_looks_250 rfl ?_
                      refine kw_dup x_M_looks_251 rfl ?_
                      refine kw_gi_e x_M_looks_252 (by exact isM_k hM) (by first | exact hL | exact hL2 _ _ _ _ | exact hL3 _ _ _ _ _ _ | exact hG1 _ _ _ (by omega) | exact hE.1 | exact hE.2.1 | exact hE.2.2.1 | exact rfl) ?_
                      refine kw_icon x_M_looks_255 ?_
                      first | refine kw_iadd_n x_M_looks_256 ?_ | refine kw_iadd x_M_looks_256 ?_
                      refine kw_pi x_M_looks_257 (by exact isM_k hM) ?_
                      refine kw_goto x_M_looks_260 ?_
                      first
                        | (have hs : xsp X (le, G, s, c, r) p = (le - xe X p 4, xup G (xe X p 5 - 1) (G (xe X p 5 - 1) + xe X p 4), xup s p 0, c + 1, xup r c p) := (by unfold xsp; rw [if_pos (show xe X p 4 ≤ le by omega)])
                           rw [hs] at k
                           exact k _ _ _ (hlm _ _ _ _) (hle4 _ _ 0 _ rfl (by omega) rfl))
                        | (have hs : xsp X (le, G, s, c, r) p = (le, G, xup s p 1, c + 1, xup r c p) := (by unfold xsp; rw [if_neg (show ¬ xe X p 4 ≤ le by omega)])
                           have hg0 : xup G (xe X p 5 - 1) (G (xe X p 5 - 1) + 0) = G := (by funext q; by_cases hq : q = xe X p 5 - 1; (subst hq; rw [xup_eq]; rfl); (rw [xup_ne _ _ hq]))
                           rw [hs] at k
                           have h9 := hle4 (nI 1) (nI (G (xe X p 5 - 1) + 0)) 1 _ rfl (by omega) rfl
                           rw [hg0] at h9
                           exact k _ _ _ (hlm _ _ _ _) h9)
          · first
            | exfalso; omega
            | skip
              refine kw_icon x_M_looks_183 ?_
              refine kw_goto x_M_looks_184 ?_
              refine kw_iast_n x_M_looks_188 (by first | exact isM_a1 hM | exact isM_a2 hM | exact isM_a3 hM | exact isM_a4 hM | exact isM_a5 hM | exact isM_a6 hM | exact isM_a7 hM | exact isM_a8 hM | exact isM_a10 hM | exact isM_a11 hM) (by omega) (by omega) ?_
              refine kw_ild_n x_M_looks_189 rfl ?_
              refine kw_ild x_M_looks_190 rfl ?_
              first | refine kw_if_eq_b x_M_looks_192 (fun h192 => ?_) (fun h192 => ?_) | refine kw_if_eq_n x_M_looks_192 (by omega) (fun h192 => ?_) (fun h192 => ?_) | refine kw_if_eq x_M_looks_192 (fun h192 => ?_) (fun h192 => ?_)
              · first
                | exfalso; omega
                | skip
                  refine kw_icon x_M_looks_205 ?_
                  first | refine kw_isub_n x_M_looks_206 (by omega) ?_ | refine kw_isub x_M_looks_206 ?_
                  refine kw_ist_n x_M_looks_207 (by decide) ?_
                  refine kw_ald_n x_M_looks_208 rfl ?_
                  refine kw_gr x_M_looks_209 (by exact isM_k hM) (by exact isM_r11 hM) ?_
                  refine kw_ald_n x_M_looks_212 rfl ?_
                  refine kw_ild x_M_looks_213 rfl ?_
                  refine kw_icon x_M_looks_215 ?_
                  refine c_M_looks_216 (by exact isM_k hM) (Nat.le_of_ble_eq_true rfl) ?_
                  first | refine s_M_ofn hM hE hn (by omega) (by decide) ?_ | refine s_M_of5 hM hE hn (by omega) (by omega) ?_ | refine s_M_ofn hM (kt_eu hE (by omega)) hn (by omega) (by decide) ?_ | refine s_M_of5 hM (kt_eu hE (by omega)) hn (by omega) (by omega) ?_
                  refine kw_dup2 x_M_looks_219 rfl rfl ?_
                  refine kw_iald_n x_M_looks_220 (by first | exact isM_a1 hM | exact isM_a2 hM | exact isM_a3 hM | exact isM_a4 hM | exact isM_a5 hM | exact isM_a6 hM | exact isM_a7 hM | exact isM_a8 hM | exact isM_a10 hM | exact isM_a11 hM) (by omega) (by omega) (by first | exact hL | exact hL2 _ _ _ _ | exact hL3 _ _ _ _ _ _ | exact hG1 _ _ _ (by omega) | exact hE.1 | exact hE.2.1 | exact hE.2.2.1 | exact rfl) ?_
                  refine kw_ild x_M_looks_221 rfl ?_
                  first | refine kw_if_eq_b x_M_looks_223 (fun h223 => ?_) (fun h223 => ?_) | refine kw_if_eq_n x_M_looks_223 (by omega) (fun h223 => ?_) (fun h223 => ?_) | refine kw_if_eq x_M_looks_223 (fun h223 => ?_) (fun h223 => ?_)
                  · first
                    | exfalso; omega
                    | skip
                      refine kw_icon x_M_looks_236 ?_
                      first | refine kw_iadd_n x_M_looks_237 ?_ | refine kw_iadd x_M_looks_237 ?_
                      refine kw_iast_n x_M_looks_238 (by first | exact isM_a1 hM | exact isM_a2 hM | exact isM_a3 hM | exact isM_a4 hM | exact isM_a5 hM | exact isM_a6 hM | exact isM_a7 hM | exact isM_a8 hM | exact isM_a10 hM | exact isM_a11 hM) (by omega) (by omega) ?_
                      refine kw_ald_n x_M_looks_239 rfl ?_
                      refine kw_gr x_M_looks_240 (by exact isM_k hM) (by exact isM_r9 hM) ?_
                      refine kw_ald_n x_M_looks_243 rfl ?_
                      refine kw_gi_e x_M_looks_244 (by exact isM_k hM) (by first | exact hL | exact hL2 _ _ _ _ | exact hL3 _ _ _ _ _ _ | exact hG1 _ _ _ (by omega) | exact hE.1 | exact hE.2.1 | exact hE.2.2.1 | exact rfl) ?_
                      refine kw_ild x_M_looks_247 rfl ?_
                      refine kw_iast_n x_M_looks_249 (by first | exact isM_a1 hM | exact isM_a2 hM | exact isM_a3 hM | exact isM_a4 hM | exact isM_a5 hM | exact isM_a6 hM | exact isM_a7 hM | exact isM_a8 hM | exact isM_a10 hM | exact isM_a11 hM) (by omega) (by omega) ?_
                      refine kw_ald_n x_M_looks_250 rfl ?_
                      refine kw_dup x_M_looks_251 rfl ?_
                      refine kw_gi_e x_M_looks_252 (by exact isM_k hM) (by first | exact hL | exact hL2 _ _ _ _ | exact hL3 _ _ _ _ _ _ | exact hG1 _ _ _ (by omega) | exact hE.1 | exact hE.2.1 | exact hE.2.2.1 | exact rfl) ?_
                      refine kw_icon x_M_looks_255 ?_
                      first | refine kw_iadd_n x_M_looks_256 ?_ | refine kw_iadd x_M_looks_256 ?_
                      refine kw_pi x_M_looks_257 (by exact isM_k hM) ?_
                      refine kw_goto x_M_looks_260 ?_
                      first
                        | (have hs : xsp X (le, G, s, c, r) p = (le - xe X p 4, xup G (xe X p 5 - 1) (G (xe X p 5 - 1) + xe X p 4), xup s p 0, c + 1, xup r c p) := (by unfold xsp; rw [if_pos (show xe X p 4 ≤ le by omega)])
                           rw [hs] at k
                           exact k _ _ _ (hlm _ _ _ _) (hle4 _ _ 0 _ rfl (by omega) rfl))
                        | (have hs : xsp X (le, G, s, c, r) p = (le, G, xup s p 1, c + 1, xup r c p) := (by unfold xsp; rw [if_neg (show ¬ xe X p 4 ≤ le by omega)])
                           have hg0 : xup G (xe X p 5 - 1) (G (xe X p 5 - 1) + 0) = G := (by funext q; by_cases hq : q = xe X p 5 - 1; (subst hq; rw [xup_eq]; rfl); (rw [xup_ne _ _ hq]))
                           rw [hs] at k
                           have h9 := hle4 (nI 1) (nI (G (xe X p 5 - 1) + 0)) 1 _ rfl (by omega) rfl
                           rw [hg0] at h9
                           exact k _ _ _ (hlm _ _ _ _) h9)
                  · first
                    | exfalso; omega
                    | skip
                      refine kw_ald_n x_M_looks_226 rfl ?_
                      refine kw_ild x_M_looks_227 rfl ?_
                      refine kw_icon x_M_looks_229 ?_
                      refine c_M_looks_230 (by exact isM_k hM) (Nat.le_of_ble_eq_true rfl) ?_
                      first | refine s_M_ofn hM hE hn (by omega) (by decide) ?_ | refine s_M_of5 hM hE hn (by omega) (by omega) ?_ | refine s_M_ofn hM (kt_eu hE (by omega)) hn (by omega) (by decide) ?_ | refine s_M_of5 hM (kt_eu hE (by omega)) hn (by omega) (by omega) ?_
                      refine kw_goto x_M_looks_233 ?_
                      first | refine kw_iadd_n x_M_looks_237 ?_ | refine kw_iadd x_M_looks_237 ?_
                      refine kw_iast_n x_M_looks_238 (by first | exact isM_a1 hM | exact isM_a2 hM | exact isM_a3 hM | exact isM_a4 hM | exact isM_a5 hM | exact isM_a6 hM | exact isM_a7 hM | exact isM_a8 hM | exact isM_a10 hM | exact isM_a11 hM) (by omega) (by omega) ?_
                      refine kw_ald_n x_M_looks_239 rfl ?_
                      refine kw_gr x_M_looks_240 (by exact isM_k hM) (by exact isM_r9 hM) ?_
                      refine kw_ald_n x_M_looks_243 rfl ?_
                      refine kw_gi_e x_M_looks_244 (by exact isM_k hM) (by first | exact hL | exact hL2 _ _ _ _ | exact hL3 _ _ _ _ _ _ | exact hG1 _ _ _ (by omega) | exact hE.1 | exact hE.2.1 | exact hE.2.2.1 | exact rfl) ?_
                      refine kw_ild x_M_looks_247 rfl ?_
                      refine kw_iast_n x_M_looks_249 (by first | exact isM_a1 hM | exact isM_a2 hM | exact isM_a3 hM | exact isM_a4 hM | exact isM_a5 hM | exact isM_a6 hM | exact isM_a7 hM | exact isM_a8 hM | exact isM_a10 hM | exact isM_a11 hM) (by omega) (by omega) ?_
                      refine kw_ald_n x_M_looks_250 rfl ?_
                      refine kw_dup x_M_looks_251 rfl ?_
                      refine kw_gi_e x_M_looks_252 (by exact isM_k hM) (by first | exact hL | exact hL2 _ _ _ _ | exact hL3 _ _ _ _ _ _ | exact hG1 _ _ _ (by omega) | exact hE.1 | exact hE.2.1 | exact hE.2.2.1 | exact rfl) ?_
                      refine kw_icon x_M_looks_255 ?_
                      first | refine kw_iadd_n x_M_looks_256 ?_ | refine kw_iadd x_M_looks_256 ?_
                      refine kw_pi x_M_looks_257 (by exact isM_k hM) ?_
                      refine kw_goto x_M_looks_260 ?_
                      first
                        | (have hs : xsp X (le, G, s, c, r) p = (le - xe X p 4, xup G (xe X p 5 - 1) (G (xe X p 5 - 1) + xe X p 4), xup s p 0, c + 1, xup r c p) := (by unfold xsp; rw [if_pos (show xe X p 4 ≤ le by omega)])
                           rw [hs] at k
                           exact k _ _ _ (hlm _ _ _ _) (hle4 _ _ 0 _ rfl (by omega) rfl))
                        | (have hs : xsp X (le, G, s, c, r) p = (le, G, xup s p 1, c + 1, xup r c p) := (by unfold xsp; rw [if_neg (show ¬ xe X p 4 ≤ le by omega)])
                           have hg0 : xup G (xe X p 5 - 1) (G (xe X p 5 - 1) + 0) = G := (by funext q; by_cases hq : q = xe X p 5 - 1; (subst hq; rw [xup_eq]; rfl); (rw [xup_ne _ _ hq]))
                           rw [hs] at k
                           have h9 := hle4 (nI 1) (nI (G (xe X p 5 - 1) + 0)) 1 _ rfl (by omega) rfl
                           rw [hg0] at h9
                           exact k _ _ _ (hlm _ _ _ _) h9)
              · first
                | exfalso; omega
                | skip
                  refine kw_ald_n x_M_looks_195 rfl ?_
                  refine kw_ild x_M_looks_196 rfl ?_
                  refine kw_icon x_M_looks_198 ?_
                  refine c_M_looks_199 (by exact isM_k hM) (Nat.le_of_ble_eq_true rfl) ?_
                  first | refine s_M_ofn hM hE hn (by omega) (by decide) ?_ | refine s_M_of5 hM hE hn (by omega) (by omega) ?_ | refine s_M_ofn hM (kt_eu hE (by omega)) hn (by omega) (by decide) ?_ | refine s_M_of5 hM (kt_eu hE (by omega)) hn (by omega) (by omega) ?_
                  refine kw_goto x_M_looks_202 ?_
                  first | refine kw_isub_n x_M_looks_206 (by omega) ?_ | refine kw_isub x_M_looks_206 ?_
                  refine kw_ist_n x_M_looks_207 (by decide) ?_
                  refine kw_ald_n x_M_looks_208 rfl ?_
                  refine kw_gr x_M_looks_209 (by exact isM_k hM) (by exact isM_r11 hM) ?_
                  refine kw_ald_n x_M_looks_212 rfl ?_
                  refine kw_ild x_M_looks_213 rfl ?_
                  refine kw_icon x_M_looks_215 ?_
                  refine c_M_looks_216 (by exact isM_k hM) (Nat.le_of_ble_eq_true rfl) ?_
                  first | refine s_M_ofn hM hE hn (by omega) (by decide) ?_ | refine s_M_of5 hM hE hn (by omega) (by omega) ?_ | refine s_M_ofn hM (kt_eu hE (by omega)) hn (by omega) (by decide) ?_ | refine s_M_of5 hM (kt_eu hE (by omega)) hn (by omega) (by omega) ?_
                  refine kw_dup2 x_M_looks_219 rfl rfl ?_
                  refine kw_iald_n x_M_looks_220 (by first | exact isM_a1 hM | exact isM_a2 hM | exact isM_a3 hM | exact isM_a4 hM | exact isM_a5 hM | exact isM_a6 hM | exact isM_a7 hM | exact isM_a8 hM | exact isM_a10 hM | exact isM_a11 hM) (by omega) (by omega) (by first | exact hL | exact hL2 _ _ _ _ | exact hL3 _ _ _ _ _ _ | exact hG1 _ _ _ (by omega) | exact hE.1 | exact hE.2.1 | exact hE.2.2.1 | exact rfl) ?_
                  refine kw_ild x_M_looks_221 rfl ?_
                  first | refine kw_if_eq_b x_M_looks_223 (fun h223 => ?_) (fun h223 => ?_) | refine kw_if_eq_n x_M_looks_223 (by omega) (fun h223 => ?_) (fun h223 => ?_) | refine kw_if_eq x_M_looks_223 (fun h223 => ?_) (fun h223 => ?_)
                  · first
                    | exfalso; omega
                    | skip
                      refine kw_icon x_M_looks_236 ?_
                      first | refine kw_iadd_n x_M_looks_237 ?_ | refine kw_iadd x_M_looks_237 ?_
                      refine kw_iast_n x_M_looks_238 (by first | exact isM_a1 hM | exact isM_a2 hM | exact isM_a3 hM | exact isM_a4 hM | exact isM_a5 hM | exact isM_a6 hM | exact isM_a7 hM | exact isM_a8 hM | exact isM_a10 hM | exact isM_a11 hM) (by omega) (by omega) ?_
                      refine kw_ald_n x_M_looks_239 rfl ?_
                      refine kw_gr x_M_looks_240 (by exact isM_k hM) (by exact isM_r9 hM) ?_
                      refine kw_ald_n x_M_looks_243 rfl ?_
                      refine kw_gi_e x_M_looks_244 (by exact isM_k hM) (by first | exact hL | exact hL2 _ _ _ _ | exact hL3 _ _ _ _ _ _ | exact hG1 _ _ _ (by omega) | exact hE.1 | exact hE.2.1 | exact hE.2.2.1 | exact rfl) ?_
                      refine kw_ild x_M_looks_247 rfl ?_
                      refine kw_iast_n x_M_looks_249 (by first | exact isM_a1 hM | exact isM_a2 hM | exact isM_a3 hM | exact isM_a4 hM | exact isM_a5 hM | exact isM_a6 hM | exact isM_a7 hM | exact isM_a8 hM | exact isM_a10 hM | exact isM_a11 hM) (by omega) (by omega) ?_
                      refine kw_ald_n x_M_looks_250 rfl ?_
                      refine kw_dup x_M_looks_251 rfl ?_
                      refine kw_gi_e x_M_looks_252 (by exact isM_k hM) (by first | exact hL | exact hL2 _ _ _ _ | exact hL3 _ _ _ _ _ _ | exact hG1 _ _ _ (by omega) | exact hE.1 | exact hE.2.1 | exact hE.2.2.1 | exact rfl) ?_
                      refine kw_icon x_M_looks_255 ?_
                      first | refine kw_iadd_n x_M_looks_256 ?_ | refine kw_iadd x_M_looks_256 ?_
                      refine kw_pi x_M_looks_257 (by exact isM_k hM) ?_
                      refine kw_goto x_M_looks_260 ?_
                      first
                        | (have hs : xsp X (le, G, s, c, r) p = (le - xe X p 4, xup G (xe X p 5 - 1) (G (xe X p 5 - 1) + xe X p 4), xup s p 0, c + 1, xup r c p) := (by unfold xsp; rw [if_pos (show xe X p 4 ≤ le by omega)])
                           rw [hs] at k
                           exact k _ _ _ (hlm _ _ _ _) (hle4 _ _ 0 _ rfl (by omega) rfl))
                        | (have hs : xsp X (le, G, s, c, r) p = (le, G, xup s p 1, c + 1, xup r c p) := (by unfold xsp; rw [if_neg (show ¬ xe X p 4 ≤ le by omega)])
                           have hg0 : xup G (xe X p 5 - 1) (G (xe X p 5 - 1) + 0) = G := (by funext q; by_cases hq : q = xe X p 5 - 1; (subst hq; rw [xup_eq]; rfl); (rw [xup_ne _ _ hq]))
                           rw [hs] at k
                           have h9 := hle4 (nI 1) (nI (G (xe X p 5 - 1) + 0)) 1 _ rfl (by omega) rfl
                           rw [hg0] at h9
                           exact k _ _ _ (hlm _ _ _ _) h9)
                  · first
                    | exfalso; omega
                    | skip
                      refine kw_ald_n x_M_looks_226 rfl ?_
                      refine kw_ild x_M_looks_227 rfl ?_
                      refine kw_icon x_M_looks_229 ?_
                      refine c_M_looks_230 (by exact isM_k hM) (Nat.le_of_ble_eq_true rfl) ?_
                      first | refine s_M_ofn hM hE hn (by omega) (by decide) ?_ | refine s_M_of5 hM hE hn (by omega) (by omega) ?_ | refine s_M_ofn hM (kt_eu hE (by omega)) hn (by omega) (by decide) ?_ | refine s_M_of5 hM (kt_eu hE (by omega)) hn (by omega) (by omega) ?_
                      refine kw_goto x_M_looks_233 ?_
                      first | refine kw_iadd_n x_M_looks_237 ?_ | refine kw_iadd x_M_looks_237 ?_
                      refine kw_iast_n x_M_looks_238 (by first | exact isM_a1 hM | exact isM_a2 hM | exact isM_a3 hM | exact isM_a4 hM | exact isM_a5 hM | exact isM_a6 hM | exact isM_a7 hM | exact isM_a8 hM | exact isM_a10 hM | exact isM_a11 hM) (by omega) (by omega) ?_
                      refine kw_ald_n x_M_looks_239 rfl ?_
                      refine kw_gr x_M_looks_240 (by exact isM_k hM) (by exact isM_r9 hM) ?_
                      refine kw_ald_n x_M_looks_243 rfl ?_
                      refine kw_gi_e x_M_looks_244 (by exact isM_k hM) (by first | exact hL | exact hL2 _ _ _ _ | exact hL3 _ _ _ _ _ _ | exact hG1 _ _ _ (by omega) | exact hE.1 | exact hE.2.1 | exact hE.2.2.1 | exact rfl) ?_
                      refine kw_ild x_M_looks_247 rfl ?_
                      refine kw_iast_n x_M_looks_249 (by first | exact isM_a1 hM | exact isM_a2 hM | exact isM_a3 hM | exact isM_a4 hM | exact isM_a5 hM | exact isM_a6 hM | exact isM_a7 hM | exact isM_a8 hM | exact isM_a10 hM | exact isM_a11 hM) (by omega) (by omega) ?_
                      refine kw_ald_n x_M_looks_250 rfl ?_
                      refine kw_dup x_M_looks_251 rfl ?_
                      refine kw_gi_e x_M_looks_252 (by exact isM_k hM) (by first | exact hL | exact hL2 _ _ _ _ | exact hL3 _ _ _ _ _ _ | exact hG1 _ _ _ (by omega) | exact hE.1 | exact hE.2.1 | exact hE.2.2.1 | exact rfl) ?_
                      refine kw_icon x_M_looks_255 ?_
                      first | refine kw_iadd_n x_M_looks_256 ?_ | refine kw_iadd x_M_looks_256 ?_
                      refine kw_pi x_M_looks_257 (by exact isM_k hM) ?_
                      refine kw_goto x_M_looks_260 ?_
                      first
                        | (have hs : xsp X (le, G, s, c, r) p = (le - xe X p 4, xup G (xe X p 5 - 1) (G (xe X p 5 - 1) + xe X p 4), xup s p 0, c + 1, xup r c p) := (by unfold xsp; rw [if_pos (show xe X p 4 ≤ le by omega)])
                           rw [hs] at k
                           exact k _ _ _ (hlm _ _ _ _) (hle4 _ _ 0 _ rfl (by omega) rfl))
                        | (have hs : xsp X (le, G, s, c, r) p = (le, G, xup s p 1, c + 1, xup r c p) := (by unfold xsp; rw [if_neg (show ¬ xe X p 4 ≤ le by omega)])
                           have hg0 : xup G (xe X p 5 - 1) (G (xe X p 5 - 1) + 0) = G := (by funext q; by_cases hq : q = xe X p 5 - 1; (subst hq; rw [xup_eq]; rfl); (rw [xup_ne _ _ hq]))
                           rw [hs] at k
                           have h9 := hle4 (nI 1) (nI (G (xe X p 5 - 1) + 0)) 1 _ rfl (by omega) rfl
                           rw [hg0] at h9
                           exact k _ _ _ (hlm _ _ _ _) h9)
theorem s_M_looks_lp (hM : kt_isM P N R m) (hW : kt_wf X) {t g : Nat} (ht : t ≤ 5) (hg : g < 6) : ∀ (kk : Nat) (s : kt_σ) (I : kt_I) (a : Nat) (v5 v6 : Option Value), a < 2147483648 → xct (xop X t g s.2.2.1) (xn X) ≤ kk → kt_le m (xn X) s I → kt_lw X t g s → kt_enc (I (m + 1)) X →
    (∀ I', kt_lm m I I' → kt_le m (xn X) (xlk X t g kk s) I' → Q none I' J R) → KW P i_M_looks N 39 [some (.ref m), some (.int (nI t)), some (.int (nI g)), some (.int (nI s.1)), some (.int (nI a)), v5, v6] [] N I J R Q := by
  intro kk
  have hn := hW.2.2.1
  induction kk with
  | zero =>
    intro s I a v5 v6 ha hc hS hw hE k
    obtain ⟨le, G, st, c, r⟩ := s
    have hp : xpk X t g G st (xn X) = none := by
      cases hq : xpk X t g G st (xn X) with
      | none => rfl
      | some p =>
        have hpp := xpk_some hq
        have := xct_pos hpp.1 hpp.2
        simp only at hc
        omega
    refine kw_ild x_M_looks_39 rfl ?_
    first | refine kw_if_lt_s x_M_looks_41 ⟨by omega, by omega⟩ (fun h41 => ?_) (fun h41 => ?_) | refine kw_if_lt_n x_M_looks_41 (by omega) (fun h41 => ?_) (fun h41 => ?_) | refine kw_if_lt x_M_looks_41 (fun h41 => ?_) (fun h41 => ?_)
    · first
      | exfalso; omega
      | skip
        refine kw_vret x_M_looks_263 ?_
        exact k
    · first
      | exfalso; omega
      | skip
        refine kw_bip x_M_looks_44 ?_
        refine kw_ist x_M_looks_46 (by decide) ?_
        refine kw_icon x_M_looks_48 ?_
        refine kw_ist x_M_looks_49 (by decide) ?_
        refine s_M_looks_in hM hE hW ht hg hS.1 hw.1 hS.2.1 (fun q hq => by show G q < 10000; have h7 : G q + le ≤ 6000 := hw.2.1 q; omega) ?_ (xn X) 0 _ _ (by omega) rfl
        intro w5 w6
        rw [hp]
        refine kw_ild x_M_looks_149 rfl ?_
        first | refine kw_if_lt_s x_M_looks_151 ⟨by omega, by omega⟩ (fun h151 => ?_) (fun h151 => ?_) | refine kw_if_lt_n x_M_looks_151 (by omega) (fun h151 => ?_) (fun h151 => ?_) | refine kw_if_lt x_M_looks_151 (fun h151 => ?_) (fun h151 => ?_)
        · first
          | exfalso; first | omega | (revert h151; decide) | (revert h41; decide)
          | skip
            refine kw_ild x_M_looks_39 rfl ?_
            first | refine kw_if_lt_s x_M_looks_41 ⟨by omega, by omega⟩ (fun h41 => ?_) (fun h41 => ?_) | refine kw_if_lt_n x_M_looks_41 (by omega) (fun h41 => ?_) (fun h41 => ?_) | refine kw_if_lt x_M_looks_41 (fun h41 => ?_) (fun h41 => ?_)
            · first
              | exfalso; first | omega | (revert h151; decide) | (revert h41; decide)
              | skip
                refine kw_vret x_M_looks_263 ?_
                exact k _ kt_lm.rf hS
            · first
              | exfalso; first | omega | (revert h151; decide) | (revert h41; decide)
              | skip
                skip
        · first
          | exfalso; first | omega | (revert h151; decide) | (revert h41; decide)
          | skip
            skip
  | succ kk ih =>
    intro s I a v5 v6 ha hc hS hw hE k
    obtain ⟨le, G, st, c, r⟩ := s
    cases hp : xpk X t g G st (xn X) with
    | none =>
      have hk : xlk X t g (kk + 1) (le, G, st, c, r) = (le, G, st, c, r) := by simp only [xlk, hp]
      rw [hk] at k
      refine kw_ild x_M_looks_39 rfl ?_
      first | refine kw_if_lt_s x_M_looks_41 ⟨by omega, by omega⟩ (fun h41 => ?_) (fun h41 => ?_) | refine kw_if_lt_n x_M_looks_41 (by omega) (fun h41 => ?_) (fun h41 => ?_) | refine kw_if_lt x_M_looks_41 (fun h41 => ?_) (fun h41 => ?_)
      · first
        | exfalso; omega
        | skip
          refine kw_vret x_M_looks_263 ?_
          exact k
      · first
        | exfalso; omega
        | skip
          refine kw_bip x_M_looks_44 ?_
          refine kw_ist x_M_looks_46 (by decide) ?_
          refine kw_icon x_M_looks_48 ?_
          refine kw_ist x_M_looks_49 (by decide) ?_
          refine s_M_looks_in hM hE hW ht hg hS.1 hw.1 hS.2.1 (fun q hq => by show G q < 10000; have h7 : G q + le ≤ 6000 := hw.2.1 q; omega) ?_ (xn X) 0 _ _ (by omega) rfl
          intro w5 w6
          rw [hp]
          refine kw_ild x_M_looks_149 rfl ?_
          first | refine kw_if_lt_s x_M_looks_151 ⟨by omega, by omega⟩ (fun h151 => ?_) (fun h151 => ?_) | refine kw_if_lt_n x_M_looks_151 (by omega) (fun h151 => ?_) (fun h151 => ?_) | refine kw_if_lt x_M_looks_151 (fun h151 => ?_) (fun h151 => ?_)
          · first
            | exfalso; first | omega | (revert h151; decide) | (revert h41; decide)
            | skip
              refine kw_ild x_M_looks_39 rfl ?_
              first | refine kw_if_lt_s x_M_looks_41 ⟨by omega, by omega⟩ (fun h41 => ?_) (fun h41 => ?_) | refine kw_if_lt_n x_M_looks_41 (by omega) (fun h41 => ?_) (fun h41 => ?_) | refine kw_if_lt x_M_looks_41 (fun h41 => ?_) (fun h41 => ?_)
              · first
                | exfalso; first | omega | (revert h151; decide) | (revert h41; decide)
                | skip
                  refine kw_vret x_M_looks_263 ?_
                  exact k _ kt_lm.rf hS
              · first
                | exfalso; first | omega | (revert h151; decide) | (revert h41; decide)
                | skip
                  skip
          · first
            | exfalso; first | omega | (revert h151; decide) | (revert h41; decide)
            | skip
              skip
    | some p =>
      have hk : xlk X t g (kk + 1) (le, G, st, c, r) = xlk X t g kk (xsp X (le, G, st, c, r) p) := by simp only [xlk, hp]
      rw [hk] at k
      have hpp := xpk_some hp
      refine kw_ild x_M_looks_39 rfl ?_
      first | refine kw_if_lt_s x_M_looks_41 ⟨by omega, by omega⟩ (fun h41 => ?_) (fun h41 => ?_) | refine kw_if_lt_n x_M_looks_41 (by omega) (fun h41 => ?_) (fun h41 => ?_) | refine kw_if_lt x_M_looks_41 (fun h41 => ?_) (fun h41 => ?_)
      · first
        | exfalso; omega
        | skip
          refine kw_vret x_M_looks_263 ?_
          exact k
      · first
        | exfalso; omega
        | skip
          refine kw_bip x_M_looks_44 ?_
          refine kw_ist x_M_looks_46 (by decide) ?_
          refine kw_icon x_M_looks_48 ?_
          refine kw_ist x_M_looks_49 (by decide) ?_
          refine s_M_looks_in hM hE hW ht hg hS.1 hw.1 hS.2.1 (fun q hq => by show G q < 10000; have h7 : G q + le ≤ 6000 := hw.2.1 q; omega) ?_ (xn X) 0 _ _ (by omega) rfl
          intro w5 w6
          rw [hp]
          refine s_M_looks_dec hM hE hW hS hw hp (fun I' w7 w8 hl hS' => ?_) w5 w6
          refine ih (xsp X (le, G, st, c, r) p) I' p w7 w8 (by omega) ?_ hS' (xsp_lw hw hp) (hl.enc hE) (fun I'' hl' hS'' => k I'' (hl.tr hl') hS'')
          have h9 := xct_drop (f := xop X t g st) (g := xop X t g (xsp X (le, G, st, c, r) p).2.2.1) hpp.1 hpp.2 (by unfold xsp; split <;> simp [xop, xup]) (fun e he => by unfold xsp; split <;> simp [xop, xup, he])
          simp only at hc
          omega
theorem s_M_looks (hM : kt_isM P N R m) (hE : kt_enc (I (m + 1)) X) (hW : kt_wf X) {t g : Nat} (ht : t ≤ 5) (hg : g < 6) {s : Nat → Nat} (hS : ∀ e, e < xn X → I (m + 6) e = kt_sc (s e)) (hs4 : ∀ e, s e < 4)
    (k : ∀ I', kt_lm m I I' → kt_le m (xn X) (xlk X t g 60 (xstk X t g (xn X), fun _ => 0, s, 0, fun _ => 0)) I' → Q none I' J R) : KW P i_M_looks N 0 [some (.ref m), some (.int (nI t)), some (.int (nI g)), none, none, none, none] [] N I J R Q := by
  have hn := hW.2.2.1
  have hsl := xstk_le hW t g (xn X) (Nat.le_refl _)
  have hcl := xct_le (xop X t g s) (xn X)
  have loop : ∀ (d q : Nat) (I1 : kt_I), q + d = 10 → kt_lm m I I1 → I1 m 10 = nI 0 → (∀ p, p < q → I1 (m + 8) p = nI 0) → I1 (m + 6) = I (m + 6) → KW P i_M_looks N 15 [some (.ref m), some (.int (nI t)), some (.int (nI g)), some (.int (nI (xstk X t g (xn X)))), some (.int (nI q)), none, none] [] N I1 J R Q := by
    intro d
    induction d with
    | zero =>
      intro q I1 h1 hl h10 h8 h6
      have hq : q = 10 := by omega
      subst hq
      refine kw_ild x_M_looks_15 rfl ?_
      refine kw_bip x_M_looks_17 ?_
      first | refine kw_ic_ge_n x_M_looks_19 ⟨by omega, by omega⟩ (fun h19 => ?_) (fun h19 => ?_) | refine kw_ic_ge x_M_looks_19 (fun h19 => ?_) (fun h19 => ?_)
      · first
        | exfalso; omega
        | skip
          refine kw_icon x_M_looks_36 ?_
          refine kw_ist x_M_looks_37 (by decide) ?_
          exact s_M_looks_lp hM hW ht hg 60 (xstk X t g (xn X), fun _ => 0, s, 0, fun _ => 0) I1 0 _ _ (by omega) (by simp only; omega) ⟨fun e he => by rw [h6]; exact hS e he, h8, h10, fun j hj => absurd hj (Nat.not_lt_zero j)⟩ ⟨hs4, fun p => by simp only; omega, by simp only; omega⟩ (hl.enc hE) (fun I' hl' hS' => k I' (hl.tr hl') hS')
      · first
        | exfalso; omega
        | skip
          skip
    | succ d ih =>
      intro q I1 h1 hl h10 h8 h6
      refine kw_ild x_M_looks_15 rfl ?_
      refine kw_bip x_M_looks_17 ?_
      first | refine kw_ic_ge_n x_M_looks_19 ⟨by omega, by omega⟩ (fun h19 => ?_) (fun h19 => ?_) | refine kw_ic_ge x_M_looks_19 (fun h19 => ?_) (fun h19 => ?_)
      · first
        | exfalso; omega
        | skip
          skip
      · first
        | exfalso; omega
        | skip
          refine kw_ald_n x_M_looks_22 rfl ?_
          refine kw_gr x_M_looks_23 (by exact isM_k hM) (by exact isM_r11 hM) ?_
          refine kw_ild x_M_looks_26 rfl ?_
          refine kw_icon x_M_looks_28 ?_
          refine kw_iast_n x_M_looks_29 (by first | exact isM_a1 hM | exact isM_a2 hM | exact isM_a3 hM | exact isM_a4 hM | exact isM_a5 hM | exact isM_a6 hM | exact isM_a7 hM | exact isM_a8 hM | exact isM_a10 hM | exact isM_a11 hM) (by omega) (by omega) ?_
          first | refine kw_iinc_n x_M_looks_30 (by decide) rfl ?_ | refine kw_iinc x_M_looks_30 (by decide) rfl ?_
          refine kw_goto x_M_looks_33 ?_
          refine ih (q + 1) _ (by omega) (hl.tr ⟨fun a h1 h2 h3 h4 => kt_u1_ne _ _ _ h4, fun j _ => by simp [kt_u1]⟩) (by simp [kt_u1]; exact h10) (fun p hp => ?_) (by rw [kt_u1_ne _ _ _ (by omega)]; exact h6)
          by_cases hpq : p = q
          · subst hpq; simp [kt_u1]
          · simp [kt_u1, hpq]; exact h8 p (by omega)
  refine kw_ald_n x_M_looks_0 rfl ?_
  refine kw_ild_n x_M_looks_1 rfl ?_
  refine kw_ild_n x_M_looks_2 rfl ?_
  refine c_M_looks_3 (by exact isM_k hM) (Nat.le_of_ble_eq_true rfl) ?_
  refine s_M_stock hM hE hW ht hg ?_
  refine kw_ist_n x_M_looks_6 (by decide) ?_
  refine kw_ald_n x_M_looks_7 rfl ?_
  refine kw_icon x_M_looks_8 ?_
  refine kw_pi x_M_looks_9 (by exact isM_k hM) ?_
  refine kw_icon x_M_looks_12 ?_
  refine kw_ist x_M_looks_13 (by decide) ?_
  exact loop 10 0 _ (by omega) ⟨fun a h1 _ _ _ => kt_u1_ne _ _ _ h1, fun j hj => by simp [kt_u1, hj]⟩ (by simp [kt_u1]) (fun p hp => absurd hp (Nat.not_lt_zero p)) (kt_u1_ne _ _ _ (by omega))
end MK
