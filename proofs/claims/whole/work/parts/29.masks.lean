/-! the reference: a town's goods, a person's orders -/
theorem kt_in01 : ∀ s, s < 4 → decide (nI 0 ≤ kt_sc s ∧ kt_sc s ≤ nI 1) = decide (s ≤ 1) := by decide +kernel
theorem kt_or64 : ∀ M, M < 64 → ∀ t, t < 6 → nI M ||| (nI 1 <<< (nI t &&& 31)) = nI (M ||| 2 ^ t) := by decide +kernel
theorem kt_sc_i : ∀ s, s < 4 → ∀ b, b < 4 → (kt_sc s = kt_sc b ↔ s = b) := by decide +kernel
section KS
variable {P : kt_P} {i NM pc pc' : Nat} {L : List (Option Value)} {st : List Value} {N : Nat} {I : kt_I} {J : kt_J} {R : kt_R} {Q : Option Value → kt_I → kt_J → kt_R → Prop}
theorem kw_ic_eq_cc {s b tgt : Nat} (hd : kt_dj i pc (.if_icmp .eq) tgt pc') (hs : s < 4) (hb : b < 4) (k1 : s = b → KW P i NM tgt L st N I J R Q) (k2 : s ≠ b → KW P i NM pc' L st N I J R Q) : KW P i NM pc L (.int (kt_sc b) :: .int (kt_sc s) :: st) N I J R Q :=
  kw_ic_eq hd (fun h => k1 ((kt_sc_i s hs b hb).mp h)) (fun h => k2 fun q => h ((kt_sc_i s hs b hb).mpr q))
theorem kw_if_eq_c {s tgt : Nat} (hd : kt_dj i pc (.ifCond .eq) tgt pc') (hs : s < 4) (k1 : s = 0 → KW P i NM tgt L st N I J R Q) (k2 : s ≠ 0 → KW P i NM pc' L st N I J R Q) : KW P i NM pc L (.int (kt_sc s) :: st) N I J R Q :=
  kw_if_eq hd (fun h => k1 ((kt_sc0 s hs).mp h)) (fun h => k2 fun q => h ((kt_sc0 s hs).mpr q))
end KS
def xacc (X : kt_X) (t g s : Nat) (e : Nat) : Nat := if xe X e 3 = g ∧ xst X t e = s then xe X e 4 else 0
def xgo (X : kt_X) (t g : Nat) : Nat → Int32
  | 0 => nI (xstk X t g (xn X))
  | 1 => nI (xsm (xacc X t g 0) (xn X))
  | 2 => nI (xstk X t g (xn X)) - nI (xsm (xacc X t g 0) (xn X))
  | _ => nI (xsm (xacc X t g 1) (xn X))
def xlk0 (X : kt_X) (t g : Nat) : kt_σ := xlk X t g 60 (xstk X t g (xn X), fun _ => 0, xs0 X t, 0, fun _ => 0)
theorem xlk_lw {X : kt_X} {t g : Nat} : ∀ (k : Nat) (s : kt_σ), kt_lw X t g s → kt_lw X t g (xlk X t g k s)
  | 0, s, h => h
  | k + 1, s, h => by
    unfold xlk
    cases hp : xpk X t g s.2.1 s.2.2.1 (xn X) with
    | none => exact h
    | some p => exact xlk_lw k _ (xsp_lw h hp)
theorem xlk0_60 {X : kt_X} (hW : kt_wf X) (t g : Nat) : (xlk0 X t g).2.2.2.1 ≤ 60 := by
  have hn := hW.2.2.1
  have hsl := xstk_le hW t g (xn X) (Nat.le_refl _)
  have hcl := xct_le (xop X t g (xs0 X t)) (xn X)
  have h := (xlk_lw 60 (xstk X t g (xn X), fun _ => 0, xs0 X t, 0, fun _ => 0) (⟨xs0_4 X t, fun p => by simp only; omega, by simp only; omega⟩ : kt_lw X t g _)).2.2
  have h2 : (xlk0 X t g).2.2.2.1 + _ ≤ xn X := h
  omega
def xpo (X : kt_X) (t p w e : Nat) : Nat := if xe X e 0 = 1 ∧ xe X e 5 = p + 1 then (match w with
  | 0 => if xk X t e = true then 1 else 0
  | 1 => if xst X t e = 0 then 1 else 0
  | 2 => if xst X t e = 0 then xe X e 4 else 0
  | _ => xbits (xe X e 8)) else 0
theorem xpo_n {X : kt_X} {t p w e : Nat} (h : xe X e 0 ≠ 1 ∨ xe X e 5 ≠ p + 1) : xpo X t p w e = 0 := by
  unfold xpo
  rw [if_neg (fun q => by rcases h with h | h; exact h q.1; exact h q.2)]
section MO
variable {P : kt_P} {N : Nat} {I : kt_I} {J : kt_J} {R : kt_R} {Q : Option Value → kt_I → kt_J → kt_R → Prop} {m : Nat} {X : kt_X}
theorem s_M_goodOf (hM : kt_isM P N R m) (hE : kt_enc (I (m + 1)) X) (hW : kt_wf X) {a b c : Int32} (kf : ¬ (vT (xT X) a ∧ vR 0 5 b ∧ vR 0 3 c) → Q (some (.int (-1))) I J R)
    (k : ∀ t g w, a = nI t → b = nI g → c = nI w → t < xT X → g ≤ 5 → w ≤ 3 → ∀ I', kt_lm m I I' → Q (some (.int (xgo X t g w))) I' J R) : KW P i_M_goodOf N 0 [some (.ref m), some (.int a), some (.int b), some (.int c), none, none, none] [] N I J R Q := by
  have hn := hW.2.2.1
  have hT := hW.2.1
  have loop : ∀ t g w, t < xT X → g ≤ 5 → w ≤ 3 → a = nI t → b = nI g → c = nI w → ∀ I1, kt_lm m I I1 → (∀ e, e < xn X → I1 (m + 6) e = kt_sc (xst X t e)) → ∀ (d e s r : Nat), e + d = xn X → s = xsm (xacc X t g 0) e → r = xsm (xacc X t g 1) e → KW P i_M_goodOf N 42 [some (.ref m), some (.int (nI t)), some (.int (nI g)), some (.int (nI w)), some (.int (nI s)), some (.int (nI r)), some (.int (nI e))] [] N I1 J R Q := by
    intro t g w ht hg hw ha hb hc I1 hl hS d
    have hE := hl.enc hE
    induction d with
    | zero =>
      intro e s r h1 h2 h3
      have h4 : e = xn X := by omega
      subst h4
      refine kw_ild x_M_goodOf_42 rfl ?_
      refine kw_ald_n x_M_goodOf_44 rfl ?_
      refine kw_gr x_M_goodOf_45 (by exact isM_k hM) (by exact isM_r0 hM) ?_
      refine kw_icon x_M_goodOf_48 ?_
      refine kw_iald_n x_M_goodOf_49 (by first | exact isM_a1 hM | exact isM_a2 hM | exact isM_a3 hM | exact isM_a4 hM | exact isM_a5 hM | exact isM_a6 hM | exact isM_a7 hM | exact isM_a8 hM | exact isM_a10 hM | exact isM_a11 hM) (by omega) (by omega) (by first | exact hE.1 | exact hE.2.1 | exact hE.2.2.1 | exact hS _ (by omega) | exact rfl) ?_
      first | refine kw_ic_ge_n x_M_goodOf_50 ⟨by omega, by omega⟩ (fun h50 => ?_) (fun h50 => ?_) | refine kw_ic_ge x_M_goodOf_50 (fun h50 => ?_) (fun h50 => ?_)
      · first
        | exfalso; omega
        | skip
          refine kw_ald_n x_M_goodOf_134 rfl ?_
          refine kw_ild_n x_M_goodOf_135 rfl ?_
          refine kw_ild_n x_M_goodOf_136 rfl ?_
          refine c_M_goodOf_137 (by exact isM_k hM) (Nat.le_of_ble_eq_true rfl) ?_
          refine s_M_stock hM hE hW (by omega) (by omega) ?_
          refine kw_ist x_M_goodOf_140 (by decide) ?_
          refine kw_ild_n x_M_goodOf_142 rfl ?_
          first | refine kw_if_ne_b x_M_goodOf_143 (fun h143 => ?_) (fun h143 => ?_) | refine kw_if_ne_s x_M_goodOf_143 ⟨by omega, by omega⟩ (fun h143 => ?_) (fun h143 => ?_) | refine kw_if_ne_n x_M_goodOf_143 (by omega) (fun h143 => ?_) (fun h143 => ?_) | refine kw_if_ne x_M_goodOf_143 (fun h143 => ?_) (fun h143 => ?_)
          · first
            | exfalso; omega
            | skip
              refine kw_ild_n x_M_goodOf_151 rfl ?_
              refine kw_icon x_M_goodOf_152 ?_
              first | refine kw_ic_ne_n x_M_goodOf_153 ⟨by omega, by omega⟩ (fun h153 => ?_) (fun h153 => ?_) | refine kw_ic_ne x_M_goodOf_153 (fun h153 => ?_) (fun h153 => ?_)
              · first
                | exfalso; omega
                | skip
                  refine kw_ild_n x_M_goodOf_161 rfl ?_
                  refine kw_icon x_M_goodOf_162 ?_
                  first | refine kw_ic_ne_n x_M_goodOf_163 ⟨by omega, by omega⟩ (fun h163 => ?_) (fun h163 => ?_) | refine kw_ic_ne x_M_goodOf_163 (fun h163 => ?_) (fun h163 => ?_)
                  · first
                    | exfalso; omega
                    | skip
                      refine kw_ild x_M_goodOf_174 rfl ?_
                      refine kw_iret x_M_goodOf_176 ?_
                      subst h2; subst h3
                      first
                        | fail
                        | (have h9 : w = 0 := (by omega)
                           subst h9
                           exact k t g 0 ha hb hc ht hg (by decide) I1 hl)
                        | (have h9 : w = 1 := (by omega)
                           subst h9
                           exact k t g 1 ha hb hc ht hg (by decide) I1 hl)
                        | (have h9 : w = 2 := (by omega)
                           subst h9
                           exact k t g 2 ha hb hc ht hg (by decide) I1 hl)
                        | (have h9 : w = 3 := (by omega)
                           subst h9
                           exact k t g 3 ha hb hc ht hg (by decide) I1 hl)
                  · first
                    | exfalso; omega
                    | skip
                      refine kw_ild x_M_goodOf_166 rfl ?_
                      refine kw_ild x_M_goodOf_168 rfl ?_
                      first | refine kw_isub_n x_M_goodOf_170 (by omega) ?_ | refine kw_isub x_M_goodOf_170 ?_
                      refine kw_goto x_M_goodOf_171 ?_
                      refine kw_iret x_M_goodOf_176 ?_
                      subst h2; subst h3
                      first
                        | fail
                        | (have h9 : w = 0 := (by omega)
                           subst h9
                           exact k t g 0 ha hb hc ht hg (by decide) I1 hl)
                        | (have h9 : w = 1 := (by omega)
                           subst h9
                           exact k t g 1 ha hb hc ht hg (by decide) I1 hl)
                        | (have h9 : w = 2 := (by omega)
                           subst h9
                           exact k t g 2 ha hb hc ht hg (by decide) I1 hl)
                        | (have h9 : w = 3 := (by omega)
                           subst h9
                           exact k t g 3 ha hb hc ht hg (by decide) I1 hl)
              · first
                | exfalso; omega
                | skip
                  refine kw_ild x_M_goodOf_156 rfl ?_
                  refine kw_goto x_M_goodOf_158 ?_
                  refine kw_iret x_M_goodOf_176 ?_
                  subst h2; subst h3
                  first
                    | fail
                    | (have h9 : w = 0 := (by omega)
                       subst h9
                       exact k t g 0 ha hb hc ht hg (by decide) I1 hl)
                    | (have h9 : w = 1 := (by omega)
                       subst h9
                       exact k t g 1 ha hb hc ht hg (by decide) I1 hl)
                    | (have h9 : w = 2 := (by omega)
                       subst h9
                       exact k t g 2 ha hb hc ht hg (by decide) I1 hl)
                    | (have h9 : w = 3 := (by omega)
                       subst h9
                       exact k t g 3 ha hb hc ht hg (by decide) I1 hl)
          · first
            | exfalso; omega
            | skip
              refine kw_ild x_M_goodOf_146 rfl ?_
              refine kw_goto x_M_goodOf_148 ?_
              refine kw_iret x_M_goodOf_176 ?_
              subst h2; subst h3
              first
                | fail
                | (have h9 : w = 0 := (by omega)
                   subst h9
                   exact k t g 0 ha hb hc ht hg (by decide) I1 hl)
                | (have h9 : w = 1 := (by omega)
                   subst h9
                   exact k t g 1 ha hb hc ht hg (by decide) I1 hl)
                | (have h9 : w = 2 := (by omega)
                   subst h9
                   exact k t g 2 ha hb hc ht hg (by decide) I1 hl)
                | (have h9 : w = 3 := (by omega)
                   subst h9
                   exact k t g 3 ha hb hc ht hg (by decide) I1 hl)
      · first
        | exfalso; omega
        | skip
          skip
    | succ d ih =>
      intro e s r h1 h2 h3
      have hx := hW.2.2.2.2.2.1 e (by omega)
      have hx3 := hx.2.2.2.1
      refine kw_ild x_M_goodOf_42 rfl ?_
      refine kw_ald_n x_M_goodOf_44 rfl ?_
      refine kw_gr x_M_goodOf_45 (by exact isM_k hM) (by exact isM_r0 hM) ?_
      refine kw_icon x_M_goodOf_48 ?_
      refine kw_iald_n x_M_goodOf_49 (by first | exact isM_a1 hM | exact isM_a2 hM | exact isM_a3 hM | exact isM_a4 hM | exact isM_a5 hM | exact isM_a6 hM | exact isM_a7 hM | exact isM_a8 hM | exact isM_a10 hM | exact isM_a11 hM) (by omega) (by omega) (by first | exact hE.1 | exact hE.2.1 | exact hE.2.2.1 | exact hS _ (by omega) | exact rfl) ?_
      first | refine kw_ic_ge_n x_M_goodOf_50 ⟨by omega, by omega⟩ (fun h50 => ?_) (fun h50 => ?_) | refine kw_ic_ge x_M_goodOf_50 (fun h50 => ?_) (fun h50 => ?_)
      · first
        | exfalso; omega
        | skip
          skip
      · first
        | exfalso; omega
        | skip
          refine kw_ild x_M_goodOf_53 rfl ?_
          refine kw_ald_n x_M_goodOf_55 rfl ?_
          refine kw_ild x_M_goodOf_56 rfl ?_
          refine kw_icon x_M_goodOf_58 ?_
          refine c_M_goodOf_59 (by exact isM_k hM) (Nat.le_of_ble_eq_true rfl) ?_
          first | refine s_M_ofn hM hE hn (by omega) (by decide) ?_ | refine s_M_of5 hM hE hn (by omega) (by omega) ?_
          refine kw_ild_n x_M_goodOf_62 rfl ?_
          first | refine kw_ic_ne_n x_M_goodOf_63 ⟨by omega, by omega⟩ (fun h63 => ?_) (fun h63 => ?_) | refine kw_ic_ne x_M_goodOf_63 (fun h63 => ?_) (fun h63 => ?_)
          · first
            | exfalso; omega
            | skip
              refine kw_icon x_M_goodOf_86 ?_
              first | refine kw_iadd_n x_M_goodOf_87 ?_ | refine kw_iadd x_M_goodOf_87 ?_
              refine kw_ist x_M_goodOf_88 (by decide) ?_
              refine kw_ild x_M_goodOf_90 rfl ?_
              refine kw_ald_n x_M_goodOf_92 rfl ?_
              refine kw_ild x_M_goodOf_93 rfl ?_
              refine kw_icon x_M_goodOf_95 ?_
              refine c_M_goodOf_96 (by exact isM_k hM) (Nat.le_of_ble_eq_true rfl) ?_
              first | refine s_M_ofn hM hE hn (by omega) (by decide) ?_ | refine s_M_of5 hM hE hn (by omega) (by omega) ?_
              refine kw_ild_n x_M_goodOf_99 rfl ?_
              first | refine kw_ic_ne_n x_M_goodOf_100 ⟨by omega, by omega⟩ (fun h100 => ?_) (fun h100 => ?_) | refine kw_ic_ne x_M_goodOf_100 (fun h100 => ?_) (fun h100 => ?_)
              · first
                | exfalso; omega
                | skip
                  refine kw_icon x_M_goodOf_124 ?_
                  first | refine kw_iadd_n x_M_goodOf_125 ?_ | refine kw_iadd x_M_goodOf_125 ?_
                  refine kw_ist x_M_goodOf_126 (by decide) ?_
                  first | refine kw_iinc_n x_M_goodOf_128 (by decide) rfl ?_ | refine kw_iinc x_M_goodOf_128 (by decide) rfl ?_
                  refine kw_goto x_M_goodOf_131 ?_
                  exact ih (e + 1) _ _ (by omega) (by rw [h2]; simp [xsm, xacc, *]) (by rw [h3]; simp [xsm, xacc, *])
              · first
                | exfalso; omega
                | skip
                  refine kw_ald_n x_M_goodOf_103 rfl ?_
                  refine kw_gr x_M_goodOf_104 (by exact isM_k hM) (by exact isM_r8 hM) ?_
                  refine kw_ild x_M_goodOf_107 rfl ?_
                  refine kw_iald_n x_M_goodOf_109 (by first | exact isM_a1 hM | exact isM_a2 hM | exact isM_a3 hM | exact isM_a4 hM | exact isM_a5 hM | exact isM_a6 hM | exact isM_a7 hM | exact isM_a8 hM | exact isM_a10 hM | exact isM_a11 hM) (by omega) (by omega) (by first | exact hE.1 | exact hE.2.1 | exact hE.2.2.1 | exact hS _ (by omega) | exact rfl) ?_
                  refine kw_icon x_M_goodOf_110 ?_
                  first | refine kw_ic_ne_c x_M_goodOf_111 (xst_4 _ _ _) (fun h111 => ?_) (fun h111 => ?_) | refine kw_ic_ne_d x_M_goodOf_111 (xst_4 _ _ _) (by decide) (fun h111 => ?_) (fun h111 => ?_) | refine kw_ic_ne_n x_M_goodOf_111 ⟨by omega, by omega⟩ (fun h111 => ?_) (fun h111 => ?_) | refine kw_ic_ne x_M_goodOf_111 (fun h111 => ?_) (fun h111 => ?_)
                  · first
                    | exfalso; omega
                    | skip
                      refine kw_icon x_M_goodOf_124 ?_
                      first | refine kw_iadd_n x_M_goodOf_125 ?_ | refine kw_iadd x_M_goodOf_125 ?_
                      refine kw_ist x_M_goodOf_126 (by decide) ?_
                      first | refine kw_iinc_n x_M_goodOf_128 (by decide) rfl ?_ | refine kw_iinc x_M_goodOf_128 (by decide) rfl ?_
                      refine kw_goto x_M_goodOf_131 ?_
                      exact ih (e + 1) _ _ (by omega) (by rw [h2]; simp [xsm, xacc, *]) (by rw [h3]; simp [xsm, xacc, *])
                  · first
                    | exfalso; omega
                    | skip
                      refine kw_ald_n x_M_goodOf_114 rfl ?_
                      refine kw_ild x_M_goodOf_115 rfl ?_
                      refine kw_icon x_M_goodOf_117 ?_
                      refine c_M_goodOf_118 (by exact isM_k hM) (Nat.le_of_ble_eq_true rfl) ?_
                      first | refine s_M_ofn hM hE hn (by omega) (by decide) ?_ | refine s_M_of5 hM hE hn (by omega) (by omega) ?_
                      refine kw_goto x_M_goodOf_121 ?_
                      first | refine kw_iadd_n x_M_goodOf_125 ?_ | refine kw_iadd x_M_goodOf_125 ?_
                      refine kw_ist x_M_goodOf_126 (by decide) ?_
                      first | refine kw_iinc_n x_M_goodOf_128 (by decide) rfl ?_ | refine kw_iinc x_M_goodOf_128 (by decide) rfl ?_
                      refine kw_goto x_M_goodOf_131 ?_
                      exact ih (e + 1) _ _ (by omega) (by rw [h2]; simp [xsm, xacc, *]) (by rw [h3]; simp [xsm, xacc, *])
          · first
            | exfalso; omega
            | skip
              refine kw_ald_n x_M_goodOf_66 rfl ?_
              refine kw_gr x_M_goodOf_67 (by exact isM_k hM) (by exact isM_r8 hM) ?_
              refine kw_ild x_M_goodOf_70 rfl ?_
              refine kw_iald_n x_M_goodOf_72 (by first | exact isM_a1 hM | exact isM_a2 hM | exact isM_a3 hM | exact isM_a4 hM | exact isM_a5 hM | exact isM_a6 hM | exact isM_a7 hM | exact isM_a8 hM | exact isM_a10 hM | exact isM_a11 hM) (by omega) (by omega) (by first | exact hE.1 | exact hE.2.1 | exact hE.2.2.1 | exact hS _ (by omega) | exact rfl) ?_
              first | refine kw_if_ne_c x_M_goodOf_73 (xst_4 _ _ _) (fun h73 => ?_) (fun h73 => ?_) | refine kw_if_ne_b x_M_goodOf_73 (fun h73 => ?_) (fun h73 => ?_) | refine kw_if_ne_s x_M_goodOf_73 ⟨by omega, by omega⟩ (fun h73 => ?_) (fun h73 => ?_) | refine kw_if_ne_n x_M_goodOf_73 (by omega) (fun h73 => ?_) (fun h73 => ?_) | refine kw_if_ne x_M_goodOf_73 (fun h73 => ?_) (fun h73 => ?_)
              · first
                | exfalso; omega
                | skip
                  refine kw_icon x_M_goodOf_86 ?_
                  first | refine kw_iadd_n x_M_goodOf_87 ?_ | refine kw_iadd x_M_goodOf_87 ?_
                  refine kw_ist x_M_goodOf_88 (by decide) ?_
                  refine kw_ild x_M_goodOf_90 rfl ?_
                  refine kw_ald_n x_M_goodOf_92 rfl ?_
                  refine kw_ild x_M_goodOf_93 rfl ?_
                  refine kw_icon x_M_goodOf_95 ?_
                  refine c_M_goodOf_96 (by exact isM_k hM) (Nat.le_of_ble_eq_true rfl) ?_
                  first | refine s_M_ofn hM hE hn (by omega) (by decide) ?_ | refine s_M_of5 hM hE hn (by omega) (by omega) ?_
                  refine kw_ild_n x_M_goodOf_99 rfl ?_
                  first | refine kw_ic_ne_n x_M_goodOf_100 ⟨by omega, by omega⟩ (fun h100 => ?_) (fun h100 => ?_) | refine kw_ic_ne x_M_goodOf_100 (fun h100 => ?_) (fun h100 => ?_)
                  · first
                    | exfalso; omega
                    | skip
                      refine kw_icon x_M_goodOf_124 ?_
                      first | refine kw_iadd_n x_M_goodOf_125 ?_ | refine kw_iadd x_M_goodOf_125 ?_
                      refine kw_ist x_M_goodOf_126 (by decide) ?_
                      first | refine kw_iinc_n x_M_goodOf_128 (by decide) rfl ?_ | refine kw_iinc x_M_goodOf_128 (by decide) rfl ?_
                      refine kw_goto x_M_goodOf_131 ?_
                      exact ih (e + 1) _ _ (by omega) (by rw [h2]; simp [xsm, xacc, *]) (by rw [h3]; simp [xsm, xacc, *])
                  · first
                    | exfalso; omega
                    | skip
                      refine kw_ald_n x_M_goodOf_103 rfl ?_
                      refine kw_gr x_M_goodOf_104 (by exact isM_k hM) (by exact isM_r8 hM) ?_
                      refine kw_ild x_M_goodOf_107 rfl ?_
                      refine kw_iald_n x_M_goodOf_109 (by first | exact isM_a1 hM | exact isM_a2 hM | exact isM_a3 hM | exact isM_a4 hM | exact isM_a5 hM | exact isM_a6 hM | exact isM_a7 hM | exact isM_a8 hM | exact isM_a10 hM | exact isM_a11 hM) (by omega) (by omega) (by first | exact hE.1 | exact hE.2.1 | exact hE.2.2.1 | exact hS _ (by omega) | exact rfl) ?_
                      refine kw_icon x_M_goodOf_110 ?_
                      first | refine kw_ic_ne_c x_M_goodOf_111 (xst_4 _ _ _) (fun h111 => ?_) (fun h111 => ?_) | refine kw_ic_ne_d x_M_goodOf_111 (xst_4 _ _ _) (by decide) (fun h111 => ?_) (fun h111 => ?_) | refine kw_ic_ne_n x_M_goodOf_111 ⟨by omega, by omega⟩ (fun h111 => ?_) (fun h111 => ?_) | refine kw_ic_ne x_M_goodOf_111 (fun h111 => ?_) (fun h111 => ?_)
                      · first
                        | exfalso; omega
                        | skip
                          refine kw_icon x_M_goodOf_124 ?_
                          first | refine kw_iadd_n x_M_goodOf_125 ?_ | refine kw_iadd x_M_goodOf_125 ?_
                          refine kw_ist x_M_goodOf_126 (by decide) ?_
                          first | refine kw_iinc_n x_M_goodOf_128 (by decide) rfl ?_ | refine kw_iinc x_M_goodOf_128 (by decide) rfl ?_
                          refine kw_goto x_M_goodOf_131 ?_
                          exact ih (e + 1) _ _ (by omega) (by rw [h2]; simp [xsm, xacc, *]) (by rw [h3]; simp [xsm, xacc, *])
                      · first
                        | exfalso; omega
                        | skip
                          refine kw_ald_n x_M_goodOf_114 rfl ?_
                          refine kw_ild x_M_goodOf_115 rfl ?_
                          refine kw_icon x_M_goodOf_117 ?_
                          refine c_M_goodOf_118 (by exact isM_k hM) (Nat.le_of_ble_eq_true rfl) ?_
                          first | refine s_M_ofn hM hE hn (by omega) (by decide) ?_ | refine s_M_of5 hM hE hn (by omega) (by omega) ?_
                          refine kw_goto x_M_goodOf_121 ?_
                          first | refine kw_iadd_n x_M_goodOf_125 ?_ | refine kw_iadd x_M_goodOf_125 ?_
                          refine kw_ist x_M_goodOf_126 (by decide) ?_
                          first | refine kw_iinc_n x_M_goodOf_128 (by decide) rfl ?_ | refine kw_iinc x_M_goodOf_128 (by decide) rfl ?_
                          refine kw_goto x_M_goodOf_131 ?_
                          exact ih (e + 1) _ _ (by omega) (by rw [h2]; simp [xsm, xacc, *]) (by rw [h3]; simp [xsm, xacc, *])
              · first
                | exfalso; omega
                | skip
                  refine kw_ald_n x_M_goodOf_76 rfl ?_
                  refine kw_ild x_M_goodOf_77 rfl ?_
                  refine kw_icon x_M_goodOf_79 ?_
                  refine c_M_goodOf_80 (by exact isM_k hM) (Nat.le_of_ble_eq_true rfl) ?_
                  first | refine s_M_ofn hM hE hn (by omega) (by decide) ?_ | refine s_M_of5 hM hE hn (by omega) (by omega) ?_
                  refine kw_goto x_M_goodOf_83 ?_
                  first | refine kw_iadd_n x_M_goodOf_87 ?_ | refine kw_iadd x_M_goodOf_87 ?_
                  refine kw_ist x_M_goodOf_88 (by decide) ?_
                  refine kw_ild x_M_goodOf_90 rfl ?_
                  refine kw_ald_n x_M_goodOf_92 rfl ?_
                  refine kw_ild x_M_goodOf_93 rfl ?_
                  refine kw_icon x_M_goodOf_95 ?_
                  refine c_M_goodOf_96 (by exact isM_k hM) (Nat.le_of_ble_eq_true rfl) ?_
                  first | refine s_M_ofn hM hE hn (by omega) (by decide) ?_ | refine s_M_of5 hM hE hn (by omega) (by omega) ?_
                  refine kw_ild_n x_M_goodOf_99 rfl ?_
                  first | refine kw_ic_ne_n x_M_goodOf_100 ⟨by omega, by omega⟩ (fun h100 => ?_) (fun h100 => ?_) | refine kw_ic_ne x_M_goodOf_100 (fun h100 => ?_) (fun h100 => ?_)
                  · first
                    | exfalso; omega
                    | skip
                      refine kw_icon x_M_goodOf_124 ?_
                      first | refine kw_iadd_n x_M_goodOf_125 ?_ | refine kw_iadd x_M_goodOf_125 ?_
                      refine kw_ist x_M_goodOf_126 (by decide) ?_
                      first | refine kw_iinc_n x_M_goodOf_128 (by decide) rfl ?_ | refine kw_iinc x_M_goodOf_128 (by decide) rfl ?_
                      refine kw_goto x_M_goodOf_131 ?_
                      exact ih (e + 1) _ _ (by omega) (by rw [h2]; simp [xsm, xacc, *]) (by rw [h3]; simp [xsm, xacc, *])
                  · first
                    | exfalso; omega
                    | skip
                      refine kw_ald_n x_M_goodOf_103 rfl ?_
                      refine kw_gr x_M_goodOf_104 (by exact isM_k hM) (by exact isM_r8 hM) ?_
                      refine kw_ild x_M_goodOf_107 rfl ?_
                      refine kw_iald_n x_M_goodOf_109 (by first | exact isM_a1 hM | exact isM_a2 hM | exact isM_a3 hM | exact isM_a4 hM | exact isM_a5 hM | exact isM_a6 hM | exact isM_a7 hM | exact isM_a8 hM | exact isM_a10 hM | exact isM_a11 hM) (by omega) (by omega) (by first | exact hE.1 | exact hE.2.1 | exact hE.2.2.1 | exact hS _ (by omega) | exact rfl) ?_
                      refine kw_icon x_M_goodOf_110 ?_
                      first | refine kw_ic_ne_c x_M_goodOf_111 (xst_4 _ _ _) (fun h111 => ?_) (fun h111 => ?_) | refine kw_ic_ne_d x_M_goodOf_111 (xst_4 _ _ _) (by decide) (fun h111 => ?_) (fun h111 => ?_) | refine kw_ic_ne_n x_M_goodOf_111 ⟨by omega, by omega⟩ (fun h111 => ?_) (fun h111 => ?_) | refine kw_ic_ne x_M_goodOf_111 (fun h111 => ?_) (fun h111 => ?_)
                      · first
                        | exfalso; omega
                        | skip
                          refine kw_icon x_M_goodOf_124 ?_
                          first | refine kw_iadd_n x_M_goodOf_125 ?_ | refine kw_iadd x_M_goodOf_125 ?_
                          refine kw_ist x_M_goodOf_126 (by decide) ?_
                          first | refine kw_iinc_n x_M_goodOf_128 (by decide) rfl ?_ | refine kw_iinc x_M_goodOf_128 (by decide) rfl ?_
                          refine kw_goto x_M_goodOf_131 ?_
                          exact ih (e + 1) _ _ (by omega) (by rw [h2]; simp [xsm, xacc, *]) (by rw [h3]; simp [xsm, xacc, *])
                      · first
                        | exfalso; omega
                        | skip
                          refine kw_ald_n x_M_goodOf_114 rfl ?_
                          refine kw_ild x_M_goodOf_115 rfl ?_
                          refine kw_icon x_M_goodOf_117 ?_
                          refine c_M_goodOf_118 (by exact isM_k hM) (Nat.le_of_ble_eq_true rfl) ?_
                          first | refine s_M_ofn hM hE hn (by omega) (by decide) ?_ | refine s_M_of5 hM hE hn (by omega) (by omega) ?_
                          refine kw_goto x_M_goodOf_121 ?_
                          first | refine kw_iadd_n x_M_goodOf_125 ?_ | refine kw_iadd x_M_goodOf_125 ?_
                          refine kw_ist x_M_goodOf_126 (by decide) ?_
                          first | refine kw_iinc_n x_M_goodOf_128 (by decide) rfl ?_ | refine kw_iinc x_M_goodOf_128 (by decide) rfl ?_
                          refine kw_goto x_M_goodOf_131 ?_
                          exact ih (e + 1) _ _ (by omega) (by rw [h2]; simp [xsm, xacc, *]) (by rw [h3]; simp [xsm, xacc, *])
  refine kw_ald_n x_M_goodOf_0 rfl ?_
  refine kw_ild_n x_M_goodOf_1 rfl ?_
  refine c_M_goodOf_2 (by exact isM_k hM) (Nat.le_of_ble_eq_true rfl) ?_
  refine s_M_isTown hM hE ?_
  first | refine kw_if_eq_b x_M_goodOf_5 (fun h5 => ?_) (fun h5 => ?_) | refine kw_if_eq_n x_M_goodOf_5 (by omega) (fun h5 => ?_) (fun h5 => ?_) | refine kw_if_eq x_M_goodOf_5 (fun h5 => ?_) (fun h5 => ?_)
  · first
    | exfalso; omega
    | skip
      refine kw_icon x_M_goodOf_26 ?_
      refine kw_iret x_M_goodOf_27 ?_
      exact kf (fun h => by first | exact kt_nT (by omega) h5 h.1 | exact kt_nR (by omega) h14 h.2.1 | exact kt_nR (by omega) h23 h.2.2)
  · first
    | exfalso; omega
    | skip
      obtain ⟨t, ht, rfl⟩ := kt_yT (by omega) h5
      refine kw_ild_n x_M_goodOf_8 rfl ?_
      refine kw_icon x_M_goodOf_9 ?_
      refine kw_icon x_M_goodOf_10 ?_
      refine c_M_goodOf_11 (Nat.le_of_ble_eq_true rfl) ?_
      refine s_M_in ?_
      first | refine kw_if_eq_b x_M_goodOf_14 (fun h14 => ?_) (fun h14 => ?_) | refine kw_if_eq_n x_M_goodOf_14 (by omega) (fun h14 => ?_) (fun h14 => ?_) | refine kw_if_eq x_M_goodOf_14 (fun h14 => ?_) (fun h14 => ?_)
      · first
        | exfalso; omega
        | skip
          refine kw_icon x_M_goodOf_26 ?_
          refine kw_iret x_M_goodOf_27 ?_
          exact kf (fun h => by first | exact kt_nT (by omega) h5 h.1 | exact kt_nR (by omega) h14 h.2.1 | exact kt_nR (by omega) h23 h.2.2)
      · first
        | exfalso; omega
        | skip
          obtain ⟨g, hg1, hg2, rfl⟩ := kt_yR (by omega) h14
          refine kw_ild_n x_M_goodOf_17 rfl ?_
          refine kw_icon x_M_goodOf_18 ?_
          refine kw_icon x_M_goodOf_19 ?_
          refine c_M_goodOf_20 (Nat.le_of_ble_eq_true rfl) ?_
          refine s_M_in ?_
          first | refine kw_if_ne_b x_M_goodOf_23 (fun h23 => ?_) (fun h23 => ?_) | refine kw_if_ne_s x_M_goodOf_23 ⟨by omega, by omega⟩ (fun h23 => ?_) (fun h23 => ?_) | refine kw_if_ne_n x_M_goodOf_23 (by omega) (fun h23 => ?_) (fun h23 => ?_) | refine kw_if_ne x_M_goodOf_23 (fun h23 => ?_) (fun h23 => ?_)
          · first
            | exfalso; omega
            | skip
              obtain ⟨w, hw1, hw2, rfl⟩ := kt_yR (by omega) h23
              refine kw_ald_n x_M_goodOf_28 rfl ?_
              refine kw_ild_n x_M_goodOf_29 rfl ?_
              refine c_M_goodOf_30 (by exact isM_k hM) (Nat.le_of_ble_eq_true rfl) ?_
              refine s_M_thinksAll hM hE hW (by omega) (fun I2 hl2 hS2 => ?_)
              refine kw_icon x_M_goodOf_33 ?_
              refine kw_ist x_M_goodOf_34 (by decide) ?_
              refine kw_icon x_M_goodOf_36 ?_
              refine kw_ist x_M_goodOf_37 (by decide) ?_
              refine kw_icon x_M_goodOf_39 ?_
              refine kw_ist x_M_goodOf_40 (by decide) ?_
              exact loop t g w ht hg2 hw2 rfl rfl rfl I2 hl2 hS2 (xn X) 0 0 0 (by omega) rfl rfl
          · first
            | exfalso; omega
            | skip
              refine kw_icon x_M_goodOf_26 ?_
              refine kw_iret x_M_goodOf_27 ?_
              exact kf (fun h => by first | exact kt_nT (by omega) h5 h.1 | exact kt_nR (by omega) h14 h.2.1 | exact kt_nR (by omega) h23 h.2.2)
theorem s_M_lookedAt (hM : kt_isM P N R m) (hE : kt_enc (I (m + 1)) X) (hW : kt_wf X) {a b c : Int32} (kf : ¬ (vT (xT X) a ∧ vR 0 5 b ∧ ¬ c < 0) → Q (some (.int (-1))) I J R)
    (k : ∀ t g j, a = nI t → b = nI g → c = nI j → t < xT X → g ≤ 5 → j < 2147483648 → ∀ I', kt_lm m I I' → Q (some (.int (if j < (xlk0 X t g).2.2.2.1 then nI ((xlk0 X t g).2.2.2.2 j) else -4))) I' J R) : KW P i_M_lookedAt N 0 [some (.ref m), some (.int a), some (.int b), some (.int c)] [] N I J R Q := by
  have hn := hW.2.2.1
  have hT := hW.2.1
  refine kw_ald_n x_M_lookedAt_0 rfl ?_
  refine kw_ild_n x_M_lookedAt_1 rfl ?_
  refine c_M_lookedAt_2 (by exact isM_k hM) (Nat.le_of_ble_eq_true rfl) ?_
  refine s_M_isTown hM hE ?_
  first | refine kw_if_eq_b x_M_lookedAt_5 (fun h5 => ?_) (fun h5 => ?_) | refine kw_if_eq_n x_M_lookedAt_5 (by omega) (fun h5 => ?_) (fun h5 => ?_) | refine kw_if_eq x_M_lookedAt_5 (fun h5 => ?_) (fun h5 => ?_)
  · first
    | exfalso; omega
    | skip
      refine kw_icon x_M_lookedAt_21 ?_
      refine kw_iret x_M_lookedAt_22 ?_
      exact kf (fun h => by first | exact kt_nT (by omega) h5 h.1 | exact kt_nR (by omega) h14 h.2.1 | exact h18 (Int32.not_lt.mp h.2.2) | exact h.2.2 (Int32.not_le.mp h18))
  · first
    | exfalso; omega
    | skip
      obtain ⟨t, ht, rfl⟩ := kt_yT (by omega) h5
      refine kw_ild_n x_M_lookedAt_8 rfl ?_
      refine kw_icon x_M_lookedAt_9 ?_
      refine kw_icon x_M_lookedAt_10 ?_
      refine c_M_lookedAt_11 (Nat.le_of_ble_eq_true rfl) ?_
      refine s_M_in ?_
      first | refine kw_if_eq_b x_M_lookedAt_14 (fun h14 => ?_) (fun h14 => ?_) | refine kw_if_eq_n x_M_lookedAt_14 (by omega) (fun h14 => ?_) (fun h14 => ?_) | refine kw_if_eq x_M_lookedAt_14 (fun h14 => ?_) (fun h14 => ?_)
      · first
        | exfalso; omega
        | skip
          refine kw_icon x_M_lookedAt_21 ?_
          refine kw_iret x_M_lookedAt_22 ?_
          exact kf (fun h => by first | exact kt_nT (by omega) h5 h.1 | exact kt_nR (by omega) h14 h.2.1 | exact h18 (Int32.not_lt.mp h.2.2) | exact h.2.2 (Int32.not_le.mp h18))
      · first
        | exfalso; omega
        | skip
          obtain ⟨g, hg1, hg2, rfl⟩ := kt_yR (by omega) h14
          refine kw_ild_n x_M_lookedAt_17 rfl ?_
          first | refine kw_if_ge_n x_M_lookedAt_18 (by omega) (fun h18 => ?_) (fun h18 => ?_) | refine kw_if_ge x_M_lookedAt_18 (fun h18 => ?_) (fun h18 => ?_)
          · first
            | exfalso; omega
            | skip
              obtain ⟨j, hj, rfl⟩ := nI_of (Int32.not_lt.mpr h18)
              have hj : j < 2147483648 := hj
              refine kw_ald_n x_M_lookedAt_23 rfl ?_
              refine kw_ild_n x_M_lookedAt_24 rfl ?_
              refine c_M_lookedAt_25 (by exact isM_k hM) (Nat.le_of_ble_eq_true rfl) ?_
              refine s_M_thinksOf hM hE hW (by omega) (fun I2 hl2 hS2 => ?_)
              refine kw_ald_n x_M_lookedAt_28 rfl ?_
              refine kw_ild_n x_M_lookedAt_29 rfl ?_
              refine kw_ild_n x_M_lookedAt_30 rfl ?_
              refine c_M_lookedAt_31 (by exact isM_k hM) (Nat.le_of_ble_eq_true rfl) ?_
              refine s_M_looks hM (hl2.enc hE) hW (by omega) (by omega) hS2 (xs0_4 X t) (fun I3 hl3 hS3 => ?_)
              have hb3 : (xlk0 X t g).2.2.2.1 ≤ 60 := xlk0_60 hW t g
              have hs3 : I3 m 10 = nI (xlk0 X t g).2.2.2.1 := hS3.2.2.1
              refine kw_ild_n x_M_lookedAt_34 rfl ?_
              refine kw_ald_n x_M_lookedAt_35 rfl ?_
              refine kw_gi_e x_M_lookedAt_36 (by exact isM_k hM) (by first | exact hE.1 | exact hE.2.1 | exact hE.2.2.1 | exact hs3 | exact hS3.2.2.2 j h39 | exact rfl) ?_
              first | refine kw_ic_ge_n x_M_lookedAt_39 ⟨by omega, by omega⟩ (fun h39 => ?_) (fun h39 => ?_) | refine kw_ic_ge x_M_lookedAt_39 (fun h39 => ?_) (fun h39 => ?_)
              · first
                | exfalso; omega
                | skip
                  refine kw_bip x_M_lookedAt_51 ?_
                  refine kw_iret x_M_lookedAt_53 ?_
                  have h9 := k t g j rfl rfl rfl ht hg2 hj I3 (hl2.tr hl3)
                  first
                    | (rw [if_pos h39] at h9; exact h9)
                    | (rw [if_neg (show ¬ j < (xlk0 X t g).2.2.2.1 by omega)] at h9; exact h9)
              · first
                | exfalso; omega
                | skip
                  refine kw_ald_n x_M_lookedAt_42 rfl ?_
                  refine kw_gr x_M_lookedAt_43 (by exact isM_k hM) (by exact isM_r9 hM) ?_
                  refine kw_ild_n x_M_lookedAt_46 rfl ?_
                  refine kw_iald_n x_M_lookedAt_47 (by first | exact isM_a1 hM | exact isM_a2 hM | exact isM_a3 hM | exact isM_a4 hM | exact isM_a5 hM | exact isM_a6 hM | exact isM_a7 hM | exact isM_a8 hM | exact isM_a10 hM | exact isM_a11 hM) (by omega) (by omega) (by first | exact hE.1 | exact hE.2.1 | exact hE.2.2.1 | exact hs3 | exact hS3.2.2.2 j h39 | exact rfl) ?_
                  refine kw_goto x_M_lookedAt_48 ?_
                  refine kw_iret x_M_lookedAt_53 ?_
                  have h9 := k t g j rfl rfl rfl ht hg2 hj I3 (hl2.tr hl3)
                  first
                    | (rw [if_pos h39] at h9; exact h9)
                    | (rw [if_neg (show ¬ j < (xlk0 X t g).2.2.2.1 by omega)] at h9; exact h9)
          · first
            | exfalso; omega
            | skip
              refine kw_icon x_M_lookedAt_21 ?_
              refine kw_iret x_M_lookedAt_22 ?_
              exact kf (fun h => by first | exact kt_nT (by omega) h5 h.1 | exact kt_nR (by omega) h14 h.2.1 | exact h18 (Int32.not_lt.mp h.2.2) | exact h.2.2 (Int32.not_le.mp h18))
theorem s_M_personOf (hM : kt_isM P N R m) (hE : kt_enc (I (m + 1)) X) (hW : kt_wf X) {a b c : Int32} (kf : ¬ (vT (xT X) a ∧ vR 0 9 b ∧ vR 0 3 c) → Q (some (.int (-1))) I J R)
    (k : ∀ t p w, a = nI t → b = nI p → c = nI w → t < xT X → p ≤ 9 → w ≤ 3 → ∀ I', kt_lm m I I' → Q (some (.int (nI (xsm (xpo X t p w) (xn X))))) I' J R) : KW P i_M_personOf N 0 [some (.ref m), some (.int a), some (.int b), some (.int c), none, none, none] [] N I J R Q := by
  have hn := hW.2.2.1
  have hT := hW.2.1
  have loop : ∀ t p w, t < xT X → p ≤ 9 → w ≤ 3 → a = nI t → b = nI p → c = nI w → ∀ I1, kt_lm m I I1 → (∀ e, e < xn X → I1 (m + 6) e = kt_sc (xst X t e)) → ∀ (d e s : Nat) (v6 : Option Value), e + d = xn X → s = xsm (xpo X t p w) e → KW P i_M_personOf N 40 [some (.ref m), some (.int (nI t)), some (.int (nI p)), some (.int (nI w)), some (.int (nI s)), some (.int (nI e)), v6] [] N I1 J R Q := by
    intro t p w ht hp hw ha hb hc I1 hl hS d
    have hE := hl.enc hE
    induction d with
    | zero =>
      intro e s v6 h1 h2
      have h4 : e = xn X := by omega
      subst h4
      refine kw_ild x_M_personOf_40 rfl ?_
      refine kw_ald_n x_M_personOf_42 rfl ?_
      refine kw_gr x_M_personOf_43 (by exact isM_k hM) (by exact isM_r0 hM) ?_
      refine kw_icon x_M_personOf_46 ?_
      refine kw_iald_n x_M_personOf_47 (by first | exact isM_a1 hM | exact isM_a2 hM | exact isM_a3 hM | exact isM_a4 hM | exact isM_a5 hM | exact isM_a6 hM | exact isM_a7 hM | exact isM_a8 hM | exact isM_a10 hM | exact isM_a11 hM) (by omega) (by omega) (by first | exact hE.1 | exact hE.2.1 | exact hE.2.2.1 | exact hS _ (by omega) | exact rfl) ?_
      first | refine kw_ic_ge_n x_M_personOf_48 ⟨by omega, by omega⟩ (fun h48 => ?_) (fun h48 => ?_) | refine kw_ic_ge x_M_personOf_48 (fun h48 => ?_) (fun h48 => ?_)
      · first
        | exfalso; omega
        | skip
          refine kw_ild x_M_personOf_171 rfl ?_
          refine kw_iret x_M_personOf_173 ?_
          subst h2; exact k t p w ha hb hc ht hp hw I1 hl
      · first
        | exfalso; omega
        | skip
          skip
    | succ d ih =>
      intro e s v6 h1 h2
      have hx := hW.2.2.2.2.2.1 e (by omega)
      have hx0 := hx.1
      have hx5 := hx.2.2.2.2.2.1
      have hm32 := kt_m32 hW (e := e) (by omega)
      refine kw_ild x_M_personOf_40 rfl ?_
      refine kw_ald_n x_M_personOf_42 rfl ?_
      refine kw_gr x_M_personOf_43 (by exact isM_k hM) (by exact isM_r0 hM) ?_
      refine kw_icon x_M_personOf_46 ?_
      refine kw_iald_n x_M_personOf_47 (by first | exact isM_a1 hM | exact isM_a2 hM | exact isM_a3 hM | exact isM_a4 hM | exact isM_a5 hM | exact isM_a6 hM | exact isM_a7 hM | exact isM_a8 hM | exact isM_a10 hM | exact isM_a11 hM) (by omega) (by omega) (by first | exact hE.1 | exact hE.2.1 | exact hE.2.2.1 | exact hS _ (by omega) | exact rfl) ?_
      first | refine kw_ic_ge_n x_M_personOf_48 ⟨by omega, by omega⟩ (fun h48 => ?_) (fun h48 => ?_) | refine kw_ic_ge x_M_personOf_48 (fun h48 => ?_) (fun h48 => ?_)
      · first
        | exfalso; omega
        | skip
          skip
      · first
        | exfalso; omega
        | skip
          refine kw_ald_n x_M_personOf_51 rfl ?_
          refine kw_ild x_M_personOf_52 rfl ?_
          refine kw_icon x_M_personOf_54 ?_
          refine c_M_personOf_55 (by exact isM_k hM) (Nat.le_of_ble_eq_true rfl) ?_
          first | refine s_M_ofn hM hE hn (by omega) (by decide) ?_ | refine s_M_of5 hM hE hn (by omega) (by omega) ?_
          refine kw_icon x_M_personOf_58 ?_
          first | refine kw_ic_ne_n x_M_personOf_59 ⟨by omega, by omega⟩ (fun h59 => ?_) (fun h59 => ?_) | refine kw_ic_ne x_M_personOf_59 (fun h59 => ?_) (fun h59 => ?_)
          · first
            | exfalso; omega
            | skip
              refine kw_icon x_M_personOf_77 ?_
              refine kw_ist x_M_personOf_78 (by decide) ?_
              refine kw_ild x_M_personOf_80 rfl ?_
              refine kw_ild x_M_personOf_82 rfl ?_
              first | refine kw_if_ne_b x_M_personOf_84 (fun h84 => ?_) (fun h84 => ?_) | refine kw_if_ne_s x_M_personOf_84 ⟨by omega, by omega⟩ (fun h84 => ?_) (fun h84 => ?_) | refine kw_if_ne_n x_M_personOf_84 (by omega) (fun h84 => ?_) (fun h84 => ?_) | refine kw_if_ne x_M_personOf_84 (fun h84 => ?_) (fun h84 => ?_)
              · first
                | exfalso; omega
                | skip
                  refine kw_ild_n x_M_personOf_91 rfl ?_
                  refine kw_icon x_M_personOf_92 ?_
                  first | refine kw_ic_ne_n x_M_personOf_93 ⟨by omega, by omega⟩ (fun h93 => ?_) (fun h93 => ?_) | refine kw_ic_ne x_M_personOf_93 (fun h93 => ?_) (fun h93 => ?_)
                  · first
                    | exfalso; omega
                    | skip
                      refine kw_ild_n x_M_personOf_110 rfl ?_
                      first | refine kw_if_ne_b x_M_personOf_111 (fun h111 => ?_) (fun h111 => ?_) | refine kw_if_ne_s x_M_personOf_111 ⟨by omega, by omega⟩ (fun h111 => ?_) (fun h111 => ?_) | refine kw_if_ne_n x_M_personOf_111 (by omega) (fun h111 => ?_) (fun h111 => ?_) | refine kw_if_ne x_M_personOf_111 (fun h111 => ?_) (fun h111 => ?_)
                      · first
                        | exfalso; omega
                        | skip
                          refine kw_ald_n x_M_personOf_132 rfl ?_
                          refine kw_gr x_M_personOf_133 (by exact isM_k hM) (by exact isM_r8 hM) ?_
                          refine kw_ild x_M_personOf_136 rfl ?_
                          refine kw_iald_n x_M_personOf_138 (by first | exact isM_a1 hM | exact isM_a2 hM | exact isM_a3 hM | exact isM_a4 hM | exact isM_a5 hM | exact isM_a6 hM | exact isM_a7 hM | exact isM_a8 hM | exact isM_a10 hM | exact isM_a11 hM) (by omega) (by omega) (by first | exact hE.1 | exact hE.2.1 | exact hE.2.2.1 | exact hS _ (by omega) | exact rfl) ?_
                          first | refine kw_if_eq_c x_M_personOf_139 (xst_4 _ _ _) (fun h139 => ?_) (fun h139 => ?_) | refine kw_if_eq_b x_M_personOf_139 (fun h139 => ?_) (fun h139 => ?_) | refine kw_if_eq_n x_M_personOf_139 (by omega) (fun h139 => ?_) (fun h139 => ?_) | refine kw_if_eq x_M_personOf_139 (fun h139 => ?_) (fun h139 => ?_)
                          · first
                            | exfalso; omega
                            | skip
                              refine kw_ild_n x_M_personOf_146 rfl ?_
                              refine kw_icon x_M_personOf_147 ?_
                              first | refine kw_ic_ne_n x_M_personOf_148 ⟨by omega, by omega⟩ (fun h148 => ?_) (fun h148 => ?_) | refine kw_ic_ne x_M_personOf_148 (fun h148 => ?_) (fun h148 => ?_)
                              · first
                                | exfalso; omega
                                | skip
                                  refine kw_ald_n x_M_personOf_155 rfl ?_
                                  refine kw_ild x_M_personOf_156 rfl ?_
                                  refine kw_icon x_M_personOf_158 ?_
                                  refine c_M_personOf_159 (by exact isM_k hM) (Nat.le_of_ble_eq_true rfl) ?_
                                  first | refine s_M_ofn hM hE hn (by omega) (by decide) ?_ | refine s_M_of5 hM hE hn (by omega) (by omega) ?_
                                  first | refine kw_iadd_n x_M_personOf_162 ?_ | refine kw_iadd x_M_personOf_162 ?_
                                  refine kw_ist x_M_personOf_163 (by decide) ?_
                                  first | refine kw_iinc_n x_M_personOf_165 (by decide) rfl ?_ | refine kw_iinc x_M_personOf_165 (by decide) rfl ?_
                                  refine kw_goto x_M_personOf_168 ?_
                                  refine ih (e + 1) _ _ (by omega) ?_
                                  rw [h2]
                                  show xsm (xpo X t p w) e + _ = xsm (xpo X t p w) e + xpo X t p w e
                                  congr 1
                                  first
                                    | (rw [xpo_n (Or.inl (by omega))]; done)
                                    | (rw [xpo_n (Or.inr (by omega))]; done)
                                    | (unfold xpo
                                       rw [if_pos ⟨by omega, by omega⟩]
                                       first
                                         | (have h9 : w = 0 := (by omega)
                                            subst h9
                                            simp [*]; done)
                                         | (have h9 : w = 1 := (by omega)
                                            subst h9
                                            simp [*]; done)
                                         | (have h9 : w = 2 := (by omega)
                                            subst h9
                                            simp [*]; done)
                                         | (have h9 : w = 3 := (by omega)
                                            subst h9
                                            simp [*]; done)
                                         | (have h9 : w = 1 ∨ w = 2 := (by omega)
                                            rcases h9 with h9 | h9
                                            · subst h9
                                              simp [*]; done
                                            · subst h9
                                              simp [*]; done))
                              · first
                                | exfalso; omega
                                | skip
                                  refine kw_icon x_M_personOf_151 ?_
                                  refine kw_goto x_M_personOf_152 ?_
                                  first | refine kw_iadd_n x_M_personOf_162 ?_ | refine kw_iadd x_M_personOf_162 ?_
                                  refine kw_ist x_M_personOf_163 (by decide) ?_
                                  first | refine kw_iinc_n x_M_personOf_165 (by decide) rfl ?_ | refine kw_iinc x_M_personOf_165 (by decide) rfl ?_
                                  refine kw_goto x_M_personOf_168 ?_
                                  refine ih (e + 1) _ _ (by omega) ?_
                                  rw [h2]
                                  show xsm (xpo X t p w) e + _ = xsm (xpo X t p w) e + xpo X t p w e
                                  congr 1
                                  first
                                    | (rw [xpo_n (Or.inl (by omega))]; done)
                                    | (rw [xpo_n (Or.inr (by omega))]; done)
                                    | (unfold xpo
                                       rw [if_pos ⟨by omega, by omega⟩]
                                       first
                                         | (have h9 : w = 0 := (by omega)
                                            subst h9
                                            simp [*]; done)
                                         | (have h9 : w = 1 := (by omega)
                                            subst h9
                                            simp [*]; done)
                                         | (have h9 : w = 2 := (by omega)
                                            subst h9
                                            simp [*]; done)
                                         | (have h9 : w = 3 := (by omega)
                                            subst h9
                                            simp [*]; done)
                                         | (have h9 : w = 1 ∨ w = 2 := (by omega)
                                            rcases h9 with h9 | h9
                                            · subst h9
                                              simp [*]; done
                                            · subst h9
                                              simp [*]; done))
                          · first
                            | exfalso; omega
                            | skip
                              refine kw_icon x_M_personOf_142 ?_
                              refine kw_goto x_M_personOf_143 ?_
                              first | refine kw_iadd_n x_M_personOf_162 ?_ | refine kw_iadd x_M_personOf_162 ?_
                              refine kw_ist x_M_personOf_163 (by decide) ?_
                              first | refine kw_iinc_n x_M_personOf_165 (by decide) rfl ?_ | refine kw_iinc x_M_personOf_165 (by decide) rfl ?_
                              refine kw_goto x_M_personOf_168 ?_
                              refine ih (e + 1) _ _ (by omega) ?_
                              rw [h2]
                              show xsm (xpo X t p w) e + _ = xsm (xpo X t p w) e + xpo X t p w e
                              congr 1
                              first
                                | (rw [xpo_n (Or.inl (by omega))]; done)
                                | (rw [xpo_n (Or.inr (by omega))]; done)
                                | (unfold xpo
                                   rw [if_pos ⟨by omega, by omega⟩]
                                   first
                                     | (have h9 : w = 0 := (by omega)
                                        subst h9
                                        simp [*]; done)
                                     | (have h9 : w = 1 := (by omega)
                                        subst h9
                                        simp [*]; done)
                                     | (have h9 : w = 2 := (by omega)
                                        subst h9
                                        simp [*]; done)
                                     | (have h9 : w = 3 := (by omega)
                                        subst h9
                                        simp [*]; done)
                                     | (have h9 : w = 1 ∨ w = 2 := (by omega)
                                        rcases h9 with h9 | h9
                                        · subst h9
                                          simp [*]; done
                                        · subst h9
                                          simp [*]; done))
                      · first
                        | exfalso; omega
                        | skip
                          refine kw_ald_n x_M_personOf_114 rfl ?_
                          refine kw_ild_n x_M_personOf_115 rfl ?_
                          refine kw_ild x_M_personOf_116 rfl ?_
                          refine c_M_personOf_118 (by exact isM_k hM) (Nat.le_of_ble_eq_true rfl) ?_
                          refine s_M_knows hM hE hW (by omega) (by omega) ?_
                          first | refine kw_if_eq_b x_M_personOf_121 (fun h121 => ?_) (fun h121 => ?_) | refine kw_if_eq_n x_M_personOf_121 (by omega) (fun h121 => ?_) (fun h121 => ?_) | refine kw_if_eq x_M_personOf_121 (fun h121 => ?_) (fun h121 => ?_)
                          · first
                            | exfalso; omega
                            | skip
                              refine kw_icon x_M_personOf_128 ?_
                              refine kw_goto x_M_personOf_129 ?_
                              first | refine kw_iadd_n x_M_personOf_162 ?_ | refine kw_iadd x_M_personOf_162 ?_
                              refine kw_ist x_M_personOf_163 (by decide) ?_
                              first | refine kw_iinc_n x_M_personOf_165 (by decide) rfl ?_ | refine kw_iinc x_M_personOf_165 (by decide) rfl ?_
                              refine kw_goto x_M_personOf_168 ?_
                              refine ih (e + 1) _ _ (by omega) ?_
                              rw [h2]
                              show xsm (xpo X t p w) e + _ = xsm (xpo X t p w) e + xpo X t p w e
                              congr 1
                              first
                                | (rw [xpo_n (Or.inl (by omega))]; done)
                                | (rw [xpo_n (Or.inr (by omega))]; done)
                                | (unfold xpo
                                   rw [if_pos ⟨by omega, by omega⟩]
                                   first
                                     | (have h9 : w = 0 := (by omega)
                                        subst h9
                                        simp [*]; done)
                                     | (have h9 : w = 1 := (by omega)
                                        subst h9
                                        simp [*]; done)
                                     | (have h9 : w = 2 := (by omega)
                                        subst h9
                                        simp [*]; done)
                                     | (have h9 : w = 3 := (by omega)
                                        subst h9
                                        simp [*]; done)
                                     | (have h9 : w = 1 ∨ w = 2 := (by omega)
                                        rcases h9 with h9 | h9
                                        · subst h9
                                          simp [*]; done
                                        · subst h9
                                          simp [*]; done))
                          · first
                            | exfalso; omega
                            | skip
                              refine kw_icon x_M_personOf_124 ?_
                              refine kw_goto x_M_personOf_125 ?_
                              first | refine kw_iadd_n x_M_personOf_162 ?_ | refine kw_iadd x_M_personOf_162 ?_
                              refine kw_ist x_M_personOf_163 (by decide) ?_
                              first | refine kw_iinc_n x_M_personOf_165 (by decide) rfl ?_ | refine kw_iinc x_M_personOf_165 (by decide) rfl ?_
                              refine kw_goto x_M_personOf_168 ?_
                              refine ih (e + 1) _ _ (by omega) ?_
                              rw [h2]
                              show xsm (xpo X t p w) e + _ = xsm (xpo X t p w) e + xpo X t p w e
                              congr 1
                              first
                                | (rw [xpo_n (Or.inl (by omega))]; done)
                                | (rw [xpo_n (Or.inr (by omega))]; done)
                                | (unfold xpo
                                   rw [if_pos ⟨by omega, by omega⟩]
                                   first
                                     | (have h9 : w = 0 := (by omega)
                                        subst h9
                                        simp [*]; done)
                                     | (have h9 : w = 1 := (by omega)
                                        subst h9
                                        simp [*]; done)
                                     | (have h9 : w = 2 := (by omega)
                                        subst h9
                                        simp [*]; done)
                                     | (have h9 : w = 3 := (by omega)
                                        subst h9
                                        simp [*]; done)
                                     | (have h9 : w = 1 ∨ w = 2 := (by omega)
                                        rcases h9 with h9 | h9
                                        · subst h9
                                          simp [*]; done
                                        · subst h9
                                          simp [*]; done))
                  · first
                    | exfalso; omega
                    | skip
                      refine kw_ald_n x_M_personOf_96 rfl ?_
                      refine kw_ild x_M_personOf_97 rfl ?_
                      refine kw_bip x_M_personOf_99 ?_
                      refine c_M_personOf_101 (by exact isM_k hM) (Nat.le_of_ble_eq_true rfl) ?_
                      first | refine s_M_ofn hM hE hn (by omega) (by decide) ?_ | refine s_M_of5 hM hE hn (by omega) (by omega) ?_
                      refine c_M_personOf_104 (Nat.le_of_ble_eq_true rfl) ?_
                      refine s_M_bits hm32.2 ?_
                      refine kw_goto x_M_personOf_107 ?_
                      first | refine kw_iadd_n x_M_personOf_162 ?_ | refine kw_iadd x_M_personOf_162 ?_
                      refine kw_ist x_M_personOf_163 (by decide) ?_
                      first | refine kw_iinc_n x_M_personOf_165 (by decide) rfl ?_ | refine kw_iinc x_M_personOf_165 (by decide) rfl ?_
                      refine kw_goto x_M_personOf_168 ?_
                      refine ih (e + 1) _ _ (by omega) ?_
                      rw [h2]
                      show xsm (xpo X t p w) e + _ = xsm (xpo X t p w) e + xpo X t p w e
                      congr 1
                      first
                        | (rw [xpo_n (Or.inl (by omega))]; done)
                        | (rw [xpo_n (Or.inr (by omega))]; done)
                        | (unfold xpo
                           rw [if_pos ⟨by omega, by omega⟩]
                           first
                             | (have h9 : w = 0 := (by omega)
                                subst h9
                                simp [*]; done)
                             | (have h9 : w = 1 := (by omega)
                                subst h9
                                simp [*]; done)
                             | (have h9 : w = 2 := (by omega)
                                subst h9
                                simp [*]; done)
                             | (have h9 : w = 3 := (by omega)
                                subst h9
                                simp [*]; done)
                             | (have h9 : w = 1 ∨ w = 2 := (by omega)
                                rcases h9 with h9 | h9
                                · subst h9
                                  simp [*]; done
                                · subst h9
                                  simp [*]; done))
              · first
                | exfalso; omega
                | skip
                  refine kw_icon x_M_personOf_87 ?_
                  refine kw_goto x_M_personOf_88 ?_
                  first | refine kw_iadd_n x_M_personOf_162 ?_ | refine kw_iadd x_M_personOf_162 ?_
                  refine kw_ist x_M_personOf_163 (by decide) ?_
                  first | refine kw_iinc_n x_M_personOf_165 (by decide) rfl ?_ | refine kw_iinc x_M_personOf_165 (by decide) rfl ?_
                  refine kw_goto x_M_personOf_168 ?_
                  refine ih (e + 1) _ _ (by omega) ?_
                  rw [h2]
                  show xsm (xpo X t p w) e + _ = xsm (xpo X t p w) e + xpo X t p w e
                  congr 1
                  first
                    | (rw [xpo_n (Or.inl (by omega))]; done)
                    | (rw [xpo_n (Or.inr (by omega))]; done)
                    | (unfold xpo
                       rw [if_pos ⟨by omega, by omega⟩]
                       first
                         | (have h9 : w = 0 := (by omega)
                            subst h9
                            simp [*]; done)
                         | (have h9 : w = 1 := (by omega)
                            subst h9
                            simp [*]; done)
                         | (have h9 : w = 2 := (by omega)
                            subst h9
                            simp [*]; done)
                         | (have h9 : w = 3 := (by omega)
                            subst h9
                            simp [*]; done)
                         | (have h9 : w = 1 ∨ w = 2 := (by omega)
                            rcases h9 with h9 | h9
                            · subst h9
                              simp [*]; done
                            · subst h9
                              simp [*]; done))
          · first
            | exfalso; omega
            | skip
              refine kw_ald_n x_M_personOf_62 rfl ?_
              refine kw_ild x_M_personOf_63 rfl ?_
              refine kw_icon x_M_personOf_65 ?_
              refine c_M_personOf_66 (by exact isM_k hM) (Nat.le_of_ble_eq_true rfl) ?_
              first | refine s_M_ofn hM hE hn (by omega) (by decide) ?_ | refine s_M_of5 hM hE hn (by omega) (by omega) ?_
              refine kw_ild_n x_M_personOf_69 rfl ?_
              first | refine kw_ic_ne_n x_M_personOf_70 ⟨by omega, by omega⟩ (fun h70 => ?_) (fun h70 => ?_) | refine kw_ic_ne x_M_personOf_70 (fun h70 => ?_) (fun h70 => ?_)
              · first
                | exfalso; omega
                | skip
                  refine kw_icon x_M_personOf_77 ?_
                  refine kw_ist x_M_personOf_78 (by decide) ?_
                  refine kw_ild x_M_personOf_80 rfl ?_
                  refine kw_ild x_M_personOf_82 rfl ?_
                  first | refine kw_if_ne_b x_M_personOf_84 (fun h84 => ?_) (fun h84 => ?_) | refine kw_if_ne_s x_M_personOf_84 ⟨by omega, by omega⟩ (fun h84 => ?_) (fun h84 => ?_) | refine kw_if_ne_n x_M_personOf_84 (by omega) (fun h84 => ?_) (fun h84 => ?_) | refine kw_if_ne x_M_personOf_84 (fun h84 => ?_) (fun h84 => ?_)
                  · first
                    | exfalso; omega
                    | skip
                      refine kw_ild_n x_M_personOf_91 rfl ?_
                      refine kw_icon x_M_personOf_92 ?_
                      first | refine kw_ic_ne_n x_M_personOf_93 ⟨by omega, by omega⟩ (fun h93 => ?_) (fun h93 => ?_) | refine kw_ic_ne x_M_personOf_93 (fun h93 => ?_) (fun h93 => ?_)
                      · first
                        | exfalso; omega
                        | skip
                          refine kw_ild_n x_M_personOf_110 rfl ?_
                          first | refine kw_if_ne_b x_M_personOf_111 (fun h111 => ?_) (fun h111 => ?_) | refine kw_if_ne_s x_M_personOf_111 ⟨by omega, by omega⟩ (fun h111 => ?_) (fun h111 => ?_) | refine kw_if_ne_n x_M_personOf_111 (by omega) (fun h111 => ?_) (fun h111 => ?_) | refine kw_if_ne x_M_personOf_111 (fun h111 => ?_) (fun h111 => ?_)
                          · first
                            | exfalso; omega
                            | skip
                              refine kw_ald_n x_M_personOf_132 rfl ?_
                              refine kw_gr x_M_personOf_133 (by exact isM_k hM) (by exact isM_r8 hM) ?_
                              refine kw_ild x_M_personOf_136 rfl ?_
                              refine kw_iald_n x_M_personOf_138 (by first | exact isM_a1 hM | exact isM_a2 hM | exact isM_a3 hM | exact isM_a4 hM | exact isM_a5 hM | exact isM_a6 hM | exact isM_a7 hM | exact isM_a8 hM | exact isM_a10 hM | exact isM_a11 hM) (by omega) (by omega) (by first | exact hE.1 | exact hE.2.1 | exact hE.2.2.1 | exact hS _ (by omega) | exact rfl) ?_
                              first | refine kw_if_eq_c x_M_personOf_139 (xst_4 _ _ _) (fun h139 => ?_) (fun h139 => ?_) | refine kw_if_eq_b x_M_personOf_139 (fun h139 => ?_) (fun h139 => ?_) | refine kw_if_eq_n x_M_personOf_139 (by omega) (fun h139 => ?_) (fun h139 => ?_) | refine kw_if_eq x_M_personOf_139 (fun h139 => ?_) (fun h139 => ?_)
                              · first
                                | exfalso; omega
                                | skip
                                  refine kw_ild_n x_M_personOf_146 rfl ?_
                                  refine kw_icon x_M_personOf_147 ?_
                                  first | refine kw_ic_ne_n x_M_personOf_148 ⟨by omega, by omega⟩ (fun h148 => ?_) (fun h148 => ?_) | refine kw_ic_ne x_M_personOf_148 (fun h148 => ?_) (fun h148 => ?_)
                                  · first
                                    | exfalso; omega
                                    | skip
                                      refine kw_ald_n x_M_personOf_155 rfl ?_
                                      refine kw_ild x_M_personOf_156 rfl ?_
                                      refine kw_icon x_M_personOf_158 ?_
                                      refine c_M_personOf_159 (by exact isM_k hM) (Nat.le_of_ble_eq_true rfl) ?_
                                      first | refine s_M_ofn hM hE hn (by omega) (by decide) ?_ | refine s_M_of5 hM hE hn (by omega) (by omega) ?_
                                      first | refine kw_iadd_n x_M_personOf_162 ?_ | refine kw_iadd x_M_personOf_162 ?_
                                      refine kw_ist x_M_personOf_163 (by decide) ?_
                                      first | refine kw_iinc_n x_M_personOf_165 (by decide) rfl ?_ | refine kw_iinc x_M_personOf_165 (by decide) rfl ?_
                                      refine kw_goto x_M_personOf_168 ?_
                                      refine ih (e + 1) _ _ (by omega) ?_
                                      rw [h2]
                                      show xsm (xpo X t p w) e + _ = xsm (xpo X t p w) e + xpo X t p w e
                                      congr 1
                                      first
                                        | (rw [xpo_n (Or.inl (by omega))]; done)
                                        | (rw [xpo_n (Or.inr (by omega))]; done)
                                        | (unfold xpo
                                           rw [if_pos ⟨by omega, by omega⟩]
                                           first
                                             | (have h9 : w = 0 := (by omega)
                                                subst h9
                                                simp [*]; done)
                                             | (have h9 : w = 1 := (by omega)
                                                subst h9
                                                simp [*]; done)
                                             | (have h9 : w = 2 := (by omega)
                                                subst h9
                                                simp [*]; done)
                                             | (have h9 : w = 3 := (by omega)
                                                subst h9
                                                simp [*]; done)
                                             | (have h9 : w = 1 ∨ w = 2 := (by omega)
                                                rcases h9 with h9 | h9
                                                · subst h9
                                                  simp [*]; done
                                                · subst h9
                                                  simp [*]; done))
                                  · first
                                    | exfalso; omega
                                    | skip
                                      refine kw_icon x_M_personOf_151 ?_
                                      refine kw_goto x_M_personOf_152 ?_
                                      first | refine kw_iadd_n x_M_personOf_162 ?_ | refine kw_iadd x_M_personOf_162 ?_
                                      refine kw_ist x_M_personOf_163 (by decide) ?_
                                      first | refine kw_iinc_n x_M_personOf_165 (by decide) rfl ?_ | refine kw_iinc x_M_personOf_165 (by decide) rfl ?_
                                      refine kw_goto x_M_personOf_168 ?_
                                      refine ih (e + 1) _ _ (by omega) ?_
                                      rw [h2]
                                      show xsm (xpo X t p w) e + _ = xsm (xpo X t p w) e + xpo X t p w e
                                      congr 1
                                      first
                                        | (rw [xpo_n (Or.inl (by omega))]; done)
                                        | (rw [xpo_n (Or.inr (by omega))]; done)
                                        | (unfold xpo
                                           rw [if_pos ⟨by omega, by omega⟩]
                                           first
                                             | (have h9 : w = 0 := (by omega)
                                                subst h9
                                                simp [*]; done)
                                             | (have h9 : w = 1 := (by omega)
                                                subst h9
                                                simp [*]; done)
                                             | (have h9 : w = 2 := (by omega)
                                                subst h9
                                                simp [*]; done)
                                             | (have h9 : w = 3 := (by omega)
                                                subst h9
                                                simp [*]; done)
                                             | (have h9 : w = 1 ∨ w = 2 := (by omega)
                                                rcases h9 with h9 | h9
                                                · subst h9
                                                  simp [*]; done
                                                · subst h9
                                                  simp [*]; done))
                              · first
                                | exfalso; omega
                                | skip
                                  refine kw_icon x_M_personOf_142 ?_
                                  refine kw_goto x_M_personOf_143 ?_
                                  first | refine kw_iadd_n x_M_personOf_162 ?_ | refine kw_iadd x_M_personOf_162 ?_
                                  refine kw_ist x_M_personOf_163 (by decide) ?_
                                  first | refine kw_iinc_n x_M_personOf_165 (by decide) rfl ?_ | refine kw_iinc x_M_personOf_165 (by decide) rfl ?_
                                  refine kw_goto x_M_personOf_168 ?_
                                  refine ih (e + 1) _ _ (by omega) ?_
                                  rw [h2]
                                  show xsm (xpo X t p w) e + _ = xsm (xpo X t p w) e + xpo X t p w e
                                  congr 1
                                  first
                                    | (rw [xpo_n (Or.inl (by omega))]; done)
                                    | (rw [xpo_n (Or.inr (by omega))]; done)
                                    | (unfold xpo
                                       rw [if_pos ⟨by omega, by omega⟩]
                                       first
                                         | (have h9 : w = 0 := (by omega)
                                            subst h9
                                            simp [*]; done)
                                         | (have h9 : w = 1 := (by omega)
                                            subst h9
                                            simp [*]; done)
                                         | (have h9 : w = 2 := (by omega)
                                            subst h9
                                            simp [*]; done)
                                         | (have h9 : w = 3 := (by omega)
                                            subst h9
                                            simp [*]; done)
                                         | (have h9 : w = 1 ∨ w = 2 := (by omega)
                                            rcases h9 with h9 | h9
                                            · subst h9
                                              simp [*]; done
                                            · subst h9
                                              simp [*]; done))
                          · first
                            | exfalso; omega
                            | skip
                              refine kw_ald_n x_M_personOf_114 rfl ?_
                              refine kw_ild_n x_M_personOf_115 rfl ?_
                              refine kw_ild x_M_personOf_116 rfl ?_
                              refine c_M_personOf_118 (by exact isM_k hM) (Nat.le_of_ble_eq_true rfl) ?_
                              refine s_M_knows hM hE hW (by omega) (by omega) ?_
                              first | refine kw_if_eq_b x_M_personOf_121 (fun h121 => ?_) (fun h121 => ?_) | refine kw_if_eq_n x_M_personOf_121 (by omega) (fun h121 => ?_) (fun h121 => ?_) | refine kw_if_eq x_M_personOf_121 (fun h121 => ?_) (fun h121 => ?_)
                              · first
                                | exfalso; omega
                                | skip
                                  refine kw_icon x_M_personOf_128 ?_
                                  refine kw_goto x_M_personOf_129 ?_
                                  first | refine kw_iadd_n x_M_personOf_162 ?_ | refine kw_iadd x_M_personOf_162 ?_
                                  refine kw_ist x_M_personOf_163 (by decide) ?_
                                  first | refine kw_iinc_n x_M_personOf_165 (by decide) rfl ?_ | refine kw_iinc x_M_personOf_165 (by decide) rfl ?_
                                  refine kw_goto x_M_personOf_168 ?_
                                  refine ih (e + 1) _ _ (by omega) ?_
                                  rw [h2]
                                  show xsm (xpo X t p w) e + _ = xsm (xpo X t p w) e + xpo X t p w e
                                  congr 1
                                  first
                                    | (rw [xpo_n (Or.inl (by omega))]; done)
                                    | (rw [xpo_n (Or.inr (by omega))]; done)
                                    | (unfold xpo
                                       rw [if_pos ⟨by omega, by omega⟩]
                                       first
                                         | (have h9 : w = 0 := (by omega)
                                            subst h9
                                            simp [*]; done)
                                         | (have h9 : w = 1 := (by omega)
                                            subst h9
                                            simp [*]; done)
                                         | (have h9 : w = 2 := (by omega)
                                            subst h9
                                            simp [*]; done)
                                         | (have h9 : w = 3 := (by omega)
                                            subst h9
                                            simp [*]; done)
                                         | (have h9 : w = 1 ∨ w = 2 := (by omega)
                                            rcases h9 with h9 | h9
                                            · subst h9
                                              simp [*]; done
                                            · subst h9
                                              simp [*]; done))
                              · first
                                | exfalso; omega
                                | skip
                                  refine kw_icon x_M_personOf_124 ?_
                                  refine kw_goto x_M_personOf_125 ?_
                                  first | refine kw_iadd_n x_M_personOf_162 ?_ | refine kw_iadd x_M_personOf_162 ?_
                                  refine kw_ist x_M_personOf_163 (by decide) ?_
                                  first | refine kw_iinc_n x_M_personOf_165 (by decide) rfl ?_ | refine kw_iinc x_M_personOf_165 (by decide) rfl ?_
                                  refine kw_goto x_M_personOf_168 ?_
                                  refine ih (e + 1) _ _ (by omega) ?_
                                  rw [h2]
                                  show xsm (xpo X t p w) e + _ = xsm (xpo X t p w) e + xpo X t p w e
                                  congr 1
                                  first
                                    | (rw [xpo_n (Or.inl (by omega))]; done)
                                    | (rw [xpo_n (Or.inr (by omega))]; done)
                                    | (unfold xpo
                                       rw [if_pos ⟨by omega, by omega⟩]
                                       first
                                         | (have h9 : w = 0 := (by omega)
                                            subst h9
                                            simp [*]; done)
                                         | (have h9 : w = 1 := (by omega)
                                            subst h9
                                            simp [*]; done)
                                         | (have h9 : w = 2 := (by omega)
                                            subst h9
                                            simp [*]; done)
                                         | (have h9 : w = 3 := (by omega)
                                            subst h9
                                            simp [*]; done)
                                         | (have h9 : w = 1 ∨ w = 2 := (by omega)
                                            rcases h9 with h9 | h9
                                            · subst h9
                                              simp [*]; done
                                            · subst h9
                                              simp [*]; done))
                      · first
                        | exfalso; omega
                        | skip
                          refine kw_ald_n x_M_personOf_96 rfl ?_
                          refine kw_ild x_M_personOf_97 rfl ?_
                          refine kw_bip x_M_personOf_99 ?_
                          refine c_M_personOf_101 (by exact isM_k hM) (Nat.le_of_ble_eq_true rfl) ?_
                          first | refine s_M_ofn hM hE hn (by omega) (by decide) ?_ | refine s_M_of5 hM hE hn (by omega) (by omega) ?_
                          refine c_M_personOf_104 (Nat.le_of_ble_eq_true rfl) ?_
                          refine s_M_bits hm32.2 ?_
                          refine kw_goto x_M_personOf_107 ?_
                          first | refine kw_iadd_n x_M_personOf_162 ?_ | refine kw_iadd x_M_personOf_162 ?_
                          refine kw_ist x_M_personOf_163 (by decide) ?_
                          first | refine kw_iinc_n x_M_personOf_165 (by decide) rfl ?_ | refine kw_iinc x_M_personOf_165 (by decide) rfl ?_
                          refine kw_goto x_M_personOf_168 ?_
                          refine ih (e + 1) _ _ (by omega) ?_
                          rw [h2]
                          show xsm (xpo X t p w) e + _ = xsm (xpo X t p w) e + xpo X t p w e
                          congr 1
                          first
                            | (rw [xpo_n (Or.inl (by omega))]; done)
                            | (rw [xpo_n (Or.inr (by omega))]; done)
                            | (unfold xpo
                               rw [if_pos ⟨by omega, by omega⟩]
                               first
                                 | (have h9 : w = 0 := (by omega)
                                    subst h9
                                    simp [*]; done)
                                 | (have h9 : w = 1 := (by omega)
                                    subst h9
                                    simp [*]; done)
                                 | (have h9 : w = 2 := (by omega)
                                    subst h9
                                    simp [*]; done)
                                 | (have h9 : w = 3 := (by omega)
                                    subst h9
                                    simp [*]; done)
                                 | (have h9 : w = 1 ∨ w = 2 := (by omega)
                                    rcases h9 with h9 | h9
                                    · subst h9
                                      simp [*]; done
                                    · subst h9
                                      simp [*]; done))
                  · first
                    | exfalso; omega
                    | skip
                      refine kw_icon x_M_personOf_87 ?_
                      refine kw_goto x_M_personOf_88 ?_
                      first | refine kw_iadd_n x_M_personOf_162 ?_ | refine kw_iadd x_M_personOf_162 ?_
                      refine kw_ist x_M_personOf_163 (by decide) ?_
                      first | refine kw_iinc_n x_M_personOf_165 (by decide) rfl ?_ | refine kw_iinc x_M_personOf_165 (by decide) rfl ?_
                      refine kw_goto x_M_personOf_168 ?_
                      refine ih (e + 1) _ _ (by omega) ?_
                      rw [h2]
                      show xsm (xpo X t p w) e + _ = xsm (xpo X t p w) e + xpo X t p w e
                      congr 1
                      first
                        | (rw [xpo_n (Or.inl (by omega))]; done)
                        | (rw [xpo_n (Or.inr (by omega))]; done)
                        | (unfold xpo
                           rw [if_pos ⟨by omega, by omega⟩]
                           first
                             | (have h9 : w = 0 := (by omega)
                                subst h9
                                simp [*]; done)
                             | (have h9 : w = 1 := (by omega)
                                subst h9
                                simp [*]; done)
                             | (have h9 : w = 2 := (by omega)
                                subst h9
                                simp [*]; done)
                             | (have h9 : w = 3 := (by omega)
                                subst h9
                                simp [*]; done)
                             | (have h9 : w = 1 ∨ w = 2 := (by omega)
                                rcases h9 with h9 | h9
                                · subst h9
                                  simp [*]; done
                                · subst h9
                                  simp [*]; done))
              · first
                | exfalso; omega
                | skip
                  refine kw_icon x_M_personOf_73 ?_
                  refine kw_goto x_M_personOf_74 ?_
                  refine kw_ist x_M_personOf_78 (by decide) ?_
                  refine kw_ild x_M_personOf_80 rfl ?_
                  refine kw_ild x_M_personOf_82 rfl ?_
                  first | refine kw_if_ne_b x_M_personOf_84 (fun h84 => ?_) (fun h84 => ?_) | refine kw_if_ne_s x_M_personOf_84 ⟨by omega, by omega⟩ (fun h84 => ?_) (fun h84 => ?_) | refine kw_if_ne_n x_M_personOf_84 (by omega) (fun h84 => ?_) (fun h84 => ?_) | refine kw_if_ne x_M_personOf_84 (fun h84 => ?_) (fun h84 => ?_)
                  · first
                    | exfalso; omega
                    | skip
                      refine kw_ild_n x_M_personOf_91 rfl ?_
                      refine kw_icon x_M_personOf_92 ?_
                      first | refine kw_ic_ne_n x_M_personOf_93 ⟨by omega, by omega⟩ (fun h93 => ?_) (fun h93 => ?_) | refine kw_ic_ne x_M_personOf_93 (fun h93 => ?_) (fun h93 => ?_)
                      · first
                        | exfalso; omega
                        | skip
                          refine kw_ild_n x_M_personOf_110 rfl ?_
                          first | refine kw_if_ne_b x_M_personOf_111 (fun h111 => ?_) (fun h111 => ?_) | refine kw_if_ne_s x_M_personOf_111 ⟨by omega, by omega⟩ (fun h111 => ?_) (fun h111 => ?_) | refine kw_if_ne_n x_M_personOf_111 (by omega) (fun h111 => ?_) (fun h111 => ?_) | refine kw_if_ne x_M_personOf_111 (fun h111 => ?_) (fun h111 => ?_)
                          · first
                            | exfalso; omega
                            | skip
                              refine kw_ald_n x_M_personOf_132 rfl ?_
                              refine kw_gr x_M_personOf_133 (by exact isM_k hM) (by exact isM_r8 hM) ?_
                              refine kw_ild x_M_personOf_136 rfl ?_
                              refine kw_iald_n x_M_personOf_138 (by first | exact isM_a1 hM | exact isM_a2 hM | exact isM_a3 hM | exact isM_a4 hM | exact isM_a5 hM | exact isM_a6 hM | exact isM_a7 hM | exact isM_a8 hM | exact isM_a10 hM | exact isM_a11 hM) (by omega) (by omega) (by first | exact hE.1 | exact hE.2.1 | exact hE.2.2.1 | exact hS _ (by omega) | exact rfl) ?_
                              first | refine kw_if_eq_c x_M_personOf_139 (xst_4 _ _ _) (fun h139 => ?_) (fun h139 => ?_) | refine kw_if_eq_b x_M_personOf_139 (fun h139 => ?_) (fun h139 => ?_) | refine kw_if_eq_n x_M_personOf_139 (by omega) (fun h139 => ?_) (fun h139 => ?_) | refine kw_if_eq x_M_personOf_139 (fun h139 => ?_) (fun h139 => ?_)
                              · first
                                | exfalso; omega
                                | skip
                                  refine kw_ild_n x_M_personOf_146 rfl ?_
                                  refine kw_icon x_M_personOf_147 ?_
                                  first | refine kw_ic_ne_n x_M_personOf_148 ⟨by omega, by omega⟩ (fun h148 => ?_) (fun h148 => ?_) | refine kw_ic_ne x_M_personOf_148 (fun h148 => ?_) (fun h148 => ?_)
                                  · first
                                    | exfalso; omega
                                    | skip
                                      refine kw_ald_n x_M_personOf_155 rfl ?_
                                      refine kw_ild x_M_personOf_156 rfl ?_
                                      refine kw_icon x_M_personOf_158 ?_
                                      refine c_M_personOf_159 (by exact isM_k hM) (Nat.le_of_ble_eq_true rfl) ?_
                                      first | refine s_M_ofn hM hE hn (by omega) (by decide) ?_ | refine s_M_of5 hM hE hn (by omega) (by omega) ?_
                                      first | refine kw_iadd_n x_M_personOf_162 ?_ | refine kw_iadd x_M_personOf_162 ?_
                                      refine kw_ist x_M_personOf_163 (by decide) ?_
                                      first | refine kw_iinc_n x_M_personOf_165 (by decide) rfl ?_ | refine kw_iinc x_M_personOf_165 (by decide) rfl ?_
                                      refine kw_goto x_M_personOf_168 ?_
                                      refine ih (e + 1) _ _ (by omega) ?_
                                      rw [h2]
                                      show xsm (xpo X t p w) e + _ = xsm (xpo X t p w) e + xpo X t p w e
                                      congr 1
                                      first
                                        | (rw [xpo_n (Or.inl (by omega))]; done)
                                        | (rw [xpo_n (Or.inr (by omega))]; done)
                                        | (unfold xpo
                                           rw [if_pos ⟨by omega, by omega⟩]
                                           first
                                             | (have h9 : w = 0 := (by omega)
                                                subst h9
                                                simp [*]; done)
                                             | (have h9 : w = 1 := (by omega)
                                                subst h9
                                                simp [*]; done)
                                             | (have h9 : w = 2 := (by omega)
                                                subst h9
                                                simp [*]; done)
                                             | (have h9 : w = 3 := (by omega)
                                                subst h9
                                                simp [*]; done)
                                             | (have h9 : w = 1 ∨ w = 2 := (by omega)
                                                rcases h9 with h9 | h9
                                                · subst h9
                                                  simp [*]; done
                                                · subst h9
                                                  simp [*]; done))
                                  · first
                                    | exfalso; omega
                                    | skip
                                      refine kw_icon x_M_personOf_151 ?_
                                      refine kw_goto x_M_personOf_152 ?_
                                      first | refine kw_iadd_n x_M_personOf_162 ?_ | refine kw_iadd x_M_personOf_162 ?_
                                      refine kw_ist x_M_personOf_163 (by decide) ?_
                                      first | refine kw_iinc_n x_M_personOf_165 (by decide) rfl ?_ | refine kw_iinc x_M_personOf_165 (by decide) rfl ?_
                                      refine kw_goto x_M_personOf_168 ?_
                                      refine ih (e + 1) _ _ (by omega) ?_
                                      rw [h2]
                                      show xsm (xpo X t p w) e + _ = xsm (xpo X t p w) e + xpo X t p w e
                                      congr 1
                                      first
                                        | (rw [xpo_n (Or.inl (by omega))]; done)
                                        | (rw [xpo_n (Or.inr (by omega))]; done)
                                        | (unfold xpo
                                           rw [if_pos ⟨by omega, by omega⟩]
                                           first
                                             | (have h9 : w = 0 := (by omega)
                                                subst h9
                                                simp [*]; done)
                                             | (have h9 : w = 1 := (by omega)
                                                subst h9
                                                simp [*]; done)
                                             | (have h9 : w = 2 := (by omega)
                                                subst h9
                                                simp [*]; done)
                                             | (have h9 : w = 3 := (by omega)
                                                subst h9
                                                simp [*]; done)
                                             | (have h9 : w = 1 ∨ w = 2 := (by omega)
                                                rcases h9 with h9 | h9
                                                · subst h9
                                                  simp [*]; done
                                                · subst h9
                                                  simp [*]; done))
                              · first
                                | exfalso; omega
                                | skip
                                  refine kw_icon x_M_personOf_142 ?_
                                  refine kw_goto x_M_personOf_143 ?_
                                  first | refine kw_iadd_n x_M_personOf_162 ?_ | refine kw_iadd x_M_personOf_162 ?_
                                  refine kw_ist x_M_personOf_163 (by decide) ?_
                                  first | refine kw_iinc_n x_M_personOf_165 (by decide) rfl ?_ | refine kw_iinc x_M_personOf_165 (by decide) rfl ?_
                                  refine kw_goto x_M_personOf_168 ?_
                                  refine ih (e + 1) _ _ (by omega) ?_
                                  rw [h2]
                                  show xsm (xpo X t p w) e + _ = xsm (xpo X t p w) e + xpo X t p w e
                                  congr 1
                                  first
                                    | (rw [xpo_n (Or.inl (by omega))]; done)
                                    | (rw [xpo_n (Or.inr (by omega))]; done)
                                    | (unfold xpo
                                       rw [if_pos ⟨by omega, by omega⟩]
                                       first
                                         | (have h9 : w = 0 := (by omega)
                                            subst h9
                                            simp [*]; done)
                                         | (have h9 : w = 1 := (by omega)
                                            subst h9
                                            simp [*]; done)
                                         | (have h9 : w = 2 := (by omega)
                                            subst h9
                                            simp [*]; done)
                                         | (have h9 : w = 3 := (by omega)
                                            subst h9
                                            simp [*]; done)
                                         | (have h9 : w = 1 ∨ w = 2 := (by omega)
                                            rcases h9 with h9 | h9
                                            · subst h9
                                              simp [*]; done
                                            · subst h9
                                              simp [*]; done))
                          · first
                            | exfalso; omega
                            | skip
                              refine kw_ald_n x_M_personOf_114 rfl ?_
                              refine kw_ild_n x_M_personOf_115 rfl ?_
                              refine kw_ild x_M_personOf_116 rfl ?_
                              refine c_M_personOf_118 (by exact isM_k hM) (Nat.le_of_ble_eq_true rfl) ?_
                              refine s_M_knows hM hE hW (by omega) (by omega) ?_
                              first | refine kw_if_eq_b x_M_personOf_121 (fun h121 => ?_) (fun h121 => ?_) | refine kw_if_eq_n x_M_personOf_121 (by omega) (fun h121 => ?_) (fun h121 => ?_) | refine kw_if_eq x_M_personOf_121 (fun h121 => ?_) (fun h121 => ?_)
                              · first
                                | exfalso; omega
                                | skip
                                  refine kw_icon x_M_personOf_128 ?_
                                  refine kw_goto x_M_personOf_129 ?_
                                  first | refine kw_iadd_n x_M_personOf_162 ?_ | refine kw_iadd x_M_personOf_162 ?_
                                  refine kw_ist x_M_personOf_163 (by decide) ?_
                                  first | refine kw_iinc_n x_M_personOf_165 (by decide) rfl ?_ | refine kw_iinc x_M_personOf_165 (by decide) rfl ?_
                                  refine kw_goto x_M_personOf_168 ?_
                                  refine ih (e + 1) _ _ (by omega) ?_
                                  rw [h2]
                                  show xsm (xpo X t p w) e + _ = xsm (xpo X t p w) e + xpo X t p w e
                                  congr 1
                                  first
                                    | (rw [xpo_n (Or.inl (by omega))]; done)
                                    | (rw [xpo_n (Or.inr (by omega))]; done)
                                    | (unfold xpo
                                       rw [if_pos ⟨by omega, by omega⟩]
                                       first
                                         | (have h9 : w = 0 := (by omega)
                                            subst h9
                                            simp [*]; done)
                                         | (have h9 : w = 1 := (by omega)
                                            subst h9
                                            simp [*]; done)
                                         | (have h9 : w = 2 := (by omega)
                                            subst h9
                                            simp [*]; done)
                                         | (have h9 : w = 3 := (by omega)
                                            subst h9
                                            simp [*]; done)
                                         | (have h9 : w = 1 ∨ w = 2 := (by omega)
                                            rcases h9 with h9 | h9
                                            · subst h9
                                              simp [*]; done
                                            · subst h9
                                              simp [*]; done))
                              · first
                                | exfalso; omega
                                | skip
                                  refine kw_icon x_M_personOf_124 ?_
                                  refine kw_goto x_M_personOf_125 ?_
                                  first | refine kw_iadd_n x_M_personOf_162 ?_ | refine kw_iadd x_M_personOf_162 ?_
                                  refine kw_ist x_M_personOf_163 (by decide) ?_
                                  first | refine kw_iinc_n x_M_personOf_165 (by decide) rfl ?_ | refine kw_iinc x_M_personOf_165 (by decide) rfl ?_
                                  refine kw_goto x_M_personOf_168 ?_
                                  refine ih (e + 1) _ _ (by omega) ?_
                                  rw [h2]
                                  show xsm (xpo X t p w) e + _ = xsm (xpo X t p w) e + xpo X t p w e
                                  congr 1
                                  first
                                    | (rw [xpo_n (Or.inl (by omega))]; done)
                                    | (rw [xpo_n (Or.inr (by omega))]; done)
                                    | (unfold xpo
                                       rw [if_pos ⟨by omega, by omega⟩]
                                       first
                                         | (have h9 : w = 0 := (by omega)
                                            subst h9
                                            simp [*]; done)
                                         | (have h9 : w = 1 := (by omega)
                                            subst h9
                                            simp [*]; done)
                                         | (have h9 : w = 2 := (by omega)
                                            subst h9
                                            simp [*]; done)
                                         | (have h9 : w = 3 := (by omega)
                                            subst h9
                                            simp [*]; done)
                                         | (have h9 : w = 1 ∨ w = 2 := (by omega)
                                            rcases h9 with h9 | h9
                                            · subst h9
                                              simp [*]; done
                                            · subst h9
                                              simp [*]; done))
                      · first
                        | exfalso; omega
                        | skip
                          refine kw_ald_n x_M_personOf_96 rfl ?_
                          refine kw_ild x_M_personOf_97 rfl ?_
                          refine kw_bip x_M_personOf_99 ?_
                          refine c_M_personOf_101 (by exact isM_k hM) (Nat.le_of_ble_eq_true rfl) ?_
                          first | refine s_M_ofn hM hE hn (by omega) (by decide) ?_ | refine s_M_of5 hM hE hn (by omega) (by omega) ?_
                          refine c_M_personOf_104 (Nat.le_of_ble_eq_true rfl) ?_
                          refine s_M_bits hm32.2 ?_
                          refine kw_goto x_M_personOf_107 ?_
                          first | refine kw_iadd_n x_M_personOf_162 ?_ | refine kw_iadd x_M_personOf_162 ?_
                          refine kw_ist x_M_personOf_163 (by decide) ?_
                          first | refine kw_iinc_n x_M_personOf_165 (by decide) rfl ?_ | refine kw_iinc x_M_personOf_165 (by decide) rfl ?_
                          refine kw_goto x_M_personOf_168 ?_
                          refine ih (e + 1) _ _ (by omega) ?_
                          rw [h2]
                          show xsm (xpo X t p w) e + _ = xsm (xpo X t p w) e + xpo X t p w e
                          congr 1
                          first
                            | (rw [xpo_n (Or.inl (by omega))]; done)
                            | (rw [xpo_n (Or.inr (by omega))]; done)
                            | (unfold xpo
                               rw [if_pos ⟨by omega, by omega⟩]
                               first
                                 | (have h9 : w = 0 := (by omega)
                                    subst h9
                                    simp [*]; done)
                                 | (have h9 : w = 1 := (by omega)
                                    subst h9
                                    simp [*]; done)
                                 | (have h9 : w = 2 := (by omega)
                                    subst h9
                                    simp [*]; done)
                                 | (have h9 : w = 3 := (by omega)
                                    subst h9
                                    simp [*]; done)
                                 | (have h9 : w = 1 ∨ w = 2 := (by omega)
                                    rcases h9 with h9 | h9
                                    · subst h9
                                      simp [*]; done
                                    · subst h9
                                      simp [*]; done))
                  · first
                    | exfalso; omega
                    | skip
                      refine kw_icon x_M_personOf_87 ?_
                      refine kw_goto x_M_personOf_88 ?_
                      first | refine kw_iadd_n x_M_personOf_162 ?_ | refine kw_iadd x_M_personOf_162 ?_
                      refine kw_ist x_M_personOf_163 (by decide) ?_
                      first | refine kw_iinc_n x_M_personOf_165 (by decide) rfl ?_ | refine kw_iinc x_M_personOf_165 (by decide) rfl ?_
                      refine kw_goto x_M_personOf_168 ?_
                      refine ih (e + 1) _ _ (by omega) ?_
                      rw [h2]
                      show xsm (xpo X t p w) e + _ = xsm (xpo X t p w) e + xpo X t p w e
                      congr 1
                      first
                        | (rw [xpo_n (Or.inl (by omega))]; done)
                        | (rw [xpo_n (Or.inr (by omega))]; done)
                        | (unfold xpo
                           rw [if_pos ⟨by omega, by omega⟩]
                           first
                             | (have h9 : w = 0 := (by omega)
                                subst h9
                                simp [*]; done)
                             | (have h9 : w = 1 := (by omega)
                                subst h9
                                simp [*]; done)
                             | (have h9 : w = 2 := (by omega)
                                subst h9
                                simp [*]; done)
                             | (have h9 : w = 3 := (by omega)
                                subst h9
                                simp [*]; done)
                             | (have h9 : w = 1 ∨ w = 2 := (by omega)
                                rcases h9 with h9 | h9
                                · subst h9
                                  simp [*]; done
                                · subst h9
                                  simp [*]; done))
  refine kw_ald_n x_M_personOf_0 rfl ?_
  refine kw_ild_n x_M_personOf_1 rfl ?_
  refine c_M_personOf_2 (by exact isM_k hM) (Nat.le_of_ble_eq_true rfl) ?_
  refine s_M_isTown hM hE ?_
  first | refine kw_if_eq_b x_M_personOf_5 (fun h5 => ?_) (fun h5 => ?_) | refine kw_if_eq_n x_M_personOf_5 (by omega) (fun h5 => ?_) (fun h5 => ?_) | refine kw_if_eq x_M_personOf_5 (fun h5 => ?_) (fun h5 => ?_)
  · first
    | exfalso; omega
    | skip
      refine kw_icon x_M_personOf_27 ?_
      refine kw_iret x_M_personOf_28 ?_
      exact kf (fun h => by first | exact kt_nT (by omega) h5 h.1 | exact kt_nR (by omega) h15 h.2.1 | exact kt_nR (by omega) h24 h.2.2)
  · first
    | exfalso; omega
    | skip
      obtain ⟨t, ht, rfl⟩ := kt_yT (by omega) h5
      refine kw_ild_n x_M_personOf_8 rfl ?_
      refine kw_icon x_M_personOf_9 ?_
      refine kw_bip x_M_personOf_10 ?_
      refine c_M_personOf_12 (Nat.le_of_ble_eq_true rfl) ?_
      refine s_M_in ?_
      first | refine kw_if_eq_b x_M_personOf_15 (fun h15 => ?_) (fun h15 => ?_) | refine kw_if_eq_n x_M_personOf_15 (by omega) (fun h15 => ?_) (fun h15 => ?_) | refine kw_if_eq x_M_personOf_15 (fun h15 => ?_) (fun h15 => ?_)
      · first
        | exfalso; omega
        | skip
          refine kw_icon x_M_personOf_27 ?_
          refine kw_iret x_M_personOf_28 ?_
          exact kf (fun h => by first | exact kt_nT (by omega) h5 h.1 | exact kt_nR (by omega) h15 h.2.1 | exact kt_nR (by omega) h24 h.2.2)
      · first
        | exfalso; omega
        | skip
          obtain ⟨p, hp1, hp2, rfl⟩ := kt_yR (by omega) h15
          refine kw_ild_n x_M_personOf_18 rfl ?_
          refine kw_icon x_M_personOf_19 ?_
          refine kw_icon x_M_personOf_20 ?_
          refine c_M_personOf_21 (Nat.le_of_ble_eq_true rfl) ?_
          refine s_M_in ?_
          first | refine kw_if_ne_b x_M_personOf_24 (fun h24 => ?_) (fun h24 => ?_) | refine kw_if_ne_s x_M_personOf_24 ⟨by omega, by omega⟩ (fun h24 => ?_) (fun h24 => ?_) | refine kw_if_ne_n x_M_personOf_24 (by omega) (fun h24 => ?_) (fun h24 => ?_) | refine kw_if_ne x_M_personOf_24 (fun h24 => ?_) (fun h24 => ?_)
          · first
            | exfalso; omega
            | skip
              obtain ⟨w, hw1, hw2, rfl⟩ := kt_yR (by omega) h24
              refine kw_ald_n x_M_personOf_29 rfl ?_
              refine kw_ild_n x_M_personOf_30 rfl ?_
              refine c_M_personOf_31 (by exact isM_k hM) (Nat.le_of_ble_eq_true rfl) ?_
              refine s_M_thinksAll hM hE hW (by omega) (fun I2 hl2 hS2 => ?_)
              refine kw_icon x_M_personOf_34 ?_
              refine kw_ist x_M_personOf_35 (by decide) ?_
              refine kw_icon x_M_personOf_37 ?_
              refine kw_ist x_M_personOf_38 (by decide) ?_
              exact loop t p w ht hp2 hw2 rfl rfl rfl I2 hl2 hS2 (xn X) 0 0 _ (by omega) rfl
          · first
            | exfalso; omega
            | skip
              refine kw_icon x_M_personOf_27 ?_
              refine kw_iret x_M_personOf_28 ?_
              exact kf (fun h => by first | exact kt_nT (by omega) h5 h.1 | exact kt_nR (by omega) h15 h.2.1 | exact kt_nR (by omega) h24 h.2.2)
end MO
