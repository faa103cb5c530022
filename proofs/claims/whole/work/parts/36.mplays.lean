/-! the reference: playing the text -/
section XP
variable (tx : Nat → Nat) (ty s all : Nat)
def xps : Nat → Nat
  | 0 => s + 1
  | i + 1 => xps i + xdg tx ty (xps i) + 1
def xok1 (i : Nat) : Bool := decide (xdg tx ty (xps tx ty s i) ≠ 0 ∧ xsg tx ty (xps tx ty s i + xdg tx ty (xps tx ty s i)) = if i + 1 = all then 59 else 44)
def xoks : Nat → Bool
  | 0 => decide (0 < all)
  | i + 1 => xoks i && xok1 tx ty s all i
def xnm (i : Nat) : Nat := xvq tx ty (xps tx ty s i) (xdg tx ty (xps tx ty s i))
end XP
theorem xoks_f {tx : Nat → Nat} {ty s all : Nat} {i : Nat} (h : xoks tx ty s all i = false) : ∀ d, xoks tx ty s all (i + d) = false
  | 0 => h
  | d + 1 => by
    show (xoks tx ty s all (i + d) && _) = false
    rw [xoks_f h d]
    rfl
theorem xdg_2 (tx : Nat → Nat) (ty s : Nat) : xdg tx ty s ≤ 2 := by unfold xdg; split <;> (try split) <;> omega
theorem xps_le (tx : Nat → Nat) (ty s : Nat) : ∀ i, s + 1 ≤ xps tx ty s i ∧ xps tx ty s i ≤ s + 1 + 3 * i
  | 0 => ⟨Nat.le_refl _, Nat.le_refl _⟩
  | i + 1 => by
    have h := xps_le tx ty s i
    have h2 := xdg_2 tx ty (xps tx ty s i)
    show s + 1 ≤ xps tx ty s i + xdg tx ty (xps tx ty s i) + 1 ∧ xps tx ty s i + xdg tx ty (xps tx ty s i) + 1 ≤ s + 1 + 3 * (i + 1)
    omega
theorem xvq_lt {tx : Nat → Nat} {ty s : Nat} (h : ∀ j, xsg tx ty j ≤ 126) : ∀ q, q ≤ 2 → xvq tx ty s q < 1000
  | 0, _ => (by decide : 0 < 1000)
  | 1, _ => by
    have := h (s + 0)
    show 10 * 0 + (xsg tx ty (s + 0) - 48) < 1000
    omega
  | 2, _ => by
    have := h (s + 0)
    have := h (s + 1)
    show 10 * (10 * 0 + (xsg tx ty (s + 0) - 48)) + (xsg tx ty (s + 1) - 48) < 1000
    omega
theorem xoks_le {tx : Nat → Nat} {ty s : Nat} : ∀ {all : Nat}, xoks tx ty s all all = true → xps tx ty s all ≤ ty ∧ 0 < all
  | 0, h => absurd (of_decide_eq_true (p := 0 < 0) h) (by decide)
  | a + 1, h => by
    have h1 : (xoks tx ty s (a + 1) a && xok1 tx ty s (a + 1) a) = true := h
    rw [Bool.and_eq_true] at h1
    have h2 := (of_decide_eq_true h1.2).2
    rw [if_pos rfl] at h2
    unfold xsg at h2
    by_cases hc : xps tx ty s a + xdg tx ty (xps tx ty s a) < ty
    · exact ⟨hc, Nat.succ_pos a⟩
    · rw [if_neg hc] at h2
      exact absurd h2 (by decide)
/-- where the fault lies, what it is (0: none), the state, how many commands -/
abbrev kt_ru : Type := Nat × Nat × kt_X × Nat
def xrun (tx : Nat → Nat) (ty : Nat) : Nat → Nat → Nat → kt_X → kt_ru
  | 0, s, c, X => (s, 0, X, c)
  | k + 1, s, c, X => if s < ty then (if xoks tx ty s (xnb (tx s)) (xnb (tx s)) = true then
      (if (xdo X (tx s) (xnm tx ty s)).1 < 0 then (s, (if (xdo X (tx s) (xnm tx ty s)).1 = -1 then 2 else 3), (xdo X (tx s) (xnm tx ty s)).2, c + 1)
       else xrun tx ty k (xps tx ty s (xnb (tx s))) (c + 1) (xdo X (tx s) (xnm tx ty s)).2) else (s, 1, X, c + 1)) else (s, 0, X, c)
def kt_lf (m : Nat) (I I' : kt_I) : Prop := (∀ a, a ≠ m → a ≠ m + 1 → a ≠ m + 2 → a ≠ m + 6 → a ≠ m + 7 → a ≠ m + 8 → a ≠ m + 9 → a ≠ m + 11 → I' a = I a) ∧ ∀ j, j ≠ 4 → j ≠ 5 → j ≠ 10 → j ≠ 14 → j ≠ 15 → j ≠ 16 → I' m j = I m j
theorem kt_lf.rf {m : Nat} {I : kt_I} : kt_lf m I I := ⟨fun _ _ _ _ _ _ _ _ _ => rfl, fun _ _ _ _ _ _ _ => rfl⟩
theorem kt_lf.tr {m : Nat} {I I' I'' : kt_I} (h : kt_lf m I I') (h' : kt_lf m I' I'') : kt_lf m I I'' := ⟨fun a h1 h2 h3 h4 h5 h6 h7 h8 => (h'.1 a h1 h2 h3 h4 h5 h6 h7 h8).trans (h.1 a h1 h2 h3 h4 h5 h6 h7 h8), fun j h1 h2 h3 h4 h5 h6 => (h'.2 j h1 h2 h3 h4 h5 h6).trans (h.2 j h1 h2 h3 h4 h5 h6)⟩
theorem kt_lc.lf {m : Nat} {I I' : kt_I} (h : kt_lc m I I') : kt_lf m I I' := ⟨fun a h1 h2 h3 h4 h5 h6 h7 _ => h.1 a h1 h2 h3 h4 h5 h6 h7, fun j h1 _ h3 _ _ _ => h.2 j h1 h3⟩
theorem kt_lf.um {m j : Nat} {x : Int32} {I : kt_I} (hj : j = 5 ∨ j = 14 ∨ j = 15 ∨ j = 16) : kt_lf m I (kt_u1 I m j x) := ⟨fun a h _ _ _ _ _ _ _ => kt_u1_ne _ _ _ h, fun q _ _ _ _ _ _ => by simp [kt_u1, show ¬ q = j by omega]⟩
theorem kt_lf.tx {m ty : Nat} {tx : Nat → Nat} {I I' : kt_I} (h : kt_lf m I I') (hx : kt_tx m ty tx I) : kt_tx m ty tx I' := hx.same (h.2 7 (by decide) (by decide) (by decide) (by decide) (by decide) (by decide)) (h.1 _ (by omega) (by omega) (by omega) (by omega) (by omega) (by omega) (by omega) (by omega))
theorem kt_u1_nj {I : kt_I} {a j k : Nat} {x v : Int32} (h : k ≠ j) (e : I a k = v) : kt_u1 I a j x a k = v := by simp [kt_u1, h]; exact e
theorem kt_u1_eq {I : kt_I} {a j : Nat} {x : Int32} : kt_u1 I a j x a j = x := by simp [kt_u1]
/-- the memory between two commands -/
def kt_pl (m np : Nat) (PX : Nat → kt_X) (X : kt_X) (c cs : Nat) (I I' : kt_I) : Prop := kt_lf m I I' ∧ kt_enc (I' (m + 1)) X ∧ kt_pa m np PX I' ∧ I' m 5 = kt_bo true ∧ I' m 15 = nI c ∧ I' m 16 = nI cs
section MO
variable {P : kt_P} {N : Nat} {I : kt_I} {J : kt_J} {R : kt_R} {Q : Option Value → kt_I → kt_J → kt_R → Prop} {m : Nat} {X : kt_X}
theorem s_M_calls (hM : kt_isM P N R m) (hE : kt_enc (I (m + 1)) X) (hW : kt_wf X) {np : Nat} {PX : Nat → kt_X} (hpa : kt_pa m np PX I) (hbo : I m 5 = kt_bo true) {a : Nat → Nat} (hb : ∀ j, j < 4 → a j < 1000) {l : Nat} (hl : 0 < xnb l) (ha : ∀ j, j < xnb l → I (m + 11) j = nI (a j))
    (k : ∀ I', kt_lc m I I' → kt_enc (I' (m + 1)) (xdo X l a).2 → kt_pa m np PX I' → Q (some (.int (xdo X l a).1)) I' J R) : KW P i_M_calls N 0 [some (.ref m), some (.int (nI l))] [] N I J R Q := by
  have h : l = 100 ∨ l = 111 ∨ l = 99 ∨ l = 109 ∨ l = 104 ∨ l = 114 := by
    unfold xnb at hl
    by_cases h1 : l = 111
    · omega
    · by_cases h2 : l = 100
      · omega
      · by_cases h3 : l = 99 ∨ l = 109 ∨ l = 104
        · omega
        · by_cases h4 : l = 114
          · omega
          · rw [if_neg h1, if_neg h2, if_neg h3, if_neg h4] at hl
            omega
  rcases h with rfl | rfl | rfl | rfl | rfl | rfl
  · exact s_M_calls_100_ hM hE hW hpa hbo hb ha k
  · exact s_M_calls_111_ hM hE hW hpa hbo hb ha k
  · exact s_M_calls_99_ hM hE hW hpa hbo hb ha k
  · exact s_M_calls_109_ hM hE hW hpa hbo hb ha k
  · exact s_M_calls_104_ hM hE hW hpa hbo hb ha k
  · exact s_M_calls_114_ hM hE hW hpa hbo hb ha k
theorem s_M_pl_ex (hM : kt_isM P N R m) {s c ty : Nat} {L : List (Option Value)} (hL : L[0]? = some (some (.ref m))) (h14 : I m 14 = nI s) (h15 : I m 15 = nI c) (h7 : I m 7 = nI ty) (hs : s < 1000) (hty : ty ≤ 80) (hc : c ≠ 0 ∧ c < 9) (k : KW P i_M_plays N 186 L [] N I J R Q) : KW P i_M_plays N 22 L [] N I J R Q := by
  refine kw_ald_n x_M_plays_22 hL ?_
  refine kw_gi_e x_M_plays_23 (by exact isM_k hM) (by first | exact h14 | exact h15 | exact h7 | exact rfl) ?_
  refine kw_ald_n x_M_plays_26 hL ?_
  refine kw_gi_e x_M_plays_27 (by exact isM_k hM) (by first | exact h14 | exact h15 | exact h7 | exact rfl) ?_
  first | refine kw_ic_ge_n x_M_plays_30 ⟨by omega, by omega⟩ (fun h30 => ?_) (fun h30 => ?_) | refine kw_ic_ge x_M_plays_30 (fun h30 => ?_) (fun h30 => ?_)
  · first
    | exfalso; omega
    | skip
      exact k
  · first
    | exfalso; omega
    | skip
      refine kw_ald_n x_M_plays_33 hL ?_
      refine kw_gi_e x_M_plays_34 (by exact isM_k hM) (by first | exact h14 | exact h15 | exact h7 | exact rfl) ?_
      first | refine kw_if_ne_b x_M_plays_37 (fun h37 => ?_) (fun h37 => ?_) | refine kw_if_ne_s x_M_plays_37 ⟨by omega, by omega⟩ (fun h37 => ?_) (fun h37 => ?_) | refine kw_if_ne_n x_M_plays_37 (by omega) (fun h37 => ?_) (fun h37 => ?_) | refine kw_if_ne x_M_plays_37 (fun h37 => ?_) (fun h37 => ?_)
      · first
        | exfalso; omega
        | skip
          exact k
      · first
        | exfalso; omega
        | skip
          skip
theorem s_M_pl_num (hM : kt_isM P N R m) {ty s l all : Nat} {tx : Nat → Nat} (hx : kt_tx m ty tx I) (hs : s < 100) (hal : all ≤ 4)
    (k : ∀ I' v5 sp, (∀ a, a ≠ m → a ≠ m + 11 → I' a = I a) → (∀ j, j ≠ 14 → I' m j = I m j) → I' m 14 = nI sp → sp < 200 → (xoks tx ty s all all = true → sp = xps tx ty s all) → (xoks tx ty s all all = true → ∀ j, j < all → I' (m + 11) j = nI (xnm tx ty s j)) → KW P i_M_plays N 124 [some (.ref m), some (.int (nI s)), some (.int (nI l)), some (.int (nI all)), some (.int (kt_bo (xoks tx ty s all all))), v5] [] N I' J R Q) :
    ∀ (d i : Nat) (I1 : kt_I) (sp : Nat), i + d = all → (∀ a, a ≠ m → a ≠ m + 11 → I1 a = I a) → (∀ j, j ≠ 14 → I1 m j = I m j) → I1 m 14 = nI sp → sp < 200 → (xoks tx ty s all i = true → sp = xps tx ty s i) → (xoks tx ty s all i = true → ∀ j, j < i → I1 (m + 11) j = nI (xnm tx ty s j)) → ∀ v4, v4 = kt_bo (xoks tx ty s all i) →
      KW P i_M_plays N 84 [some (.ref m), some (.int (nI s)), some (.int (nI l)), some (.int (nI all)), some (.int v4), some (.int (nI i))] [] N I1 J R Q := by
  intro d
  induction d with
  | zero =>
    intro i I1 sp h1 g1 g2 h14 hsp g4 g5 v4 hv4
    have h2 : i = all := by omega
    subst h2; subst hv4
    refine kw_ild x_M_plays_84 rfl ?_
    refine kw_ild_n x_M_plays_86 rfl ?_
    first | refine kw_ic_ge_n x_M_plays_87 ⟨by omega, by omega⟩ (fun h87 => ?_) (fun h87 => ?_) | refine kw_ic_ge x_M_plays_87 (fun h87 => ?_) (fun h87 => ?_)
    · first
      | exfalso; omega
      | skip
        exact k I1 _ sp g1 g2 h14 hsp g4 g5
    · first
      | exfalso; omega
      | skip
        skip
  | succ d ih =>
    intro i I1 sp h1 g1 g2 h14 hsp g4 g5 v4 hv4
    subst hv4
    refine kw_ild x_M_plays_84 rfl ?_
    refine kw_ild_n x_M_plays_86 rfl ?_
    first | refine kw_ic_ge_n x_M_plays_87 ⟨by omega, by omega⟩ (fun h87 => ?_) (fun h87 => ?_) | refine kw_ic_ge x_M_plays_87 (fun h87 => ?_) (fun h87 => ?_)
    · first
      | exfalso; omega
      | skip
        first
          | (exfalso; omega)
          | (have hf := xoks_f h92 (d + 1)
             rw [h1] at hf
             have hk := k I1 (some (.int (nI i))) sp g1 g2 h14 hsp (fun q => absurd (hf.symm.trans q) (by decide)) (fun q => absurd (hf.symm.trans q) (by decide))
             rw [hf] at hk
             rw [h92]
             exact hk)
    · first
      | exfalso; omega
      | skip
        refine kw_ild x_M_plays_90 rfl ?_
        first | refine kw_if_eq_b x_M_plays_92 (fun h92 => ?_) (fun h92 => ?_) | refine kw_if_eq_n x_M_plays_92 (by omega) (fun h92 => ?_) (fun h92 => ?_) | refine kw_if_eq x_M_plays_92 (fun h92 => ?_) (fun h92 => ?_)
        · first
          | exfalso; omega
          | skip
            first
              | (exfalso; omega)
              | (have hf := xoks_f h92 (d + 1)
                 rw [h1] at hf
                 have hk := k I1 (some (.int (nI i))) sp g1 g2 h14 hsp (fun q => absurd (hf.symm.trans q) (by decide)) (fun q => absurd (hf.symm.trans q) (by decide))
                 rw [hf] at hk
                 rw [h92]
                 exact hk)
        · first
          | exfalso; omega
          | skip
            refine kw_ald_n x_M_plays_95 rfl ?_
            refine kw_ild x_M_plays_96 rfl ?_
            refine kw_ild x_M_plays_98 rfl ?_
            refine kw_ild_n x_M_plays_100 rfl ?_
            refine kw_icon x_M_plays_101 ?_
            first | refine kw_isub_n x_M_plays_102 (by omega) ?_ | refine kw_isub x_M_plays_102 ?_
            first | refine kw_ic_ne_n x_M_plays_103 ⟨by omega, by omega⟩ (fun h103 => ?_) (fun h103 => ?_) | refine kw_ic_ne x_M_plays_103 (fun h103 => ?_) (fun h103 => ?_)
            · first
              | exfalso; omega
              | skip
                refine kw_bip x_M_plays_111 ?_
                refine c_M_plays_113 (by exact isM_k hM) (Nat.le_of_ble_eq_true rfl) ?_
                have hsi := g4 h92
                have hpl := xps_le tx ty s i
                refine s_M_number hM (hx.same (g2 7 (by decide)) (g1 _ (by omega) (by omega))) h14 (by omega) (by omega) ⟨by omega, by omega⟩ (fun I2 f1 f2 f3 f4 f5 => ?_)
                refine kw_ist x_M_plays_116 (by decide) ?_
                first | refine kw_iinc_n x_M_plays_118 (by decide) rfl ?_ | refine kw_iinc x_M_plays_118 (by decide) rfl ?_
                refine kw_goto x_M_plays_121 ?_
                have hdg := xdg_2 tx ty sp
                have hok : xoks tx ty s all (i + 1) = decide (xdg tx ty sp ≠ 0 ∧ xsg tx ty (sp + xdg tx ty sp) = 44) := (by
                  show (xoks tx ty s all i && xok1 tx ty s all i) = _
                  rw [h92, hsi, Bool.true_and]
                  unfold xok1
                  rw [if_neg (by omega)])
                rw [← hok]
                refine ih (i + 1) I2 _ (by omega) (fun a ha hb => (f1 a ha hb).trans (g1 a ha hb)) (fun j hj => (f2 j hj).trans (g2 j hj)) f3 (by omega) (fun _ => ?_) (fun _ j hj => ?_) _ rfl
                · rw [hsi]; rfl
                · by_cases hji : j = i
                  · subst hji
                    rw [f4, hsi]
                    rfl
                  · rw [f5 j hji]
                    exact g5 h92 j (by omega)
            · first
              | exfalso; omega
              | skip
                refine kw_bip x_M_plays_106 ?_
                refine kw_goto x_M_plays_108 ?_
                refine c_M_plays_113 (by exact isM_k hM) (Nat.le_of_ble_eq_true rfl) ?_
                have hsi := g4 h92
                have hpl := xps_le tx ty s i
                refine s_M_number hM (hx.same (g2 7 (by decide)) (g1 _ (by omega) (by omega))) h14 (by omega) (by omega) ⟨by omega, by omega⟩ (fun I2 f1 f2 f3 f4 f5 => ?_)
                refine kw_ist x_M_plays_116 (by decide) ?_
                first | refine kw_iinc_n x_M_plays_118 (by decide) rfl ?_ | refine kw_iinc x_M_plays_118 (by decide) rfl ?_
                refine kw_goto x_M_plays_121 ?_
                have hdg := xdg_2 tx ty sp
                have hok : xoks tx ty s all (i + 1) = decide (xdg tx ty sp ≠ 0 ∧ xsg tx ty (sp + xdg tx ty sp) = 59) := (by
                  show (xoks tx ty s all i && xok1 tx ty s all i) = _
                  rw [h92, hsi, Bool.true_and]
                  unfold xok1
                  rw [if_pos (by omega)])
                rw [← hok]
                refine ih (i + 1) I2 _ (by omega) (fun a ha hb => (f1 a ha hb).trans (g1 a ha hb)) (fun j hj => (f2 j hj).trans (g2 j hj)) f3 (by omega) (fun _ => ?_) (fun _ j hj => ?_) _ rfl
                · rw [hsi]; rfl
                · by_cases hji : j = i
                  · subst hji
                    rw [f4, hsi]
                    rfl
                  · rw [f5 j hji]
                    exact g5 h92 j (by omega)
theorem s_M_pl_lp (hM : kt_isM P N R m) {ty : Nat} {tx : Nat → Nat} (hx : kt_tx m ty tx I) {np : Nat} {PX : Nat → kt_X} :
    ∀ (f s c : Nat) (X : kt_X) (I1 : kt_I) (v1 : Int32) (v2 v3 v4 v5 : Option Value), kt_wf X → kt_pl m np PX X 0 c I I1 → I1 m 14 = nI s → s < 100 → ty ≤ s + f →
    (∀ I' v1 v2 v3 v4 v5, kt_pl m np PX (xrun tx ty f s c X).2.2.1 (xrun tx ty f s c X).2.1 (xrun tx ty f s c X).2.2.2 I I' → kt_wf (xrun tx ty f s c X).2.2.1 → ((xrun tx ty f s c X).2.1 ≠ 0 → v1 = nI (xrun tx ty f s c X).1) → (xrun tx ty f s c X).2.1 < 4 → KW P i_M_plays N 186 [some (.ref m), some (.int v1), v2, v3, v4, v5] [] N I' J R Q) →
    KW P i_M_plays N 22 [some (.ref m), some (.int v1), v2, v3, v4, v5] [] N I1 J R Q := by
  have hty := hx.2.1
  intro f
  induction f with
  | zero =>
    intro s c X I1 v1 v2 v3 v4 v5 hW hpl h14 hs hf k
    have hx1 := hpl.1.tx hx
    obtain ⟨hl, hE, hpa, h5, h15, h16⟩ := hpl
    refine kw_ald_n x_M_plays_22 rfl ?_
    refine kw_gi_e x_M_plays_23 (by exact isM_k hM) (by first | exact h14 | exact h15 | exact hx1.1 | exact h16 | exact rfl) ?_
    refine kw_ald_n x_M_plays_26 rfl ?_
    refine kw_gi_e x_M_plays_27 (by exact isM_k hM) (by first | exact h14 | exact h15 | exact hx1.1 | exact h16 | exact rfl) ?_
    first | refine kw_ic_ge_n x_M_plays_30 ⟨by omega, by omega⟩ (fun h30 => ?_) (fun h30 => ?_) | refine kw_ic_ge x_M_plays_30 (fun h30 => ?_) (fun h30 => ?_)
    · first
      | exfalso; omega
      | skip
        exact k I1 _ _ _ _ _ ⟨hl, hE, hpa, h5, h15, h16⟩ hW (fun q => absurd rfl q) (by decide : 0 < 4)
    · first
      | exfalso; omega
      | skip
        skip
  | succ f ih =>
    intro s c X I1 v1 v2 v3 v4 v5 hW hpl h14 hs hf k
    have hx1 := hpl.1.tx hx
    have hpl0 := hpl
    obtain ⟨hl, hE, hpa, h5, h15, h16⟩ := hpl
    have hal := xnb_4 (tx s)
    have hxl := xps_le tx ty s (xnb (tx s))
    unfold xrun at k
    refine kw_ald_n x_M_plays_22 rfl ?_
    refine kw_gi_e x_M_plays_23 (by exact isM_k hM) (by first | exact h14 | exact h15 | exact hx1.1 | exact h16 | exact (hx1.2.2 _ (by omega)).1 | exact (kt_u1_nj (by decide) h316) | exact (kt_u1_nj (by decide) h416) | exact rfl) ?_
    refine kw_ald_n x_M_plays_26 rfl ?_
    refine kw_gi_e x_M_plays_27 (by exact isM_k hM) (by first | exact h14 | exact h15 | exact hx1.1 | exact h16 | exact (hx1.2.2 _ (by omega)).1 | exact (kt_u1_nj (by decide) h316) | exact (kt_u1_nj (by decide) h416) | exact rfl) ?_
    first | refine kw_ic_ge_n x_M_plays_30 ⟨by omega, by omega⟩ (fun h30 => ?_) (fun h30 => ?_) | refine kw_ic_ge x_M_plays_30 (fun h30 => ?_) (fun h30 => ?_)
    · first
      | exfalso; omega
      | skip
        first
          | (exfalso; omega)
          | (rw [if_neg (by omega)] at k
             exact k I1 _ _ _ _ _ hpl0 hW (fun q => absurd rfl q) (by decide : 0 < 4))
    · first
      | exfalso; omega
      | skip
        refine kw_ald_n x_M_plays_33 rfl ?_
        refine kw_gi_e x_M_plays_34 (by exact isM_k hM) (by first | exact h14 | exact h15 | exact hx1.1 | exact h16 | exact (hx1.2.2 _ (by omega)).1 | exact (kt_u1_nj (by decide) h316) | exact (kt_u1_nj (by decide) h416) | exact rfl) ?_
        first | refine kw_if_ne_b x_M_plays_37 (fun h37 => ?_) (fun h37 => ?_) | refine kw_if_ne_s x_M_plays_37 ⟨by omega, by omega⟩ (fun h37 => ?_) (fun h37 => ?_) | refine kw_if_ne_n x_M_plays_37 (by omega) (fun h37 => ?_) (fun h37 => ?_) | refine kw_if_ne x_M_plays_37 (fun h37 => ?_) (fun h37 => ?_)
        · first
          | exfalso; omega
          | skip
            first
              | (exfalso; omega)
              | (rw [if_neg (by omega)] at k
                 exact k I1 _ _ _ _ _ hpl0 hW (fun q => absurd rfl q) (by decide : 0 < 4))
        · first
          | exfalso; omega
          | skip
            refine kw_ald_n x_M_plays_40 rfl ?_
            refine kw_gi_e x_M_plays_41 (by exact isM_k hM) (by first | exact h14 | exact h15 | exact hx1.1 | exact h16 | exact (hx1.2.2 _ (by omega)).1 | exact (kt_u1_nj (by decide) h316) | exact (kt_u1_nj (by decide) h416) | exact rfl) ?_
            refine kw_ist_n x_M_plays_44 (by decide) ?_
            refine kw_ald_n x_M_plays_45 rfl ?_
            refine kw_gr x_M_plays_46 (by exact isM_k hM) (by exact isM_r6 hM) ?_
            refine kw_ald_n x_M_plays_49 rfl ?_
            refine kw_gi_e x_M_plays_50 (by exact isM_k hM) (by first | exact h14 | exact h15 | exact hx1.1 | exact h16 | exact (hx1.2.2 _ (by omega)).1 | exact (kt_u1_nj (by decide) h316) | exact (kt_u1_nj (by decide) h416) | exact rfl) ?_
            refine kw_iald_n x_M_plays_53 (by first | exact isM_a1 hM | exact isM_a2 hM | exact isM_a3 hM | exact isM_a4 hM | exact isM_a5 hM | exact isM_a6 hM | exact isM_a7 hM | exact isM_a8 hM | exact isM_a10 hM | exact isM_a11 hM) (by omega) (by omega) (by first | exact h14 | exact h15 | exact hx1.1 | exact h16 | exact (hx1.2.2 _ (by omega)).1 | exact (kt_u1_nj (by decide) h316) | exact (kt_u1_nj (by decide) h416) | exact rfl) ?_
            refine kw_ist_n x_M_plays_54 (by decide) ?_
            refine kw_ild_n x_M_plays_55 rfl ?_
            refine c_M_plays_56 (Nat.le_of_ble_eq_true rfl) ?_
            have htx := (hx1.2.2 s (by omega)).2
            refine s_M_numbersOf (by omega) ?_
            refine kw_ist_n x_M_plays_59 (by decide) ?_
            refine kw_ald_n x_M_plays_60 rfl ?_
            refine kw_dup x_M_plays_61 rfl ?_
            refine kw_gi_e x_M_plays_62 (by exact isM_k hM) (by first | exact h14 | exact h15 | exact hx1.1 | exact h16 | exact (hx1.2.2 _ (by omega)).1 | exact (kt_u1_nj (by decide) h316) | exact (kt_u1_nj (by decide) h416) | exact rfl) ?_
            refine kw_icon x_M_plays_65 ?_
            first | refine kw_iadd_n x_M_plays_66 ?_ | refine kw_iadd x_M_plays_66 ?_
            refine kw_pi x_M_plays_67 (by exact isM_k hM) ?_
            refine kw_ild_n x_M_plays_70 rfl ?_
            first | refine kw_if_le_n x_M_plays_71 (by omega) (fun h71 => ?_) (fun h71 => ?_) | refine kw_if_le x_M_plays_71 (fun h71 => ?_) (fun h71 => ?_)
            · first
              | exfalso; omega
              | skip
                refine kw_icon x_M_plays_78 ?_
                refine kw_ist x_M_plays_79 (by decide) ?_
                refine kw_icon x_M_plays_81 ?_
                refine kw_ist x_M_plays_82 (by decide) ?_
                refine s_M_pl_num hM (I := kt_u1 I1 m 14 (nI (s + 1))) ((kt_lf.um (by decide)).tx hx1) hs hal (fun I3 v5' sp g1 g2 g3 g4 g5 g6 => ?_) (xnb (tx s)) 0 _ (s + 1) (by omega) (fun _ _ _ => rfl) (fun _ _ => rfl) kt_u1_eq (by omega) (fun _ => rfl) (fun _ j hj => absurd hj (Nat.not_lt_zero j)) _ (by first | rw [show xoks tx ty s (xnb (tx s)) 0 = true from decide_eq_true (by omega)]; rfl | rw [show xoks tx ty s (xnb (tx s)) 0 = false from decide_eq_false (by omega)]; rfl)
                have h316 : I3 m 16 = nI c := (by rw [g2 16 (by decide)]; exact kt_u1_nj (by decide) h16)
                have hlf3 : kt_lf m I I3 := hl.tr ((kt_lf.um (j := 14) (x := nI (s + 1)) (by decide)).tr ⟨fun a h1 _ _ _ _ _ _ h2 => g1 a h1 h2, fun j _ _ _ h _ _ => g2 j h⟩)
                refine kw_ild x_M_plays_124 rfl ?_
                first | refine kw_if_eq_b x_M_plays_126 (fun h126 => ?_) (fun h126 => ?_) | refine kw_if_eq_n x_M_plays_126 (by omega) (fun h126 => ?_) (fun h126 => ?_) | refine kw_if_eq x_M_plays_126 (fun h126 => ?_) (fun h126 => ?_)
                · first
                  | exfalso; omega
                  | skip
                    refine kw_icon x_M_plays_137 ?_
                    refine kw_ist x_M_plays_138 (by decide) ?_
                    refine kw_ald_n x_M_plays_140 rfl ?_
                    refine kw_ild x_M_plays_141 rfl ?_
                    first | refine kw_if_ne_b x_M_plays_143 (fun h143 => ?_) (fun h143 => ?_) | refine kw_if_ne_s x_M_plays_143 ⟨by omega, by omega⟩ (fun h143 => ?_) (fun h143 => ?_) | refine kw_if_ne_n x_M_plays_143 (by omega) (fun h143 => ?_) (fun h143 => ?_) | refine kw_if_ne x_M_plays_143 (fun h143 => ?_) (fun h143 => ?_)
                    · first
                      | exfalso; omega
                      | skip
                        refine kw_ild x_M_plays_150 rfl ?_
                        first | refine kw_if_lt_s x_M_plays_152 ⟨by omega, by omega⟩ (fun h152 => ?_) (fun h152 => ?_) | refine kw_if_lt_n x_M_plays_152 (by omega) (fun h152 => ?_) (fun h152 => ?_) | refine kw_if_lt x_M_plays_152 (fun h152 => ?_) (fun h152 => ?_)
                        · first
                          | exfalso; omega
                          | skip
                            refine kw_ild x_M_plays_159 rfl ?_
                            refine kw_icon x_M_plays_161 ?_
                            first | refine kw_ic_ne_n x_M_plays_162 ⟨by omega, by omega⟩ (fun h162 => ?_) (fun h162 => ?_) | refine kw_ic_ne x_M_plays_162 (fun h162 => ?_) (fun h162 => ?_)
                            · first
                              | exfalso; omega
                              | skip
                                refine kw_icon x_M_plays_169 ?_
                                refine kw_pi x_M_plays_170 (by exact isM_k hM) ?_
                                refine kw_ald_n x_M_plays_173 rfl ?_
                                refine kw_dup x_M_plays_174 rfl ?_
                                refine kw_gi_e x_M_plays_175 (by exact isM_k hM) (by first | exact h14 | exact h15 | exact hx1.1 | exact h16 | exact (hx1.2.2 _ (by omega)).1 | exact (kt_u1_nj (by decide) h316) | exact (kt_u1_nj (by decide) h416) | exact rfl) ?_
                                refine kw_icon x_M_plays_178 ?_
                                first | refine kw_iadd_n x_M_plays_179 ?_ | refine kw_iadd x_M_plays_179 ?_
                                refine kw_pi x_M_plays_180 (by exact isM_k hM) ?_
                                refine kw_goto x_M_plays_183 ?_
                                first
                                  | exact absurd (h126.symm.trans h143) (by decide)
                                  | (rw [if_pos (by omega), if_pos h126, if_pos h152, if_neg h162] at k
                                     refine s_M_pl_ex hM rfl (kt_u1_nj (by decide) (kt_u1_nj (by decide) ((hl4.2 14 (by decide) (by decide)).trans g3))) (kt_u1_nj (by decide) kt_u1_eq) (kt_u1_nj (by decide) (kt_u1_nj (by decide) (hlf4.tx hx).1)) (by omega) hty (c := 3) ⟨by decide, by decide⟩ ?_
                                     exact k _ _ _ _ _ _ ⟨hlf4.tr ((kt_lf.um (by decide)).tr (kt_lf.um (by decide))), by rw [kt_u1_ne _ _ _ (by omega), kt_u1_ne _ _ _ (by omega)]; exact hE4, hpa4.same (kt_u1_nj (by decide) (kt_u1_nj (by decide) rfl)) (by rw [kt_u1_ne _ _ _ (by omega), kt_u1_ne _ _ _ (by omega)]), kt_u1_nj (by decide) (kt_u1_nj (by decide) h415), kt_u1_nj (by decide) kt_u1_eq, kt_u1_eq⟩ (xdo_wf hW _ _) (fun _ => rfl) (by decide : 3 < 4))
                            · first
                              | exfalso; omega
                              | skip
                                refine kw_icon x_M_plays_165 ?_
                                refine kw_goto x_M_plays_166 ?_
                                refine kw_pi x_M_plays_170 (by exact isM_k hM) ?_
                                refine kw_ald_n x_M_plays_173 rfl ?_
                                refine kw_dup x_M_plays_174 rfl ?_
                                refine kw_gi_e x_M_plays_175 (by exact isM_k hM) (by first | exact h14 | exact h15 | exact hx1.1 | exact h16 | exact (hx1.2.2 _ (by omega)).1 | exact (kt_u1_nj (by decide) h316) | exact (kt_u1_nj (by decide) h416) | exact rfl) ?_
                                refine kw_icon x_M_plays_178 ?_
                                first | refine kw_iadd_n x_M_plays_179 ?_ | refine kw_iadd x_M_plays_179 ?_
                                refine kw_pi x_M_plays_180 (by exact isM_k hM) ?_
                                refine kw_goto x_M_plays_183 ?_
                                first
                                  | exact absurd (h126.symm.trans h143) (by decide)
                                  | (rw [if_pos (by omega), if_pos h126, if_pos h152, if_pos h162] at k
                                     refine s_M_pl_ex hM rfl (kt_u1_nj (by decide) (kt_u1_nj (by decide) ((hl4.2 14 (by decide) (by decide)).trans g3))) (kt_u1_nj (by decide) kt_u1_eq) (kt_u1_nj (by decide) (kt_u1_nj (by decide) (hlf4.tx hx).1)) (by omega) hty (c := 2) ⟨by decide, by decide⟩ ?_
                                     exact k _ _ _ _ _ _ ⟨hlf4.tr ((kt_lf.um (by decide)).tr (kt_lf.um (by decide))), by rw [kt_u1_ne _ _ _ (by omega), kt_u1_ne _ _ _ (by omega)]; exact hE4, hpa4.same (kt_u1_nj (by decide) (kt_u1_nj (by decide) rfl)) (by rw [kt_u1_ne _ _ _ (by omega), kt_u1_ne _ _ _ (by omega)]), kt_u1_nj (by decide) (kt_u1_nj (by decide) h415), kt_u1_nj (by decide) kt_u1_eq, kt_u1_eq⟩ (xdo_wf hW _ _) (fun _ => rfl) (by decide : 2 < 4))
                        · first
                          | exfalso; omega
                          | skip
                            refine kw_icon x_M_plays_155 ?_
                            refine kw_goto x_M_plays_156 ?_
                            refine kw_pi x_M_plays_170 (by exact isM_k hM) ?_
                            refine kw_ald_n x_M_plays_173 rfl ?_
                            refine kw_dup x_M_plays_174 rfl ?_
                            refine kw_gi_e x_M_plays_175 (by exact isM_k hM) (by first | exact h14 | exact h15 | exact hx1.1 | exact h16 | exact (hx1.2.2 _ (by omega)).1 | exact (kt_u1_nj (by decide) h316) | exact (kt_u1_nj (by decide) h416) | exact rfl) ?_
                            refine kw_icon x_M_plays_178 ?_
                            first | refine kw_iadd_n x_M_plays_179 ?_ | refine kw_iadd x_M_plays_179 ?_
                            refine kw_pi x_M_plays_180 (by exact isM_k hM) ?_
                            refine kw_goto x_M_plays_183 ?_
                            first
                              | exact absurd (h126.symm.trans h143) (by decide)
                              | (rw [if_pos (by omega), if_pos h126, if_neg h152] at k
                                 refine ih (xps tx ty s (xnb (tx s))) (c + 1) (xdo X (tx s) (xnm tx ty s)).2 _ _ _ _ _ _ (xdo_wf hW _ _) ⟨hlf4.tr ((kt_lf.um (by decide)).tr (kt_lf.um (by decide))), by rw [kt_u1_ne _ _ _ (by omega), kt_u1_ne _ _ _ (by omega)]; exact hE4, hpa4.same (kt_u1_nj (by decide) (kt_u1_nj (by decide) rfl)) (by rw [kt_u1_ne _ _ _ (by omega), kt_u1_ne _ _ _ (by omega)]), kt_u1_nj (by decide) (kt_u1_nj (by decide) h415), kt_u1_nj (by decide) kt_u1_eq, kt_u1_eq⟩ (kt_u1_nj (by decide) (kt_u1_nj (by decide) (by rw [hl4.2 14 (by decide) (by decide), g3, hsp]))) (by omega) (by omega) k)
                    · first
                      | exfalso; omega
                      | skip
                        refine kw_icon x_M_plays_146 ?_
                        refine kw_goto x_M_plays_147 ?_
                        refine kw_pi x_M_plays_170 (by exact isM_k hM) ?_
                        refine kw_ald_n x_M_plays_173 rfl ?_
                        refine kw_dup x_M_plays_174 rfl ?_
                        refine kw_gi_e x_M_plays_175 (by exact isM_k hM) (by first | exact h14 | exact h15 | exact hx1.1 | exact h16 | exact (hx1.2.2 _ (by omega)).1 | exact (kt_u1_nj (by decide) h316) | exact (kt_u1_nj (by decide) h416) | exact rfl) ?_
                        refine kw_icon x_M_plays_178 ?_
                        first | refine kw_iadd_n x_M_plays_179 ?_ | refine kw_iadd x_M_plays_179 ?_
                        refine kw_pi x_M_plays_180 (by exact isM_k hM) ?_
                        refine kw_goto x_M_plays_183 ?_
                        first
                          | exact absurd (h126.symm.trans h143) (by decide)
                          | (rw [if_pos (by omega), if_neg (by rw [h126]; decide)] at k
                             refine s_M_pl_ex hM rfl (kt_u1_nj (by decide) (kt_u1_nj (by decide) g3)) (kt_u1_nj (by decide) kt_u1_eq) (kt_u1_nj (by decide) (kt_u1_nj (by decide) (hlf3.tx hx).1)) (by omega) hty (c := 1) ⟨by decide, by decide⟩ ?_
                             exact k _ _ _ _ _ _ ⟨hlf3.tr ((kt_lf.um (by decide)).tr (kt_lf.um (by decide))), by rw [kt_u1_ne _ _ _ (by omega), kt_u1_ne _ _ _ (by omega), g1 _ (by omega) (by omega), kt_u1_ne _ _ _ (by omega)]; exact hE, hpa.same (by rw [kt_u1_nj (by decide) (kt_u1_nj (by decide) rfl), g2 4 (by decide)]; exact kt_u1_nj (by decide) rfl) (by rw [kt_u1_ne _ _ _ (by omega), kt_u1_ne _ _ _ (by omega), g1 _ (by omega) (by omega), kt_u1_ne _ _ _ (by omega)]), kt_u1_nj (by decide) (kt_u1_nj (by decide) (by rw [g2 5 (by decide)]; exact kt_u1_nj (by decide) h5)), kt_u1_nj (by decide) kt_u1_eq, kt_u1_eq⟩ hW (fun _ => rfl) (by decide : 1 < 4))
                · first
                  | exfalso; omega
                  | skip
                    refine kw_ald_n x_M_plays_129 rfl ?_
                    refine kw_ild_n x_M_plays_130 rfl ?_
                    refine c_M_plays_131 (by exact isM_k hM) (Nat.le_of_ble_eq_true rfl) ?_
                    have hsp := g5 h126
                    have hle := xoks_le h126
                    refine s_M_calls hM (by rw [g1 _ (by omega) (by omega), kt_u1_ne _ _ _ (by omega)]; exact hE) hW (hpa.same (by rw [g2 4 (by decide)]; exact kt_u1_nj (by decide) rfl) (by rw [g1 _ (by omega) (by omega), kt_u1_ne _ _ _ (by omega)])) (by rw [g2 5 (by decide)]; exact kt_u1_nj (by decide) h5) (a := xnm tx ty s) (fun j hj => xvq_lt (xsg_126 hx) _ (xdg_2 tx ty _)) hle.2 (g6 h126) (fun I4 hl4 hE4 hpa4 => ?_)
                    have h416 : I4 m 16 = nI c := (by rw [hl4.2 16 (by decide) (by decide)]; exact h316)
                    have h415 : I4 m 5 = kt_bo true := (by rw [hl4.2 5 (by decide) (by decide), g2 5 (by decide)]; exact kt_u1_nj (by decide) h5)
                    have hlf4 : kt_lf m I I4 := hlf3.tr hl4.lf
                    refine kw_goto x_M_plays_134 ?_
                    refine kw_ist x_M_plays_138 (by decide) ?_
                    refine kw_ald_n x_M_plays_140 rfl ?_
                    refine kw_ild x_M_plays_141 rfl ?_
                    first | refine kw_if_ne_b x_M_plays_143 (fun h143 => ?_) (fun h143 => ?_) | refine kw_if_ne_s x_M_plays_143 ⟨by omega, by omega⟩ (fun h143 => ?_) (fun h143 => ?_) | refine kw_if_ne_n x_M_plays_143 (by omega) (fun h143 => ?_) (fun h143 => ?_) | refine kw_if_ne x_M_plays_143 (fun h143 => ?_) (fun h143 => ?_)
                    · first
                      | exfalso; omega
                      | skip
                        refine kw_ild x_M_plays_150 rfl ?_
                        first | refine kw_if_lt_s x_M_plays_152 ⟨by omega, by omega⟩ (fun h152 => ?_) (fun h152 => ?_) | refine kw_if_lt_n x_M_plays_152 (by omega) (fun h152 => ?_) (fun h152 => ?_) | refine kw_if_lt x_M_plays_152 (fun h152 => ?_) (fun h152 => ?_)
                        · first
                          | exfalso; omega
                          | skip
                            refine kw_ild x_M_plays_159 rfl ?_
                            refine kw_icon x_M_plays_161 ?_
                            first | refine kw_ic_ne_n x_M_plays_162 ⟨by omega, by omega⟩ (fun h162 => ?_) (fun h162 => ?_) | refine kw_ic_ne x_M_plays_162 (fun h162 => ?_) (fun h162 => ?_)
                            · first
                              | exfalso; omega
                              | skip
                                refine kw_icon x_M_plays_169 ?_
                                refine kw_pi x_M_plays_170 (by exact isM_k hM) ?_
                                refine kw_ald_n x_M_plays_173 rfl ?_
                                refine kw_dup x_M_plays_174 rfl ?_
                                refine kw_gi_e x_M_plays_175 (by exact isM_k hM) (by first | exact h14 | exact h15 | exact hx1.1 | exact h16 | exact (hx1.2.2 _ (by omega)).1 | exact (kt_u1_nj (by decide) h316) | exact (kt_u1_nj (by decide) h416) | exact rfl) ?_
                                refine kw_icon x_M_plays_178 ?_
                                first | refine kw_iadd_n x_M_plays_179 ?_ | refine kw_iadd x_M_plays_179 ?_
                                refine kw_pi x_M_plays_180 (by exact isM_k hM) ?_
                                refine kw_goto x_M_plays_183 ?_
                                first
                                  | exact absurd (h126.symm.trans h143) (by decide)
                                  | (rw [if_pos (by omega), if_pos h126, if_pos h152, if_neg h162] at k
                                     refine s_M_pl_ex hM rfl (kt_u1_nj (by decide) (kt_u1_nj (by decide) ((hl4.2 14 (by decide) (by decide)).trans g3))) (kt_u1_nj (by decide) kt_u1_eq) (kt_u1_nj (by decide) (kt_u1_nj (by decide) (hlf4.tx hx).1)) (by omega) hty (c := 3) ⟨by decide, by decide⟩ ?_
                                     exact k _ _ _ _ _ _ ⟨hlf4.tr ((kt_lf.um (by decide)).tr (kt_lf.um (by decide))), by rw [kt_u1_ne _ _ _ (by omega), kt_u1_ne _ _ _ (by omega)]; exact hE4, hpa4.same (kt_u1_nj (by decide) (kt_u1_nj (by decide) rfl)) (by rw [kt_u1_ne _ _ _ (by omega), kt_u1_ne _ _ _ (by omega)]), kt_u1_nj (by decide) (kt_u1_nj (by decide) h415), kt_u1_nj (by decide) kt_u1_eq, kt_u1_eq⟩ (xdo_wf hW _ _) (fun _ => rfl) (by decide : 3 < 4))
                            · first
                              | exfalso; omega
                              | skip
                                refine kw_icon x_M_plays_165 ?_
                                refine kw_goto x_M_plays_166 ?_
                                refine kw_pi x_M_plays_170 (by exact isM_k hM) ?_
                                refine kw_ald_n x_M_plays_173 rfl ?_
                                refine kw_dup x_M_plays_174 rfl ?_
                                refine kw_gi_e x_M_plays_175 (by exact isM_k hM) (by first | exact h14 | exact h15 | exact hx1.1 | exact h16 | exact (hx1.2.2 _ (by omega)).1 | exact (kt_u1_nj (by decide) h316) | exact (kt_u1_nj (by decide) h416) | exact rfl) ?_
                                refine kw_icon x_M_plays_178 ?_
                                first | refine kw_iadd_n x_M_plays_179 ?_ | refine kw_iadd x_M_plays_179 ?_
                                refine kw_pi x_M_plays_180 (by exact isM_k hM) ?_
                                refine kw_goto x_M_plays_183 ?_
                                first
                                  | exact absurd (h126.symm.trans h143) (by decide)
                                  | (rw [if_pos (by omega), if_pos h126, if_pos h152, if_pos h162] at k
                                     refine s_M_pl_ex hM rfl (kt_u1_nj (by decide) (kt_u1_nj (by decide) ((hl4.2 14 (by decide) (by decide)).trans g3))) (kt_u1_nj (by decide) kt_u1_eq) (kt_u1_nj (by decide) (kt_u1_nj (by decide) (hlf4.tx hx).1)) (by omega) hty (c := 2) ⟨by decide, by decide⟩ ?_
                                     exact k _ _ _ _ _ _ ⟨hlf4.tr ((kt_lf.um (by decide)).tr (kt_lf.um (by decide))), by rw [kt_u1_ne _ _ _ (by omega), kt_u1_ne _ _ _ (by omega)]; exact hE4, hpa4.same (kt_u1_nj (by decide) (kt_u1_nj (by decide) rfl)) (by rw [kt_u1_ne _ _ _ (by omega), kt_u1_ne _ _ _ (by omega)]), kt_u1_nj (by decide) (kt_u1_nj (by decide) h415), kt_u1_nj (by decide) kt_u1_eq, kt_u1_eq⟩ (xdo_wf hW _ _) (fun _ => rfl) (by decide : 2 < 4))
                        · first
                          | exfalso; omega
                          | skip
                            refine kw_icon x_M_plays_155 ?_
                            refine kw_goto x_M_plays_156 ?_
                            refine kw_pi x_M_plays_170 (by exact isM_k hM) ?_
                            refine kw_ald_n x_M_plays_173 rfl ?_
                            refine kw_dup x_M_plays_174 rfl ?_
                            refine kw_gi_e x_M_plays_175 (by exact isM_k hM) (by first | exact h14 | exact h15 | exact hx1.1 | exact h16 | exact (hx1.2.2 _ (by omega)).1 | exact (kt_u1_nj (by decide) h316) | exact (kt_u1_nj (by decide) h416) | exact rfl) ?_
                            refine kw_icon x_M_plays_178 ?_
                            first | refine kw_iadd_n x_M_plays_179 ?_ | refine kw_iadd x_M_plays_179 ?_
                            refine kw_pi x_M_plays_180 (by exact isM_k hM) ?_
                            refine kw_goto x_M_plays_183 ?_
                            first
                              | exact absurd (h126.symm.trans h143) (by decide)
                              | (rw [if_pos (by omega), if_pos h126, if_neg h152] at k
                                 refine ih (xps tx ty s (xnb (tx s))) (c + 1) (xdo X (tx s) (xnm tx ty s)).2 _ _ _ _ _ _ (xdo_wf hW _ _) ⟨hlf4.tr ((kt_lf.um (by decide)).tr (kt_lf.um (by decide))), by rw [kt_u1_ne _ _ _ (by omega), kt_u1_ne _ _ _ (by omega)]; exact hE4, hpa4.same (kt_u1_nj (by decide) (kt_u1_nj (by decide) rfl)) (by rw [kt_u1_ne _ _ _ (by omega), kt_u1_ne _ _ _ (by omega)]), kt_u1_nj (by decide) (kt_u1_nj (by decide) h415), kt_u1_nj (by decide) kt_u1_eq, kt_u1_eq⟩ (kt_u1_nj (by decide) (kt_u1_nj (by decide) (by rw [hl4.2 14 (by decide) (by decide), g3, hsp]))) (by omega) (by omega) k)
                    · first
                      | exfalso; omega
                      | skip
                        refine kw_icon x_M_plays_146 ?_
                        refine kw_goto x_M_plays_147 ?_
                        refine kw_pi x_M_plays_170 (by exact isM_k hM) ?_
                        refine kw_ald_n x_M_plays_173 rfl ?_
                        refine kw_dup x_M_plays_174 rfl ?_
                        refine kw_gi_e x_M_plays_175 (by exact isM_k hM) (by first | exact h14 | exact h15 | exact hx1.1 | exact h16 | exact (hx1.2.2 _ (by omega)).1 | exact (kt_u1_nj (by decide) h316) | exact (kt_u1_nj (by decide) h416) | exact rfl) ?_
                        refine kw_icon x_M_plays_178 ?_
                        first | refine kw_iadd_n x_M_plays_179 ?_ | refine kw_iadd x_M_plays_179 ?_
                        refine kw_pi x_M_plays_180 (by exact isM_k hM) ?_
                        refine kw_goto x_M_plays_183 ?_
                        first
                          | exact absurd (h126.symm.trans h143) (by decide)
                          | (rw [if_pos (by omega), if_neg (by rw [h126]; decide)] at k
                             refine s_M_pl_ex hM rfl (kt_u1_nj (by decide) (kt_u1_nj (by decide) g3)) (kt_u1_nj (by decide) kt_u1_eq) (kt_u1_nj (by decide) (kt_u1_nj (by decide) (hlf3.tx hx).1)) (by omega) hty (c := 1) ⟨by decide, by decide⟩ ?_
                             exact k _ _ _ _ _ _ ⟨hlf3.tr ((kt_lf.um (by decide)).tr (kt_lf.um (by decide))), by rw [kt_u1_ne _ _ _ (by omega), kt_u1_ne _ _ _ (by omega), g1 _ (by omega) (by omega), kt_u1_ne _ _ _ (by omega)]; exact hE, hpa.same (by rw [kt_u1_nj (by decide) (kt_u1_nj (by decide) rfl), g2 4 (by decide)]; exact kt_u1_nj (by decide) rfl) (by rw [kt_u1_ne _ _ _ (by omega), kt_u1_ne _ _ _ (by omega), g1 _ (by omega) (by omega), kt_u1_ne _ _ _ (by omega)]), kt_u1_nj (by decide) (kt_u1_nj (by decide) (by rw [g2 5 (by decide)]; exact kt_u1_nj (by decide) h5)), kt_u1_nj (by decide) kt_u1_eq, kt_u1_eq⟩ hW (fun _ => rfl) (by decide : 1 < 4))
            · first
              | exfalso; omega
              | skip
                refine kw_icon x_M_plays_74 ?_
                refine kw_goto x_M_plays_75 ?_
                refine kw_ist x_M_plays_79 (by decide) ?_
                refine kw_icon x_M_plays_81 ?_
                refine kw_ist x_M_plays_82 (by decide) ?_
                refine s_M_pl_num hM (I := kt_u1 I1 m 14 (nI (s + 1))) ((kt_lf.um (by decide)).tx hx1) hs hal (fun I3 v5' sp g1 g2 g3 g4 g5 g6 => ?_) (xnb (tx s)) 0 _ (s + 1) (by omega) (fun _ _ _ => rfl) (fun _ _ => rfl) kt_u1_eq (by omega) (fun _ => rfl) (fun _ j hj => absurd hj (Nat.not_lt_zero j)) _ (by first | rw [show xoks tx ty s (xnb (tx s)) 0 = true from decide_eq_true (by omega)]; rfl | rw [show xoks tx ty s (xnb (tx s)) 0 = false from decide_eq_false (by omega)]; rfl)
                have h316 : I3 m 16 = nI c := (by rw [g2 16 (by decide)]; exact kt_u1_nj (by decide) h16)
                have hlf3 : kt_lf m I I3 := hl.tr ((kt_lf.um (j := 14) (x := nI (s + 1)) (by decide)).tr ⟨fun a h1 _ _ _ _ _ _ h2 => g1 a h1 h2, fun j _ _ _ h _ _ => g2 j h⟩)
                refine kw_ild x_M_plays_124 rfl ?_
                first | refine kw_if_eq_b x_M_plays_126 (fun h126 => ?_) (fun h126 => ?_) | refine kw_if_eq_n x_M_plays_126 (by omega) (fun h126 => ?_) (fun h126 => ?_) | refine kw_if_eq x_M_plays_126 (fun h126 => ?_) (fun h126 => ?_)
                · first
                  | exfalso; omega
                  | skip
                    refine kw_icon x_M_plays_137 ?_
                    refine kw_ist x_M_plays_138 (by decide) ?_
                    refine kw_ald_n x_M_plays_140 rfl ?_
                    refine kw_ild x_M_plays_141 rfl ?_
                    first | refine kw_if_ne_b x_M_plays_143 (fun h143 => ?_) (fun h143 => ?_) | refine kw_if_ne_s x_M_plays_143 ⟨by omega, by omega⟩ (fun h143 => ?_) (fun h143 => ?_) | refine kw_if_ne_n x_M_plays_143 (by omega) (fun h143 => ?_) (fun h143 => ?_) | refine kw_if_ne x_M_plays_143 (fun h143 => ?_) (fun h143 => ?_)
                    · first
                      | exfalso; omega
                      | skip
                        refine kw_ild x_M_plays_150 rfl ?_
                        first | refine kw_if_lt_s x_M_plays_152 ⟨by omega, by omega⟩ (fun h152 => ?_) (fun h152 => ?_) | refine kw_if_lt_n x_M_plays_152 (by omega) (fun h152 => ?_) (fun h152 => ?_) | refine kw_if_lt x_M_plays_152 (fun h152 => ?_) (fun h152 => ?_)
                        · first
                          | exfalso; omega
                          | skip
                            refine kw_ild x_M_plays_159 rfl ?_
                            refine kw_icon x_M_plays_161 ?_
                            first | refine kw_ic_ne_n x_M_plays_162 ⟨by omega, by omega⟩ (fun h162 => ?_) (fun h162 => ?_) | refine kw_ic_ne x_M_plays_162 (fun h162 => ?_) (fun h162 => ?_)
                            · first
                              | exfalso; omega
                              | skip
                                refine kw_icon x_M_plays_169 ?_
                                refine kw_pi x_M_plays_170 (by exact isM_k hM) ?_
                                refine kw_ald_n x_M_plays_173 rfl ?_
                                refine kw_dup x_M_plays_174 rfl ?_
                                refine kw_gi_e x_M_plays_175 (by exact isM_k hM) (by first | exact h14 | exact h15 | exact hx1.1 | exact h16 | exact (hx1.2.2 _ (by omega)).1 | exact (kt_u1_nj (by decide) h316) | exact (kt_u1_nj (by decide) h416) | exact rfl) ?_
                                refine kw_icon x_M_plays_178 ?_
                                first | refine kw_iadd_n x_M_plays_179 ?_ | refine kw_iadd x_M_plays_179 ?_
                                refine kw_pi x_M_plays_180 (by exact isM_k hM) ?_
                                refine kw_goto x_M_plays_183 ?_
                                first
                                  | exact absurd (h126.symm.trans h143) (by decide)
                                  | (rw [if_pos (by omega), if_pos h126, if_pos h152, if_neg h162] at k
                                     refine s_M_pl_ex hM rfl (kt_u1_nj (by decide) (kt_u1_nj (by decide) ((hl4.2 14 (by decide) (by decide)).trans g3))) (kt_u1_nj (by decide) kt_u1_eq) (kt_u1_nj (by decide) (kt_u1_nj (by decide) (hlf4.tx hx).1)) (by omega) hty (c := 3) ⟨by decide, by decide⟩ ?_
                                     exact k _ _ _ _ _ _ ⟨hlf4.tr ((kt_lf.um (by decide)).tr (kt_lf.um (by decide))), by rw [kt_u1_ne _ _ _ (by omega), kt_u1_ne _ _ _ (by omega)]; exact hE4, hpa4.same (kt_u1_nj (by decide) (kt_u1_nj (by decide) rfl)) (by rw [kt_u1_ne _ _ _ (by omega), kt_u1_ne _ _ _ (by omega)]), kt_u1_nj (by decide) (kt_u1_nj (by decide) h415), kt_u1_nj (by decide) kt_u1_eq, kt_u1_eq⟩ (xdo_wf hW _ _) (fun _ => rfl) (by decide : 3 < 4))
                            · first
                              | exfalso; omega
                              | skip
                                refine kw_icon x_M_plays_165 ?_
                                refine kw_goto x_M_plays_166 ?_
                                refine kw_pi x_M_plays_170 (by exact isM_k hM) ?_
                                refine kw_ald_n x_M_plays_173 rfl ?_
                                refine kw_dup x_M_plays_174 rfl ?_
                                refine kw_gi_e x_M_plays_175 (by exact isM_k hM) (by first | exact h14 | exact h15 | exact hx1.1 | exact h16 | exact (hx1.2.2 _ (by omega)).1 | exact (kt_u1_nj (by decide) h316) | exact (kt_u1_nj (by decide) h416) | exact rfl) ?_
                                refine kw_icon x_M_plays_178 ?_
                                first | refine kw_iadd_n x_M_plays_179 ?_ | refine kw_iadd x_M_plays_179 ?_
                                refine kw_pi x_M_plays_180 (by exact isM_k hM) ?_
                                refine kw_goto x_M_plays_183 ?_
                                first
                                  | exact absurd (h126.symm.trans h143) (by decide)
                                  | (rw [if_pos (by omega), if_pos h126, if_pos h152, if_pos h162] at k
                                     refine s_M_pl_ex hM rfl (kt_u1_nj (by decide) (kt_u1_nj (by decide) ((hl4.2 14 (by decide) (by decide)).trans g3))) (kt_u1_nj (by decide) kt_u1_eq) (kt_u1_nj (by decide) (kt_u1_nj (by decide) (hlf4.tx hx).1)) (by omega) hty (c := 2) ⟨by decide, by decide⟩ ?_
                                     exact k _ _ _ _ _ _ ⟨hlf4.tr ((kt_lf.um (by decide)).tr (kt_lf.um (by decide))), by rw [kt_u1_ne _ _ _ (by omega), kt_u1_ne _ _ _ (by omega)]; exact hE4, hpa4.same (kt_u1_nj (by decide) (kt_u1_nj (by decide) rfl)) (by rw [kt_u1_ne _ _ _ (by omega), kt_u1_ne _ _ _ (by omega)]), kt_u1_nj (by decide) (kt_u1_nj (by decide) h415), kt_u1_nj (by decide) kt_u1_eq, kt_u1_eq⟩ (xdo_wf hW _ _) (fun _ => rfl) (by decide : 2 < 4))
                        · first
                          | exfalso; omega
                          | skip
                            refine kw_icon x_M_plays_155 ?_
                            refine kw_goto x_M_plays_156 ?_
                            refine kw_pi x_M_plays_170 (by exact isM_k hM) ?_
                            refine kw_ald_n x_M_plays_173 rfl ?_
                            refine kw_dup x_M_plays_174 rfl ?_
                            refine kw_gi_e x_M_plays_175 (by exact isM_k hM) (by first | exact h14 | exact h15 | exact hx1.1 | exact h16 | exact (hx1.2.2 _ (by omega)).1 | exact (kt_u1_nj (by decide) h316) | exact (kt_u1_nj (by decide) h416) | exact rfl) ?_
                            refine kw_icon x_M_plays_178 ?_
                            first | refine kw_iadd_n x_M_plays_179 ?_ | refine kw_iadd x_M_plays_179 ?_
                            refine kw_pi x_M_plays_180 (by exact isM_k hM) ?_
                            refine kw_goto x_M_plays_183 ?_
                            first
                              | exact absurd (h126.symm.trans h143) (by decide)
                              | (rw [if_pos (by omega), if_pos h126, if_neg h152] at k
                                 refine ih (xps tx ty s (xnb (tx s))) (c + 1) (xdo X (tx s) (xnm tx ty s)).2 _ _ _ _ _ _ (xdo_wf hW _ _) ⟨hlf4.tr ((kt_lf.um (by decide)).tr (kt_lf.um (by decide))), by rw [kt_u1_ne _ _ _ (by omega), kt_u1_ne _ _ _ (by omega)]; exact hE4, hpa4.same (kt_u1_nj (by decide) (kt_u1_nj (by decide) rfl)) (by rw [kt_u1_ne _ _ _ (by omega), kt_u1_ne _ _ _ (by omega)]), kt_u1_nj (by decide) (kt_u1_nj (by decide) h415), kt_u1_nj (by decide) kt_u1_eq, kt_u1_eq⟩ (kt_u1_nj (by decide) (kt_u1_nj (by decide) (by rw [hl4.2 14 (by decide) (by decide), g3, hsp]))) (by omega) (by omega) k)
                    · first
                      | exfalso; omega
                      | skip
                        refine kw_icon x_M_plays_146 ?_
                        refine kw_goto x_M_plays_147 ?_
                        refine kw_pi x_M_plays_170 (by exact isM_k hM) ?_
                        refine kw_ald_n x_M_plays_173 rfl ?_
                        refine kw_dup x_M_plays_174 rfl ?_
                        refine kw_gi_e x_M_plays_175 (by exact isM_k hM) (by first | exact h14 | exact h15 | exact hx1.1 | exact h16 | exact (hx1.2.2 _ (by omega)).1 | exact (kt_u1_nj (by decide) h316) | exact (kt_u1_nj (by decide) h416) | exact rfl) ?_
                        refine kw_icon x_M_plays_178 ?_
                        first | refine kw_iadd_n x_M_plays_179 ?_ | refine kw_iadd x_M_plays_179 ?_
                        refine kw_pi x_M_plays_180 (by exact isM_k hM) ?_
                        refine kw_goto x_M_plays_183 ?_
                        first
                          | exact absurd (h126.symm.trans h143) (by decide)
                          | (rw [if_pos (by omega), if_neg (by rw [h126]; decide)] at k
                             refine s_M_pl_ex hM rfl (kt_u1_nj (by decide) (kt_u1_nj (by decide) g3)) (kt_u1_nj (by decide) kt_u1_eq) (kt_u1_nj (by decide) (kt_u1_nj (by decide) (hlf3.tx hx).1)) (by omega) hty (c := 1) ⟨by decide, by decide⟩ ?_
                             exact k _ _ _ _ _ _ ⟨hlf3.tr ((kt_lf.um (by decide)).tr (kt_lf.um (by decide))), by rw [kt_u1_ne _ _ _ (by omega), kt_u1_ne _ _ _ (by omega), g1 _ (by omega) (by omega), kt_u1_ne _ _ _ (by omega)]; exact hE, hpa.same (by rw [kt_u1_nj (by decide) (kt_u1_nj (by decide) rfl), g2 4 (by decide)]; exact kt_u1_nj (by decide) rfl) (by rw [kt_u1_ne _ _ _ (by omega), kt_u1_ne _ _ _ (by omega), g1 _ (by omega) (by omega), kt_u1_ne _ _ _ (by omega)]), kt_u1_nj (by decide) (kt_u1_nj (by decide) (by rw [g2 5 (by decide)]; exact kt_u1_nj (by decide) h5)), kt_u1_nj (by decide) kt_u1_eq, kt_u1_eq⟩ hW (fun _ => rfl) (by decide : 1 < 4))
                · first
                  | exfalso; omega
                  | skip
                    refine kw_ald_n x_M_plays_129 rfl ?_
                    refine kw_ild_n x_M_plays_130 rfl ?_
                    refine c_M_plays_131 (by exact isM_k hM) (Nat.le_of_ble_eq_true rfl) ?_
                    have hsp := g5 h126
                    have hle := xoks_le h126
                    refine s_M_calls hM (by rw [g1 _ (by omega) (by omega), kt_u1_ne _ _ _ (by omega)]; exact hE) hW (hpa.same (by rw [g2 4 (by decide)]; exact kt_u1_nj (by decide) rfl) (by rw [g1 _ (by omega) (by omega), kt_u1_ne _ _ _ (by omega)])) (by rw [g2 5 (by decide)]; exact kt_u1_nj (by decide) h5) (a := xnm tx ty s) (fun j hj => xvq_lt (xsg_126 hx) _ (xdg_2 tx ty _)) hle.2 (g6 h126) (fun I4 hl4 hE4 hpa4 => ?_)
                    have h416 : I4 m 16 = nI c := (by rw [hl4.2 16 (by decide) (by decide)]; exact h316)
                    have h415 : I4 m 5 = kt_bo true := (by rw [hl4.2 5 (by decide) (by decide), g2 5 (by decide)]; exact kt_u1_nj (by decide) h5)
                    have hlf4 : kt_lf m I I4 := hlf3.tr hl4.lf
                    refine kw_goto x_M_plays_134 ?_
                    refine kw_ist x_M_plays_138 (by decide) ?_
                    refine kw_ald_n x_M_plays_140 rfl ?_
                    refine kw_ild x_M_plays_141 rfl ?_
                    first | refine kw_if_ne_b x_M_plays_143 (fun h143 => ?_) (fun h143 => ?_) | refine kw_if_ne_s x_M_plays_143 ⟨by omega, by omega⟩ (fun h143 => ?_) (fun h143 => ?_) | refine kw_if_ne_n x_M_plays_143 (by omega) (fun h143 => ?_) (fun h143 => ?_) | refine kw_if_ne x_M_plays_143 (fun h143 => ?_) (fun h143 => ?_)
                    · first
                      | exfalso; omega
                      | skip
                        refine kw_ild x_M_plays_150 rfl ?_
                        first | refine kw_if_lt_s x_M_plays_152 ⟨by omega, by omega⟩ (fun h152 => ?_) (fun h152 => ?_) | refine kw_if_lt_n x_M_plays_152 (by omega) (fun h152 => ?_) (fun h152 => ?_) | refine kw_if_lt x_M_plays_152 (fun h152 => ?_) (fun h152 => ?_)
                        · first
                          | exfalso; omega
                          | skip
                            refine kw_ild x_M_plays_159 rfl ?_
                            refine kw_icon x_M_plays_161 ?_
                            first | refine kw_ic_ne_n x_M_plays_162 ⟨by omega, by omega⟩ (fun h162 => ?_) (fun h162 => ?_) | refine kw_ic_ne x_M_plays_162 (fun h162 => ?_) (fun h162 => ?_)
                            · first
                              | exfalso; omega
                              | skip
                                refine kw_icon x_M_plays_169 ?_
                                refine kw_pi x_M_plays_170 (by exact isM_k hM) ?_
                                refine kw_ald_n x_M_plays_173 rfl ?_
                                refine kw_dup x_M_plays_174 rfl ?_
                                refine kw_gi_e x_M_plays_175 (by exact isM_k hM) (by first | exact h14 | exact h15 | exact hx1.1 | exact h16 | exact (hx1.2.2 _ (by omega)).1 | exact (kt_u1_nj (by decide) h316) | exact (kt_u1_nj (by decide) h416) | exact rfl) ?_
                                refine kw_icon x_M_plays_178 ?_
                                first | refine kw_iadd_n x_M_plays_179 ?_ | refine kw_iadd x_M_plays_179 ?_
                                refine kw_pi x_M_plays_180 (by exact isM_k hM) ?_
                                refine kw_goto x_M_plays_183 ?_
                                first
                                  | exact absurd (h126.symm.trans h143) (by decide)
                                  | (rw [if_pos (by omega), if_pos h126, if_pos h152, if_neg h162] at k
                                     refine s_M_pl_ex hM rfl (kt_u1_nj (by decide) (kt_u1_nj (by decide) ((hl4.2 14 (by decide) (by decide)).trans g3))) (kt_u1_nj (by decide) kt_u1_eq) (kt_u1_nj (by decide) (kt_u1_nj (by decide) (hlf4.tx hx).1)) (by omega) hty (c := 3) ⟨by decide, by decide⟩ ?_
                                     exact k _ _ _ _ _ _ ⟨hlf4.tr ((kt_lf.um (by decide)).tr (kt_lf.um (by decide))), by rw [kt_u1_ne _ _ _ (by omega), kt_u1_ne _ _ _ (by omega)]; exact hE4, hpa4.same (kt_u1_nj (by decide) (kt_u1_nj (by decide) rfl)) (by rw [kt_u1_ne _ _ _ (by omega), kt_u1_ne _ _ _ (by omega)]), kt_u1_nj (by decide) (kt_u1_nj (by decide) h415), kt_u1_nj (by decide) kt_u1_eq, kt_u1_eq⟩ (xdo_wf hW _ _) (fun _ => rfl) (by decide : 3 < 4))
                            · first
                              | exfalso; omega
                              | skip
                                refine kw_icon x_M_plays_165 ?_
                                refine kw_goto x_M_plays_166 ?_
                                refine kw_pi x_M_plays_170 (by exact isM_k hM) ?_
                                refine kw_ald_n x_M_plays_173 rfl ?_
                                refine kw_dup x_M_plays_174 rfl ?_
                                refine kw_gi_e x_M_plays_175 (by exact isM_k hM) (by first | exact h14 | exact h15 | exact hx1.1 | exact h16 | exact (hx1.2.2 _ (by omega)).1 | exact (kt_u1_nj (by decide) h316) | exact (kt_u1_nj (by decide) h416) | exact rfl) ?_
                                refine kw_icon x_M_plays_178 ?_
                                first | refine kw_iadd_n x_M_plays_179 ?_ | refine kw_iadd x_M_plays_179 ?_
                                refine kw_pi x_M_plays_180 (by exact isM_k hM) ?_
                                refine kw_goto x_M_plays_183 ?_
                                first
                                  | exact absurd (h126.symm.trans h143) (by decide)
                                  | (rw [if_pos (by omega), if_pos h126, if_pos h152, if_pos h162] at k
                                     refine s_M_pl_ex hM rfl (kt_u1_nj (by decide) (kt_u1_nj (by decide) ((hl4.2 14 (by decide) (by decide)).trans g3))) (kt_u1_nj (by decide) kt_u1_eq) (kt_u1_nj (by decide) (kt_u1_nj (by decide) (hlf4.tx hx).1)) (by omega) hty (c := 2) ⟨by decide, by decide⟩ ?_
                                     exact k _ _ _ _ _ _ ⟨hlf4.tr ((kt_lf.um (by decide)).tr (kt_lf.um (by decide))), by rw [kt_u1_ne _ _ _ (by omega), kt_u1_ne _ _ _ (by omega)]; exact hE4, hpa4.same (kt_u1_nj (by decide) (kt_u1_nj (by decide) rfl)) (by rw [kt_u1_ne _ _ _ (by omega), kt_u1_ne _ _ _ (by omega)]), kt_u1_nj (by decide) (kt_u1_nj (by decide) h415), kt_u1_nj (by decide) kt_u1_eq, kt_u1_eq⟩ (xdo_wf hW _ _) (fun _ => rfl) (by decide : 2 < 4))
                        · first
                          | exfalso; omega
                          | skip
                            refine kw_icon x_M_plays_155 ?_
                            refine kw_goto x_M_plays_156 ?_
                            refine kw_pi x_M_plays_170 (by exact isM_k hM) ?_
                            refine kw_ald_n x_M_plays_173 rfl ?_
                            refine kw_dup x_M_plays_174 rfl ?_
                            refine kw_gi_e x_M_plays_175 (by exact isM_k hM) (by first | exact h14 | exact h15 | exact hx1.1 | exact h16 | exact (hx1.2.2 _ (by omega)).1 | exact (kt_u1_nj (by decide) h316) | exact (kt_u1_nj (by decide) h416) | exact rfl) ?_
                            refine kw_icon x_M_plays_178 ?_
                            first | refine kw_iadd_n x_M_plays_179 ?_ | refine kw_iadd x_M_plays_179 ?_
                            refine kw_pi x_M_plays_180 (by exact isM_k hM) ?_
                            refine kw_goto x_M_plays_183 ?_
                            first
                              | exact absurd (h126.symm.trans h143) (by decide)
                              | (rw [if_pos (by omega), if_pos h126, if_neg h152] at k
                                 refine ih (xps tx ty s (xnb (tx s))) (c + 1) (xdo X (tx s) (xnm tx ty s)).2 _ _ _ _ _ _ (xdo_wf hW _ _) ⟨hlf4.tr ((kt_lf.um (by decide)).tr (kt_lf.um (by decide))), by rw [kt_u1_ne _ _ _ (by omega), kt_u1_ne _ _ _ (by omega)]; exact hE4, hpa4.same (kt_u1_nj (by decide) (kt_u1_nj (by decide) rfl)) (by rw [kt_u1_ne _ _ _ (by omega), kt_u1_ne _ _ _ (by omega)]), kt_u1_nj (by decide) (kt_u1_nj (by decide) h415), kt_u1_nj (by decide) kt_u1_eq, kt_u1_eq⟩ (kt_u1_nj (by decide) (kt_u1_nj (by decide) (by rw [hl4.2 14 (by decide) (by decide), g3, hsp]))) (by omega) (by omega) k)
                    · first
                      | exfalso; omega
                      | skip
                        refine kw_icon x_M_plays_146 ?_
                        refine kw_goto x_M_plays_147 ?_
                        refine kw_pi x_M_plays_170 (by exact isM_k hM) ?_
                        refine kw_ald_n x_M_plays_173 rfl ?_
                        refine kw_dup x_M_plays_174 rfl ?_
                        refine kw_gi_e x_M_plays_175 (by exact isM_k hM) (by first | exact h14 | exact h15 | exact hx1.1 | exact h16 | exact (hx1.2.2 _ (by omega)).1 | exact (kt_u1_nj (by decide) h316) | exact (kt_u1_nj (by decide) h416) | exact rfl) ?_
                        refine kw_icon x_M_plays_178 ?_
                        first | refine kw_iadd_n x_M_plays_179 ?_ | refine kw_iadd x_M_plays_179 ?_
                        refine kw_pi x_M_plays_180 (by exact isM_k hM) ?_
                        refine kw_goto x_M_plays_183 ?_
                        first
                          | exact absurd (h126.symm.trans h143) (by decide)
                          | (rw [if_pos (by omega), if_neg (by rw [h126]; decide)] at k
                             refine s_M_pl_ex hM rfl (kt_u1_nj (by decide) (kt_u1_nj (by decide) g3)) (kt_u1_nj (by decide) kt_u1_eq) (kt_u1_nj (by decide) (kt_u1_nj (by decide) (hlf3.tx hx).1)) (by omega) hty (c := 1) ⟨by decide, by decide⟩ ?_
                             exact k _ _ _ _ _ _ ⟨hlf3.tr ((kt_lf.um (by decide)).tr (kt_lf.um (by decide))), by rw [kt_u1_ne _ _ _ (by omega), kt_u1_ne _ _ _ (by omega), g1 _ (by omega) (by omega), kt_u1_ne _ _ _ (by omega)]; exact hE, hpa.same (by rw [kt_u1_nj (by decide) (kt_u1_nj (by decide) rfl), g2 4 (by decide)]; exact kt_u1_nj (by decide) rfl) (by rw [kt_u1_ne _ _ _ (by omega), kt_u1_ne _ _ _ (by omega), g1 _ (by omega) (by omega), kt_u1_ne _ _ _ (by omega)]), kt_u1_nj (by decide) (kt_u1_nj (by decide) (by rw [g2 5 (by decide)]; exact kt_u1_nj (by decide) h5)), kt_u1_nj (by decide) kt_u1_eq, kt_u1_eq⟩ hW (fun _ => rfl) (by decide : 1 < 4))
theorem s_M_plays (hM : kt_isM P N R m) (hE : kt_enc (I (m + 1)) X) (hW : kt_wf X) {ty : Nat} {tx : Nat → Nat} (hx : kt_tx m ty tx I) {np : Nat} {PX : Nat → kt_X} (hpa : kt_pa m np PX I)
    (k : ∀ I', kt_lf m I I' → kt_enc (I' (m + 1)) (xrun tx ty 80 0 0 X).2.2.1 → kt_pa m np PX I' → I' m 5 = kt_bo false → I' m 15 = nI (xrun tx ty 80 0 0 X).2.1 → I' m 16 = nI (xrun tx ty 80 0 0 X).2.2.2 → kt_wf (xrun tx ty 80 0 0 X).2.2.1 → Q (some (.int (if (xrun tx ty 80 0 0 X).2.1 = 0 then -4 else nI (xrun tx ty 80 0 0 X).1))) I' J R) :
    KW P i_M_plays N 0 [some (.ref m), none, none, none, none, none] [] N I J R Q := by
  have hty := hx.2.1
  refine kw_ald_n x_M_plays_0 rfl ?_
  refine kw_icon x_M_plays_1 ?_
  refine kw_pz x_M_plays_2 (by exact isM_k hM) (by first | exact Or.inl rfl | exact Or.inr rfl | exact kt_bo01 _) ?_
  refine kw_ald_n x_M_plays_5 rfl ?_
  refine kw_icon x_M_plays_6 ?_
  refine kw_pi x_M_plays_7 (by exact isM_k hM) ?_
  refine kw_ald_n x_M_plays_10 rfl ?_
  refine kw_icon x_M_plays_11 ?_
  refine kw_pi x_M_plays_12 (by exact isM_k hM) ?_
  refine kw_ald_n x_M_plays_15 rfl ?_
  refine kw_icon x_M_plays_16 ?_
  refine kw_pi x_M_plays_17 (by exact isM_k hM) ?_
  refine kw_icon x_M_plays_20 ?_
  refine kw_ist_n x_M_plays_21 (by decide) ?_
  refine s_M_pl_lp hM hx (np := np) (PX := PX) 80 0 0 X _ _ _ _ _ _ hW ⟨((kt_lf.um (by decide)).tr (kt_lf.um (by decide))).tr ((kt_lf.um (by decide)).tr (kt_lf.um (by decide))), by rw [kt_u1_ne _ _ _ (by omega), kt_u1_ne _ _ _ (by omega), kt_u1_ne _ _ _ (by omega), kt_u1_ne _ _ _ (by omega)]; exact hE, hpa.same (by rw [kt_u1_nj (by decide) (kt_u1_nj (by decide) (kt_u1_nj (by decide) (kt_u1_nj (by decide) rfl)))]) (by rw [kt_u1_ne _ _ _ (by omega), kt_u1_ne _ _ _ (by omega), kt_u1_ne _ _ _ (by omega), kt_u1_ne _ _ _ (by omega)]), kt_u1_nj (by decide) (kt_u1_nj (by decide) (kt_u1_nj (by decide) kt_u1_eq)), kt_u1_eq, kt_u1_nj (by decide) kt_u1_eq⟩ (kt_u1_nj (by decide) (kt_u1_nj (by decide) kt_u1_eq)) (by decide) (by omega) (fun I' v1 v2 v3 v4 v5 q hWr hv1 hlt => ?_)
  obtain ⟨q1, q2, q3, q4, q5, q6⟩ := q
  refine kw_ald_n x_M_plays_186 rfl ?_
  refine kw_icon x_M_plays_187 ?_
  refine kw_pz x_M_plays_188 (by exact isM_k hM) (by first | exact Or.inl rfl | exact Or.inr rfl | exact kt_bo01 _) ?_
  refine kw_ald_n x_M_plays_191 rfl ?_
  refine kw_gi_e x_M_plays_192 (by exact isM_k hM) (by first | exact (kt_u1_nj (by decide) q5) | exact rfl) ?_
  first | refine kw_if_ne_b x_M_plays_195 (fun h195 => ?_) (fun h195 => ?_) | refine kw_if_ne_s x_M_plays_195 ⟨by omega, by omega⟩ (fun h195 => ?_) (fun h195 => ?_) | refine kw_if_ne_n x_M_plays_195 (by omega) (fun h195 => ?_) (fun h195 => ?_) | refine kw_if_ne x_M_plays_195 (fun h195 => ?_) (fun h195 => ?_)
  · first
    | exfalso; omega
    | skip
      refine kw_ild_n x_M_plays_203 rfl ?_
      refine kw_iret x_M_plays_204 ?_
      have hk := k (kt_u1 I' m 5 (kt_bo false)) (q1.tr (kt_lf.um (by decide))) (by rw [kt_u1_ne _ _ _ (by omega)]; exact q2) (q3.same (kt_u1_nj (by decide) rfl) (by rw [kt_u1_ne _ _ _ (by omega)])) kt_u1_eq (kt_u1_nj (by decide) q5) (kt_u1_nj (by decide) q6) hWr
      first
        | (rw [if_pos (by omega)] at hk; exact hk)
        | (rw [if_neg (by omega)] at hk
           have hv := hv1 (by omega)
           subst hv
           exact hk)
  · first
    | exfalso; omega
    | skip
      refine kw_bip x_M_plays_198 ?_
      refine kw_goto x_M_plays_200 ?_
      refine kw_iret x_M_plays_204 ?_
      have hk := k (kt_u1 I' m 5 (kt_bo false)) (q1.tr (kt_lf.um (by decide))) (by rw [kt_u1_ne _ _ _ (by omega)]; exact q2) (q3.same (kt_u1_nj (by decide) rfl) (by rw [kt_u1_ne _ _ _ (by omega)])) kt_u1_eq (kt_u1_nj (by decide) q5) (kt_u1_nj (by decide) q6) hWr
      first
        | (rw [if_pos (by omega)] at hk; exact hk)
        | (rw [if_neg (by omega)] at hk
           have hv := hv1 (by omega)
           subst hv
           exact hk)
end MO
