/-! the reference: a command's call -/
def xdo (X : kt_X) (l : Nat) (a : Nat → Nat) : Int32 × kt_X :=
  if l = 100 then (if a 0 < xT X ∧ a 1 ≤ 5 ∧ (1 ≤ a 2 ∧ a 2 ≤ 99) then (if xn X = 60 then (-3, X) else (nI (xn X), xapo X (xnew X (a 0) 0 (a 1) (a 2) 0 0))) else (-1, X))
  else if l = 111 then (if a 0 < xT X ∧ a 1 ≤ 9 ∧ a 2 ≤ 5 ∧ (1 ≤ a 3 ∧ a 3 ≤ 99) then (if xn X = 60 then (-3, X) else (nI (xn X), xapo X (xnew X (a 0) 1 (a 2) (a 3) (a 1 + 1) 0))) else (-1, X))
  else if l = 99 then (if a 0 < xT X ∧ a 1 < xn X then (if xe X (a 1) 0 = 1 ∧ xk X (a 0) (a 1) = true ∧ xcn X (a 0) (a 1) (xn X) = false then (if xn X = 60 then (-3, X) else (nI (xn X), xapo X (xnew X (a 0) 2 (xe X (a 1) 3) (xe X (a 1) 4) (xe X (a 1) 5) (a 1 + 1)))) else (-2, X)) else (-1, X))
  else if l = 109 then (if a 0 < xT X ∧ a 1 < xT X ∧ a 0 ≠ a 1 then (nI (xhn true (a 0) (a 1) X), xapo X (xhear true (a 0) (a 1) X)) else (-1, X))
  else if l = 104 then (if a 0 < xT X ∧ a 1 < xT X ∧ a 0 ≠ a 1 then (nI (xhn false (a 0) (a 1) X), xapo X (xhear false (a 0) (a 1) X)) else (-1, X))
  else (if a 0 ≤ 2 then (nI (xr X), xapo X (xrul X (a 0))) else (-1, X))
theorem xdo_100 (X : kt_X) (a : Nat → Nat) : xdo X 100 a = (if a 0 < xT X ∧ a 1 ≤ 5 ∧ (1 ≤ a 2 ∧ a 2 ≤ 99) then (if xn X = 60 then (-3, X) else (nI (xn X), xapo X (xnew X (a 0) 0 (a 1) (a 2) 0 0))) else (-1, X)) := rfl
theorem xdo_111 (X : kt_X) (a : Nat → Nat) : xdo X 111 a = (if a 0 < xT X ∧ a 1 ≤ 9 ∧ a 2 ≤ 5 ∧ (1 ≤ a 3 ∧ a 3 ≤ 99) then (if xn X = 60 then (-3, X) else (nI (xn X), xapo X (xnew X (a 0) 1 (a 2) (a 3) (a 1 + 1) 0))) else (-1, X)) := rfl
theorem xdo_99 (X : kt_X) (a : Nat → Nat) : xdo X 99 a = (if a 0 < xT X ∧ a 1 < xn X then (if xe X (a 1) 0 = 1 ∧ xk X (a 0) (a 1) = true ∧ xcn X (a 0) (a 1) (xn X) = false then (if xn X = 60 then (-3, X) else (nI (xn X), xapo X (xnew X (a 0) 2 (xe X (a 1) 3) (xe X (a 1) 4) (xe X (a 1) 5) (a 1 + 1)))) else (-2, X)) else (-1, X)) := rfl
theorem xdo_109 (X : kt_X) (a : Nat → Nat) : xdo X 109 a = (if a 0 < xT X ∧ a 1 < xT X ∧ a 0 ≠ a 1 then (nI (xhn true (a 0) (a 1) X), xapo X (xhear true (a 0) (a 1) X)) else (-1, X)) := rfl
theorem xdo_104 (X : kt_X) (a : Nat → Nat) : xdo X 104 a = (if a 0 < xT X ∧ a 1 < xT X ∧ a 0 ≠ a 1 then (nI (xhn false (a 0) (a 1) X), xapo X (xhear false (a 0) (a 1) X)) else (-1, X)) := rfl
theorem xdo_114 (X : kt_X) (a : Nat → Nat) : xdo X 114 a = (if a 0 ≤ 2 then (nI (xr X), xapo X (xrul X (a 0))) else (-1, X)) := rfl
theorem kt_wf_new_d {X : kt_X} (hW : kt_wf X) {t g p : Nat} (ht : t < xT X) (hg : g ≤ 5) (hp : 1 ≤ p ∧ p ≤ 99) (h : xn X ≠ 60) : kt_wf (xnew X t 0 g p 0 0) :=
  kt_wf_new hW ht (by have := hW.2.2.1; omega) (by decide) (by omega) hp ⟨fun _ => rfl, fun q => absurd rfl q, by omega⟩ ⟨fun _ => rfl, fun q => absurd q (by decide)⟩
theorem kt_wf_new_o {X : kt_X} (hW : kt_wf X) {t g p q : Nat} (ht : t < xT X) (hg : g ≤ 5) (hp : 1 ≤ p ∧ p ≤ 99) (hq : q ≤ 9) (h : xn X ≠ 60) : kt_wf (xnew X t 1 g p (q + 1) 0) :=
  kt_wf_new hW ht (by have := hW.2.2.1; omega) (by decide) (by omega) hp ⟨fun q => absurd q (by decide), fun _ => by omega, by omega⟩ ⟨fun _ => rfl, fun q => absurd q (by decide)⟩
theorem kt_wf_new_c {X : kt_X} (hW : kt_wf X) {t e : Nat} (ht : t < xT X) (he : e < xn X) (h1 : xe X e 0 = 1) (h2 : xk X t e = true) (h : xn X ≠ 60) : kt_wf (xnew X t 2 (xe X e 3) (xe X e 4) (xe X e 5) (e + 1)) :=
  have hx := hW.2.2.2.2.2.1 e he
  kt_wf_new hW ht (by have := hW.2.2.1; omega) (by decide) hx.2.2.2.1 hx.2.2.2.2.1 ⟨fun q => absurd q (by decide), fun _ => hx.2.2.2.2.2.1.2.1 (by omega), hx.2.2.2.2.2.1.2.2⟩ ⟨fun q => absurd rfl q, fun _ => ⟨by omega, by omega, h1, by rw [← kt_xkb (by have := hW.2.1; omega)]; exact h2⟩⟩
theorem xdo_wf {X : kt_X} (hW : kt_wf X) (l : Nat) (a : Nat → Nat) : kt_wf (xdo X l a).2 := by
  unfold xdo
  split
  · split
    · rename_i h
      split
      · exact hW
      · rename_i h2
        exact kt_wf_apo (kt_wf_new_d hW h.1 h.2.1 h.2.2 h2)
    · exact hW
  split
  · split
    · rename_i h
      split
      · exact hW
      · rename_i h2
        exact kt_wf_apo (kt_wf_new_o hW h.1 h.2.2.1 h.2.2.2 h.2.1 h2)
    · exact hW
  split
  · split
    · rename_i h
      split
      · rename_i h3
        split
        · exact hW
        · rename_i h2
          exact kt_wf_apo (kt_wf_new_c hW h.1 h.2 h3.1 h3.2.1 h2)
      · exact hW
    · exact hW
  split
  · split
    · rename_i h
      exact kt_wf_apo (kt_wf_hear hW true h.1 h.2.1)
    · exact hW
  split
  · split
    · rename_i h
      exact kt_wf_apo (kt_wf_hear hW false h.1 h.2.1)
    · exact hW
  · split
    · rename_i h
      exact kt_wf_apo (kt_wf_rule hW (by omega))
    · exact hW
theorem kt_inj {a t : Nat} (h : nI a = nI t) (ha : a < 2147483648) (ht : t < 2147483648) : t = a := ((nI_eq (kt_p31 ha) (kt_p31 ht)).mp h).symm
section MO
variable {P : kt_P} {N : Nat} {I : kt_I} {J : kt_J} {R : kt_R} {Q : Option Value → kt_I → kt_J → kt_R → Prop} {m : Nat} {X : kt_X}
theorem s_M_calls_100_ (hM : kt_isM P N R m) (hE : kt_enc (I (m + 1)) X) (hW : kt_wf X) {np : Nat} {PX : Nat → kt_X} (hpa : kt_pa m np PX I) (hbo : I m 5 = kt_bo true) {a : Nat → Nat} (hb : ∀ j, j < 4 → a j < 1000) (ha : ∀ j, j < 3 → I (m + 11) j = nI (a j)) (k : ∀ I', kt_lc m I I' → kt_enc (I' (m + 1)) (xdo X 100 a).2 → kt_pa m np PX I' → Q (some (.int (xdo X 100 a).1)) I' J R) : KW P i_M_calls N 0 [some (.ref m), some (.int (nI 100))] [] N I J R Q := by
  have hn := hW.2.2.1
  have hT := hW.2.1
  have hb0 := hb 0 (by omega)
  have hb1 := hb 1 (by omega)
  have hb2 := hb 2 (by omega)
  have hb3 := hb 3 (by omega)
  rw [xdo_100] at k
  refine kw_ild_n x_M_calls_0 rfl ?_
  refine s_M_calls_1 (fun h => absurd h (by decide)) (fun _ => ?_) (fun h => absurd h (by decide)) (fun h => absurd h (by decide)) (fun h => absurd h (by decide)) (fun h => absurd h (by decide)) (fun h => absurd h (by decide)) (fun h => absurd h (by decide)) (fun h => absurd h (by decide)) (fun h => absurd h (by decide)) (fun h => absurd h (by decide)) (fun h => absurd h (by decide)) (fun h => absurd h (by decide)) (fun h0 h1 h2 h3 h4 h5 h6 h7 h8 h9 h10 h11 h12 => absurd rfl h1)
  refine kw_ald_n x_M_calls_68 rfl ?_
  refine kw_ald_n x_M_calls_69 rfl ?_
  refine kw_gr x_M_calls_70 (by exact isM_k hM) (by exact isM_r17 hM) ?_
  refine kw_icon x_M_calls_73 ?_
  refine kw_iald_n x_M_calls_74 (by first | exact isM_a1 hM | exact isM_a2 hM | exact isM_a3 hM | exact isM_a4 hM | exact isM_a5 hM | exact isM_a6 hM | exact isM_a7 hM | exact isM_a8 hM | exact isM_a10 hM | exact isM_a11 hM) (by omega) (by omega) (by first | exact ha _ (by decide) | exact rfl) ?_
  refine kw_ald_n x_M_calls_75 rfl ?_
  refine kw_gr x_M_calls_76 (by exact isM_k hM) (by exact isM_r17 hM) ?_
  refine kw_icon x_M_calls_79 ?_
  refine kw_iald_n x_M_calls_80 (by first | exact isM_a1 hM | exact isM_a2 hM | exact isM_a3 hM | exact isM_a4 hM | exact isM_a5 hM | exact isM_a6 hM | exact isM_a7 hM | exact isM_a8 hM | exact isM_a10 hM | exact isM_a11 hM) (by omega) (by omega) (by first | exact ha _ (by decide) | exact rfl) ?_
  refine kw_ald_n x_M_calls_81 rfl ?_
  refine kw_gr x_M_calls_82 (by exact isM_k hM) (by exact isM_r17 hM) ?_
  refine kw_icon x_M_calls_85 ?_
  refine kw_iald_n x_M_calls_86 (by first | exact isM_a1 hM | exact isM_a2 hM | exact isM_a3 hM | exact isM_a4 hM | exact isM_a5 hM | exact isM_a6 hM | exact isM_a7 hM | exact isM_a8 hM | exact isM_a10 hM | exact isM_a11 hM) (by omega) (by omega) (by first | exact ha _ (by decide) | exact rfl) ?_
  refine c_M_calls_87 (by exact isM_k hM) (Nat.le_of_ble_eq_true rfl) ?_
  refine s_M_deliver hM hE hW hpa hbo (fun hf => ?_) (fun hf h60 => ?_) (fun t g p e1 e2 e3 h1 h2 h3 h4 h5 I' hc => ?_)
  · refine kw_iret x_M_calls_90 ?_
    rw [if_neg (fun q => hf ⟨⟨_, q.1, rfl⟩, ⟨_, Nat.zero_le _, q.2.1, rfl⟩, ⟨_, q.2.2.1, q.2.2.2, rfl⟩⟩)] at k
    exact k I kt_lc.rf hE hpa
  · obtain ⟨⟨t, ht, e1⟩, ⟨g, _, hg, e2⟩, ⟨p, hp1, hp2, e3⟩⟩ := hf
    have e1 := kt_inj e1 (by omega) (by omega)
    have e2 := kt_inj e2 (by omega) (by omega)
    have e3 := kt_inj e3 (by omega) (by omega)
    refine kw_iret x_M_calls_90 ?_
    rw [if_pos ⟨by omega, by omega, by omega, by omega⟩, if_pos h60] at k
    exact k I kt_lc.rf hE hpa
  · have e1 := kt_inj e1 (by omega) (by omega)
    have e2 := kt_inj e2 (by omega) (by omega)
    have e3 := kt_inj e3 (by omega) (by omega)
    subst e1; subst e2; subst e3
    refine kw_iret x_M_calls_90 ?_
    rw [if_pos ⟨h1, h2, h3, h4⟩, if_neg (by omega)] at k
    exact k I' hc.1 hc.2.1 hc.2.2
  
theorem s_M_calls_111_ (hM : kt_isM P N R m) (hE : kt_enc (I (m + 1)) X) (hW : kt_wf X) {np : Nat} {PX : Nat → kt_X} (hpa : kt_pa m np PX I) (hbo : I m 5 = kt_bo true) {a : Nat → Nat} (hb : ∀ j, j < 4 → a j < 1000) (ha : ∀ j, j < 4 → I (m + 11) j = nI (a j)) (k : ∀ I', kt_lc m I I' → kt_enc (I' (m + 1)) (xdo X 111 a).2 → kt_pa m np PX I' → Q (some (.int (xdo X 111 a).1)) I' J R) : KW P i_M_calls N 0 [some (.ref m), some (.int (nI 111))] [] N I J R Q := by
  have hn := hW.2.2.1
  have hT := hW.2.1
  have hb0 := hb 0 (by omega)
  have hb1 := hb 1 (by omega)
  have hb2 := hb 2 (by omega)
  have hb3 := hb 3 (by omega)
  rw [xdo_111] at k
  refine kw_ild_n x_M_calls_0 rfl ?_
  refine s_M_calls_1 (fun h => absurd h (by decide)) (fun h => absurd h (by decide)) (fun h => absurd h (by decide)) (fun h => absurd h (by decide)) (fun h => absurd h (by decide)) (fun h => absurd h (by decide)) (fun h => absurd h (by decide)) (fun h => absurd h (by decide)) (fun h => absurd h (by decide)) (fun h => absurd h (by decide)) (fun h => absurd h (by decide)) (fun h => absurd h (by decide)) (fun _ => ?_) (fun h0 h1 h2 h3 h4 h5 h6 h7 h8 h9 h10 h11 h12 => absurd rfl h12)
  refine kw_ald_n x_M_calls_91 rfl ?_
  refine kw_ald_n x_M_calls_92 rfl ?_
  refine kw_gr x_M_calls_93 (by exact isM_k hM) (by exact isM_r17 hM) ?_
  refine kw_icon x_M_calls_96 ?_
  refine kw_iald_n x_M_calls_97 (by first | exact isM_a1 hM | exact isM_a2 hM | exact isM_a3 hM | exact isM_a4 hM | exact isM_a5 hM | exact isM_a6 hM | exact isM_a7 hM | exact isM_a8 hM | exact isM_a10 hM | exact isM_a11 hM) (by omega) (by omega) (by first | exact ha _ (by decide) | exact rfl) ?_
  refine kw_ald_n x_M_calls_98 rfl ?_
  refine kw_gr x_M_calls_99 (by exact isM_k hM) (by exact isM_r17 hM) ?_
  refine kw_icon x_M_calls_102 ?_
  refine kw_iald_n x_M_calls_103 (by first | exact isM_a1 hM | exact isM_a2 hM | exact isM_a3 hM | exact isM_a4 hM | exact isM_a5 hM | exact isM_a6 hM | exact isM_a7 hM | exact isM_a8 hM | exact isM_a10 hM | exact isM_a11 hM) (by omega) (by omega) (by first | exact ha _ (by decide) | exact rfl) ?_
  refine kw_ald_n x_M_calls_104 rfl ?_
  refine kw_gr x_M_calls_105 (by exact isM_k hM) (by exact isM_r17 hM) ?_
  refine kw_icon x_M_calls_108 ?_
  refine kw_iald_n x_M_calls_109 (by first | exact isM_a1 hM | exact isM_a2 hM | exact isM_a3 hM | exact isM_a4 hM | exact isM_a5 hM | exact isM_a6 hM | exact isM_a7 hM | exact isM_a8 hM | exact isM_a10 hM | exact isM_a11 hM) (by omega) (by omega) (by first | exact ha _ (by decide) | exact rfl) ?_
  refine kw_ald_n x_M_calls_110 rfl ?_
  refine kw_gr x_M_calls_111 (by exact isM_k hM) (by exact isM_r17 hM) ?_
  refine kw_icon x_M_calls_114 ?_
  refine kw_iald_n x_M_calls_115 (by first | exact isM_a1 hM | exact isM_a2 hM | exact isM_a3 hM | exact isM_a4 hM | exact isM_a5 hM | exact isM_a6 hM | exact isM_a7 hM | exact isM_a8 hM | exact isM_a10 hM | exact isM_a11 hM) (by omega) (by omega) (by first | exact ha _ (by decide) | exact rfl) ?_
  refine c_M_calls_116 (by exact isM_k hM) (Nat.le_of_ble_eq_true rfl) ?_
  refine s_M_order hM hE hW hpa hbo (fun hf => ?_) (fun hf h60 => ?_) (fun t q g p e1 e0 e2 e3 h1 h0 h2 h3 h4 h5 I' hc => ?_)
  · refine kw_iret x_M_calls_119 ?_
    rw [if_neg (fun q => hf ⟨⟨_, q.1, rfl⟩, ⟨_, Nat.zero_le _, q.2.1, rfl⟩, ⟨_, Nat.zero_le _, q.2.2.1, rfl⟩, ⟨_, q.2.2.2.1, q.2.2.2.2, rfl⟩⟩)] at k
    exact k I kt_lc.rf hE hpa
  · obtain ⟨⟨t, ht, e1⟩, ⟨q, _, hq, e0⟩, ⟨g, _, hg, e2⟩, ⟨p, hp1, hp2, e3⟩⟩ := hf
    have e1 := kt_inj e1 (by omega) (by omega)
    have e0 := kt_inj e0 (by omega) (by omega)
    have e2 := kt_inj e2 (by omega) (by omega)
    have e3 := kt_inj e3 (by omega) (by omega)
    refine kw_iret x_M_calls_119 ?_
    rw [if_pos ⟨by omega, by omega, by omega, by omega, by omega⟩, if_pos h60] at k
    exact k I kt_lc.rf hE hpa
  · have e1 := kt_inj e1 (by omega) (by omega)
    have e0 := kt_inj e0 (by omega) (by omega)
    have e2 := kt_inj e2 (by omega) (by omega)
    have e3 := kt_inj e3 (by omega) (by omega)
    subst e1; subst e0; subst e2; subst e3
    refine kw_iret x_M_calls_119 ?_
    rw [if_pos ⟨h1, h0, h2, h3, h4⟩, if_neg (by omega)] at k
    exact k I' hc.1 hc.2.1 hc.2.2
  
theorem s_M_calls_99_ (hM : kt_isM P N R m) (hE : kt_enc (I (m + 1)) X) (hW : kt_wf X) {np : Nat} {PX : Nat → kt_X} (hpa : kt_pa m np PX I) (hbo : I m 5 = kt_bo true) {a : Nat → Nat} (hb : ∀ j, j < 4 → a j < 1000) (ha : ∀ j, j < 2 → I (m + 11) j = nI (a j)) (k : ∀ I', kt_lc m I I' → kt_enc (I' (m + 1)) (xdo X 99 a).2 → kt_pa m np PX I' → Q (some (.int (xdo X 99 a).1)) I' J R) : KW P i_M_calls N 0 [some (.ref m), some (.int (nI 99))] [] N I J R Q := by
  have hn := hW.2.2.1
  have hT := hW.2.1
  have hb0 := hb 0 (by omega)
  have hb1 := hb 1 (by omega)
  have hb2 := hb 2 (by omega)
  have hb3 := hb 3 (by omega)
  rw [xdo_99] at k
  refine kw_ild_n x_M_calls_0 rfl ?_
  refine s_M_calls_1 (fun _ => ?_) (fun h => absurd h (by decide)) (fun h => absurd h (by decide)) (fun h => absurd h (by decide)) (fun h => absurd h (by decide)) (fun h => absurd h (by decide)) (fun h => absurd h (by decide)) (fun h => absurd h (by decide)) (fun h => absurd h (by decide)) (fun h => absurd h (by decide)) (fun h => absurd h (by decide)) (fun h => absurd h (by decide)) (fun h => absurd h (by decide)) (fun h0 h1 h2 h3 h4 h5 h6 h7 h8 h9 h10 h11 h12 => absurd rfl h0)
  refine kw_ald_n x_M_calls_120 rfl ?_
  refine kw_ald_n x_M_calls_121 rfl ?_
  refine kw_gr x_M_calls_122 (by exact isM_k hM) (by exact isM_r17 hM) ?_
  refine kw_icon x_M_calls_125 ?_
  refine kw_iald_n x_M_calls_126 (by first | exact isM_a1 hM | exact isM_a2 hM | exact isM_a3 hM | exact isM_a4 hM | exact isM_a5 hM | exact isM_a6 hM | exact isM_a7 hM | exact isM_a8 hM | exact isM_a10 hM | exact isM_a11 hM) (by omega) (by omega) (by first | exact ha _ (by decide) | exact rfl) ?_
  refine kw_ald_n x_M_calls_127 rfl ?_
  refine kw_gr x_M_calls_128 (by exact isM_k hM) (by exact isM_r17 hM) ?_
  refine kw_icon x_M_calls_131 ?_
  refine kw_iald_n x_M_calls_132 (by first | exact isM_a1 hM | exact isM_a2 hM | exact isM_a3 hM | exact isM_a4 hM | exact isM_a5 hM | exact isM_a6 hM | exact isM_a7 hM | exact isM_a8 hM | exact isM_a10 hM | exact isM_a11 hM) (by omega) (by omega) (by first | exact ha _ (by decide) | exact rfl) ?_
  refine c_M_calls_133 (by exact isM_k hM) (Nat.le_of_ble_eq_true rfl) ?_
  refine s_M_cancel hM hE hW hpa hbo (fun hf => ?_) (fun t e e1 e2 h1 h2 hx => ?_) (fun t e e1 e2 h1 h2 hx h60 => ?_) (fun t e e1 e2 h1 h2 hx h60 I' hc => ?_)
  · refine kw_iret x_M_calls_136 ?_
    rw [if_neg (fun q => hf ⟨⟨_, q.1, rfl⟩, ⟨_, q.2, rfl⟩⟩)] at k
    exact k I kt_lc.rf hE hpa
  · have e1 := kt_inj e1 (by omega) (by omega)
    have e2 := kt_inj e2 (by omega) (by omega)
    subst e1; subst e2
    refine kw_iret x_M_calls_136 ?_
    rw [if_pos ⟨h1, h2⟩, if_neg hx] at k
    exact k I kt_lc.rf hE hpa
  · have e1 := kt_inj e1 (by omega) (by omega)
    have e2 := kt_inj e2 (by omega) (by omega)
    subst e1; subst e2
    refine kw_iret x_M_calls_136 ?_
    rw [if_pos ⟨h1, h2⟩, if_pos hx, if_pos h60] at k
    exact k I kt_lc.rf hE hpa
  · have e1 := kt_inj e1 (by omega) (by omega)
    have e2 := kt_inj e2 (by omega) (by omega)
    subst e1; subst e2
    refine kw_iret x_M_calls_136 ?_
    rw [if_pos ⟨h1, h2⟩, if_pos hx, if_neg (by omega)] at k
    exact k I' hc.1 hc.2.1 hc.2.2
  
theorem s_M_calls_109_ (hM : kt_isM P N R m) (hE : kt_enc (I (m + 1)) X) (hW : kt_wf X) {np : Nat} {PX : Nat → kt_X} (hpa : kt_pa m np PX I) (hbo : I m 5 = kt_bo true) {a : Nat → Nat} (hb : ∀ j, j < 4 → a j < 1000) (ha : ∀ j, j < 2 → I (m + 11) j = nI (a j)) (k : ∀ I', kt_lc m I I' → kt_enc (I' (m + 1)) (xdo X 109 a).2 → kt_pa m np PX I' → Q (some (.int (xdo X 109 a).1)) I' J R) : KW P i_M_calls N 0 [some (.ref m), some (.int (nI 109))] [] N I J R Q := by
  have hn := hW.2.2.1
  have hT := hW.2.1
  have hb0 := hb 0 (by omega)
  have hb1 := hb 1 (by omega)
  have hb2 := hb 2 (by omega)
  have hb3 := hb 3 (by omega)
  rw [xdo_109] at k
  refine kw_ild_n x_M_calls_0 rfl ?_
  refine s_M_calls_1 (fun h => absurd h (by decide)) (fun h => absurd h (by decide)) (fun h => absurd h (by decide)) (fun h => absurd h (by decide)) (fun h => absurd h (by decide)) (fun h => absurd h (by decide)) (fun h => absurd h (by decide)) (fun h => absurd h (by decide)) (fun h => absurd h (by decide)) (fun h => absurd h (by decide)) (fun _ => ?_) (fun h => absurd h (by decide)) (fun h => absurd h (by decide)) (fun h0 h1 h2 h3 h4 h5 h6 h7 h8 h9 h10 h11 h12 => absurd rfl h10)
  refine kw_ald_n x_M_calls_137 rfl ?_
  refine kw_ald_n x_M_calls_138 rfl ?_
  refine kw_gr x_M_calls_139 (by exact isM_k hM) (by exact isM_r17 hM) ?_
  refine kw_icon x_M_calls_142 ?_
  refine kw_iald_n x_M_calls_143 (by first | exact isM_a1 hM | exact isM_a2 hM | exact isM_a3 hM | exact isM_a4 hM | exact isM_a5 hM | exact isM_a6 hM | exact isM_a7 hM | exact isM_a8 hM | exact isM_a10 hM | exact isM_a11 hM) (by omega) (by omega) (by first | exact ha _ (by decide) | exact rfl) ?_
  refine kw_ald_n x_M_calls_144 rfl ?_
  refine kw_gr x_M_calls_145 (by exact isM_k hM) (by exact isM_r17 hM) ?_
  refine kw_icon x_M_calls_148 ?_
  refine kw_iald_n x_M_calls_149 (by first | exact isM_a1 hM | exact isM_a2 hM | exact isM_a3 hM | exact isM_a4 hM | exact isM_a5 hM | exact isM_a6 hM | exact isM_a7 hM | exact isM_a8 hM | exact isM_a10 hM | exact isM_a11 hM) (by omega) (by omega) (by first | exact ha _ (by decide) | exact rfl) ?_
  refine c_M_calls_150 (by exact isM_k hM) (Nat.le_of_ble_eq_true rfl) ?_
  refine s_M_meet hM hE hW hpa hbo (fun hf => ?_) (fun t u e1 e2 h1 h2 h3 I' hc => ?_)
  · refine kw_iret x_M_calls_153 ?_
    rw [if_neg (fun q => hf ⟨⟨_, q.1, rfl⟩, ⟨_, q.2.1, rfl⟩, fun w => q.2.2 ((nI_eq (kt_p31 (by omega)) (kt_p31 (by omega))).mp w)⟩)] at k
    exact k I kt_lc.rf hE hpa
  · have e1 := kt_inj e1 (by omega) (by omega)
    have e2 := kt_inj e2 (by omega) (by omega)
    subst e1; subst e2
    refine kw_iret x_M_calls_153 ?_
    rw [if_pos ⟨h1, h2, h3⟩] at k
    exact k I' hc.1 hc.2.1 hc.2.2
  
theorem s_M_calls_104_ (hM : kt_isM P N R m) (hE : kt_enc (I (m + 1)) X) (hW : kt_wf X) {np : Nat} {PX : Nat → kt_X} (hpa : kt_pa m np PX I) (hbo : I m 5 = kt_bo true) {a : Nat → Nat} (hb : ∀ j, j < 4 → a j < 1000) (ha : ∀ j, j < 2 → I (m + 11) j = nI (a j)) (k : ∀ I', kt_lc m I I' → kt_enc (I' (m + 1)) (xdo X 104 a).2 → kt_pa m np PX I' → Q (some (.int (xdo X 104 a).1)) I' J R) : KW P i_M_calls N 0 [some (.ref m), some (.int (nI 104))] [] N I J R Q := by
  have hn := hW.2.2.1
  have hT := hW.2.1
  have hb0 := hb 0 (by omega)
  have hb1 := hb 1 (by omega)
  have hb2 := hb 2 (by omega)
  have hb3 := hb 3 (by omega)
  rw [xdo_104] at k
  refine kw_ild_n x_M_calls_0 rfl ?_
  refine s_M_calls_1 (fun h => absurd h (by decide)) (fun h => absurd h (by decide)) (fun h => absurd h (by decide)) (fun h => absurd h (by decide)) (fun h => absurd h (by decide)) (fun _ => ?_) (fun h => absurd h (by decide)) (fun h => absurd h (by decide)) (fun h => absurd h (by decide)) (fun h => absurd h (by decide)) (fun h => absurd h (by decide)) (fun h => absurd h (by decide)) (fun h => absurd h (by decide)) (fun h0 h1 h2 h3 h4 h5 h6 h7 h8 h9 h10 h11 h12 => absurd rfl h5)
  refine kw_ald_n x_M_calls_154 rfl ?_
  refine kw_ald_n x_M_calls_155 rfl ?_
  refine kw_gr x_M_calls_156 (by exact isM_k hM) (by exact isM_r17 hM) ?_
  refine kw_icon x_M_calls_159 ?_
  refine kw_iald_n x_M_calls_160 (by first | exact isM_a1 hM | exact isM_a2 hM | exact isM_a3 hM | exact isM_a4 hM | exact isM_a5 hM | exact isM_a6 hM | exact isM_a7 hM | exact isM_a8 hM | exact isM_a10 hM | exact isM_a11 hM) (by omega) (by omega) (by first | exact ha _ (by decide) | exact rfl) ?_
  refine kw_ald_n x_M_calls_161 rfl ?_
  refine kw_gr x_M_calls_162 (by exact isM_k hM) (by exact isM_r17 hM) ?_
  refine kw_icon x_M_calls_165 ?_
  refine kw_iald_n x_M_calls_166 (by first | exact isM_a1 hM | exact isM_a2 hM | exact isM_a3 hM | exact isM_a4 hM | exact isM_a5 hM | exact isM_a6 hM | exact isM_a7 hM | exact isM_a8 hM | exact isM_a10 hM | exact isM_a11 hM) (by omega) (by omega) (by first | exact ha _ (by decide) | exact rfl) ?_
  refine c_M_calls_167 (by exact isM_k hM) (Nat.le_of_ble_eq_true rfl) ?_
  refine s_M_hear hM hE hW hpa hbo (fun hf => ?_) (fun t u e1 e2 h1 h2 h3 I' hc => ?_)
  · refine kw_iret x_M_calls_170 ?_
    rw [if_neg (fun q => hf ⟨⟨_, q.1, rfl⟩, ⟨_, q.2.1, rfl⟩, fun w => q.2.2 ((nI_eq (kt_p31 (by omega)) (kt_p31 (by omega))).mp w)⟩)] at k
    exact k I kt_lc.rf hE hpa
  · have e1 := kt_inj e1 (by omega) (by omega)
    have e2 := kt_inj e2 (by omega) (by omega)
    subst e1; subst e2
    refine kw_iret x_M_calls_170 ?_
    rw [if_pos ⟨h1, h2, h3⟩] at k
    exact k I' hc.1 hc.2.1 hc.2.2
  
theorem s_M_calls_114_ (hM : kt_isM P N R m) (hE : kt_enc (I (m + 1)) X) (hW : kt_wf X) {np : Nat} {PX : Nat → kt_X} (hpa : kt_pa m np PX I) (hbo : I m 5 = kt_bo true) {a : Nat → Nat} (hb : ∀ j, j < 4 → a j < 1000) (ha : ∀ j, j < 1 → I (m + 11) j = nI (a j)) (k : ∀ I', kt_lc m I I' → kt_enc (I' (m + 1)) (xdo X 114 a).2 → kt_pa m np PX I' → Q (some (.int (xdo X 114 a).1)) I' J R) : KW P i_M_calls N 0 [some (.ref m), some (.int (nI 114))] [] N I J R Q := by
  have hn := hW.2.2.1
  have hT := hW.2.1
  have hb0 := hb 0 (by omega)
  have hb1 := hb 1 (by omega)
  have hb2 := hb 2 (by omega)
  have hb3 := hb 3 (by omega)
  rw [xdo_114] at k
  refine kw_ild_n x_M_calls_0 rfl ?_
  refine s_M_calls_1 (fun h => absurd h (by decide)) (fun h => absurd h (by decide)) (fun h => absurd h (by decide)) (fun h => absurd h (by decide)) (fun h => absurd h (by decide)) (fun h => absurd h (by decide)) (fun h => absurd h (by decide)) (fun h => absurd h (by decide)) (fun h => absurd h (by decide)) (fun h => absurd h (by decide)) (fun h => absurd h (by decide)) (fun h => absurd h (by decide)) (fun h => absurd h (by decide)) (fun _ _ _ _ _ _ _ _ _ _ _ _ _ => ?_)
  refine kw_ald_n x_M_calls_171 rfl ?_
  refine kw_ald_n x_M_calls_172 rfl ?_
  refine kw_gr x_M_calls_173 (by exact isM_k hM) (by exact isM_r17 hM) ?_
  refine kw_icon x_M_calls_176 ?_
  refine kw_iald_n x_M_calls_177 (by first | exact isM_a1 hM | exact isM_a2 hM | exact isM_a3 hM | exact isM_a4 hM | exact isM_a5 hM | exact isM_a6 hM | exact isM_a7 hM | exact isM_a8 hM | exact isM_a10 hM | exact isM_a11 hM) (by omega) (by omega) (by first | exact ha _ (by decide) | exact rfl) ?_
  refine c_M_calls_178 (by exact isM_k hM) (Nat.le_of_ble_eq_true rfl) ?_
  refine s_M_rule hM hE hW hpa hbo (fun hf => ?_) (fun r e1 h1 I' hc => ?_)
  · refine kw_iret x_M_calls_181 ?_
    rw [if_neg (fun q => hf ⟨_, Nat.zero_le _, q, rfl⟩)] at k
    exact k I kt_lc.rf hE hpa
  · have e1 := kt_inj e1 (by omega) (by omega)
    subst e1
    refine kw_iret x_M_calls_181 ?_
    rw [if_pos h1] at k
    exact k I' hc.1 hc.2.1 hc.2.2
  
end MO
