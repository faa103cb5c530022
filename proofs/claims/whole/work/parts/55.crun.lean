/-! the class: a command is done; the text is run -/
theorem kt_ev_new {X : kt_X} {t kd gd pi pe wh : Nat} : kt_ev X (xnew X t kd gd pi pe wh) := ⟨Nat.le_succ _, Nat.le_refl _, fun e f he hf => by rw [xnew_e, if_neg (by omega)]⟩
theorem kt_ev_hear {X : kt_X} {bo : Bool} {a b : Nat} : kt_ev X (xhear bo a b X) := ⟨Nat.le_refl _, Nat.le_refl _, fun e f he hf => by rw [xhear_e, if_neg (by omega)]⟩
theorem kt_ev_rul {X : kt_X} {r : Nat} : kt_ev X (xrul X r) := ⟨Nat.le_refl _, Nat.le_refl _, fun _ _ _ _ => rfl⟩
theorem kt_ev_tow {X : kt_X} : kt_ev X (xtow X) := ⟨Nat.le_refl _, Nat.le_succ _, fun _ _ _ _ => rfl⟩
theorem xnb_pos {l : Nat} (h : 0 < xnb l) : l = 100 ∨ l = 111 ∨ l = 99 ∨ l = 109 ∨ l = 104 ∨ l = 114 := by
  unfold xnb at h
  split at h
  · omega
  · split at h
    · omega
    · split at h
      · omega
      · split at h <;> omega
section CD
variable {P : kt_P} {N : Nat} {I : kt_I} {J : kt_J} {R : kt_R} {Q : Option Value → kt_I → kt_J → kt_R → Prop} {sc lo c : Nat} {X : kt_X}
theorem s_S_do_100 (hS : kt_isS P N R sc) (hC : kt_isC P N R lo c) (hB : kt_B c X I J) (hW : kt_wf X) {a : Nat → Nat} (hb : ∀ j, j < 4 → a j < 1000) (ha : ∀ j, j < 3 → I (sc + 2) j = nI (a j)) (k0 : ∀ v, xdo X 100 a = (v, X) → v < 0 → Q (some (.int v)) I J R)
    (k : ∀ w Y, xdo X 100 a = (nI w, xapo X Y) → w < 1000 → kt_wf Y → kt_ev X Y → ∀ I' J', kt_cg c Y I J I' J' → Q (some (.int (nI w))) I' J' R) : KW P i_S_doCommand N 0 [some (.ref sc), some (.ref c), some (.int (nI 100))] [] N I J R Q := by
  have hn := hW.2.2.1
  have hT := hW.2.1
  have hr := hW.1
  have hb0 := hb 0 (by omega)
  have hb1 := hb 1 (by omega)
  have hb2 := hb 2 (by omega)
  have hb3 := hb 3 (by omega)
  refine kw_ild_n x_S_doCommand_0 rfl ?_
  refine s_S_doCommand_1 (fun h => absurd h (by decide)) (fun _ => ?_) (fun h => absurd h (by decide)) (fun h => absurd h (by decide)) (fun h => absurd h (by decide)) (fun h => absurd h (by decide)) (fun h => absurd h (by decide)) (fun h => absurd h (by decide)) (fun h => absurd h (by decide)) (fun h => absurd h (by decide)) (fun h => absurd h (by decide)) (fun h => absurd h (by decide)) (fun h => absurd h (by decide)) (fun h0 h1 h2 h3 h4 h5 h6 h7 h8 h9 h10 h11 h12 => absurd rfl h1)
  refine kw_ald_n x_S_doCommand_68 rfl ?_
  refine kw_ald_n x_S_doCommand_69 rfl ?_
  refine kw_gr x_S_doCommand_70 (by exact isS_k hS) (by exact isS_r2 hS) ?_
  refine kw_icon x_S_doCommand_73 ?_
  refine kw_iald_n x_S_doCommand_74 (by first | exact isS_a1 hS | exact isS_a2 hS | exact isC_a5 hC | exact isC_a6 hC | exact isC_a7 hC | exact isC_a8 hC | exact isC_a9 hC | exact isC_a10 hC | exact isC_a11 hC | exact isC_a12 hC | exact isL_a1 hL | exact isL_a2 hL) (by omega) (by omega) (by first | exact ha _ (by decide) | exact rfl) ?_
  refine kw_ald_n x_S_doCommand_75 rfl ?_
  refine kw_gr x_S_doCommand_76 (by exact isS_k hS) (by exact isS_r2 hS) ?_
  refine kw_icon x_S_doCommand_79 ?_
  refine kw_iald_n x_S_doCommand_80 (by first | exact isS_a1 hS | exact isS_a2 hS | exact isC_a5 hC | exact isC_a6 hC | exact isC_a7 hC | exact isC_a8 hC | exact isC_a9 hC | exact isC_a10 hC | exact isC_a11 hC | exact isC_a12 hC | exact isL_a1 hL | exact isL_a2 hL) (by omega) (by omega) (by first | exact ha _ (by decide) | exact rfl) ?_
  refine kw_ald_n x_S_doCommand_81 rfl ?_
  refine kw_gr x_S_doCommand_82 (by exact isS_k hS) (by exact isS_r2 hS) ?_
  refine kw_icon x_S_doCommand_85 ?_
  refine kw_iald_n x_S_doCommand_86 (by first | exact isS_a1 hS | exact isS_a2 hS | exact isC_a5 hC | exact isC_a6 hC | exact isC_a7 hC | exact isC_a8 hC | exact isC_a9 hC | exact isC_a10 hC | exact isC_a11 hC | exact isC_a12 hC | exact isL_a1 hL | exact isL_a2 hL) (by omega) (by omega) (by first | exact ha _ (by decide) | exact rfl) ?_
  refine c_S_doCommand_87 (by exact isC_k hC) (Nat.le_of_ble_eq_true rfl) ?_
  refine s_C_makeDelivery hC hB hW (fun hf => ?_) (fun hf h60 => ?_) (fun t g p e1 e2 e3 h1 h2 h3 h4 h5 I' J' hc => ?_)
  · refine kw_iret x_S_doCommand_90 ?_
    exact k0 (-1) (by rw [xdo_100, if_neg (fun q => hf ⟨⟨_, q.1, rfl⟩, ⟨_, Nat.zero_le _, q.2.1, rfl⟩, ⟨_, q.2.2.1, q.2.2.2, rfl⟩⟩)]) (by decide)
  · obtain ⟨⟨t, ht, e1⟩, ⟨g, _, hg, e2⟩, ⟨p, hp1, hp2, e3⟩⟩ := hf
    have e1 := kt_inj e1 (by omega) (by omega)
    have e2 := kt_inj e2 (by omega) (by omega)
    have e3 := kt_inj e3 (by omega) (by omega)
    refine kw_iret x_S_doCommand_90 ?_
    exact k0 (-3) (by rw [xdo_100, if_pos ⟨by omega, by omega, by omega, by omega⟩, if_pos h60]) (by decide)
  · have e3 := kt_inj e3 (by omega) (by omega)
    have e1 := kt_inj e1 (by omega) (by omega)
    have e2 := kt_inj e2 (by omega) (by omega)
    subst e1; subst e2
    subst e3
    refine kw_iret x_S_doCommand_90 ?_
    exact k (xn X) _ (by rw [xdo_100, if_pos ⟨h1, h2, h3, h4⟩, if_neg (by omega)]) (by first | omega | exact Nat.lt_of_le_of_lt (xct_le _ _) (by omega)) (kt_wf_new_d hW h1 h2 ⟨h3, h4⟩ (by omega)) kt_ev_new I' J' hc
  
theorem s_S_do_111 (hS : kt_isS P N R sc) (hC : kt_isC P N R lo c) (hB : kt_B c X I J) (hW : kt_wf X) {a : Nat → Nat} (hb : ∀ j, j < 4 → a j < 1000) (ha : ∀ j, j < 4 → I (sc + 2) j = nI (a j)) (k0 : ∀ v, xdo X 111 a = (v, X) → v < 0 → Q (some (.int v)) I J R)
    (k : ∀ w Y, xdo X 111 a = (nI w, xapo X Y) → w < 1000 → kt_wf Y → kt_ev X Y → ∀ I' J', kt_cg c Y I J I' J' → Q (some (.int (nI w))) I' J' R) : KW P i_S_doCommand N 0 [some (.ref sc), some (.ref c), some (.int (nI 111))] [] N I J R Q := by
  have hn := hW.2.2.1
  have hT := hW.2.1
  have hr := hW.1
  have hb0 := hb 0 (by omega)
  have hb1 := hb 1 (by omega)
  have hb2 := hb 2 (by omega)
  have hb3 := hb 3 (by omega)
  refine kw_ild_n x_S_doCommand_0 rfl ?_
  refine s_S_doCommand_1 (fun h => absurd h (by decide)) (fun h => absurd h (by decide)) (fun h => absurd h (by decide)) (fun h => absurd h (by decide)) (fun h => absurd h (by decide)) (fun h => absurd h (by decide)) (fun h => absurd h (by decide)) (fun h => absurd h (by decide)) (fun h => absurd h (by decide)) (fun h => absurd h (by decide)) (fun h => absurd h (by decide)) (fun h => absurd h (by decide)) (fun _ => ?_) (fun h0 h1 h2 h3 h4 h5 h6 h7 h8 h9 h10 h11 h12 => absurd rfl h12)
  refine kw_ald_n x_S_doCommand_91 rfl ?_
  refine kw_ald_n x_S_doCommand_92 rfl ?_
  refine kw_gr x_S_doCommand_93 (by exact isS_k hS) (by exact isS_r2 hS) ?_
  refine kw_icon x_S_doCommand_96 ?_
  refine kw_iald_n x_S_doCommand_97 (by first | exact isS_a1 hS | exact isS_a2 hS | exact isC_a5 hC | exact isC_a6 hC | exact isC_a7 hC | exact isC_a8 hC | exact isC_a9 hC | exact isC_a10 hC | exact isC_a11 hC | exact isC_a12 hC | exact isL_a1 hL | exact isL_a2 hL) (by omega) (by omega) (by first | exact ha _ (by decide) | exact rfl) ?_
  refine kw_ald_n x_S_doCommand_98 rfl ?_
  refine kw_gr x_S_doCommand_99 (by exact isS_k hS) (by exact isS_r2 hS) ?_
  refine kw_icon x_S_doCommand_102 ?_
  refine kw_iald_n x_S_doCommand_103 (by first | exact isS_a1 hS | exact isS_a2 hS | exact isC_a5 hC | exact isC_a6 hC | exact isC_a7 hC | exact isC_a8 hC | exact isC_a9 hC | exact isC_a10 hC | exact isC_a11 hC | exact isC_a12 hC | exact isL_a1 hL | exact isL_a2 hL) (by omega) (by omega) (by first | exact ha _ (by decide) | exact rfl) ?_
  refine kw_ald_n x_S_doCommand_104 rfl ?_
  refine kw_gr x_S_doCommand_105 (by exact isS_k hS) (by exact isS_r2 hS) ?_
  refine kw_icon x_S_doCommand_108 ?_
  refine kw_iald_n x_S_doCommand_109 (by first | exact isS_a1 hS | exact isS_a2 hS | exact isC_a5 hC | exact isC_a6 hC | exact isC_a7 hC | exact isC_a8 hC | exact isC_a9 hC | exact isC_a10 hC | exact isC_a11 hC | exact isC_a12 hC | exact isL_a1 hL | exact isL_a2 hL) (by omega) (by omega) (by first | exact ha _ (by decide) | exact rfl) ?_
  refine kw_ald_n x_S_doCommand_110 rfl ?_
  refine kw_gr x_S_doCommand_111 (by exact isS_k hS) (by exact isS_r2 hS) ?_
  refine kw_icon x_S_doCommand_114 ?_
  refine kw_iald_n x_S_doCommand_115 (by first | exact isS_a1 hS | exact isS_a2 hS | exact isC_a5 hC | exact isC_a6 hC | exact isC_a7 hC | exact isC_a8 hC | exact isC_a9 hC | exact isC_a10 hC | exact isC_a11 hC | exact isC_a12 hC | exact isL_a1 hL | exact isL_a2 hL) (by omega) (by omega) (by first | exact ha _ (by decide) | exact rfl) ?_
  refine c_S_doCommand_116 (by exact isC_k hC) (Nat.le_of_ble_eq_true rfl) ?_
  refine s_C_makeOrder hC hB hW (fun hf => ?_) (fun hf h60 => ?_) (fun t q g p e1 e0 e2 e3 h1 h0 h2 h3 h4 h5 I' J' hc => ?_)
  · refine kw_iret x_S_doCommand_119 ?_
    exact k0 (-1) (by rw [xdo_111, if_neg (fun q => hf ⟨⟨_, q.1, rfl⟩, ⟨_, Nat.zero_le _, q.2.1, rfl⟩, ⟨_, Nat.zero_le _, q.2.2.1, rfl⟩, ⟨_, q.2.2.2.1, q.2.2.2.2, rfl⟩⟩)]) (by decide)
  · obtain ⟨⟨t, ht, e1⟩, ⟨q, _, hq, e0⟩, ⟨g, _, hg, e2⟩, ⟨p, hp1, hp2, e3⟩⟩ := hf
    have e1 := kt_inj e1 (by omega) (by omega)
    have e0 := kt_inj e0 (by omega) (by omega)
    have e2 := kt_inj e2 (by omega) (by omega)
    have e3 := kt_inj e3 (by omega) (by omega)
    refine kw_iret x_S_doCommand_119 ?_
    exact k0 (-3) (by rw [xdo_111, if_pos ⟨by omega, by omega, by omega, by omega, by omega⟩, if_pos h60]) (by decide)
  · have e0 := kt_inj e0 (by omega) (by omega)
    have e3 := kt_inj e3 (by omega) (by omega)
    have e1 := kt_inj e1 (by omega) (by omega)
    have e2 := kt_inj e2 (by omega) (by omega)
    subst e1; subst e2
    subst e0; subst e3
    refine kw_iret x_S_doCommand_119 ?_
    exact k (xn X) _ (by rw [xdo_111, if_pos ⟨h1, h0, h2, h3, h4⟩, if_neg (by omega)]) (by first | omega | exact Nat.lt_of_le_of_lt (xct_le _ _) (by omega)) (kt_wf_new_o hW h1 h2 ⟨h3, h4⟩ h0 (by omega)) kt_ev_new I' J' hc
  
theorem s_S_do_99 (hS : kt_isS P N R sc) (hC : kt_isC P N R lo c) (hB : kt_B c X I J) (hW : kt_wf X) {a : Nat → Nat} (hb : ∀ j, j < 4 → a j < 1000) (ha : ∀ j, j < 2 → I (sc + 2) j = nI (a j)) (k0 : ∀ v, xdo X 99 a = (v, X) → v < 0 → Q (some (.int v)) I J R)
    (k : ∀ w Y, xdo X 99 a = (nI w, xapo X Y) → w < 1000 → kt_wf Y → kt_ev X Y → ∀ I' J', kt_cg c Y I J I' J' → Q (some (.int (nI w))) I' J' R) : KW P i_S_doCommand N 0 [some (.ref sc), some (.ref c), some (.int (nI 99))] [] N I J R Q := by
  have hn := hW.2.2.1
  have hT := hW.2.1
  have hr := hW.1
  have hb0 := hb 0 (by omega)
  have hb1 := hb 1 (by omega)
  have hb2 := hb 2 (by omega)
  have hb3 := hb 3 (by omega)
  refine kw_ild_n x_S_doCommand_0 rfl ?_
  refine s_S_doCommand_1 (fun _ => ?_) (fun h => absurd h (by decide)) (fun h => absurd h (by decide)) (fun h => absurd h (by decide)) (fun h => absurd h (by decide)) (fun h => absurd h (by decide)) (fun h => absurd h (by decide)) (fun h => absurd h (by decide)) (fun h => absurd h (by decide)) (fun h => absurd h (by decide)) (fun h => absurd h (by decide)) (fun h => absurd h (by decide)) (fun h => absurd h (by decide)) (fun h0 h1 h2 h3 h4 h5 h6 h7 h8 h9 h10 h11 h12 => absurd rfl h0)
  refine kw_ald_n x_S_doCommand_120 rfl ?_
  refine kw_ald_n x_S_doCommand_121 rfl ?_
  refine kw_gr x_S_doCommand_122 (by exact isS_k hS) (by exact isS_r2 hS) ?_
  refine kw_icon x_S_doCommand_125 ?_
  refine kw_iald_n x_S_doCommand_126 (by first | exact isS_a1 hS | exact isS_a2 hS | exact isC_a5 hC | exact isC_a6 hC | exact isC_a7 hC | exact isC_a8 hC | exact isC_a9 hC | exact isC_a10 hC | exact isC_a11 hC | exact isC_a12 hC | exact isL_a1 hL | exact isL_a2 hL) (by omega) (by omega) (by first | exact ha _ (by decide) | exact rfl) ?_
  refine kw_ald_n x_S_doCommand_127 rfl ?_
  refine kw_gr x_S_doCommand_128 (by exact isS_k hS) (by exact isS_r2 hS) ?_
  refine kw_icon x_S_doCommand_131 ?_
  refine kw_iald_n x_S_doCommand_132 (by first | exact isS_a1 hS | exact isS_a2 hS | exact isC_a5 hC | exact isC_a6 hC | exact isC_a7 hC | exact isC_a8 hC | exact isC_a9 hC | exact isC_a10 hC | exact isC_a11 hC | exact isC_a12 hC | exact isL_a1 hL | exact isL_a2 hL) (by omega) (by omega) (by first | exact ha _ (by decide) | exact rfl) ?_
  refine c_S_doCommand_133 (by exact isC_k hC) (Nat.le_of_ble_eq_true rfl) ?_
  refine s_C_makeCancellation hC hB hW (fun hf => ?_) (fun t e e1 e2 h1 h2 hx => ?_) (fun t e e1 e2 h1 h2 hx h60 => ?_) (fun t e e1 e2 h1 h2 hx h60 I' J' hc => ?_)
  · refine kw_iret x_S_doCommand_136 ?_
    exact k0 (-1) (by rw [xdo_99, if_neg (fun q => hf ⟨⟨_, q.1, rfl⟩, ⟨_, q.2, rfl⟩⟩)]) (by decide)
  · have e1 := kt_inj e1 (by omega) (by omega)
    have e2 := kt_inj e2 (by omega) (by omega)
    subst e1; subst e2
    refine kw_iret x_S_doCommand_136 ?_
    exact k0 (-2) (by rw [xdo_99, if_pos ⟨h1, h2⟩, if_neg hx]) (by decide)
  · have e1 := kt_inj e1 (by omega) (by omega)
    have e2 := kt_inj e2 (by omega) (by omega)
    subst e1; subst e2
    refine kw_iret x_S_doCommand_136 ?_
    exact k0 (-3) (by rw [xdo_99, if_pos ⟨h1, h2⟩, if_pos hx, if_pos h60]) (by decide)
  · have e1 := kt_inj e1 (by omega) (by omega)
    have e2 := kt_inj e2 (by omega) (by omega)
    subst e1; subst e2
    refine kw_iret x_S_doCommand_136 ?_
    exact k (xn X) _ (by rw [xdo_99, if_pos ⟨h1, h2⟩, if_pos hx, if_neg (by omega)]) (by first | omega | exact Nat.lt_of_le_of_lt (xct_le _ _) (by omega)) (kt_wf_new_c hW h1 h2 hx.1 hx.2.1 (by omega)) kt_ev_new I' J' hc
  
theorem s_S_do_109 (hS : kt_isS P N R sc) (hC : kt_isC P N R lo c) (hB : kt_B c X I J) (hW : kt_wf X) {a : Nat → Nat} (hb : ∀ j, j < 4 → a j < 1000) (ha : ∀ j, j < 2 → I (sc + 2) j = nI (a j)) (k0 : ∀ v, xdo X 109 a = (v, X) → v < 0 → Q (some (.int v)) I J R)
    (k : ∀ w Y, xdo X 109 a = (nI w, xapo X Y) → w < 1000 → kt_wf Y → kt_ev X Y → ∀ I' J', kt_cg c Y I J I' J' → Q (some (.int (nI w))) I' J' R) : KW P i_S_doCommand N 0 [some (.ref sc), some (.ref c), some (.int (nI 109))] [] N I J R Q := by
  have hn := hW.2.2.1
  have hT := hW.2.1
  have hr := hW.1
  have hb0 := hb 0 (by omega)
  have hb1 := hb 1 (by omega)
  have hb2 := hb 2 (by omega)
  have hb3 := hb 3 (by omega)
  refine kw_ild_n x_S_doCommand_0 rfl ?_
  refine s_S_doCommand_1 (fun h => absurd h (by decide)) (fun h => absurd h (by decide)) (fun h => absurd h (by decide)) (fun h => absurd h (by decide)) (fun h => absurd h (by decide)) (fun h => absurd h (by decide)) (fun h => absurd h (by decide)) (fun h => absurd h (by decide)) (fun h => absurd h (by decide)) (fun h => absurd h (by decide)) (fun _ => ?_) (fun h => absurd h (by decide)) (fun h => absurd h (by decide)) (fun h0 h1 h2 h3 h4 h5 h6 h7 h8 h9 h10 h11 h12 => absurd rfl h10)
  refine kw_ald_n x_S_doCommand_137 rfl ?_
  refine kw_ald_n x_S_doCommand_138 rfl ?_
  refine kw_gr x_S_doCommand_139 (by exact isS_k hS) (by exact isS_r2 hS) ?_
  refine kw_icon x_S_doCommand_142 ?_
  refine kw_iald_n x_S_doCommand_143 (by first | exact isS_a1 hS | exact isS_a2 hS | exact isC_a5 hC | exact isC_a6 hC | exact isC_a7 hC | exact isC_a8 hC | exact isC_a9 hC | exact isC_a10 hC | exact isC_a11 hC | exact isC_a12 hC | exact isL_a1 hL | exact isL_a2 hL) (by omega) (by omega) (by first | exact ha _ (by decide) | exact rfl) ?_
  refine kw_ald_n x_S_doCommand_144 rfl ?_
  refine kw_gr x_S_doCommand_145 (by exact isS_k hS) (by exact isS_r2 hS) ?_
  refine kw_icon x_S_doCommand_148 ?_
  refine kw_iald_n x_S_doCommand_149 (by first | exact isS_a1 hS | exact isS_a2 hS | exact isC_a5 hC | exact isC_a6 hC | exact isC_a7 hC | exact isC_a8 hC | exact isC_a9 hC | exact isC_a10 hC | exact isC_a11 hC | exact isC_a12 hC | exact isL_a1 hL | exact isL_a2 hL) (by omega) (by omega) (by first | exact ha _ (by decide) | exact rfl) ?_
  refine c_S_doCommand_150 (by exact isC_k hC) (Nat.le_of_ble_eq_true rfl) ?_
  refine s_C_letMeet hC hB hW (fun hf => ?_) (fun t u e1 e2 h1 h2 h3 I' J' hc => ?_)
  · refine kw_iret x_S_doCommand_153 ?_
    exact k0 (-1) (by rw [xdo_109, if_neg (fun q => hf ⟨⟨_, q.1, rfl⟩, ⟨_, q.2.1, rfl⟩, fun w => q.2.2 ((nI_eq (kt_p31 (by omega)) (kt_p31 (by omega))).mp w)⟩)]) (by decide)
  · have e1 := kt_inj e1 (by omega) (by omega)
    have e2 := kt_inj e2 (by omega) (by omega)
    subst e1; subst e2
    refine kw_iret x_S_doCommand_153 ?_
    exact k (xhn true (a 0) (a 1) X) _ (by rw [xdo_109, if_pos ⟨h1, h2, h3⟩]) (by first | omega | exact Nat.lt_of_le_of_lt (xct_le _ _) (by omega)) (kt_wf_hear hW true h1 h2) kt_ev_hear I' J' hc
  
theorem s_S_do_104 (hS : kt_isS P N R sc) (hC : kt_isC P N R lo c) (hB : kt_B c X I J) (hW : kt_wf X) {a : Nat → Nat} (hb : ∀ j, j < 4 → a j < 1000) (ha : ∀ j, j < 2 → I (sc + 2) j = nI (a j)) (k0 : ∀ v, xdo X 104 a = (v, X) → v < 0 → Q (some (.int v)) I J R)
    (k : ∀ w Y, xdo X 104 a = (nI w, xapo X Y) → w < 1000 → kt_wf Y → kt_ev X Y → ∀ I' J', kt_cg c Y I J I' J' → Q (some (.int (nI w))) I' J' R) : KW P i_S_doCommand N 0 [some (.ref sc), some (.ref c), some (.int (nI 104))] [] N I J R Q := by
  have hn := hW.2.2.1
  have hT := hW.2.1
  have hr := hW.1
  have hb0 := hb 0 (by omega)
  have hb1 := hb 1 (by omega)
  have hb2 := hb 2 (by omega)
  have hb3 := hb 3 (by omega)
  refine kw_ild_n x_S_doCommand_0 rfl ?_
  refine s_S_doCommand_1 (fun h => absurd h (by decide)) (fun h => absurd h (by decide)) (fun h => absurd h (by decide)) (fun h => absurd h (by decide)) (fun h => absurd h (by decide)) (fun _ => ?_) (fun h => absurd h (by decide)) (fun h => absurd h (by decide)) (fun h => absurd h (by decide)) (fun h => absurd h (by decide)) (fun h => absurd h (by decide)) (fun h => absurd h (by decide)) (fun h => absurd h (by decide)) (fun h0 h1 h2 h3 h4 h5 h6 h7 h8 h9 h10 h11 h12 => absurd rfl h5)
  refine kw_ald_n x_S_doCommand_154 rfl ?_
  refine kw_ald_n x_S_doCommand_155 rfl ?_
  refine kw_gr x_S_doCommand_156 (by exact isS_k hS) (by exact isS_r2 hS) ?_
  refine kw_icon x_S_doCommand_159 ?_
  refine kw_iald_n x_S_doCommand_160 (by first | exact isS_a1 hS | exact isS_a2 hS | exact isC_a5 hC | exact isC_a6 hC | exact isC_a7 hC | exact isC_a8 hC | exact isC_a9 hC | exact isC_a10 hC | exact isC_a11 hC | exact isC_a12 hC | exact isL_a1 hL | exact isL_a2 hL) (by omega) (by omega) (by first | exact ha _ (by decide) | exact rfl) ?_
  refine kw_ald_n x_S_doCommand_161 rfl ?_
  refine kw_gr x_S_doCommand_162 (by exact isS_k hS) (by exact isS_r2 hS) ?_
  refine kw_icon x_S_doCommand_165 ?_
  refine kw_iald_n x_S_doCommand_166 (by first | exact isS_a1 hS | exact isS_a2 hS | exact isC_a5 hC | exact isC_a6 hC | exact isC_a7 hC | exact isC_a8 hC | exact isC_a9 hC | exact isC_a10 hC | exact isC_a11 hC | exact isC_a12 hC | exact isL_a1 hL | exact isL_a2 hL) (by omega) (by omega) (by first | exact ha _ (by decide) | exact rfl) ?_
  refine c_S_doCommand_167 (by exact isC_k hC) (Nat.le_of_ble_eq_true rfl) ?_
  refine s_C_letHear hC hB hW (fun hf => ?_) (fun t u e1 e2 h1 h2 h3 I' J' hc => ?_)
  · refine kw_iret x_S_doCommand_170 ?_
    exact k0 (-1) (by rw [xdo_104, if_neg (fun q => hf ⟨⟨_, q.1, rfl⟩, ⟨_, q.2.1, rfl⟩, fun w => q.2.2 ((nI_eq (kt_p31 (by omega)) (kt_p31 (by omega))).mp w)⟩)]) (by decide)
  · have e1 := kt_inj e1 (by omega) (by omega)
    have e2 := kt_inj e2 (by omega) (by omega)
    subst e1; subst e2
    refine kw_iret x_S_doCommand_170 ?_
    exact k (xhn false (a 0) (a 1) X) _ (by rw [xdo_104, if_pos ⟨h1, h2, h3⟩]) (by first | omega | exact Nat.lt_of_le_of_lt (xct_le _ _) (by omega)) (kt_wf_hear hW false h1 h2) kt_ev_hear I' J' hc
  
theorem s_S_do_114 (hS : kt_isS P N R sc) (hC : kt_isC P N R lo c) (hB : kt_B c X I J) (hW : kt_wf X) {a : Nat → Nat} (hb : ∀ j, j < 4 → a j < 1000) (ha : ∀ j, j < 1 → I (sc + 2) j = nI (a j)) (k0 : ∀ v, xdo X 114 a = (v, X) → v < 0 → Q (some (.int v)) I J R)
    (k : ∀ w Y, xdo X 114 a = (nI w, xapo X Y) → w < 1000 → kt_wf Y → kt_ev X Y → ∀ I' J', kt_cg c Y I J I' J' → Q (some (.int (nI w))) I' J' R) : KW P i_S_doCommand N 0 [some (.ref sc), some (.ref c), some (.int (nI 114))] [] N I J R Q := by
  have hn := hW.2.2.1
  have hT := hW.2.1
  have hr := hW.1
  have hb0 := hb 0 (by omega)
  have hb1 := hb 1 (by omega)
  have hb2 := hb 2 (by omega)
  have hb3 := hb 3 (by omega)
  refine kw_ild_n x_S_doCommand_0 rfl ?_
  refine s_S_doCommand_1 (fun h => absurd h (by decide)) (fun h => absurd h (by decide)) (fun h => absurd h (by decide)) (fun h => absurd h (by decide)) (fun h => absurd h (by decide)) (fun h => absurd h (by decide)) (fun h => absurd h (by decide)) (fun h => absurd h (by decide)) (fun h => absurd h (by decide)) (fun h => absurd h (by decide)) (fun h => absurd h (by decide)) (fun h => absurd h (by decide)) (fun h => absurd h (by decide)) (fun _ _ _ _ _ _ _ _ _ _ _ _ _ => ?_)
  refine kw_ald_n x_S_doCommand_171 rfl ?_
  refine kw_ald_n x_S_doCommand_172 rfl ?_
  refine kw_gr x_S_doCommand_173 (by exact isS_k hS) (by exact isS_r2 hS) ?_
  refine kw_icon x_S_doCommand_176 ?_
  refine kw_iald_n x_S_doCommand_177 (by first | exact isS_a1 hS | exact isS_a2 hS | exact isC_a5 hC | exact isC_a6 hC | exact isC_a7 hC | exact isC_a8 hC | exact isC_a9 hC | exact isC_a10 hC | exact isC_a11 hC | exact isC_a12 hC | exact isL_a1 hL | exact isL_a2 hL) (by omega) (by omega) (by first | exact ha _ (by decide) | exact rfl) ?_
  refine c_S_doCommand_178 (by exact isC_k hC) (Nat.le_of_ble_eq_true rfl) ?_
  refine s_C_setRule hC hB hW (fun hf => ?_) (fun r e1 h1 I' hc => ?_)
  · refine kw_iret x_S_doCommand_181 ?_
    exact k0 (-1) (by rw [xdo_114, if_neg (fun q => hf ⟨_, Nat.zero_le _, q, rfl⟩)]) (by decide)
  · have e1 := kt_inj e1 (by omega) (by omega)
    subst e1
    refine kw_iret x_S_doCommand_181 ?_
    exact k (xr X) _ (by rw [xdo_114, if_pos h1]) (by omega) (kt_wf_rule hW (by omega)) kt_ev_rul I' _ hc
  
theorem s_S_doCommand (hS : kt_isS P N R sc) (hC : kt_isC P N R lo c) (hB : kt_B c X I J) (hW : kt_wf X) {a : Nat → Nat} (hb : ∀ j, j < 4 → a j < 1000) {l : Nat} (hl : 0 < xnb l) (ha : ∀ j, j < xnb l → I (sc + 2) j = nI (a j)) (k0 : ∀ v, xdo X l a = (v, X) → v < 0 → Q (some (.int v)) I J R)
    (k : ∀ w Y, xdo X l a = (nI w, xapo X Y) → w < 1000 → kt_wf Y → kt_ev X Y → ∀ I' J', kt_cg c Y I J I' J' → Q (some (.int (nI w))) I' J' R) : KW P i_S_doCommand N 0 [some (.ref sc), some (.ref c), some (.int (nI l))] [] N I J R Q := by
  rcases xnb_pos hl with rfl | rfl | rfl | rfl | rfl | rfl
  · exact s_S_do_100 hS hC hB hW hb ha k0 k
  · exact s_S_do_111 hS hC hB hW hb ha k0 k
  · exact s_S_do_99 hS hC hB hW hb ha k0 k
  · exact s_S_do_109 hS hC hB hW hb ha k0 k
  · exact s_S_do_104 hS hC hB hW hb ha k0 k
  · exact s_S_do_114 hS hC hB hW hb ha k0 k
end CD
