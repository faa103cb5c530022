theorem x_law_law_0 : kt_dc i_law_law 0 (.new 7) 3 3 ∧ ∃ (C : String) (T : u_T) (Nf : Nat), vwCl[4]? = some (C, T, Nf) ∧ Cond.classLink (kt_ow i_law_law) 7 C ∈ kt_GW ∧ Cond.instantiable C Nf ∈ kt_GW ∧ Cond.initialized C ∈ kt_GW := ⟨⟨by decide +kernel, rfl⟩, RX4, TX4, 5, rfl, tw_11, tw_12, tw_1⟩
theorem x_law_law_3 : kt_dc i_law_law 3 (.dup) 1 4 := ⟨by decide +kernel, rfl⟩
theorem x_law_law_4 : kt_sI i_law_law 4 i_K_init 0 7 := ⟨9, ⟨by decide +kernel, rfl⟩, Or.inl (tw_13), j_K_init, tw_14, rfl, rfl, rfl⟩
theorem c_law_law_4 {P : kt_P} {NM : Nat} {L : List (Option Value)} {rest : List Value} {N : Nat} {I : kt_I} {J : kt_J} {R : kt_R} {Q : Option Value → kt_I → kt_J → kt_R → Prop} {b : Nat} {N' : Nat} (hN : N ≤ N' ∧ N' ≤ NM) (hrest : (rest.map fun v => v.category).sum ≤ 8) (kk : KW P i_K_init N' 0 [some (.ref b), none] [] N I J R (fun v I' J' R' => KW P i_law_law NM 7 L (kt_pu v rest) N' I' J' R' Q)) : KW P i_law_law NM 4 L (.ref b :: rest) N I J R Q := kw_callI x_law_law_4 (As := []) rfl rfl (Nat.le_of_ble_eq_true rfl) hrest hN.1 (fun _ => hN.2) kk
theorem x_law_law_7 : kt_dc i_law_law 7 (.astore_n 1) 1 8 := ⟨by decide +kernel, rfl⟩
theorem x_law_law_8 : kt_dc i_law_law 8 (.new 10) 3 11 ∧ ∃ (C : String) (T : u_T) (Nf : Nat), vwCl[5]? = some (C, T, Nf) ∧ Cond.classLink (kt_ow i_law_law) 10 C ∈ kt_GW ∧ Cond.instantiable C Nf ∈ kt_GW ∧ Cond.initialized C ∈ kt_GW := ⟨⟨by decide +kernel, rfl⟩, RX5, TX5, 18, rfl, tw_529, tw_530, tw_6⟩
theorem x_law_law_11 : kt_dc i_law_law 11 (.dup) 1 12 := ⟨by decide +kernel, rfl⟩
theorem x_law_law_12 : kt_sI i_law_law 12 i_M_init 0 15 := ⟨12, ⟨by decide +kernel, rfl⟩, Or.inl (tw_531), j_M_init, tw_532, rfl, rfl, rfl⟩
theorem c_law_law_12 {P : kt_P} {NM : Nat} {L : List (Option Value)} {rest : List Value} {N : Nat} {I : kt_I} {J : kt_J} {R : kt_R} {Q : Option Value → kt_I → kt_J → kt_R → Prop} {b : Nat} {N' : Nat} (hN : N ≤ N' ∧ N' ≤ NM) (hrest : (rest.map fun v => v.category).sum ≤ 8) (kk : KW P i_M_init N' 0 [some (.ref b)] [] N I J R (fun v I' J' R' => KW P i_law_law NM 15 L (kt_pu v rest) N' I' J' R' Q)) : KW P i_law_law NM 12 L (.ref b :: rest) N I J R Q := kw_callI x_law_law_12 (As := []) rfl rfl (Nat.le_of_ble_eq_true rfl) hrest hN.1 (fun _ => hN.2) kk
theorem x_law_law_15 : kt_dc i_law_law 15 (.astore_n 2) 1 16 := ⟨by decide +kernel, rfl⟩
theorem x_law_law_16 : kt_dc i_law_law 16 (.iconst 0) 1 17 ∧ Int32.ofInt (0) = nI 0 := ⟨⟨by decide +kernel, rfl⟩, by decide⟩
theorem x_law_law_17 : kt_dc i_law_law 17 (.istore_n 3) 1 18 := ⟨by decide +kernel, rfl⟩
theorem x_law_law_18 : kt_dc i_law_law 18 (.iload_n 3) 1 19 := ⟨by decide +kernel, rfl⟩
theorem x_law_law_19 : kt_dc i_law_law 19 (.aload_n 0) 1 20 := ⟨by decide +kernel, rfl⟩
theorem x_law_law_20 : kt_dc i_law_law 20 (.arraylength) 1 21 := ⟨by decide +kernel, rfl⟩
theorem x_law_law_21 : kt_dc i_law_law 21 (.iconst 5) 1 22 ∧ Int32.ofInt (5) = nI 5 := ⟨⟨by decide +kernel, rfl⟩, by decide⟩
theorem x_law_law_22 : kt_dc i_law_law 22 (.isub) 1 23 := ⟨by decide +kernel, rfl⟩
theorem x_law_law_23 : kt_dj i_law_law 23 (.if_icmp .gt) 852 26 := ⟨829, by decide +kernel, by decide, rfl⟩
theorem x_law_law_26 : kt_dc i_law_law 26 (.aload_n 0) 1 27 := ⟨by decide +kernel, rfl⟩
theorem x_law_law_27 : kt_dc i_law_law 27 (.iload_n 3) 1 28 := ⟨by decide +kernel, rfl⟩
theorem x_law_law_28 : kt_dc i_law_law 28 (.iaload) 1 29 := ⟨by decide +kernel, rfl⟩
theorem x_law_law_29 : kt_dc i_law_law 29 (.bipush 31) 2 31 ∧ (Int8.ofInt (31)).toInt32 = nI 31 := ⟨⟨by decide +kernel, rfl⟩, by decide⟩
theorem x_law_law_31 : kt_dc i_law_law 31 (.iand) 1 32 := ⟨by decide +kernel, rfl⟩
theorem x_law_law_32 : kt_dt i_law_law 32 0 [144, 157, 200, 253, 286, 319, 352, 375, 408, 441, 474, 517, 560, 603, 636, 659, 702, 725, 748, 761, 774, 797, 810, 833] 846 := ⟨814, 23, #[112, 125, 168, 221, 254, 287, 320, 343, 376, 409, 442, 485, 528, 571, 604, 627, 670, 693, 716, 729, 742, 765, 778, 801], 112, by decide +kernel, by decide, by decide, by decide⟩
theorem s_law_law_32 {P : kt_P} {NM : Nat} {L : List (Option Value)} {st : List Value} {N : Nat} {I : kt_I} {J : kt_J} {R : kt_R} {Q : Option Value → kt_I → kt_J → kt_R → Prop} {x : Int32} (h0 : x = nI 0 → KW P i_law_law NM 144 L st N I J R Q) (h1 : x = nI 1 → KW P i_law_law NM 157 L st N I J R Q) (h2 : x = nI 2 → KW P i_law_law NM 200 L st N I J R Q) (h3 : x = nI 3 → KW P i_law_law NM 253 L st N I J R Q) (h4 : x = nI 4 → KW P i_law_law NM 286 L st N I J R Q) (h5 : x = nI 5 → KW P i_law_law NM 319 L st N I J R Q) (h6 : x = nI 6 → KW P i_law_law NM 352 L st N I J R Q) (h7 : x = nI 7 → KW P i_law_law NM 375 L st N I J R Q) (h8 : x = nI 8 → KW P i_law_law NM 408 L st N I J R Q) (h9 : x = nI 9 → KW P i_law_law NM 441 L st N I J R Q) (h10 : x = nI 10 → KW P i_law_law NM 474 L st N I J R Q) (h11 : x = nI 11 → KW P i_law_law NM 517 L st N I J R Q) (h12 : x = nI 12 → KW P i_law_law NM 560 L st N I J R Q) (h13 : x = nI 13 → KW P i_law_law NM 603 L st N I J R Q) (h14 : x = nI 14 → KW P i_law_law NM 636 L st N I J R Q) (h15 : x = nI 15 → KW P i_law_law NM 659 L st N I J R Q) (h16 : x = nI 16 → KW P i_law_law NM 702 L st N I J R Q) (h17 : x = nI 17 → KW P i_law_law NM 725 L st N I J R Q) (h18 : x = nI 18 → KW P i_law_law NM 748 L st N I J R Q) (h19 : x = nI 19 → KW P i_law_law NM 761 L st N I J R Q) (h20 : x = nI 20 → KW P i_law_law NM 774 L st N I J R Q) (h21 : x = nI 21 → KW P i_law_law NM 797 L st N I J R Q) (h22 : x = nI 22 → KW P i_law_law NM 810 L st N I J R Q) (h23 : x = nI 23 → KW P i_law_law NM 833 L st N I J R Q) (hd : ¬ x = nI 0 → ¬ x = nI 1 → ¬ x = nI 2 → ¬ x = nI 3 → ¬ x = nI 4 → ¬ x = nI 5 → ¬ x = nI 6 → ¬ x = nI 7 → ¬ x = nI 8 → ¬ x = nI 9 → ¬ x = nI 10 → ¬ x = nI 11 → ¬ x = nI 12 → ¬ x = nI 13 → ¬ x = nI 14 → ¬ x = nI 15 → ¬ x = nI 16 → ¬ x = nI 17 → ¬ x = nI 18 → ¬ x = nI 19 → ¬ x = nI 20 → ¬ x = nI 21 → ¬ x = nI 22 → ¬ x = nI 23 → KW P i_law_law NM 846 L st N I J R Q) : KW P i_law_law NM 32 L (.int x :: st) N I J R Q :=
  kw_tsw x_law_law_32 (fun j t hj hx => by
    match j, hj, hx with
    | 0, hj, hx => cases hj; exact h0 (Int32.toInt_inj.mp (hx.trans (by decide)))
    | 1, hj, hx => cases hj; exact h1 (Int32.toInt_inj.mp (hx.trans (by decide)))
    | 2, hj, hx => cases hj; exact h2 (Int32.toInt_inj.mp (hx.trans (by decide)))
    | 3, hj, hx => cases hj; exact h3 (Int32.toInt_inj.mp (hx.trans (by decide)))
    | 4, hj, hx => cases hj; exact h4 (Int32.toInt_inj.mp (hx.trans (by decide)))
    | 5, hj, hx => cases hj; exact h5 (Int32.toInt_inj.mp (hx.trans (by decide)))
    | 6, hj, hx => cases hj; exact h6 (Int32.toInt_inj.mp (hx.trans (by decide)))
    | 7, hj, hx => cases hj; exact h7 (Int32.toInt_inj.mp (hx.trans (by decide)))
    | 8, hj, hx => cases hj; exact h8 (Int32.toInt_inj.mp (hx.trans (by decide)))
    | 9, hj, hx => cases hj; exact h9 (Int32.toInt_inj.mp (hx.trans (by decide)))
    | 10, hj, hx => cases hj; exact h10 (Int32.toInt_inj.mp (hx.trans (by decide)))
    | 11, hj, hx => cases hj; exact h11 (Int32.toInt_inj.mp (hx.trans (by decide)))
    | 12, hj, hx => cases hj; exact h12 (Int32.toInt_inj.mp (hx.trans (by decide)))
    | 13, hj, hx => cases hj; exact h13 (Int32.toInt_inj.mp (hx.trans (by decide)))
    | 14, hj, hx => cases hj; exact h14 (Int32.toInt_inj.mp (hx.trans (by decide)))
    | 15, hj, hx => cases hj; exact h15 (Int32.toInt_inj.mp (hx.trans (by decide)))
    | 16, hj, hx => cases hj; exact h16 (Int32.toInt_inj.mp (hx.trans (by decide)))
    | 17, hj, hx => cases hj; exact h17 (Int32.toInt_inj.mp (hx.trans (by decide)))
    | 18, hj, hx => cases hj; exact h18 (Int32.toInt_inj.mp (hx.trans (by decide)))
    | 19, hj, hx => cases hj; exact h19 (Int32.toInt_inj.mp (hx.trans (by decide)))
    | 20, hj, hx => cases hj; exact h20 (Int32.toInt_inj.mp (hx.trans (by decide)))
    | 21, hj, hx => cases hj; exact h21 (Int32.toInt_inj.mp (hx.trans (by decide)))
    | 22, hj, hx => cases hj; exact h22 (Int32.toInt_inj.mp (hx.trans (by decide)))
    | 23, hj, hx => cases hj; exact h23 (Int32.toInt_inj.mp (hx.trans (by decide)))
    | n + 24, hj, hx => simp at hj)
    (fun h => hd (fun e => by subst e; revert h; decide) (fun e => by subst e; revert h; decide) (fun e => by subst e; revert h; decide) (fun e => by subst e; revert h; decide) (fun e => by subst e; revert h; decide) (fun e => by subst e; revert h; decide) (fun e => by subst e; revert h; decide) (fun e => by subst e; revert h; decide) (fun e => by subst e; revert h; decide) (fun e => by subst e; revert h; decide) (fun e => by subst e; revert h; decide) (fun e => by subst e; revert h; decide) (fun e => by subst e; revert h; decide) (fun e => by subst e; revert h; decide) (fun e => by subst e; revert h; decide) (fun e => by subst e; revert h; decide) (fun e => by subst e; revert h; decide) (fun e => by subst e; revert h; decide) (fun e => by subst e; revert h; decide) (fun e => by subst e; revert h; decide) (fun e => by subst e; revert h; decide) (fun e => by subst e; revert h; decide) (fun e => by subst e; revert h; decide) (fun e => by subst e; revert h; decide))
theorem x_law_law_144 : kt_dc i_law_law 144 (.aload_n 1) 1 145 := ⟨by decide +kernel, rfl⟩
theorem x_law_law_145 : kt_sV i_law_law 145 i_K_town 4 0 148 := ⟨13, ⟨by decide +kernel, rfl⟩, Or.inl (tw_198), j_K_town, ⟨tw_199, tw_200⟩, ⟨TX4, 5, rfl⟩, by decide, rfl⟩
theorem c_law_law_145 {P : kt_P} {NM : Nat} {L : List (Option Value)} {rest : List Value} {N : Nat} {I : kt_I} {J : kt_J} {R : kt_R} {Q : Option Value → kt_I → kt_J → kt_R → Prop} {b : Nat} (hkd : kt_kd P N b = (4, 0)) (hrest : (rest.map fun v => v.category).sum ≤ 8) (kk : KW P i_K_town N 0 [some (.ref b)] [] N I J R (fun v I' J' R' => KW P i_law_law NM 148 L (kt_pu v rest) N I' J' R' Q)) : KW P i_law_law NM 145 L (.ref b :: rest) N I J R Q := kw_callV x_law_law_145 (As := []) rfl rfl (Nat.le_of_ble_eq_true rfl) hrest hkd (Nat.le_refl N) (fun h => h) kk
theorem x_law_law_148 : kt_dc i_law_law 148 (.aload_n 2) 1 149 := ⟨by decide +kernel, rfl⟩
theorem x_law_law_149 : kt_sV i_law_law 149 i_M_town 5 0 152 := ⟨17, ⟨by decide +kernel, rfl⟩, Or.inl (tw_591), j_M_town, ⟨tw_592, tw_593⟩, ⟨TX5, 18, rfl⟩, by decide, rfl⟩
theorem c_law_law_149 {P : kt_P} {NM : Nat} {L : List (Option Value)} {rest : List Value} {N : Nat} {I : kt_I} {J : kt_J} {R : kt_R} {Q : Option Value → kt_I → kt_J → kt_R → Prop} {b : Nat} (hkd : kt_kd P N b = (5, 0)) (hrest : (rest.map fun v => v.category).sum ≤ 8) (kk : KW P i_M_town N 0 [some (.ref b), none] [] N I J R (fun v I' J' R' => KW P i_law_law NM 152 L (kt_pu v rest) N I' J' R' Q)) : KW P i_law_law NM 149 L (.ref b :: rest) N I J R Q := kw_callV x_law_law_149 (As := []) rfl rfl (Nat.le_of_ble_eq_true rfl) hrest hkd (Nat.le_refl N) (fun h => h) kk
theorem x_law_law_152 : kt_dj i_law_law 152 (.if_icmp .eq) 846 155 := ⟨694, by decide +kernel, by decide, rfl⟩
theorem x_law_law_155 : kt_dc i_law_law 155 (.iconst 0) 1 156 ∧ Int32.ofInt (0) = nI 0 := ⟨⟨by decide +kernel, rfl⟩, by decide⟩
theorem x_law_law_156 : kt_dc i_law_law 156 (.ireturn) 1 157 ∧ kt_rt i_law_law = (some .boolean) := ⟨⟨by decide +kernel, rfl⟩, rfl⟩
theorem x_law_law_157 : kt_dc i_law_law 157 (.aload_n 1) 1 158 := ⟨by decide +kernel, rfl⟩
theorem x_law_law_158 : kt_dc i_law_law 158 (.aload_n 0) 1 159 := ⟨by decide +kernel, rfl⟩
theorem x_law_law_159 : kt_dc i_law_law 159 (.iload_n 3) 1 160 := ⟨by decide +kernel, rfl⟩
theorem x_law_law_160 : kt_dc i_law_law 160 (.iconst 1) 1 161 ∧ Int32.ofInt (1) = nI 1 := ⟨⟨by decide +kernel, rfl⟩, by decide⟩
theorem x_law_law_161 : kt_dc i_law_law 161 (.iadd) 1 162 := ⟨by decide +kernel, rfl⟩
theorem x_law_law_162 : kt_dc i_law_law 162 (.iaload) 1 163 := ⟨by decide +kernel, rfl⟩
theorem x_law_law_163 : kt_dc i_law_law 163 (.aload_n 0) 1 164 := ⟨by decide +kernel, rfl⟩
theorem x_law_law_164 : kt_dc i_law_law 164 (.iload_n 3) 1 165 := ⟨by decide +kernel, rfl⟩
theorem x_law_law_165 : kt_dc i_law_law 165 (.iconst 2) 1 166 ∧ Int32.ofInt (2) = nI 2 := ⟨⟨by decide +kernel, rfl⟩, by decide⟩
theorem x_law_law_166 : kt_dc i_law_law 166 (.iadd) 1 167 := ⟨by decide +kernel, rfl⟩
theorem x_law_law_167 : kt_dc i_law_law 167 (.iaload) 1 168 := ⟨by decide +kernel, rfl⟩
theorem x_law_law_168 : kt_dc i_law_law 168 (.aload_n 0) 1 169 := ⟨by decide +kernel, rfl⟩
theorem x_law_law_169 : kt_dc i_law_law 169 (.iload_n 3) 1 170 := ⟨by decide +kernel, rfl⟩
theorem x_law_law_170 : kt_dc i_law_law 170 (.iconst 3) 1 171 ∧ Int32.ofInt (3) = nI 3 := ⟨⟨by decide +kernel, rfl⟩, by decide⟩
theorem x_law_law_171 : kt_dc i_law_law 171 (.iadd) 1 172 := ⟨by decide +kernel, rfl⟩
theorem x_law_law_172 : kt_dc i_law_law 172 (.iaload) 1 173 := ⟨by decide +kernel, rfl⟩
theorem x_law_law_173 : kt_sV i_law_law 173 i_K_deliver 4 3 176 := ⟨18, ⟨by decide +kernel, rfl⟩, Or.inl (tw_275), j_K_deliver, ⟨tw_276, tw_277⟩, ⟨TX4, 5, rfl⟩, by decide, rfl⟩
theorem c_law_law_173 {P : kt_P} {NM : Nat} {L : List (Option Value)} {rest : List Value} {N : Nat} {I : kt_I} {J : kt_J} {R : kt_R} {Q : Option Value → kt_I → kt_J → kt_R → Prop} {b : Nat} {x0 : Int32} {x1 : Int32} {x2 : Int32} (hkd : kt_kd P N b = (4, 0)) (hrest : (rest.map fun v => v.category).sum ≤ 8) (kk : KW P i_K_deliver N 0 [some (.ref b), some (.int x0), some (.int x1), some (.int x2)] [] N I J R (fun v I' J' R' => KW P i_law_law NM 176 L (kt_pu v rest) N I' J' R' Q)) : KW P i_law_law NM 173 L (.int x2 :: .int x1 :: .int x0 :: .ref b :: rest) N I J R Q := kw_callV x_law_law_173 (As := [.int x0, .int x1, .int x2]) rfl rfl (Nat.le_of_ble_eq_true rfl) hrest hkd (Nat.le_refl N) (fun h => h) kk
theorem x_law_law_176 : kt_dc i_law_law 176 (.aload_n 2) 1 177 := ⟨by decide +kernel, rfl⟩
theorem x_law_law_177 : kt_dc i_law_law 177 (.aload_n 0) 1 178 := ⟨by decide +kernel, rfl⟩
theorem x_law_law_178 : kt_dc i_law_law 178 (.iload_n 3) 1 179 := ⟨by decide +kernel, rfl⟩
theorem x_law_law_179 : kt_dc i_law_law 179 (.iconst 1) 1 180 ∧ Int32.ofInt (1) = nI 1 := ⟨⟨by decide +kernel, rfl⟩, by decide⟩
theorem x_law_law_180 : kt_dc i_law_law 180 (.iadd) 1 181 := ⟨by decide +kernel, rfl⟩
theorem x_law_law_181 : kt_dc i_law_law 181 (.iaload) 1 182 := ⟨by decide +kernel, rfl⟩
theorem x_law_law_182 : kt_dc i_law_law 182 (.aload_n 0) 1 183 := ⟨by decide +kernel, rfl⟩
theorem x_law_law_183 : kt_dc i_law_law 183 (.iload_n 3) 1 184 := ⟨by decide +kernel, rfl⟩
theorem x_law_law_184 : kt_dc i_law_law 184 (.iconst 2) 1 185 ∧ Int32.ofInt (2) = nI 2 := ⟨⟨by decide +kernel, rfl⟩, by decide⟩
theorem x_law_law_185 : kt_dc i_law_law 185 (.iadd) 1 186 := ⟨by decide +kernel, rfl⟩
theorem x_law_law_186 : kt_dc i_law_law 186 (.iaload) 1 187 := ⟨by decide +kernel, rfl⟩
theorem x_law_law_187 : kt_dc i_law_law 187 (.aload_n 0) 1 188 := ⟨by decide +kernel, rfl⟩
theorem x_law_law_188 : kt_dc i_law_law 188 (.iload_n 3) 1 189 := ⟨by decide +kernel, rfl⟩
theorem x_law_law_189 : kt_dc i_law_law 189 (.iconst 3) 1 190 ∧ Int32.ofInt (3) = nI 3 := ⟨⟨by decide +kernel, rfl⟩, by decide⟩
theorem x_law_law_190 : kt_dc i_law_law 190 (.iadd) 1 191 := ⟨by decide +kernel, rfl⟩
theorem x_law_law_191 : kt_dc i_law_law 191 (.iaload) 1 192 := ⟨by decide +kernel, rfl⟩
theorem x_law_law_192 : kt_sV i_law_law 192 i_M_deliver 5 3 195 := ⟨22, ⟨by decide +kernel, rfl⟩, Or.inl (tw_643), j_M_deliver, ⟨tw_644, tw_645⟩, ⟨TX5, 18, rfl⟩, by decide, rfl⟩
theorem c_law_law_192 {P : kt_P} {NM : Nat} {L : List (Option Value)} {rest : List Value} {N : Nat} {I : kt_I} {J : kt_J} {R : kt_R} {Q : Option Value → kt_I → kt_J → kt_R → Prop} {b : Nat} {x0 : Int32} {x1 : Int32} {x2 : Int32} (hkd : kt_kd P N b = (5, 0)) (hrest : (rest.map fun v => v.category).sum ≤ 8) (kk : KW P i_M_deliver N 0 [some (.ref b), some (.int x0), some (.int x1), some (.int x2)] [] N I J R (fun v I' J' R' => KW P i_law_law NM 195 L (kt_pu v rest) N I' J' R' Q)) : KW P i_law_law NM 192 L (.int x2 :: .int x1 :: .int x0 :: .ref b :: rest) N I J R Q := kw_callV x_law_law_192 (As := [.int x0, .int x1, .int x2]) rfl rfl (Nat.le_of_ble_eq_true rfl) hrest hkd (Nat.le_refl N) (fun h => h) kk
theorem x_law_law_195 : kt_dj i_law_law 195 (.if_icmp .eq) 846 198 := ⟨651, by decide +kernel, by decide, rfl⟩
theorem x_law_law_198 : kt_dc i_law_law 198 (.iconst 0) 1 199 ∧ Int32.ofInt (0) = nI 0 := ⟨⟨by decide +kernel, rfl⟩, by decide⟩
theorem x_law_law_199 : kt_dc i_law_law 199 (.ireturn) 1 200 ∧ kt_rt i_law_law = (some .boolean) := ⟨⟨by decide +kernel, rfl⟩, rfl⟩
theorem x_law_law_200 : kt_dc i_law_law 200 (.aload_n 1) 1 201 := ⟨by decide +kernel, rfl⟩
theorem x_law_law_201 : kt_dc i_law_law 201 (.aload_n 0) 1 202 := ⟨by decide +kernel, rfl⟩
theorem x_law_law_202 : kt_dc i_law_law 202 (.iload_n 3) 1 203 := ⟨by decide +kernel, rfl⟩
theorem x_law_law_203 : kt_dc i_law_law 203 (.iconst 1) 1 204 ∧ Int32.ofInt (1) = nI 1 := ⟨⟨by decide +kernel, rfl⟩, by decide⟩
theorem x_law_law_204 : kt_dc i_law_law 204 (.iadd) 1 205 := ⟨by decide +kernel, rfl⟩
theorem x_law_law_205 : kt_dc i_law_law 205 (.iaload) 1 206 := ⟨by decide +kernel, rfl⟩
theorem x_law_law_206 : kt_dc i_law_law 206 (.aload_n 0) 1 207 := ⟨by decide +kernel, rfl⟩
theorem x_law_law_207 : kt_dc i_law_law 207 (.iload_n 3) 1 208 := ⟨by decide +kernel, rfl⟩
theorem x_law_law_208 : kt_dc i_law_law 208 (.iconst 2) 1 209 ∧ Int32.ofInt (2) = nI 2 := ⟨⟨by decide +kernel, rfl⟩, by decide⟩
theorem x_law_law_209 : kt_dc i_law_law 209 (.iadd) 1 210 := ⟨by decide +kernel, rfl⟩
theorem x_law_law_210 : kt_dc i_law_law 210 (.iaload) 1 211 := ⟨by decide +kernel, rfl⟩
theorem x_law_law_211 : kt_dc i_law_law 211 (.aload_n 0) 1 212 := ⟨by decide +kernel, rfl⟩
theorem x_law_law_212 : kt_dc i_law_law 212 (.iload_n 3) 1 213 := ⟨by decide +kernel, rfl⟩
theorem x_law_law_213 : kt_dc i_law_law 213 (.iconst 3) 1 214 ∧ Int32.ofInt (3) = nI 3 := ⟨⟨by decide +kernel, rfl⟩, by decide⟩
theorem x_law_law_214 : kt_dc i_law_law 214 (.iadd) 1 215 := ⟨by decide +kernel, rfl⟩
theorem x_law_law_215 : kt_dc i_law_law 215 (.iaload) 1 216 := ⟨by decide +kernel, rfl⟩
theorem x_law_law_216 : kt_dc i_law_law 216 (.aload_n 0) 1 217 := ⟨by decide +kernel, rfl⟩
theorem x_law_law_217 : kt_dc i_law_law 217 (.iload_n 3) 1 218 := ⟨by decide +kernel, rfl⟩
theorem x_law_law_218 : kt_dc i_law_law 218 (.iconst 4) 1 219 ∧ Int32.ofInt (4) = nI 4 := ⟨⟨by decide +kernel, rfl⟩, by decide⟩
theorem x_law_law_219 : kt_dc i_law_law 219 (.iadd) 1 220 := ⟨by decide +kernel, rfl⟩
theorem x_law_law_220 : kt_dc i_law_law 220 (.iaload) 1 221 := ⟨by decide +kernel, rfl⟩
theorem x_law_law_221 : kt_sV i_law_law 221 i_K_order 4 4 224 := ⟨23, ⟨by decide +kernel, rfl⟩, Or.inl (tw_296), j_K_order, ⟨tw_297, tw_298⟩, ⟨TX4, 5, rfl⟩, by decide, rfl⟩
theorem c_law_law_221 {P : kt_P} {NM : Nat} {L : List (Option Value)} {rest : List Value} {N : Nat} {I : kt_I} {J : kt_J} {R : kt_R} {Q : Option Value → kt_I → kt_J → kt_R → Prop} {b : Nat} {x0 : Int32} {x1 : Int32} {x2 : Int32} {x3 : Int32} (hkd : kt_kd P N b = (4, 0)) (hrest : (rest.map fun v => v.category).sum ≤ 8) (kk : KW P i_K_order N 0 [some (.ref b), some (.int x0), some (.int x1), some (.int x2), some (.int x3)] [] N I J R (fun v I' J' R' => KW P i_law_law NM 224 L (kt_pu v rest) N I' J' R' Q)) : KW P i_law_law NM 221 L (.int x3 :: .int x2 :: .int x1 :: .int x0 :: .ref b :: rest) N I J R Q := kw_callV x_law_law_221 (As := [.int x0, .int x1, .int x2, .int x3]) rfl rfl (Nat.le_of_ble_eq_true rfl) hrest hkd (Nat.le_refl N) (fun h => h) kk
theorem x_law_law_224 : kt_dc i_law_law 224 (.aload_n 2) 1 225 := ⟨by decide +kernel, rfl⟩
theorem x_law_law_225 : kt_dc i_law_law 225 (.aload_n 0) 1 226 := ⟨by decide +kernel, rfl⟩
theorem x_law_law_226 : kt_dc i_law_law 226 (.iload_n 3) 1 227 := ⟨by decide +kernel, rfl⟩
theorem x_law_law_227 : kt_dc i_law_law 227 (.iconst 1) 1 228 ∧ Int32.ofInt (1) = nI 1 := ⟨⟨by decide +kernel, rfl⟩, by decide⟩
theorem x_law_law_228 : kt_dc i_law_law 228 (.iadd) 1 229 := ⟨by decide +kernel, rfl⟩
theorem x_law_law_229 : kt_dc i_law_law 229 (.iaload) 1 230 := ⟨by decide +kernel, rfl⟩
theorem x_law_law_230 : kt_dc i_law_law 230 (.aload_n 0) 1 231 := ⟨by decide +kernel, rfl⟩
theorem x_law_law_231 : kt_dc i_law_law 231 (.iload_n 3) 1 232 := ⟨by decide +kernel, rfl⟩
theorem x_law_law_232 : kt_dc i_law_law 232 (.iconst 2) 1 233 ∧ Int32.ofInt (2) = nI 2 := ⟨⟨by decide +kernel, rfl⟩, by decide⟩
theorem x_law_law_233 : kt_dc i_law_law 233 (.iadd) 1 234 := ⟨by decide +kernel, rfl⟩
theorem x_law_law_234 : kt_dc i_law_law 234 (.iaload) 1 235 := ⟨by decide +kernel, rfl⟩
theorem x_law_law_235 : kt_dc i_law_law 235 (.aload_n 0) 1 236 := ⟨by decide +kernel, rfl⟩
theorem x_law_law_236 : kt_dc i_law_law 236 (.iload_n 3) 1 237 := ⟨by decide +kernel, rfl⟩
theorem x_law_law_237 : kt_dc i_law_law 237 (.iconst 3) 1 238 ∧ Int32.ofInt (3) = nI 3 := ⟨⟨by decide +kernel, rfl⟩, by decide⟩
theorem x_law_law_238 : kt_dc i_law_law 238 (.iadd) 1 239 := ⟨by decide +kernel, rfl⟩
theorem x_law_law_239 : kt_dc i_law_law 239 (.iaload) 1 240 := ⟨by decide +kernel, rfl⟩
theorem x_law_law_240 : kt_dc i_law_law 240 (.aload_n 0) 1 241 := ⟨by decide +kernel, rfl⟩
theorem x_law_law_241 : kt_dc i_law_law 241 (.iload_n 3) 1 242 := ⟨by decide +kernel, rfl⟩
theorem x_law_law_242 : kt_dc i_law_law 242 (.iconst 4) 1 243 ∧ Int32.ofInt (4) = nI 4 := ⟨⟨by decide +kernel, rfl⟩, by decide⟩
theorem x_law_law_243 : kt_dc i_law_law 243 (.iadd) 1 244 := ⟨by decide +kernel, rfl⟩
theorem x_law_law_244 : kt_dc i_law_law 244 (.iaload) 1 245 := ⟨by decide +kernel, rfl⟩
theorem x_law_law_245 : kt_sV i_law_law 245 i_M_order 5 4 248 := ⟨27, ⟨by decide +kernel, rfl⟩, Or.inl (tw_666), j_M_order, ⟨tw_667, tw_668⟩, ⟨TX5, 18, rfl⟩, by decide, rfl⟩
theorem c_law_law_245 {P : kt_P} {NM : Nat} {L : List (Option Value)} {rest : List Value} {N : Nat} {I : kt_I} {J : kt_J} {R : kt_R} {Q : Option Value → kt_I → kt_J → kt_R → Prop} {b : Nat} {x0 : Int32} {x1 : Int32} {x2 : Int32} {x3 : Int32} (hkd : kt_kd P N b = (5, 0)) (hrest : (rest.map fun v => v.category).sum ≤ 8) (kk : KW P i_M_order N 0 [some (.ref b), some (.int x0), some (.int x1), some (.int x2), some (.int x3)] [] N I J R (fun v I' J' R' => KW P i_law_law NM 248 L (kt_pu v rest) N I' J' R' Q)) : KW P i_law_law NM 245 L (.int x3 :: .int x2 :: .int x1 :: .int x0 :: .ref b :: rest) N I J R Q := kw_callV x_law_law_245 (As := [.int x0, .int x1, .int x2, .int x3]) rfl rfl (Nat.le_of_ble_eq_true rfl) hrest hkd (Nat.le_refl N) (fun h => h) kk
theorem x_law_law_248 : kt_dj i_law_law 248 (.if_icmp .eq) 846 251 := ⟨598, by decide +kernel, by decide, rfl⟩
theorem x_law_law_251 : kt_dc i_law_law 251 (.iconst 0) 1 252 ∧ Int32.ofInt (0) = nI 0 := ⟨⟨by decide +kernel, rfl⟩, by decide⟩
theorem x_law_law_252 : kt_dc i_law_law 252 (.ireturn) 1 253 ∧ kt_rt i_law_law = (some .boolean) := ⟨⟨by decide +kernel, rfl⟩, rfl⟩
theorem x_law_law_253 : kt_dc i_law_law 253 (.aload_n 1) 1 254 := ⟨by decide +kernel, rfl⟩
theorem x_law_law_254 : kt_dc i_law_law 254 (.aload_n 0) 1 255 := ⟨by decide +kernel, rfl⟩
theorem x_law_law_255 : kt_dc i_law_law 255 (.iload_n 3) 1 256 := ⟨by decide +kernel, rfl⟩
theorem x_law_law_256 : kt_dc i_law_law 256 (.iconst 1) 1 257 ∧ Int32.ofInt (1) = nI 1 := ⟨⟨by decide +kernel, rfl⟩, by decide⟩
theorem x_law_law_257 : kt_dc i_law_law 257 (.iadd) 1 258 := ⟨by decide +kernel, rfl⟩
theorem x_law_law_258 : kt_dc i_law_law 258 (.iaload) 1 259 := ⟨by decide +kernel, rfl⟩
theorem x_law_law_259 : kt_dc i_law_law 259 (.aload_n 0) 1 260 := ⟨by decide +kernel, rfl⟩
theorem x_law_law_260 : kt_dc i_law_law 260 (.iload_n 3) 1 261 := ⟨by decide +kernel, rfl⟩
theorem x_law_law_261 : kt_dc i_law_law 261 (.iconst 2) 1 262 ∧ Int32.ofInt (2) = nI 2 := ⟨⟨by decide +kernel, rfl⟩, by decide⟩
theorem x_law_law_262 : kt_dc i_law_law 262 (.iadd) 1 263 := ⟨by decide +kernel, rfl⟩
theorem x_law_law_263 : kt_dc i_law_law 263 (.iaload) 1 264 := ⟨by decide +kernel, rfl⟩
theorem x_law_law_264 : kt_sV i_law_law 264 i_K_cancel 4 2 267 := ⟨28, ⟨by decide +kernel, rfl⟩, Or.inl (tw_304), j_K_cancel, ⟨tw_305, tw_306⟩, ⟨TX4, 5, rfl⟩, by decide, rfl⟩
theorem c_law_law_264 {P : kt_P} {NM : Nat} {L : List (Option Value)} {rest : List Value} {N : Nat} {I : kt_I} {J : kt_J} {R : kt_R} {Q : Option Value → kt_I → kt_J → kt_R → Prop} {b : Nat} {x0 : Int32} {x1 : Int32} (hkd : kt_kd P N b = (4, 0)) (hrest : (rest.map fun v => v.category).sum ≤ 8) (kk : KW P i_K_cancel N 0 [some (.ref b), some (.int x0), some (.int x1)] [] N I J R (fun v I' J' R' => KW P i_law_law NM 267 L (kt_pu v rest) N I' J' R' Q)) : KW P i_law_law NM 264 L (.int x1 :: .int x0 :: .ref b :: rest) N I J R Q := kw_callV x_law_law_264 (As := [.int x0, .int x1]) rfl rfl (Nat.le_of_ble_eq_true rfl) hrest hkd (Nat.le_refl N) (fun h => h) kk
theorem x_law_law_267 : kt_dc i_law_law 267 (.aload_n 2) 1 268 := ⟨by decide +kernel, rfl⟩
theorem x_law_law_268 : kt_dc i_law_law 268 (.aload_n 0) 1 269 := ⟨by decide +kernel, rfl⟩
theorem x_law_law_269 : kt_dc i_law_law 269 (.iload_n 3) 1 270 := ⟨by decide +kernel, rfl⟩
theorem x_law_law_270 : kt_dc i_law_law 270 (.iconst 1) 1 271 ∧ Int32.ofInt (1) = nI 1 := ⟨⟨by decide +kernel, rfl⟩, by decide⟩
theorem x_law_law_271 : kt_dc i_law_law 271 (.iadd) 1 272 := ⟨by decide +kernel, rfl⟩
theorem x_law_law_272 : kt_dc i_law_law 272 (.iaload) 1 273 := ⟨by decide +kernel, rfl⟩
theorem x_law_law_273 : kt_dc i_law_law 273 (.aload_n 0) 1 274 := ⟨by decide +kernel, rfl⟩
theorem x_law_law_274 : kt_dc i_law_law 274 (.iload_n 3) 1 275 := ⟨by decide +kernel, rfl⟩
theorem x_law_law_275 : kt_dc i_law_law 275 (.iconst 2) 1 276 ∧ Int32.ofInt (2) = nI 2 := ⟨⟨by decide +kernel, rfl⟩, by decide⟩
theorem x_law_law_276 : kt_dc i_law_law 276 (.iadd) 1 277 := ⟨by decide +kernel, rfl⟩
theorem x_law_law_277 : kt_dc i_law_law 277 (.iaload) 1 278 := ⟨by decide +kernel, rfl⟩
theorem x_law_law_278 : kt_sV i_law_law 278 i_M_cancel 5 2 281 := ⟨32, ⟨by decide +kernel, rfl⟩, Or.inl (tw_670), j_M_cancel, ⟨tw_671, tw_672⟩, ⟨TX5, 18, rfl⟩, by decide, rfl⟩
theorem c_law_law_278 {P : kt_P} {NM : Nat} {L : List (Option Value)} {rest : List Value} {N : Nat} {I : kt_I} {J : kt_J} {R : kt_R} {Q : Option Value → kt_I → kt_J → kt_R → Prop} {b : Nat} {x0 : Int32} {x1 : Int32} (hkd : kt_kd P N b = (5, 0)) (hrest : (rest.map fun v => v.category).sum ≤ 8) (kk : KW P i_M_cancel N 0 [some (.ref b), some (.int x0), some (.int x1)] [] N I J R (fun v I' J' R' => KW P i_law_law NM 281 L (kt_pu v rest) N I' J' R' Q)) : KW P i_law_law NM 278 L (.int x1 :: .int x0 :: .ref b :: rest) N I J R Q := kw_callV x_law_law_278 (As := [.int x0, .int x1]) rfl rfl (Nat.le_of_ble_eq_true rfl) hrest hkd (Nat.le_refl N) (fun h => h) kk
theorem x_law_law_281 : kt_dj i_law_law 281 (.if_icmp .eq) 846 284 := ⟨565, by decide +kernel, by decide, rfl⟩
theorem x_law_law_284 : kt_dc i_law_law 284 (.iconst 0) 1 285 ∧ Int32.ofInt (0) = nI 0 := ⟨⟨by decide +kernel, rfl⟩, by decide⟩
theorem x_law_law_285 : kt_dc i_law_law 285 (.ireturn) 1 286 ∧ kt_rt i_law_law = (some .boolean) := ⟨⟨by decide +kernel, rfl⟩, rfl⟩
theorem x_law_law_286 : kt_dc i_law_law 286 (.aload_n 1) 1 287 := ⟨by decide +kernel, rfl⟩
theorem x_law_law_287 : kt_dc i_law_law 287 (.aload_n 0) 1 288 := ⟨by decide +kernel, rfl⟩
theorem x_law_law_288 : kt_dc i_law_law 288 (.iload_n 3) 1 289 := ⟨by decide +kernel, rfl⟩
theorem x_law_law_289 : kt_dc i_law_law 289 (.iconst 1) 1 290 ∧ Int32.ofInt (1) = nI 1 := ⟨⟨by decide +kernel, rfl⟩, by decide⟩
theorem x_law_law_290 : kt_dc i_law_law 290 (.iadd) 1 291 := ⟨by decide +kernel, rfl⟩
theorem x_law_law_291 : kt_dc i_law_law 291 (.iaload) 1 292 := ⟨by decide +kernel, rfl⟩
theorem x_law_law_292 : kt_dc i_law_law 292 (.aload_n 0) 1 293 := ⟨by decide +kernel, rfl⟩
theorem x_law_law_293 : kt_dc i_law_law 293 (.iload_n 3) 1 294 := ⟨by decide +kernel, rfl⟩
theorem x_law_law_294 : kt_dc i_law_law 294 (.iconst 2) 1 295 ∧ Int32.ofInt (2) = nI 2 := ⟨⟨by decide +kernel, rfl⟩, by decide⟩
theorem x_law_law_295 : kt_dc i_law_law 295 (.iadd) 1 296 := ⟨by decide +kernel, rfl⟩
theorem x_law_law_296 : kt_dc i_law_law 296 (.iaload) 1 297 := ⟨by decide +kernel, rfl⟩
theorem x_law_law_297 : kt_sV i_law_law 297 i_K_meet 4 2 300 := ⟨33, ⟨by decide +kernel, rfl⟩, Or.inl (tw_318), j_K_meet, ⟨tw_319, tw_320⟩, ⟨TX4, 5, rfl⟩, by decide, rfl⟩
theorem c_law_law_297 {P : kt_P} {NM : Nat} {L : List (Option Value)} {rest : List Value} {N : Nat} {I : kt_I} {J : kt_J} {R : kt_R} {Q : Option Value → kt_I → kt_J → kt_R → Prop} {b : Nat} {x0 : Int32} {x1 : Int32} (hkd : kt_kd P N b = (4, 0)) (hrest : (rest.map fun v => v.category).sum ≤ 8) (kk : KW P i_K_meet N 0 [some (.ref b), some (.int x0), some (.int x1)] [] N I J R (fun v I' J' R' => KW P i_law_law NM 300 L (kt_pu v rest) N I' J' R' Q)) : KW P i_law_law NM 297 L (.int x1 :: .int x0 :: .ref b :: rest) N I J R Q := kw_callV x_law_law_297 (As := [.int x0, .int x1]) rfl rfl (Nat.le_of_ble_eq_true rfl) hrest hkd (Nat.le_refl N) (fun h => h) kk
theorem x_law_law_300 : kt_dc i_law_law 300 (.aload_n 2) 1 301 := ⟨by decide +kernel, rfl⟩
theorem x_law_law_301 : kt_dc i_law_law 301 (.aload_n 0) 1 302 := ⟨by decide +kernel, rfl⟩
theorem x_law_law_302 : kt_dc i_law_law 302 (.iload_n 3) 1 303 := ⟨by decide +kernel, rfl⟩
theorem x_law_law_303 : kt_dc i_law_law 303 (.iconst 1) 1 304 ∧ Int32.ofInt (1) = nI 1 := ⟨⟨by decide +kernel, rfl⟩, by decide⟩
theorem x_law_law_304 : kt_dc i_law_law 304 (.iadd) 1 305 := ⟨by decide +kernel, rfl⟩
theorem x_law_law_305 : kt_dc i_law_law 305 (.iaload) 1 306 := ⟨by decide +kernel, rfl⟩
theorem x_law_law_306 : kt_dc i_law_law 306 (.aload_n 0) 1 307 := ⟨by decide +kernel, rfl⟩
theorem x_law_law_307 : kt_dc i_law_law 307 (.iload_n 3) 1 308 := ⟨by decide +kernel, rfl⟩
theorem x_law_law_308 : kt_dc i_law_law 308 (.iconst 2) 1 309 ∧ Int32.ofInt (2) = nI 2 := ⟨⟨by decide +kernel, rfl⟩, by decide⟩
theorem x_law_law_309 : kt_dc i_law_law 309 (.iadd) 1 310 := ⟨by decide +kernel, rfl⟩
theorem x_law_law_310 : kt_dc i_law_law 310 (.iaload) 1 311 := ⟨by decide +kernel, rfl⟩
theorem x_law_law_311 : kt_sV i_law_law 311 i_M_meet 5 2 314 := ⟨36, ⟨by decide +kernel, rfl⟩, Or.inl (tw_678), j_M_meet, ⟨tw_679, tw_680⟩, ⟨TX5, 18, rfl⟩, by decide, rfl⟩
theorem c_law_law_311 {P : kt_P} {NM : Nat} {L : List (Option Value)} {rest : List Value} {N : Nat} {I : kt_I} {J : kt_J} {R : kt_R} {Q : Option Value → kt_I → kt_J → kt_R → Prop} {b : Nat} {x0 : Int32} {x1 : Int32} (hkd : kt_kd P N b = (5, 0)) (hrest : (rest.map fun v => v.category).sum ≤ 8) (kk : KW P i_M_meet N 0 [some (.ref b), some (.int x0), some (.int x1), none] [] N I J R (fun v I' J' R' => KW P i_law_law NM 314 L (kt_pu v rest) N I' J' R' Q)) : KW P i_law_law NM 311 L (.int x1 :: .int x0 :: .ref b :: rest) N I J R Q := kw_callV x_law_law_311 (As := [.int x0, .int x1]) rfl rfl (Nat.le_of_ble_eq_true rfl) hrest hkd (Nat.le_refl N) (fun h => h) kk
theorem x_law_law_314 : kt_dj i_law_law 314 (.if_icmp .eq) 846 317 := ⟨532, by decide +kernel, by decide, rfl⟩
theorem x_law_law_317 : kt_dc i_law_law 317 (.iconst 0) 1 318 ∧ Int32.ofInt (0) = nI 0 := ⟨⟨by decide +kernel, rfl⟩, by decide⟩
theorem x_law_law_318 : kt_dc i_law_law 318 (.ireturn) 1 319 ∧ kt_rt i_law_law = (some .boolean) := ⟨⟨by decide +kernel, rfl⟩, rfl⟩
theorem x_law_law_319 : kt_dc i_law_law 319 (.aload_n 1) 1 320 := ⟨by decide +kernel, rfl⟩
theorem x_law_law_320 : kt_dc i_law_law 320 (.aload_n 0) 1 321 := ⟨by decide +kernel, rfl⟩
theorem x_law_law_321 : kt_dc i_law_law 321 (.iload_n 3) 1 322 := ⟨by decide +kernel, rfl⟩
theorem x_law_law_322 : kt_dc i_law_law 322 (.iconst 1) 1 323 ∧ Int32.ofInt (1) = nI 1 := ⟨⟨by decide +kernel, rfl⟩, by decide⟩
theorem x_law_law_323 : kt_dc i_law_law 323 (.iadd) 1 324 := ⟨by decide +kernel, rfl⟩
theorem x_law_law_324 : kt_dc i_law_law 324 (.iaload) 1 325 := ⟨by decide +kernel, rfl⟩
theorem x_law_law_325 : kt_dc i_law_law 325 (.aload_n 0) 1 326 := ⟨by decide +kernel, rfl⟩
theorem x_law_law_326 : kt_dc i_law_law 326 (.iload_n 3) 1 327 := ⟨by decide +kernel, rfl⟩
theorem x_law_law_327 : kt_dc i_law_law 327 (.iconst 2) 1 328 ∧ Int32.ofInt (2) = nI 2 := ⟨⟨by decide +kernel, rfl⟩, by decide⟩
theorem x_law_law_328 : kt_dc i_law_law 328 (.iadd) 1 329 := ⟨by decide +kernel, rfl⟩
theorem x_law_law_329 : kt_dc i_law_law 329 (.iaload) 1 330 := ⟨by decide +kernel, rfl⟩
theorem x_law_law_330 : kt_sV i_law_law 330 i_K_hear 4 2 333 := ⟨37, ⟨by decide +kernel, rfl⟩, Or.inl (tw_344), j_K_hear, ⟨tw_345, tw_346⟩, ⟨TX4, 5, rfl⟩, by decide, rfl⟩
theorem c_law_law_330 {P : kt_P} {NM : Nat} {L : List (Option Value)} {rest : List Value} {N : Nat} {I : kt_I} {J : kt_J} {R : kt_R} {Q : Option Value → kt_I → kt_J → kt_R → Prop} {b : Nat} {x0 : Int32} {x1 : Int32} (hkd : kt_kd P N b = (4, 0)) (hrest : (rest.map fun v => v.category).sum ≤ 8) (kk : KW P i_K_hear N 0 [some (.ref b), some (.int x0), some (.int x1)] [] N I J R (fun v I' J' R' => KW P i_law_law NM 333 L (kt_pu v rest) N I' J' R' Q)) : KW P i_law_law NM 330 L (.int x1 :: .int x0 :: .ref b :: rest) N I J R Q := kw_callV x_law_law_330 (As := [.int x0, .int x1]) rfl rfl (Nat.le_of_ble_eq_true rfl) hrest hkd (Nat.le_refl N) (fun h => h) kk
theorem x_law_law_333 : kt_dc i_law_law 333 (.aload_n 2) 1 334 := ⟨by decide +kernel, rfl⟩
theorem x_law_law_334 : kt_dc i_law_law 334 (.aload_n 0) 1 335 := ⟨by decide +kernel, rfl⟩
theorem x_law_law_335 : kt_dc i_law_law 335 (.iload_n 3) 1 336 := ⟨by decide +kernel, rfl⟩
theorem x_law_law_336 : kt_dc i_law_law 336 (.iconst 1) 1 337 ∧ Int32.ofInt (1) = nI 1 := ⟨⟨by decide +kernel, rfl⟩, by decide⟩
theorem x_law_law_337 : kt_dc i_law_law 337 (.iadd) 1 338 := ⟨by decide +kernel, rfl⟩
theorem x_law_law_338 : kt_dc i_law_law 338 (.iaload) 1 339 := ⟨by decide +kernel, rfl⟩
theorem x_law_law_339 : kt_dc i_law_law 339 (.aload_n 0) 1 340 := ⟨by decide +kernel, rfl⟩
theorem x_law_law_340 : kt_dc i_law_law 340 (.iload_n 3) 1 341 := ⟨by decide +kernel, rfl⟩
theorem x_law_law_341 : kt_dc i_law_law 341 (.iconst 2) 1 342 ∧ Int32.ofInt (2) = nI 2 := ⟨⟨by decide +kernel, rfl⟩, by decide⟩
theorem x_law_law_342 : kt_dc i_law_law 342 (.iadd) 1 343 := ⟨by decide +kernel, rfl⟩
theorem x_law_law_343 : kt_dc i_law_law 343 (.iaload) 1 344 := ⟨by decide +kernel, rfl⟩
theorem x_law_law_344 : kt_sV i_law_law 344 i_M_hear 5 2 347 := ⟨40, ⟨by decide +kernel, rfl⟩, Or.inl (tw_686), j_M_hear, ⟨tw_687, tw_688⟩, ⟨TX5, 18, rfl⟩, by decide, rfl⟩
theorem c_law_law_344 {P : kt_P} {NM : Nat} {L : List (Option Value)} {rest : List Value} {N : Nat} {I : kt_I} {J : kt_J} {R : kt_R} {Q : Option Value → kt_I → kt_J → kt_R → Prop} {b : Nat} {x0 : Int32} {x1 : Int32} (hkd : kt_kd P N b = (5, 0)) (hrest : (rest.map fun v => v.category).sum ≤ 8) (kk : KW P i_M_hear N 0 [some (.ref b), some (.int x0), some (.int x1), none] [] N I J R (fun v I' J' R' => KW P i_law_law NM 347 L (kt_pu v rest) N I' J' R' Q)) : KW P i_law_law NM 344 L (.int x1 :: .int x0 :: .ref b :: rest) N I J R Q := kw_callV x_law_law_344 (As := [.int x0, .int x1]) rfl rfl (Nat.le_of_ble_eq_true rfl) hrest hkd (Nat.le_refl N) (fun h => h) kk
theorem x_law_law_347 : kt_dj i_law_law 347 (.if_icmp .eq) 846 350 := ⟨499, by decide +kernel, by decide, rfl⟩
theorem x_law_law_350 : kt_dc i_law_law 350 (.iconst 0) 1 351 ∧ Int32.ofInt (0) = nI 0 := ⟨⟨by decide +kernel, rfl⟩, by decide⟩
theorem x_law_law_351 : kt_dc i_law_law 351 (.ireturn) 1 352 ∧ kt_rt i_law_law = (some .boolean) := ⟨⟨by decide +kernel, rfl⟩, rfl⟩
theorem x_law_law_352 : kt_dc i_law_law 352 (.aload_n 1) 1 353 := ⟨by decide +kernel, rfl⟩
theorem x_law_law_353 : kt_dc i_law_law 353 (.aload_n 0) 1 354 := ⟨by decide +kernel, rfl⟩
theorem x_law_law_354 : kt_dc i_law_law 354 (.iload_n 3) 1 355 := ⟨by decide +kernel, rfl⟩
theorem x_law_law_355 : kt_dc i_law_law 355 (.iconst 1) 1 356 ∧ Int32.ofInt (1) = nI 1 := ⟨⟨by decide +kernel, rfl⟩, by decide⟩
theorem x_law_law_356 : kt_dc i_law_law 356 (.iadd) 1 357 := ⟨by decide +kernel, rfl⟩
theorem x_law_law_357 : kt_dc i_law_law 357 (.iaload) 1 358 := ⟨by decide +kernel, rfl⟩
theorem x_law_law_358 : kt_sV i_law_law 358 i_K_rule 4 1 361 := ⟨41, ⟨by decide +kernel, rfl⟩, Or.inl (tw_349), j_K_rule, ⟨tw_350, tw_351⟩, ⟨TX4, 5, rfl⟩, by decide, rfl⟩
theorem c_law_law_358 {P : kt_P} {NM : Nat} {L : List (Option Value)} {rest : List Value} {N : Nat} {I : kt_I} {J : kt_J} {R : kt_R} {Q : Option Value → kt_I → kt_J → kt_R → Prop} {b : Nat} {x0 : Int32} (hkd : kt_kd P N b = (4, 0)) (hrest : (rest.map fun v => v.category).sum ≤ 8) (kk : KW P i_K_rule N 0 [some (.ref b), some (.int x0)] [] N I J R (fun v I' J' R' => KW P i_law_law NM 361 L (kt_pu v rest) N I' J' R' Q)) : KW P i_law_law NM 358 L (.int x0 :: .ref b :: rest) N I J R Q := kw_callV x_law_law_358 (As := [.int x0]) rfl rfl (Nat.le_of_ble_eq_true rfl) hrest hkd (Nat.le_refl N) (fun h => h) kk
theorem x_law_law_361 : kt_dc i_law_law 361 (.aload_n 2) 1 362 := ⟨by decide +kernel, rfl⟩
theorem x_law_law_362 : kt_dc i_law_law 362 (.aload_n 0) 1 363 := ⟨by decide +kernel, rfl⟩
theorem x_law_law_363 : kt_dc i_law_law 363 (.iload_n 3) 1 364 := ⟨by decide +kernel, rfl⟩
theorem x_law_law_364 : kt_dc i_law_law 364 (.iconst 1) 1 365 ∧ Int32.ofInt (1) = nI 1 := ⟨⟨by decide +kernel, rfl⟩, by decide⟩
theorem x_law_law_365 : kt_dc i_law_law 365 (.iadd) 1 366 := ⟨by decide +kernel, rfl⟩
theorem x_law_law_366 : kt_dc i_law_law 366 (.iaload) 1 367 := ⟨by decide +kernel, rfl⟩
theorem x_law_law_367 : kt_sV i_law_law 367 i_M_rule 5 1 370 := ⟨45, ⟨by decide +kernel, rfl⟩, Or.inl (tw_690), j_M_rule, ⟨tw_691, tw_692⟩, ⟨TX5, 18, rfl⟩, by decide, rfl⟩
theorem c_law_law_367 {P : kt_P} {NM : Nat} {L : List (Option Value)} {rest : List Value} {N : Nat} {I : kt_I} {J : kt_J} {R : kt_R} {Q : Option Value → kt_I → kt_J → kt_R → Prop} {b : Nat} {x0 : Int32} (hkd : kt_kd P N b = (5, 0)) (hrest : (rest.map fun v => v.category).sum ≤ 8) (kk : KW P i_M_rule N 0 [some (.ref b), some (.int x0), none] [] N I J R (fun v I' J' R' => KW P i_law_law NM 370 L (kt_pu v rest) N I' J' R' Q)) : KW P i_law_law NM 367 L (.int x0 :: .ref b :: rest) N I J R Q := kw_callV x_law_law_367 (As := [.int x0]) rfl rfl (Nat.le_of_ble_eq_true rfl) hrest hkd (Nat.le_refl N) (fun h => h) kk
theorem x_law_law_370 : kt_dj i_law_law 370 (.if_icmp .eq) 846 373 := ⟨476, by decide +kernel, by decide, rfl⟩
theorem x_law_law_373 : kt_dc i_law_law 373 (.iconst 0) 1 374 ∧ Int32.ofInt (0) = nI 0 := ⟨⟨by decide +kernel, rfl⟩, by decide⟩
theorem x_law_law_374 : kt_dc i_law_law 374 (.ireturn) 1 375 ∧ kt_rt i_law_law = (some .boolean) := ⟨⟨by decide +kernel, rfl⟩, rfl⟩
theorem x_law_law_375 : kt_dc i_law_law 375 (.aload_n 1) 1 376 := ⟨by decide +kernel, rfl⟩
theorem x_law_law_376 : kt_dc i_law_law 376 (.aload_n 0) 1 377 := ⟨by decide +kernel, rfl⟩
theorem x_law_law_377 : kt_dc i_law_law 377 (.iload_n 3) 1 378 := ⟨by decide +kernel, rfl⟩
theorem x_law_law_378 : kt_dc i_law_law 378 (.iconst 1) 1 379 ∧ Int32.ofInt (1) = nI 1 := ⟨⟨by decide +kernel, rfl⟩, by decide⟩
theorem x_law_law_379 : kt_dc i_law_law 379 (.iadd) 1 380 := ⟨by decide +kernel, rfl⟩
theorem x_law_law_380 : kt_dc i_law_law 380 (.iaload) 1 381 := ⟨by decide +kernel, rfl⟩
theorem x_law_law_381 : kt_dc i_law_law 381 (.aload_n 0) 1 382 := ⟨by decide +kernel, rfl⟩
theorem x_law_law_382 : kt_dc i_law_law 382 (.iload_n 3) 1 383 := ⟨by decide +kernel, rfl⟩
theorem x_law_law_383 : kt_dc i_law_law 383 (.iconst 2) 1 384 ∧ Int32.ofInt (2) = nI 2 := ⟨⟨by decide +kernel, rfl⟩, by decide⟩
theorem x_law_law_384 : kt_dc i_law_law 384 (.iadd) 1 385 := ⟨by decide +kernel, rfl⟩
theorem x_law_law_385 : kt_dc i_law_law 385 (.iaload) 1 386 := ⟨by decide +kernel, rfl⟩
theorem x_law_law_386 : kt_sV i_law_law 386 i_K_eventOf 4 2 389 := ⟨46, ⟨by decide +kernel, rfl⟩, Or.inl (tw_357), j_K_eventOf, ⟨tw_358, tw_359⟩, ⟨TX4, 5, rfl⟩, by decide, rfl⟩
theorem c_law_law_386 {P : kt_P} {NM : Nat} {L : List (Option Value)} {rest : List Value} {N : Nat} {I : kt_I} {J : kt_J} {R : kt_R} {Q : Option Value → kt_I → kt_J → kt_R → Prop} {b : Nat} {x0 : Int32} {x1 : Int32} (hkd : kt_kd P N b = (4, 0)) (hrest : (rest.map fun v => v.category).sum ≤ 8) (kk : KW P i_K_eventOf N 0 [some (.ref b), some (.int x0), some (.int x1), none] [] N I J R (fun v I' J' R' => KW P i_law_law NM 389 L (kt_pu v rest) N I' J' R' Q)) : KW P i_law_law NM 386 L (.int x1 :: .int x0 :: .ref b :: rest) N I J R Q := kw_callV x_law_law_386 (As := [.int x0, .int x1]) rfl rfl (Nat.le_of_ble_eq_true rfl) hrest hkd (Nat.le_refl N) (fun h => h) kk
theorem x_law_law_389 : kt_dc i_law_law 389 (.aload_n 2) 1 390 := ⟨by decide +kernel, rfl⟩
theorem x_law_law_390 : kt_dc i_law_law 390 (.aload_n 0) 1 391 := ⟨by decide +kernel, rfl⟩
theorem x_law_law_391 : kt_dc i_law_law 391 (.iload_n 3) 1 392 := ⟨by decide +kernel, rfl⟩
theorem x_law_law_392 : kt_dc i_law_law 392 (.iconst 1) 1 393 ∧ Int32.ofInt (1) = nI 1 := ⟨⟨by decide +kernel, rfl⟩, by decide⟩
theorem x_law_law_393 : kt_dc i_law_law 393 (.iadd) 1 394 := ⟨by decide +kernel, rfl⟩
theorem x_law_law_394 : kt_dc i_law_law 394 (.iaload) 1 395 := ⟨by decide +kernel, rfl⟩
theorem x_law_law_395 : kt_dc i_law_law 395 (.aload_n 0) 1 396 := ⟨by decide +kernel, rfl⟩
theorem x_law_law_396 : kt_dc i_law_law 396 (.iload_n 3) 1 397 := ⟨by decide +kernel, rfl⟩
theorem x_law_law_397 : kt_dc i_law_law 397 (.iconst 2) 1 398 ∧ Int32.ofInt (2) = nI 2 := ⟨⟨by decide +kernel, rfl⟩, by decide⟩
theorem x_law_law_398 : kt_dc i_law_law 398 (.iadd) 1 399 := ⟨by decide +kernel, rfl⟩
theorem x_law_law_399 : kt_dc i_law_law 399 (.iaload) 1 400 := ⟨by decide +kernel, rfl⟩
theorem x_law_law_400 : kt_sV i_law_law 400 i_M_eventOf 5 2 403 := ⟨49, ⟨by decide +kernel, rfl⟩, Or.inl (tw_694), j_M_eventOf, ⟨tw_695, tw_696⟩, ⟨TX5, 18, rfl⟩, by decide, rfl⟩
theorem c_law_law_400 {P : kt_P} {NM : Nat} {L : List (Option Value)} {rest : List Value} {N : Nat} {I : kt_I} {J : kt_J} {R : kt_R} {Q : Option Value → kt_I → kt_J → kt_R → Prop} {b : Nat} {x0 : Int32} {x1 : Int32} (hkd : kt_kd P N b = (5, 0)) (hrest : (rest.map fun v => v.category).sum ≤ 8) (kk : KW P i_M_eventOf N 0 [some (.ref b), some (.int x0), some (.int x1)] [] N I J R (fun v I' J' R' => KW P i_law_law NM 403 L (kt_pu v rest) N I' J' R' Q)) : KW P i_law_law NM 400 L (.int x1 :: .int x0 :: .ref b :: rest) N I J R Q := kw_callV x_law_law_400 (As := [.int x0, .int x1]) rfl rfl (Nat.le_of_ble_eq_true rfl) hrest hkd (Nat.le_refl N) (fun h => h) kk
theorem x_law_law_403 : kt_dj i_law_law 403 (.if_icmp .eq) 846 406 := ⟨443, by decide +kernel, by decide, rfl⟩
theorem x_law_law_406 : kt_dc i_law_law 406 (.iconst 0) 1 407 ∧ Int32.ofInt (0) = nI 0 := ⟨⟨by decide +kernel, rfl⟩, by decide⟩
theorem x_law_law_407 : kt_dc i_law_law 407 (.ireturn) 1 408 ∧ kt_rt i_law_law = (some .boolean) := ⟨⟨by decide +kernel, rfl⟩, rfl⟩
theorem x_law_law_408 : kt_dc i_law_law 408 (.aload_n 1) 1 409 := ⟨by decide +kernel, rfl⟩
theorem x_law_law_409 : kt_dc i_law_law 409 (.aload_n 0) 1 410 := ⟨by decide +kernel, rfl⟩
theorem x_law_law_410 : kt_dc i_law_law 410 (.iload_n 3) 1 411 := ⟨by decide +kernel, rfl⟩
theorem x_law_law_411 : kt_dc i_law_law 411 (.iconst 1) 1 412 ∧ Int32.ofInt (1) = nI 1 := ⟨⟨by decide +kernel, rfl⟩, by decide⟩
theorem x_law_law_412 : kt_dc i_law_law 412 (.iadd) 1 413 := ⟨by decide +kernel, rfl⟩
theorem x_law_law_413 : kt_dc i_law_law 413 (.iaload) 1 414 := ⟨by decide +kernel, rfl⟩
theorem x_law_law_414 : kt_dc i_law_law 414 (.aload_n 0) 1 415 := ⟨by decide +kernel, rfl⟩
theorem x_law_law_415 : kt_dc i_law_law 415 (.iload_n 3) 1 416 := ⟨by decide +kernel, rfl⟩
theorem x_law_law_416 : kt_dc i_law_law 416 (.iconst 2) 1 417 ∧ Int32.ofInt (2) = nI 2 := ⟨⟨by decide +kernel, rfl⟩, by decide⟩
theorem x_law_law_417 : kt_dc i_law_law 417 (.iadd) 1 418 := ⟨by decide +kernel, rfl⟩
theorem x_law_law_418 : kt_dc i_law_law 418 (.iaload) 1 419 := ⟨by decide +kernel, rfl⟩
theorem x_law_law_419 : kt_sV i_law_law 419 i_K_thinks 4 2 422 := ⟨50, ⟨by decide +kernel, rfl⟩, Or.inl (tw_365), j_K_thinks, ⟨tw_366, tw_367⟩, ⟨TX4, 5, rfl⟩, by decide, rfl⟩
theorem c_law_law_419 {P : kt_P} {NM : Nat} {L : List (Option Value)} {rest : List Value} {N : Nat} {I : kt_I} {J : kt_J} {R : kt_R} {Q : Option Value → kt_I → kt_J → kt_R → Prop} {b : Nat} {x0 : Int32} {x1 : Int32} (hkd : kt_kd P N b = (4, 0)) (hrest : (rest.map fun v => v.category).sum ≤ 8) (kk : KW P i_K_thinks N 0 [some (.ref b), some (.int x0), some (.int x1)] [] N I J R (fun v I' J' R' => KW P i_law_law NM 422 L (kt_pu v rest) N I' J' R' Q)) : KW P i_law_law NM 419 L (.int x1 :: .int x0 :: .ref b :: rest) N I J R Q := kw_callV x_law_law_419 (As := [.int x0, .int x1]) rfl rfl (Nat.le_of_ble_eq_true rfl) hrest hkd (Nat.le_refl N) (fun h => h) kk
theorem x_law_law_422 : kt_dc i_law_law 422 (.aload_n 2) 1 423 := ⟨by decide +kernel, rfl⟩
theorem x_law_law_423 : kt_dc i_law_law 423 (.aload_n 0) 1 424 := ⟨by decide +kernel, rfl⟩
theorem x_law_law_424 : kt_dc i_law_law 424 (.iload_n 3) 1 425 := ⟨by decide +kernel, rfl⟩
theorem x_law_law_425 : kt_dc i_law_law 425 (.iconst 1) 1 426 ∧ Int32.ofInt (1) = nI 1 := ⟨⟨by decide +kernel, rfl⟩, by decide⟩
theorem x_law_law_426 : kt_dc i_law_law 426 (.iadd) 1 427 := ⟨by decide +kernel, rfl⟩
theorem x_law_law_427 : kt_dc i_law_law 427 (.iaload) 1 428 := ⟨by decide +kernel, rfl⟩
theorem x_law_law_428 : kt_dc i_law_law 428 (.aload_n 0) 1 429 := ⟨by decide +kernel, rfl⟩
theorem x_law_law_429 : kt_dc i_law_law 429 (.iload_n 3) 1 430 := ⟨by decide +kernel, rfl⟩
theorem x_law_law_430 : kt_dc i_law_law 430 (.iconst 2) 1 431 ∧ Int32.ofInt (2) = nI 2 := ⟨⟨by decide +kernel, rfl⟩, by decide⟩
theorem x_law_law_431 : kt_dc i_law_law 431 (.iadd) 1 432 := ⟨by decide +kernel, rfl⟩
theorem x_law_law_432 : kt_dc i_law_law 432 (.iaload) 1 433 := ⟨by decide +kernel, rfl⟩
theorem x_law_law_433 : kt_sV i_law_law 433 i_M_thinks 5 2 436 := ⟨53, ⟨by decide +kernel, rfl⟩, Or.inl (tw_698), j_M_thinks, ⟨tw_699, tw_700⟩, ⟨TX5, 18, rfl⟩, by decide, rfl⟩
theorem c_law_law_433 {P : kt_P} {NM : Nat} {L : List (Option Value)} {rest : List Value} {N : Nat} {I : kt_I} {J : kt_J} {R : kt_R} {Q : Option Value → kt_I → kt_J → kt_R → Prop} {b : Nat} {x0 : Int32} {x1 : Int32} (hkd : kt_kd P N b = (5, 0)) (hrest : (rest.map fun v => v.category).sum ≤ 8) (kk : KW P i_M_thinks N 0 [some (.ref b), some (.int x0), some (.int x1)] [] N I J R (fun v I' J' R' => KW P i_law_law NM 436 L (kt_pu v rest) N I' J' R' Q)) : KW P i_law_law NM 433 L (.int x1 :: .int x0 :: .ref b :: rest) N I J R Q := kw_callV x_law_law_433 (As := [.int x0, .int x1]) rfl rfl (Nat.le_of_ble_eq_true rfl) hrest hkd (Nat.le_refl N) (fun h => h) kk
theorem x_law_law_436 : kt_dj i_law_law 436 (.if_icmp .eq) 846 439 := ⟨410, by decide +kernel, by decide, rfl⟩
theorem x_law_law_439 : kt_dc i_law_law 439 (.iconst 0) 1 440 ∧ Int32.ofInt (0) = nI 0 := ⟨⟨by decide +kernel, rfl⟩, by decide⟩
theorem x_law_law_440 : kt_dc i_law_law 440 (.ireturn) 1 441 ∧ kt_rt i_law_law = (some .boolean) := ⟨⟨by decide +kernel, rfl⟩, rfl⟩
theorem x_law_law_441 : kt_dc i_law_law 441 (.aload_n 1) 1 442 := ⟨by decide +kernel, rfl⟩
theorem x_law_law_442 : kt_dc i_law_law 442 (.aload_n 0) 1 443 := ⟨by decide +kernel, rfl⟩
theorem x_law_law_443 : kt_dc i_law_law 443 (.iload_n 3) 1 444 := ⟨by decide +kernel, rfl⟩
theorem x_law_law_444 : kt_dc i_law_law 444 (.iconst 1) 1 445 ∧ Int32.ofInt (1) = nI 1 := ⟨⟨by decide +kernel, rfl⟩, by decide⟩
theorem x_law_law_445 : kt_dc i_law_law 445 (.iadd) 1 446 := ⟨by decide +kernel, rfl⟩
theorem x_law_law_446 : kt_dc i_law_law 446 (.iaload) 1 447 := ⟨by decide +kernel, rfl⟩
theorem x_law_law_447 : kt_dc i_law_law 447 (.aload_n 0) 1 448 := ⟨by decide +kernel, rfl⟩
theorem x_law_law_448 : kt_dc i_law_law 448 (.iload_n 3) 1 449 := ⟨by decide +kernel, rfl⟩
theorem x_law_law_449 : kt_dc i_law_law 449 (.iconst 2) 1 450 ∧ Int32.ofInt (2) = nI 2 := ⟨⟨by decide +kernel, rfl⟩, by decide⟩
theorem x_law_law_450 : kt_dc i_law_law 450 (.iadd) 1 451 := ⟨by decide +kernel, rfl⟩
theorem x_law_law_451 : kt_dc i_law_law 451 (.iaload) 1 452 := ⟨by decide +kernel, rfl⟩
theorem x_law_law_452 : kt_sV i_law_law 452 i_K_townOf 4 2 455 := ⟨54, ⟨by decide +kernel, rfl⟩, Or.inl (tw_371), j_K_townOf, ⟨tw_372, tw_373⟩, ⟨TX4, 5, rfl⟩, by decide, rfl⟩
theorem c_law_law_452 {P : kt_P} {NM : Nat} {L : List (Option Value)} {rest : List Value} {N : Nat} {I : kt_I} {J : kt_J} {R : kt_R} {Q : Option Value → kt_I → kt_J → kt_R → Prop} {b : Nat} {x0 : Int32} {x1 : Int32} (hkd : kt_kd P N b = (4, 0)) (hrest : (rest.map fun v => v.category).sum ≤ 8) (kk : KW P i_K_townOf N 0 [some (.ref b), some (.int x0), some (.int x1)] [] N I J R (fun v I' J' R' => KW P i_law_law NM 455 L (kt_pu v rest) N I' J' R' Q)) : KW P i_law_law NM 452 L (.int x1 :: .int x0 :: .ref b :: rest) N I J R Q := kw_callV x_law_law_452 (As := [.int x0, .int x1]) rfl rfl (Nat.le_of_ble_eq_true rfl) hrest hkd (Nat.le_refl N) (fun h => h) kk
theorem x_law_law_455 : kt_dc i_law_law 455 (.aload_n 2) 1 456 := ⟨by decide +kernel, rfl⟩
theorem x_law_law_456 : kt_dc i_law_law 456 (.aload_n 0) 1 457 := ⟨by decide +kernel, rfl⟩
theorem x_law_law_457 : kt_dc i_law_law 457 (.iload_n 3) 1 458 := ⟨by decide +kernel, rfl⟩
theorem x_law_law_458 : kt_dc i_law_law 458 (.iconst 1) 1 459 ∧ Int32.ofInt (1) = nI 1 := ⟨⟨by decide +kernel, rfl⟩, by decide⟩
theorem x_law_law_459 : kt_dc i_law_law 459 (.iadd) 1 460 := ⟨by decide +kernel, rfl⟩
theorem x_law_law_460 : kt_dc i_law_law 460 (.iaload) 1 461 := ⟨by decide +kernel, rfl⟩
theorem x_law_law_461 : kt_dc i_law_law 461 (.aload_n 0) 1 462 := ⟨by decide +kernel, rfl⟩
theorem x_law_law_462 : kt_dc i_law_law 462 (.iload_n 3) 1 463 := ⟨by decide +kernel, rfl⟩
theorem x_law_law_463 : kt_dc i_law_law 463 (.iconst 2) 1 464 ∧ Int32.ofInt (2) = nI 2 := ⟨⟨by decide +kernel, rfl⟩, by decide⟩
theorem x_law_law_464 : kt_dc i_law_law 464 (.iadd) 1 465 := ⟨by decide +kernel, rfl⟩
theorem x_law_law_465 : kt_dc i_law_law 465 (.iaload) 1 466 := ⟨by decide +kernel, rfl⟩
theorem x_law_law_466 : kt_sV i_law_law 466 i_M_townOf 5 2 469 := ⟨57, ⟨by decide +kernel, rfl⟩, Or.inl (tw_702), j_M_townOf, ⟨tw_703, tw_704⟩, ⟨TX5, 18, rfl⟩, by decide, rfl⟩
theorem c_law_law_466 {P : kt_P} {NM : Nat} {L : List (Option Value)} {rest : List Value} {N : Nat} {I : kt_I} {J : kt_J} {R : kt_R} {Q : Option Value → kt_I → kt_J → kt_R → Prop} {b : Nat} {x0 : Int32} {x1 : Int32} (hkd : kt_kd P N b = (5, 0)) (hrest : (rest.map fun v => v.category).sum ≤ 8) (kk : KW P i_M_townOf N 0 [some (.ref b), some (.int x0), some (.int x1)] [] N I J R (fun v I' J' R' => KW P i_law_law NM 469 L (kt_pu v rest) N I' J' R' Q)) : KW P i_law_law NM 466 L (.int x1 :: .int x0 :: .ref b :: rest) N I J R Q := kw_callV x_law_law_466 (As := [.int x0, .int x1]) rfl rfl (Nat.le_of_ble_eq_true rfl) hrest hkd (Nat.le_refl N) (fun h => h) kk
theorem x_law_law_469 : kt_dj i_law_law 469 (.if_icmp .eq) 846 472 := ⟨377, by decide +kernel, by decide, rfl⟩
theorem x_law_law_472 : kt_dc i_law_law 472 (.iconst 0) 1 473 ∧ Int32.ofInt (0) = nI 0 := ⟨⟨by decide +kernel, rfl⟩, by decide⟩
theorem x_law_law_473 : kt_dc i_law_law 473 (.ireturn) 1 474 ∧ kt_rt i_law_law = (some .boolean) := ⟨⟨by decide +kernel, rfl⟩, rfl⟩
theorem x_law_law_474 : kt_dc i_law_law 474 (.aload_n 1) 1 475 := ⟨by decide +kernel, rfl⟩
theorem x_law_law_475 : kt_dc i_law_law 475 (.aload_n 0) 1 476 := ⟨by decide +kernel, rfl⟩
theorem x_law_law_476 : kt_dc i_law_law 476 (.iload_n 3) 1 477 := ⟨by decide +kernel, rfl⟩
theorem x_law_law_477 : kt_dc i_law_law 477 (.iconst 1) 1 478 ∧ Int32.ofInt (1) = nI 1 := ⟨⟨by decide +kernel, rfl⟩, by decide⟩
theorem x_law_law_478 : kt_dc i_law_law 478 (.iadd) 1 479 := ⟨by decide +kernel, rfl⟩
theorem x_law_law_479 : kt_dc i_law_law 479 (.iaload) 1 480 := ⟨by decide +kernel, rfl⟩
theorem x_law_law_480 : kt_dc i_law_law 480 (.aload_n 0) 1 481 := ⟨by decide +kernel, rfl⟩
theorem x_law_law_481 : kt_dc i_law_law 481 (.iload_n 3) 1 482 := ⟨by decide +kernel, rfl⟩
theorem x_law_law_482 : kt_dc i_law_law 482 (.iconst 2) 1 483 ∧ Int32.ofInt (2) = nI 2 := ⟨⟨by decide +kernel, rfl⟩, by decide⟩
theorem x_law_law_483 : kt_dc i_law_law 483 (.iadd) 1 484 := ⟨by decide +kernel, rfl⟩
theorem x_law_law_484 : kt_dc i_law_law 484 (.iaload) 1 485 := ⟨by decide +kernel, rfl⟩
theorem x_law_law_485 : kt_dc i_law_law 485 (.aload_n 0) 1 486 := ⟨by decide +kernel, rfl⟩
theorem x_law_law_486 : kt_dc i_law_law 486 (.iload_n 3) 1 487 := ⟨by decide +kernel, rfl⟩
theorem x_law_law_487 : kt_dc i_law_law 487 (.iconst 3) 1 488 ∧ Int32.ofInt (3) = nI 3 := ⟨⟨by decide +kernel, rfl⟩, by decide⟩
theorem x_law_law_488 : kt_dc i_law_law 488 (.iadd) 1 489 := ⟨by decide +kernel, rfl⟩
theorem x_law_law_489 : kt_dc i_law_law 489 (.iaload) 1 490 := ⟨by decide +kernel, rfl⟩
theorem x_law_law_490 : kt_sV i_law_law 490 i_K_goodOf 4 3 493 := ⟨58, ⟨by decide +kernel, rfl⟩, Or.inl (tw_385), j_K_goodOf, ⟨tw_386, tw_387⟩, ⟨TX4, 5, rfl⟩, by decide, rfl⟩
theorem c_law_law_490 {P : kt_P} {NM : Nat} {L : List (Option Value)} {rest : List Value} {N : Nat} {I : kt_I} {J : kt_J} {R : kt_R} {Q : Option Value → kt_I → kt_J → kt_R → Prop} {b : Nat} {x0 : Int32} {x1 : Int32} {x2 : Int32} (hkd : kt_kd P N b = (4, 0)) (hrest : (rest.map fun v => v.category).sum ≤ 8) (kk : KW P i_K_goodOf N 0 [some (.ref b), some (.int x0), some (.int x1), some (.int x2), none, none, none, none, none] [] N I J R (fun v I' J' R' => KW P i_law_law NM 493 L (kt_pu v rest) N I' J' R' Q)) : KW P i_law_law NM 490 L (.int x2 :: .int x1 :: .int x0 :: .ref b :: rest) N I J R Q := kw_callV x_law_law_490 (As := [.int x0, .int x1, .int x2]) rfl rfl (Nat.le_of_ble_eq_true rfl) hrest hkd (Nat.le_refl N) (fun h => h) kk
theorem x_law_law_493 : kt_dc i_law_law 493 (.aload_n 2) 1 494 := ⟨by decide +kernel, rfl⟩
theorem x_law_law_494 : kt_dc i_law_law 494 (.aload_n 0) 1 495 := ⟨by decide +kernel, rfl⟩
theorem x_law_law_495 : kt_dc i_law_law 495 (.iload_n 3) 1 496 := ⟨by decide +kernel, rfl⟩
theorem x_law_law_496 : kt_dc i_law_law 496 (.iconst 1) 1 497 ∧ Int32.ofInt (1) = nI 1 := ⟨⟨by decide +kernel, rfl⟩, by decide⟩
theorem x_law_law_497 : kt_dc i_law_law 497 (.iadd) 1 498 := ⟨by decide +kernel, rfl⟩
theorem x_law_law_498 : kt_dc i_law_law 498 (.iaload) 1 499 := ⟨by decide +kernel, rfl⟩
theorem x_law_law_499 : kt_dc i_law_law 499 (.aload_n 0) 1 500 := ⟨by decide +kernel, rfl⟩
theorem x_law_law_500 : kt_dc i_law_law 500 (.iload_n 3) 1 501 := ⟨by decide +kernel, rfl⟩
theorem x_law_law_501 : kt_dc i_law_law 501 (.iconst 2) 1 502 ∧ Int32.ofInt (2) = nI 2 := ⟨⟨by decide +kernel, rfl⟩, by decide⟩
theorem x_law_law_502 : kt_dc i_law_law 502 (.iadd) 1 503 := ⟨by decide +kernel, rfl⟩
theorem x_law_law_503 : kt_dc i_law_law 503 (.iaload) 1 504 := ⟨by decide +kernel, rfl⟩
theorem x_law_law_504 : kt_dc i_law_law 504 (.aload_n 0) 1 505 := ⟨by decide +kernel, rfl⟩
theorem x_law_law_505 : kt_dc i_law_law 505 (.iload_n 3) 1 506 := ⟨by decide +kernel, rfl⟩
theorem x_law_law_506 : kt_dc i_law_law 506 (.iconst 3) 1 507 ∧ Int32.ofInt (3) = nI 3 := ⟨⟨by decide +kernel, rfl⟩, by decide⟩
theorem x_law_law_507 : kt_dc i_law_law 507 (.iadd) 1 508 := ⟨by decide +kernel, rfl⟩
theorem x_law_law_508 : kt_dc i_law_law 508 (.iaload) 1 509 := ⟨by decide +kernel, rfl⟩
theorem x_law_law_509 : kt_sV i_law_law 509 i_M_goodOf 5 3 512 := ⟨61, ⟨by decide +kernel, rfl⟩, Or.inl (tw_726), j_M_goodOf, ⟨tw_727, tw_728⟩, ⟨TX5, 18, rfl⟩, by decide, rfl⟩
theorem c_law_law_509 {P : kt_P} {NM : Nat} {L : List (Option Value)} {rest : List Value} {N : Nat} {I : kt_I} {J : kt_J} {R : kt_R} {Q : Option Value → kt_I → kt_J → kt_R → Prop} {b : Nat} {x0 : Int32} {x1 : Int32} {x2 : Int32} (hkd : kt_kd P N b = (5, 0)) (hrest : (rest.map fun v => v.category).sum ≤ 8) (kk : KW P i_M_goodOf N 0 [some (.ref b), some (.int x0), some (.int x1), some (.int x2), none, none, none] [] N I J R (fun v I' J' R' => KW P i_law_law NM 512 L (kt_pu v rest) N I' J' R' Q)) : KW P i_law_law NM 509 L (.int x2 :: .int x1 :: .int x0 :: .ref b :: rest) N I J R Q := kw_callV x_law_law_509 (As := [.int x0, .int x1, .int x2]) rfl rfl (Nat.le_of_ble_eq_true rfl) hrest hkd (Nat.le_refl N) (fun h => h) kk
theorem x_law_law_512 : kt_dj i_law_law 512 (.if_icmp .eq) 846 515 := ⟨334, by decide +kernel, by decide, rfl⟩
theorem x_law_law_515 : kt_dc i_law_law 515 (.iconst 0) 1 516 ∧ Int32.ofInt (0) = nI 0 := ⟨⟨by decide +kernel, rfl⟩, by decide⟩
theorem x_law_law_516 : kt_dc i_law_law 516 (.ireturn) 1 517 ∧ kt_rt i_law_law = (some .boolean) := ⟨⟨by decide +kernel, rfl⟩, rfl⟩
theorem x_law_law_517 : kt_dc i_law_law 517 (.aload_n 1) 1 518 := ⟨by decide +kernel, rfl⟩
theorem x_law_law_518 : kt_dc i_law_law 518 (.aload_n 0) 1 519 := ⟨by decide +kernel, rfl⟩
theorem x_law_law_519 : kt_dc i_law_law 519 (.iload_n 3) 1 520 := ⟨by decide +kernel, rfl⟩
theorem x_law_law_520 : kt_dc i_law_law 520 (.iconst 1) 1 521 ∧ Int32.ofInt (1) = nI 1 := ⟨⟨by decide +kernel, rfl⟩, by decide⟩
theorem x_law_law_521 : kt_dc i_law_law 521 (.iadd) 1 522 := ⟨by decide +kernel, rfl⟩
theorem x_law_law_522 : kt_dc i_law_law 522 (.iaload) 1 523 := ⟨by decide +kernel, rfl⟩
theorem x_law_law_523 : kt_dc i_law_law 523 (.aload_n 0) 1 524 := ⟨by decide +kernel, rfl⟩
theorem x_law_law_524 : kt_dc i_law_law 524 (.iload_n 3) 1 525 := ⟨by decide +kernel, rfl⟩
theorem x_law_law_525 : kt_dc i_law_law 525 (.iconst 2) 1 526 ∧ Int32.ofInt (2) = nI 2 := ⟨⟨by decide +kernel, rfl⟩, by decide⟩
theorem x_law_law_526 : kt_dc i_law_law 526 (.iadd) 1 527 := ⟨by decide +kernel, rfl⟩
theorem x_law_law_527 : kt_dc i_law_law 527 (.iaload) 1 528 := ⟨by decide +kernel, rfl⟩
theorem x_law_law_528 : kt_dc i_law_law 528 (.aload_n 0) 1 529 := ⟨by decide +kernel, rfl⟩
theorem x_law_law_529 : kt_dc i_law_law 529 (.iload_n 3) 1 530 := ⟨by decide +kernel, rfl⟩
theorem x_law_law_530 : kt_dc i_law_law 530 (.iconst 3) 1 531 ∧ Int32.ofInt (3) = nI 3 := ⟨⟨by decide +kernel, rfl⟩, by decide⟩
theorem x_law_law_531 : kt_dc i_law_law 531 (.iadd) 1 532 := ⟨by decide +kernel, rfl⟩
theorem x_law_law_532 : kt_dc i_law_law 532 (.iaload) 1 533 := ⟨by decide +kernel, rfl⟩
theorem x_law_law_533 : kt_sV i_law_law 533 i_K_lookedAt 4 3 536 := ⟨62, ⟨by decide +kernel, rfl⟩, Or.inl (tw_393), j_K_lookedAt, ⟨tw_394, tw_395⟩, ⟨TX4, 5, rfl⟩, by decide, rfl⟩
theorem c_law_law_533 {P : kt_P} {NM : Nat} {L : List (Option Value)} {rest : List Value} {N : Nat} {I : kt_I} {J : kt_J} {R : kt_R} {Q : Option Value → kt_I → kt_J → kt_R → Prop} {b : Nat} {x0 : Int32} {x1 : Int32} {x2 : Int32} (hkd : kt_kd P N b = (4, 0)) (hrest : (rest.map fun v => v.category).sum ≤ 8) (kk : KW P i_K_lookedAt N 0 [some (.ref b), some (.int x0), some (.int x1), some (.int x2), none] [] N I J R (fun v I' J' R' => KW P i_law_law NM 536 L (kt_pu v rest) N I' J' R' Q)) : KW P i_law_law NM 533 L (.int x2 :: .int x1 :: .int x0 :: .ref b :: rest) N I J R Q := kw_callV x_law_law_533 (As := [.int x0, .int x1, .int x2]) rfl rfl (Nat.le_of_ble_eq_true rfl) hrest hkd (Nat.le_refl N) (fun h => h) kk
theorem x_law_law_536 : kt_dc i_law_law 536 (.aload_n 2) 1 537 := ⟨by decide +kernel, rfl⟩
theorem x_law_law_537 : kt_dc i_law_law 537 (.aload_n 0) 1 538 := ⟨by decide +kernel, rfl⟩
theorem x_law_law_538 : kt_dc i_law_law 538 (.iload_n 3) 1 539 := ⟨by decide +kernel, rfl⟩
theorem x_law_law_539 : kt_dc i_law_law 539 (.iconst 1) 1 540 ∧ Int32.ofInt (1) = nI 1 := ⟨⟨by decide +kernel, rfl⟩, by decide⟩
theorem x_law_law_540 : kt_dc i_law_law 540 (.iadd) 1 541 := ⟨by decide +kernel, rfl⟩
theorem x_law_law_541 : kt_dc i_law_law 541 (.iaload) 1 542 := ⟨by decide +kernel, rfl⟩
theorem x_law_law_542 : kt_dc i_law_law 542 (.aload_n 0) 1 543 := ⟨by decide +kernel, rfl⟩
theorem x_law_law_543 : kt_dc i_law_law 543 (.iload_n 3) 1 544 := ⟨by decide +kernel, rfl⟩
theorem x_law_law_544 : kt_dc i_law_law 544 (.iconst 2) 1 545 ∧ Int32.ofInt (2) = nI 2 := ⟨⟨by decide +kernel, rfl⟩, by decide⟩
theorem x_law_law_545 : kt_dc i_law_law 545 (.iadd) 1 546 := ⟨by decide +kernel, rfl⟩
theorem x_law_law_546 : kt_dc i_law_law 546 (.iaload) 1 547 := ⟨by decide +kernel, rfl⟩
theorem x_law_law_547 : kt_dc i_law_law 547 (.aload_n 0) 1 548 := ⟨by decide +kernel, rfl⟩
theorem x_law_law_548 : kt_dc i_law_law 548 (.iload_n 3) 1 549 := ⟨by decide +kernel, rfl⟩
theorem x_law_law_549 : kt_dc i_law_law 549 (.iconst 3) 1 550 ∧ Int32.ofInt (3) = nI 3 := ⟨⟨by decide +kernel, rfl⟩, by decide⟩
theorem x_law_law_550 : kt_dc i_law_law 550 (.iadd) 1 551 := ⟨by decide +kernel, rfl⟩
theorem x_law_law_551 : kt_dc i_law_law 551 (.iaload) 1 552 := ⟨by decide +kernel, rfl⟩
theorem x_law_law_552 : kt_sV i_law_law 552 i_M_lookedAt 5 3 555 := ⟨65, ⟨by decide +kernel, rfl⟩, Or.inl (tw_730), j_M_lookedAt, ⟨tw_731, tw_732⟩, ⟨TX5, 18, rfl⟩, by decide, rfl⟩
theorem c_law_law_552 {P : kt_P} {NM : Nat} {L : List (Option Value)} {rest : List Value} {N : Nat} {I : kt_I} {J : kt_J} {R : kt_R} {Q : Option Value → kt_I → kt_J → kt_R → Prop} {b : Nat} {x0 : Int32} {x1 : Int32} {x2 : Int32} (hkd : kt_kd P N b = (5, 0)) (hrest : (rest.map fun v => v.category).sum ≤ 8) (kk : KW P i_M_lookedAt N 0 [some (.ref b), some (.int x0), some (.int x1), some (.int x2)] [] N I J R (fun v I' J' R' => KW P i_law_law NM 555 L (kt_pu v rest) N I' J' R' Q)) : KW P i_law_law NM 552 L (.int x2 :: .int x1 :: .int x0 :: .ref b :: rest) N I J R Q := kw_callV x_law_law_552 (As := [.int x0, .int x1, .int x2]) rfl rfl (Nat.le_of_ble_eq_true rfl) hrest hkd (Nat.le_refl N) (fun h => h) kk
theorem x_law_law_555 : kt_dj i_law_law 555 (.if_icmp .eq) 846 558 := ⟨291, by decide +kernel, by decide, rfl⟩
theorem x_law_law_558 : kt_dc i_law_law 558 (.iconst 0) 1 559 ∧ Int32.ofInt (0) = nI 0 := ⟨⟨by decide +kernel, rfl⟩, by decide⟩
theorem x_law_law_559 : kt_dc i_law_law 559 (.ireturn) 1 560 ∧ kt_rt i_law_law = (some .boolean) := ⟨⟨by decide +kernel, rfl⟩, rfl⟩
theorem x_law_law_560 : kt_dc i_law_law 560 (.aload_n 1) 1 561 := ⟨by decide +kernel, rfl⟩
theorem x_law_law_561 : kt_dc i_law_law 561 (.aload_n 0) 1 562 := ⟨by decide +kernel, rfl⟩
theorem x_law_law_562 : kt_dc i_law_law 562 (.iload_n 3) 1 563 := ⟨by decide +kernel, rfl⟩
theorem x_law_law_563 : kt_dc i_law_law 563 (.iconst 1) 1 564 ∧ Int32.ofInt (1) = nI 1 := ⟨⟨by decide +kernel, rfl⟩, by decide⟩
theorem x_law_law_564 : kt_dc i_law_law 564 (.iadd) 1 565 := ⟨by decide +kernel, rfl⟩
theorem x_law_law_565 : kt_dc i_law_law 565 (.iaload) 1 566 := ⟨by decide +kernel, rfl⟩
theorem x_law_law_566 : kt_dc i_law_law 566 (.aload_n 0) 1 567 := ⟨by decide +kernel, rfl⟩
theorem x_law_law_567 : kt_dc i_law_law 567 (.iload_n 3) 1 568 := ⟨by decide +kernel, rfl⟩
theorem x_law_law_568 : kt_dc i_law_law 568 (.iconst 2) 1 569 ∧ Int32.ofInt (2) = nI 2 := ⟨⟨by decide +kernel, rfl⟩, by decide⟩
theorem x_law_law_569 : kt_dc i_law_law 569 (.iadd) 1 570 := ⟨by decide +kernel, rfl⟩
theorem x_law_law_570 : kt_dc i_law_law 570 (.iaload) 1 571 := ⟨by decide +kernel, rfl⟩
theorem x_law_law_571 : kt_dc i_law_law 571 (.aload_n 0) 1 572 := ⟨by decide +kernel, rfl⟩
theorem x_law_law_572 : kt_dc i_law_law 572 (.iload_n 3) 1 573 := ⟨by decide +kernel, rfl⟩
theorem x_law_law_573 : kt_dc i_law_law 573 (.iconst 3) 1 574 ∧ Int32.ofInt (3) = nI 3 := ⟨⟨by decide +kernel, rfl⟩, by decide⟩
theorem x_law_law_574 : kt_dc i_law_law 574 (.iadd) 1 575 := ⟨by decide +kernel, rfl⟩
theorem x_law_law_575 : kt_dc i_law_law 575 (.iaload) 1 576 := ⟨by decide +kernel, rfl⟩
theorem x_law_law_576 : kt_sV i_law_law 576 i_K_personOf 4 3 579 := ⟨66, ⟨by decide +kernel, rfl⟩, Or.inl (tw_399), j_K_personOf, ⟨tw_400, tw_401⟩, ⟨TX4, 5, rfl⟩, by decide, rfl⟩
theorem c_law_law_576 {P : kt_P} {NM : Nat} {L : List (Option Value)} {rest : List Value} {N : Nat} {I : kt_I} {J : kt_J} {R : kt_R} {Q : Option Value → kt_I → kt_J → kt_R → Prop} {b : Nat} {x0 : Int32} {x1 : Int32} {x2 : Int32} (hkd : kt_kd P N b = (4, 0)) (hrest : (rest.map fun v => v.category).sum ≤ 8) (kk : KW P i_K_personOf N 0 [some (.ref b), some (.int x0), some (.int x1), some (.int x2), none, none, none] [] N I J R (fun v I' J' R' => KW P i_law_law NM 579 L (kt_pu v rest) N I' J' R' Q)) : KW P i_law_law NM 576 L (.int x2 :: .int x1 :: .int x0 :: .ref b :: rest) N I J R Q := kw_callV x_law_law_576 (As := [.int x0, .int x1, .int x2]) rfl rfl (Nat.le_of_ble_eq_true rfl) hrest hkd (Nat.le_refl N) (fun h => h) kk
theorem x_law_law_579 : kt_dc i_law_law 579 (.aload_n 2) 1 580 := ⟨by decide +kernel, rfl⟩
theorem x_law_law_580 : kt_dc i_law_law 580 (.aload_n 0) 1 581 := ⟨by decide +kernel, rfl⟩
theorem x_law_law_581 : kt_dc i_law_law 581 (.iload_n 3) 1 582 := ⟨by decide +kernel, rfl⟩
theorem x_law_law_582 : kt_dc i_law_law 582 (.iconst 1) 1 583 ∧ Int32.ofInt (1) = nI 1 := ⟨⟨by decide +kernel, rfl⟩, by decide⟩
theorem x_law_law_583 : kt_dc i_law_law 583 (.iadd) 1 584 := ⟨by decide +kernel, rfl⟩
theorem x_law_law_584 : kt_dc i_law_law 584 (.iaload) 1 585 := ⟨by decide +kernel, rfl⟩
theorem x_law_law_585 : kt_dc i_law_law 585 (.aload_n 0) 1 586 := ⟨by decide +kernel, rfl⟩
theorem x_law_law_586 : kt_dc i_law_law 586 (.iload_n 3) 1 587 := ⟨by decide +kernel, rfl⟩
theorem x_law_law_587 : kt_dc i_law_law 587 (.iconst 2) 1 588 ∧ Int32.ofInt (2) = nI 2 := ⟨⟨by decide +kernel, rfl⟩, by decide⟩
theorem x_law_law_588 : kt_dc i_law_law 588 (.iadd) 1 589 := ⟨by decide +kernel, rfl⟩
theorem x_law_law_589 : kt_dc i_law_law 589 (.iaload) 1 590 := ⟨by decide +kernel, rfl⟩
theorem x_law_law_590 : kt_dc i_law_law 590 (.aload_n 0) 1 591 := ⟨by decide +kernel, rfl⟩
theorem x_law_law_591 : kt_dc i_law_law 591 (.iload_n 3) 1 592 := ⟨by decide +kernel, rfl⟩
theorem x_law_law_592 : kt_dc i_law_law 592 (.iconst 3) 1 593 ∧ Int32.ofInt (3) = nI 3 := ⟨⟨by decide +kernel, rfl⟩, by decide⟩
theorem x_law_law_593 : kt_dc i_law_law 593 (.iadd) 1 594 := ⟨by decide +kernel, rfl⟩
theorem x_law_law_594 : kt_dc i_law_law 594 (.iaload) 1 595 := ⟨by decide +kernel, rfl⟩
theorem x_law_law_595 : kt_sV i_law_law 595 i_M_personOf 5 3 598 := ⟨69, ⟨by decide +kernel, rfl⟩, Or.inl (tw_734), j_M_personOf, ⟨tw_735, tw_736⟩, ⟨TX5, 18, rfl⟩, by decide, rfl⟩
theorem c_law_law_595 {P : kt_P} {NM : Nat} {L : List (Option Value)} {rest : List Value} {N : Nat} {I : kt_I} {J : kt_J} {R : kt_R} {Q : Option Value → kt_I → kt_J → kt_R → Prop} {b : Nat} {x0 : Int32} {x1 : Int32} {x2 : Int32} (hkd : kt_kd P N b = (5, 0)) (hrest : (rest.map fun v => v.category).sum ≤ 8) (kk : KW P i_M_personOf N 0 [some (.ref b), some (.int x0), some (.int x1), some (.int x2), none, none, none] [] N I J R (fun v I' J' R' => KW P i_law_law NM 598 L (kt_pu v rest) N I' J' R' Q)) : KW P i_law_law NM 595 L (.int x2 :: .int x1 :: .int x0 :: .ref b :: rest) N I J R Q := kw_callV x_law_law_595 (As := [.int x0, .int x1, .int x2]) rfl rfl (Nat.le_of_ble_eq_true rfl) hrest hkd (Nat.le_refl N) (fun h => h) kk
theorem x_law_law_598 : kt_dj i_law_law 598 (.if_icmp .eq) 846 601 := ⟨248, by decide +kernel, by decide, rfl⟩
theorem x_law_law_601 : kt_dc i_law_law 601 (.iconst 0) 1 602 ∧ Int32.ofInt (0) = nI 0 := ⟨⟨by decide +kernel, rfl⟩, by decide⟩
theorem x_law_law_602 : kt_dc i_law_law 602 (.ireturn) 1 603 ∧ kt_rt i_law_law = (some .boolean) := ⟨⟨by decide +kernel, rfl⟩, rfl⟩
theorem x_law_law_603 : kt_dc i_law_law 603 (.aload_n 1) 1 604 := ⟨by decide +kernel, rfl⟩
theorem x_law_law_604 : kt_dc i_law_law 604 (.aload_n 0) 1 605 := ⟨by decide +kernel, rfl⟩
theorem x_law_law_605 : kt_dc i_law_law 605 (.iload_n 3) 1 606 := ⟨by decide +kernel, rfl⟩
theorem x_law_law_606 : kt_dc i_law_law 606 (.iconst 1) 1 607 ∧ Int32.ofInt (1) = nI 1 := ⟨⟨by decide +kernel, rfl⟩, by decide⟩
theorem x_law_law_607 : kt_dc i_law_law 607 (.iadd) 1 608 := ⟨by decide +kernel, rfl⟩
theorem x_law_law_608 : kt_dc i_law_law 608 (.iaload) 1 609 := ⟨by decide +kernel, rfl⟩
theorem x_law_law_609 : kt_dc i_law_law 609 (.aload_n 0) 1 610 := ⟨by decide +kernel, rfl⟩
theorem x_law_law_610 : kt_dc i_law_law 610 (.iload_n 3) 1 611 := ⟨by decide +kernel, rfl⟩
theorem x_law_law_611 : kt_dc i_law_law 611 (.iconst 2) 1 612 ∧ Int32.ofInt (2) = nI 2 := ⟨⟨by decide +kernel, rfl⟩, by decide⟩
theorem x_law_law_612 : kt_dc i_law_law 612 (.iadd) 1 613 := ⟨by decide +kernel, rfl⟩
theorem x_law_law_613 : kt_dc i_law_law 613 (.iaload) 1 614 := ⟨by decide +kernel, rfl⟩
theorem x_law_law_614 : kt_sV i_law_law 614 i_K_unheard 4 2 617 := ⟨70, ⟨by decide +kernel, rfl⟩, Or.inl (tw_407), j_K_unheard, ⟨tw_408, tw_409⟩, ⟨TX4, 5, rfl⟩, by decide, rfl⟩
theorem c_law_law_614 {P : kt_P} {NM : Nat} {L : List (Option Value)} {rest : List Value} {N : Nat} {I : kt_I} {J : kt_J} {R : kt_R} {Q : Option Value → kt_I → kt_J → kt_R → Prop} {b : Nat} {x0 : Int32} {x1 : Int32} (hkd : kt_kd P N b = (4, 0)) (hrest : (rest.map fun v => v.category).sum ≤ 8) (kk : KW P i_K_unheard N 0 [some (.ref b), some (.int x0), some (.int x1)] [] N I J R (fun v I' J' R' => KW P i_law_law NM 617 L (kt_pu v rest) N I' J' R' Q)) : KW P i_law_law NM 614 L (.int x1 :: .int x0 :: .ref b :: rest) N I J R Q := kw_callV x_law_law_614 (As := [.int x0, .int x1]) rfl rfl (Nat.le_of_ble_eq_true rfl) hrest hkd (Nat.le_refl N) (fun h => h) kk
theorem x_law_law_617 : kt_dc i_law_law 617 (.aload_n 2) 1 618 := ⟨by decide +kernel, rfl⟩
theorem x_law_law_618 : kt_dc i_law_law 618 (.aload_n 0) 1 619 := ⟨by decide +kernel, rfl⟩
theorem x_law_law_619 : kt_dc i_law_law 619 (.iload_n 3) 1 620 := ⟨by decide +kernel, rfl⟩
theorem x_law_law_620 : kt_dc i_law_law 620 (.iconst 1) 1 621 ∧ Int32.ofInt (1) = nI 1 := ⟨⟨by decide +kernel, rfl⟩, by decide⟩
theorem x_law_law_621 : kt_dc i_law_law 621 (.iadd) 1 622 := ⟨by decide +kernel, rfl⟩
theorem x_law_law_622 : kt_dc i_law_law 622 (.iaload) 1 623 := ⟨by decide +kernel, rfl⟩
theorem x_law_law_623 : kt_dc i_law_law 623 (.aload_n 0) 1 624 := ⟨by decide +kernel, rfl⟩
theorem x_law_law_624 : kt_dc i_law_law 624 (.iload_n 3) 1 625 := ⟨by decide +kernel, rfl⟩
theorem x_law_law_625 : kt_dc i_law_law 625 (.iconst 2) 1 626 ∧ Int32.ofInt (2) = nI 2 := ⟨⟨by decide +kernel, rfl⟩, by decide⟩
theorem x_law_law_626 : kt_dc i_law_law 626 (.iadd) 1 627 := ⟨by decide +kernel, rfl⟩
theorem x_law_law_627 : kt_dc i_law_law 627 (.iaload) 1 628 := ⟨by decide +kernel, rfl⟩
theorem x_law_law_628 : kt_sV i_law_law 628 i_M_unheard 5 2 631 := ⟨73, ⟨by decide +kernel, rfl⟩, Or.inl (tw_741), j_M_unheard, ⟨tw_742, tw_743⟩, ⟨TX5, 18, rfl⟩, by decide, rfl⟩
theorem c_law_law_628 {P : kt_P} {NM : Nat} {L : List (Option Value)} {rest : List Value} {N : Nat} {I : kt_I} {J : kt_J} {R : kt_R} {Q : Option Value → kt_I → kt_J → kt_R → Prop} {b : Nat} {x0 : Int32} {x1 : Int32} (hkd : kt_kd P N b = (5, 0)) (hrest : (rest.map fun v => v.category).sum ≤ 8) (kk : KW P i_M_unheard N 0 [some (.ref b), some (.int x0), some (.int x1), none, none] [] N I J R (fun v I' J' R' => KW P i_law_law NM 631 L (kt_pu v rest) N I' J' R' Q)) : KW P i_law_law NM 628 L (.int x1 :: .int x0 :: .ref b :: rest) N I J R Q := kw_callV x_law_law_628 (As := [.int x0, .int x1]) rfl rfl (Nat.le_of_ble_eq_true rfl) hrest hkd (Nat.le_refl N) (fun h => h) kk
theorem x_law_law_631 : kt_dj i_law_law 631 (.if_icmp .eq) 846 634 := ⟨215, by decide +kernel, by decide, rfl⟩
theorem x_law_law_634 : kt_dc i_law_law 634 (.iconst 0) 1 635 ∧ Int32.ofInt (0) = nI 0 := ⟨⟨by decide +kernel, rfl⟩, by decide⟩
theorem x_law_law_635 : kt_dc i_law_law 635 (.ireturn) 1 636 ∧ kt_rt i_law_law = (some .boolean) := ⟨⟨by decide +kernel, rfl⟩, rfl⟩
theorem x_law_law_636 : kt_dc i_law_law 636 (.aload_n 1) 1 637 := ⟨by decide +kernel, rfl⟩
theorem x_law_law_637 : kt_dc i_law_law 637 (.aload_n 0) 1 638 := ⟨by decide +kernel, rfl⟩
theorem x_law_law_638 : kt_dc i_law_law 638 (.iload_n 3) 1 639 := ⟨by decide +kernel, rfl⟩
theorem x_law_law_639 : kt_dc i_law_law 639 (.iconst 1) 1 640 ∧ Int32.ofInt (1) = nI 1 := ⟨⟨by decide +kernel, rfl⟩, by decide⟩
theorem x_law_law_640 : kt_dc i_law_law 640 (.iadd) 1 641 := ⟨by decide +kernel, rfl⟩
theorem x_law_law_641 : kt_dc i_law_law 641 (.iaload) 1 642 := ⟨by decide +kernel, rfl⟩
theorem x_law_law_642 : kt_sV i_law_law 642 i_K_count 4 1 645 := ⟨74, ⟨by decide +kernel, rfl⟩, Or.inl (tw_412), j_K_count, ⟨tw_413, tw_414⟩, ⟨TX4, 5, rfl⟩, by decide, rfl⟩
theorem c_law_law_642 {P : kt_P} {NM : Nat} {L : List (Option Value)} {rest : List Value} {N : Nat} {I : kt_I} {J : kt_J} {R : kt_R} {Q : Option Value → kt_I → kt_J → kt_R → Prop} {b : Nat} {x0 : Int32} (hkd : kt_kd P N b = (4, 0)) (hrest : (rest.map fun v => v.category).sum ≤ 8) (kk : KW P i_K_count N 0 [some (.ref b), some (.int x0), none] [] N I J R (fun v I' J' R' => KW P i_law_law NM 645 L (kt_pu v rest) N I' J' R' Q)) : KW P i_law_law NM 642 L (.int x0 :: .ref b :: rest) N I J R Q := kw_callV x_law_law_642 (As := [.int x0]) rfl rfl (Nat.le_of_ble_eq_true rfl) hrest hkd (Nat.le_refl N) (fun h => h) kk
theorem x_law_law_645 : kt_dc i_law_law 645 (.aload_n 2) 1 646 := ⟨by decide +kernel, rfl⟩
theorem x_law_law_646 : kt_dc i_law_law 646 (.aload_n 0) 1 647 := ⟨by decide +kernel, rfl⟩
theorem x_law_law_647 : kt_dc i_law_law 647 (.iload_n 3) 1 648 := ⟨by decide +kernel, rfl⟩
theorem x_law_law_648 : kt_dc i_law_law 648 (.iconst 1) 1 649 ∧ Int32.ofInt (1) = nI 1 := ⟨⟨by decide +kernel, rfl⟩, by decide⟩
theorem x_law_law_649 : kt_dc i_law_law 649 (.iadd) 1 650 := ⟨by decide +kernel, rfl⟩
theorem x_law_law_650 : kt_dc i_law_law 650 (.iaload) 1 651 := ⟨by decide +kernel, rfl⟩
theorem x_law_law_651 : kt_sV i_law_law 651 i_M_count 5 1 654 := ⟨77, ⟨by decide +kernel, rfl⟩, Or.inl (tw_745), j_M_count, ⟨tw_746, tw_747⟩, ⟨TX5, 18, rfl⟩, by decide, rfl⟩
theorem c_law_law_651 {P : kt_P} {NM : Nat} {L : List (Option Value)} {rest : List Value} {N : Nat} {I : kt_I} {J : kt_J} {R : kt_R} {Q : Option Value → kt_I → kt_J → kt_R → Prop} {b : Nat} {x0 : Int32} (hkd : kt_kd P N b = (5, 0)) (hrest : (rest.map fun v => v.category).sum ≤ 8) (kk : KW P i_M_count N 0 [some (.ref b), some (.int x0)] [] N I J R (fun v I' J' R' => KW P i_law_law NM 654 L (kt_pu v rest) N I' J' R' Q)) : KW P i_law_law NM 651 L (.int x0 :: .ref b :: rest) N I J R Q := kw_callV x_law_law_651 (As := [.int x0]) rfl rfl (Nat.le_of_ble_eq_true rfl) hrest hkd (Nat.le_refl N) (fun h => h) kk
theorem x_law_law_654 : kt_dj i_law_law 654 (.if_icmp .eq) 846 657 := ⟨192, by decide +kernel, by decide, rfl⟩
theorem x_law_law_657 : kt_dc i_law_law 657 (.iconst 0) 1 658 ∧ Int32.ofInt (0) = nI 0 := ⟨⟨by decide +kernel, rfl⟩, by decide⟩
theorem x_law_law_658 : kt_dc i_law_law 658 (.ireturn) 1 659 ∧ kt_rt i_law_law = (some .boolean) := ⟨⟨by decide +kernel, rfl⟩, rfl⟩
theorem x_law_law_659 : kt_dc i_law_law 659 (.aload_n 1) 1 660 := ⟨by decide +kernel, rfl⟩
theorem x_law_law_660 : kt_dc i_law_law 660 (.aload_n 0) 1 661 := ⟨by decide +kernel, rfl⟩
theorem x_law_law_661 : kt_dc i_law_law 661 (.iload_n 3) 1 662 := ⟨by decide +kernel, rfl⟩
theorem x_law_law_662 : kt_dc i_law_law 662 (.iconst 1) 1 663 ∧ Int32.ofInt (1) = nI 1 := ⟨⟨by decide +kernel, rfl⟩, by decide⟩
theorem x_law_law_663 : kt_dc i_law_law 663 (.iadd) 1 664 := ⟨by decide +kernel, rfl⟩
theorem x_law_law_664 : kt_dc i_law_law 664 (.iaload) 1 665 := ⟨by decide +kernel, rfl⟩
theorem x_law_law_665 : kt_dc i_law_law 665 (.aload_n 0) 1 666 := ⟨by decide +kernel, rfl⟩
theorem x_law_law_666 : kt_dc i_law_law 666 (.iload_n 3) 1 667 := ⟨by decide +kernel, rfl⟩
theorem x_law_law_667 : kt_dc i_law_law 667 (.iconst 2) 1 668 ∧ Int32.ofInt (2) = nI 2 := ⟨⟨by decide +kernel, rfl⟩, by decide⟩
theorem x_law_law_668 : kt_dc i_law_law 668 (.iadd) 1 669 := ⟨by decide +kernel, rfl⟩
theorem x_law_law_669 : kt_dc i_law_law 669 (.iaload) 1 670 := ⟨by decide +kernel, rfl⟩
theorem x_law_law_670 : kt_dc i_law_law 670 (.aload_n 0) 1 671 := ⟨by decide +kernel, rfl⟩
theorem x_law_law_671 : kt_dc i_law_law 671 (.iload_n 3) 1 672 := ⟨by decide +kernel, rfl⟩
theorem x_law_law_672 : kt_dc i_law_law 672 (.iconst 3) 1 673 ∧ Int32.ofInt (3) = nI 3 := ⟨⟨by decide +kernel, rfl⟩, by decide⟩
theorem x_law_law_673 : kt_dc i_law_law 673 (.iadd) 1 674 := ⟨by decide +kernel, rfl⟩
theorem x_law_law_674 : kt_dc i_law_law 674 (.iaload) 1 675 := ⟨by decide +kernel, rfl⟩
theorem x_law_law_675 : kt_sV i_law_law 675 i_K_would 4 3 678 := ⟨78, ⟨by decide +kernel, rfl⟩, Or.inl (tw_429), j_K_would, ⟨tw_430, tw_431⟩, ⟨TX4, 5, rfl⟩, by decide, rfl⟩
theorem c_law_law_675 {P : kt_P} {NM : Nat} {L : List (Option Value)} {rest : List Value} {N : Nat} {I : kt_I} {J : kt_J} {R : kt_R} {Q : Option Value → kt_I → kt_J → kt_R → Prop} {b : Nat} {x0 : Int32} {x1 : Int32} {x2 : Int32} (hkd : kt_kd P N b = (4, 0)) (hrest : (rest.map fun v => v.category).sum ≤ 8) (kk : KW P i_K_would N 0 [some (.ref b), some (.int x0), some (.int x1), some (.int x2), none] [] N I J R (fun v I' J' R' => KW P i_law_law NM 678 L (kt_pu v rest) N I' J' R' Q)) : KW P i_law_law NM 675 L (.int x2 :: .int x1 :: .int x0 :: .ref b :: rest) N I J R Q := kw_callV x_law_law_675 (As := [.int x0, .int x1, .int x2]) rfl rfl (Nat.le_of_ble_eq_true rfl) hrest hkd (Nat.le_refl N) (fun h => h) kk
theorem x_law_law_678 : kt_dc i_law_law 678 (.aload_n 2) 1 679 := ⟨by decide +kernel, rfl⟩
theorem x_law_law_679 : kt_dc i_law_law 679 (.aload_n 0) 1 680 := ⟨by decide +kernel, rfl⟩
theorem x_law_law_680 : kt_dc i_law_law 680 (.iload_n 3) 1 681 := ⟨by decide +kernel, rfl⟩
theorem x_law_law_681 : kt_dc i_law_law 681 (.iconst 1) 1 682 ∧ Int32.ofInt (1) = nI 1 := ⟨⟨by decide +kernel, rfl⟩, by decide⟩
theorem x_law_law_682 : kt_dc i_law_law 682 (.iadd) 1 683 := ⟨by decide +kernel, rfl⟩
theorem x_law_law_683 : kt_dc i_law_law 683 (.iaload) 1 684 := ⟨by decide +kernel, rfl⟩
theorem x_law_law_684 : kt_dc i_law_law 684 (.aload_n 0) 1 685 := ⟨by decide +kernel, rfl⟩
theorem x_law_law_685 : kt_dc i_law_law 685 (.iload_n 3) 1 686 := ⟨by decide +kernel, rfl⟩
theorem x_law_law_686 : kt_dc i_law_law 686 (.iconst 2) 1 687 ∧ Int32.ofInt (2) = nI 2 := ⟨⟨by decide +kernel, rfl⟩, by decide⟩
theorem x_law_law_687 : kt_dc i_law_law 687 (.iadd) 1 688 := ⟨by decide +kernel, rfl⟩
theorem x_law_law_688 : kt_dc i_law_law 688 (.iaload) 1 689 := ⟨by decide +kernel, rfl⟩
theorem x_law_law_689 : kt_dc i_law_law 689 (.aload_n 0) 1 690 := ⟨by decide +kernel, rfl⟩
theorem x_law_law_690 : kt_dc i_law_law 690 (.iload_n 3) 1 691 := ⟨by decide +kernel, rfl⟩
theorem x_law_law_691 : kt_dc i_law_law 691 (.iconst 3) 1 692 ∧ Int32.ofInt (3) = nI 3 := ⟨⟨by decide +kernel, rfl⟩, by decide⟩
theorem x_law_law_692 : kt_dc i_law_law 692 (.iadd) 1 693 := ⟨by decide +kernel, rfl⟩
theorem x_law_law_693 : kt_dc i_law_law 693 (.iaload) 1 694 := ⟨by decide +kernel, rfl⟩
theorem x_law_law_694 : kt_sV i_law_law 694 i_M_would 5 3 697 := ⟨81, ⟨by decide +kernel, rfl⟩, Or.inl (tw_765), j_M_would, ⟨tw_766, tw_767⟩, ⟨TX5, 18, rfl⟩, by decide, rfl⟩
theorem c_law_law_694 {P : kt_P} {NM : Nat} {L : List (Option Value)} {rest : List Value} {N : Nat} {I : kt_I} {J : kt_J} {R : kt_R} {Q : Option Value → kt_I → kt_J → kt_R → Prop} {b : Nat} {x0 : Int32} {x1 : Int32} {x2 : Int32} (hkd : kt_kd P N b = (5, 0)) (hrest : (rest.map fun v => v.category).sum ≤ 8) (kk : KW P i_M_would N 0 [some (.ref b), some (.int x0), some (.int x1), some (.int x2), none, none, none] [] N I J R (fun v I' J' R' => KW P i_law_law NM 697 L (kt_pu v rest) N I' J' R' Q)) : KW P i_law_law NM 694 L (.int x2 :: .int x1 :: .int x0 :: .ref b :: rest) N I J R Q := kw_callV x_law_law_694 (As := [.int x0, .int x1, .int x2]) rfl rfl (Nat.le_of_ble_eq_true rfl) hrest hkd (Nat.le_refl N) (fun h => h) kk
theorem x_law_law_697 : kt_dj i_law_law 697 (.if_icmp .eq) 846 700 := ⟨149, by decide +kernel, by decide, rfl⟩
theorem x_law_law_700 : kt_dc i_law_law 700 (.iconst 0) 1 701 ∧ Int32.ofInt (0) = nI 0 := ⟨⟨by decide +kernel, rfl⟩, by decide⟩
theorem x_law_law_701 : kt_dc i_law_law 701 (.ireturn) 1 702 ∧ kt_rt i_law_law = (some .boolean) := ⟨⟨by decide +kernel, rfl⟩, rfl⟩
theorem x_law_law_702 : kt_dc i_law_law 702 (.aload_n 1) 1 703 := ⟨by decide +kernel, rfl⟩
theorem x_law_law_703 : kt_dc i_law_law 703 (.aload_n 0) 1 704 := ⟨by decide +kernel, rfl⟩
theorem x_law_law_704 : kt_dc i_law_law 704 (.iload_n 3) 1 705 := ⟨by decide +kernel, rfl⟩
theorem x_law_law_705 : kt_dc i_law_law 705 (.iconst 1) 1 706 ∧ Int32.ofInt (1) = nI 1 := ⟨⟨by decide +kernel, rfl⟩, by decide⟩
theorem x_law_law_706 : kt_dc i_law_law 706 (.iadd) 1 707 := ⟨by decide +kernel, rfl⟩
theorem x_law_law_707 : kt_dc i_law_law 707 (.iaload) 1 708 := ⟨by decide +kernel, rfl⟩
theorem x_law_law_708 : kt_sV i_law_law 708 i_K_wouldRule 4 1 711 := ⟨82, ⟨by decide +kernel, rfl⟩, Or.inl (tw_445), j_K_wouldRule, ⟨tw_446, tw_447⟩, ⟨TX4, 5, rfl⟩, by decide, rfl⟩
theorem c_law_law_708 {P : kt_P} {NM : Nat} {L : List (Option Value)} {rest : List Value} {N : Nat} {I : kt_I} {J : kt_J} {R : kt_R} {Q : Option Value → kt_I → kt_J → kt_R → Prop} {b : Nat} {x0 : Int32} (hkd : kt_kd P N b = (4, 0)) (hrest : (rest.map fun v => v.category).sum ≤ 8) (kk : KW P i_K_wouldRule N 0 [some (.ref b), some (.int x0)] [] N I J R (fun v I' J' R' => KW P i_law_law NM 711 L (kt_pu v rest) N I' J' R' Q)) : KW P i_law_law NM 708 L (.int x0 :: .ref b :: rest) N I J R Q := kw_callV x_law_law_708 (As := [.int x0]) rfl rfl (Nat.le_of_ble_eq_true rfl) hrest hkd (Nat.le_refl N) (fun h => h) kk
theorem x_law_law_711 : kt_dc i_law_law 711 (.aload_n 2) 1 712 := ⟨by decide +kernel, rfl⟩
theorem x_law_law_712 : kt_dc i_law_law 712 (.aload_n 0) 1 713 := ⟨by decide +kernel, rfl⟩
theorem x_law_law_713 : kt_dc i_law_law 713 (.iload_n 3) 1 714 := ⟨by decide +kernel, rfl⟩
theorem x_law_law_714 : kt_dc i_law_law 714 (.iconst 1) 1 715 ∧ Int32.ofInt (1) = nI 1 := ⟨⟨by decide +kernel, rfl⟩, by decide⟩
theorem x_law_law_715 : kt_dc i_law_law 715 (.iadd) 1 716 := ⟨by decide +kernel, rfl⟩
theorem x_law_law_716 : kt_dc i_law_law 716 (.iaload) 1 717 := ⟨by decide +kernel, rfl⟩
theorem x_law_law_717 : kt_sV i_law_law 717 i_M_wouldRule 5 1 720 := ⟨85, ⟨by decide +kernel, rfl⟩, Or.inl (tw_780), j_M_wouldRule, ⟨tw_781, tw_782⟩, ⟨TX5, 18, rfl⟩, by decide, rfl⟩
theorem c_law_law_717 {P : kt_P} {NM : Nat} {L : List (Option Value)} {rest : List Value} {N : Nat} {I : kt_I} {J : kt_J} {R : kt_R} {Q : Option Value → kt_I → kt_J → kt_R → Prop} {b : Nat} {x0 : Int32} (hkd : kt_kd P N b = (5, 0)) (hrest : (rest.map fun v => v.category).sum ≤ 8) (kk : KW P i_M_wouldRule N 0 [some (.ref b), some (.int x0), none] [] N I J R (fun v I' J' R' => KW P i_law_law NM 720 L (kt_pu v rest) N I' J' R' Q)) : KW P i_law_law NM 717 L (.int x0 :: .ref b :: rest) N I J R Q := kw_callV x_law_law_717 (As := [.int x0]) rfl rfl (Nat.le_of_ble_eq_true rfl) hrest hkd (Nat.le_refl N) (fun h => h) kk
theorem x_law_law_720 : kt_dj i_law_law 720 (.if_icmp .eq) 846 723 := ⟨126, by decide +kernel, by decide, rfl⟩
theorem x_law_law_723 : kt_dc i_law_law 723 (.iconst 0) 1 724 ∧ Int32.ofInt (0) = nI 0 := ⟨⟨by decide +kernel, rfl⟩, by decide⟩
theorem x_law_law_724 : kt_dc i_law_law 724 (.ireturn) 1 725 ∧ kt_rt i_law_law = (some .boolean) := ⟨⟨by decide +kernel, rfl⟩, rfl⟩
theorem x_law_law_725 : kt_dc i_law_law 725 (.aload_n 1) 1 726 := ⟨by decide +kernel, rfl⟩
theorem x_law_law_726 : kt_dc i_law_law 726 (.aload_n 0) 1 727 := ⟨by decide +kernel, rfl⟩
theorem x_law_law_727 : kt_dc i_law_law 727 (.iload_n 3) 1 728 := ⟨by decide +kernel, rfl⟩
theorem x_law_law_728 : kt_dc i_law_law 728 (.iconst 1) 1 729 ∧ Int32.ofInt (1) = nI 1 := ⟨⟨by decide +kernel, rfl⟩, by decide⟩
theorem x_law_law_729 : kt_dc i_law_law 729 (.iadd) 1 730 := ⟨by decide +kernel, rfl⟩
theorem x_law_law_730 : kt_dc i_law_law 730 (.iaload) 1 731 := ⟨by decide +kernel, rfl⟩
theorem x_law_law_731 : kt_sV i_law_law 731 i_K_kindest 4 1 734 := ⟨86, ⟨by decide +kernel, rfl⟩, Or.inl (tw_449), j_K_kindest, ⟨tw_450, tw_451⟩, ⟨TX4, 5, rfl⟩, by decide, rfl⟩
theorem c_law_law_731 {P : kt_P} {NM : Nat} {L : List (Option Value)} {rest : List Value} {N : Nat} {I : kt_I} {J : kt_J} {R : kt_R} {Q : Option Value → kt_I → kt_J → kt_R → Prop} {b : Nat} {x0 : Int32} (hkd : kt_kd P N b = (4, 0)) (hrest : (rest.map fun v => v.category).sum ≤ 8) (kk : KW P i_K_kindest N 0 [some (.ref b), some (.int x0), none, none, none, none, none] [] N I J R (fun v I' J' R' => KW P i_law_law NM 734 L (kt_pu v rest) N I' J' R' Q)) : KW P i_law_law NM 731 L (.int x0 :: .ref b :: rest) N I J R Q := kw_callV x_law_law_731 (As := [.int x0]) rfl rfl (Nat.le_of_ble_eq_true rfl) hrest hkd (Nat.le_refl N) (fun h => h) kk
theorem x_law_law_734 : kt_dc i_law_law 734 (.aload_n 2) 1 735 := ⟨by decide +kernel, rfl⟩
theorem x_law_law_735 : kt_dc i_law_law 735 (.aload_n 0) 1 736 := ⟨by decide +kernel, rfl⟩
theorem x_law_law_736 : kt_dc i_law_law 736 (.iload_n 3) 1 737 := ⟨by decide +kernel, rfl⟩
theorem x_law_law_737 : kt_dc i_law_law 737 (.iconst 1) 1 738 ∧ Int32.ofInt (1) = nI 1 := ⟨⟨by decide +kernel, rfl⟩, by decide⟩
theorem x_law_law_738 : kt_dc i_law_law 738 (.iadd) 1 739 := ⟨by decide +kernel, rfl⟩
theorem x_law_law_739 : kt_dc i_law_law 739 (.iaload) 1 740 := ⟨by decide +kernel, rfl⟩
theorem x_law_law_740 : kt_sV i_law_law 740 i_M_kindest 5 1 743 := ⟨89, ⟨by decide +kernel, rfl⟩, Or.inl (tw_784), j_M_kindest, ⟨tw_785, tw_786⟩, ⟨TX5, 18, rfl⟩, by decide, rfl⟩
theorem c_law_law_740 {P : kt_P} {NM : Nat} {L : List (Option Value)} {rest : List Value} {N : Nat} {I : kt_I} {J : kt_J} {R : kt_R} {Q : Option Value → kt_I → kt_J → kt_R → Prop} {b : Nat} {x0 : Int32} (hkd : kt_kd P N b = (5, 0)) (hrest : (rest.map fun v => v.category).sum ≤ 8) (kk : KW P i_M_kindest N 0 [some (.ref b), some (.int x0), none, none, none, none, none] [] N I J R (fun v I' J' R' => KW P i_law_law NM 743 L (kt_pu v rest) N I' J' R' Q)) : KW P i_law_law NM 740 L (.int x0 :: .ref b :: rest) N I J R Q := kw_callV x_law_law_740 (As := [.int x0]) rfl rfl (Nat.le_of_ble_eq_true rfl) hrest hkd (Nat.le_refl N) (fun h => h) kk
theorem x_law_law_743 : kt_dj i_law_law 743 (.if_icmp .eq) 846 746 := ⟨103, by decide +kernel, by decide, rfl⟩
theorem x_law_law_746 : kt_dc i_law_law 746 (.iconst 0) 1 747 ∧ Int32.ofInt (0) = nI 0 := ⟨⟨by decide +kernel, rfl⟩, by decide⟩
theorem x_law_law_747 : kt_dc i_law_law 747 (.ireturn) 1 748 ∧ kt_rt i_law_law = (some .boolean) := ⟨⟨by decide +kernel, rfl⟩, rfl⟩
theorem x_law_law_748 : kt_dc i_law_law 748 (.aload_n 1) 1 749 := ⟨by decide +kernel, rfl⟩
theorem x_law_law_749 : kt_sV i_law_law 749 i_K_rounds 4 0 752 := ⟨90, ⟨by decide +kernel, rfl⟩, Or.inl (tw_459), j_K_rounds, ⟨tw_460, tw_461⟩, ⟨TX4, 5, rfl⟩, by decide, rfl⟩
theorem c_law_law_749 {P : kt_P} {NM : Nat} {L : List (Option Value)} {rest : List Value} {N : Nat} {I : kt_I} {J : kt_J} {R : kt_R} {Q : Option Value → kt_I → kt_J → kt_R → Prop} {b : Nat} (hkd : kt_kd P N b = (4, 0)) (hrest : (rest.map fun v => v.category).sum ≤ 8) (kk : KW P i_K_rounds N 0 [some (.ref b), none] [] N I J R (fun v I' J' R' => KW P i_law_law NM 752 L (kt_pu v rest) N I' J' R' Q)) : KW P i_law_law NM 749 L (.ref b :: rest) N I J R Q := kw_callV x_law_law_749 (As := []) rfl rfl (Nat.le_of_ble_eq_true rfl) hrest hkd (Nat.le_refl N) (fun h => h) kk
theorem x_law_law_752 : kt_dc i_law_law 752 (.aload_n 2) 1 753 := ⟨by decide +kernel, rfl⟩
theorem x_law_law_753 : kt_sV i_law_law 753 i_M_rounds 5 0 756 := ⟨93, ⟨by decide +kernel, rfl⟩, Or.inl (tw_792), j_M_rounds, ⟨tw_793, tw_794⟩, ⟨TX5, 18, rfl⟩, by decide, rfl⟩
theorem c_law_law_753 {P : kt_P} {NM : Nat} {L : List (Option Value)} {rest : List Value} {N : Nat} {I : kt_I} {J : kt_J} {R : kt_R} {Q : Option Value → kt_I → kt_J → kt_R → Prop} {b : Nat} (hkd : kt_kd P N b = (5, 0)) (hrest : (rest.map fun v => v.category).sum ≤ 8) (kk : KW P i_M_rounds N 0 [some (.ref b), none, none] [] N I J R (fun v I' J' R' => KW P i_law_law NM 756 L (kt_pu v rest) N I' J' R' Q)) : KW P i_law_law NM 753 L (.ref b :: rest) N I J R Q := kw_callV x_law_law_753 (As := []) rfl rfl (Nat.le_of_ble_eq_true rfl) hrest hkd (Nat.le_refl N) (fun h => h) kk
theorem x_law_law_756 : kt_dj i_law_law 756 (.if_icmp .eq) 846 759 := ⟨90, by decide +kernel, by decide, rfl⟩
theorem x_law_law_759 : kt_dc i_law_law 759 (.iconst 0) 1 760 ∧ Int32.ofInt (0) = nI 0 := ⟨⟨by decide +kernel, rfl⟩, by decide⟩
theorem x_law_law_760 : kt_dc i_law_law 760 (.ireturn) 1 761 ∧ kt_rt i_law_law = (some .boolean) := ⟨⟨by decide +kernel, rfl⟩, rfl⟩
theorem x_law_law_761 : kt_dc i_law_law 761 (.aload_n 1) 1 762 := ⟨by decide +kernel, rfl⟩
theorem x_law_law_762 : kt_sV i_law_law 762 i_K_undo 4 0 765 := ⟨94, ⟨by decide +kernel, rfl⟩, Or.inl (tw_467), j_K_undo, ⟨tw_468, tw_469⟩, ⟨TX4, 5, rfl⟩, by decide, rfl⟩
theorem c_law_law_762 {P : kt_P} {NM : Nat} {L : List (Option Value)} {rest : List Value} {N : Nat} {I : kt_I} {J : kt_J} {R : kt_R} {Q : Option Value → kt_I → kt_J → kt_R → Prop} {b : Nat} (hkd : kt_kd P N b = (4, 0)) (hrest : (rest.map fun v => v.category).sum ≤ 8) (kk : KW P i_K_undo N 0 [some (.ref b), none] [] N I J R (fun v I' J' R' => KW P i_law_law NM 765 L (kt_pu v rest) N I' J' R' Q)) : KW P i_law_law NM 762 L (.ref b :: rest) N I J R Q := kw_callV x_law_law_762 (As := []) rfl rfl (Nat.le_of_ble_eq_true rfl) hrest hkd (Nat.le_refl N) (fun h => h) kk
theorem x_law_law_765 : kt_dc i_law_law 765 (.aload_n 2) 1 766 := ⟨by decide +kernel, rfl⟩
theorem x_law_law_766 : kt_sV i_law_law 766 i_M_undo 5 0 769 := ⟨97, ⟨by decide +kernel, rfl⟩, Or.inl (tw_796), j_M_undo, ⟨tw_797, tw_798⟩, ⟨TX5, 18, rfl⟩, by decide, rfl⟩
theorem c_law_law_766 {P : kt_P} {NM : Nat} {L : List (Option Value)} {rest : List Value} {N : Nat} {I : kt_I} {J : kt_J} {R : kt_R} {Q : Option Value → kt_I → kt_J → kt_R → Prop} {b : Nat} (hkd : kt_kd P N b = (5, 0)) (hrest : (rest.map fun v => v.category).sum ≤ 8) (kk : KW P i_M_undo N 0 [some (.ref b), none] [] N I J R (fun v I' J' R' => KW P i_law_law NM 769 L (kt_pu v rest) N I' J' R' Q)) : KW P i_law_law NM 766 L (.ref b :: rest) N I J R Q := kw_callV x_law_law_766 (As := []) rfl rfl (Nat.le_of_ble_eq_true rfl) hrest hkd (Nat.le_refl N) (fun h => h) kk
theorem x_law_law_769 : kt_dj i_law_law 769 (.if_icmp .eq) 846 772 := ⟨77, by decide +kernel, by decide, rfl⟩
theorem x_law_law_772 : kt_dc i_law_law 772 (.iconst 0) 1 773 ∧ Int32.ofInt (0) = nI 0 := ⟨⟨by decide +kernel, rfl⟩, by decide⟩
theorem x_law_law_773 : kt_dc i_law_law 773 (.ireturn) 1 774 ∧ kt_rt i_law_law = (some .boolean) := ⟨⟨by decide +kernel, rfl⟩, rfl⟩
theorem x_law_law_774 : kt_dc i_law_law 774 (.aload_n 1) 1 775 := ⟨by decide +kernel, rfl⟩
theorem x_law_law_775 : kt_dc i_law_law 775 (.aload_n 0) 1 776 := ⟨by decide +kernel, rfl⟩
theorem x_law_law_776 : kt_dc i_law_law 776 (.iload_n 3) 1 777 := ⟨by decide +kernel, rfl⟩
theorem x_law_law_777 : kt_dc i_law_law 777 (.iconst 1) 1 778 ∧ Int32.ofInt (1) = nI 1 := ⟨⟨by decide +kernel, rfl⟩, by decide⟩
theorem x_law_law_778 : kt_dc i_law_law 778 (.iadd) 1 779 := ⟨by decide +kernel, rfl⟩
theorem x_law_law_779 : kt_dc i_law_law 779 (.iaload) 1 780 := ⟨by decide +kernel, rfl⟩
theorem x_law_law_780 : kt_sV i_law_law 780 i_K_type 4 1 783 := ⟨98, ⟨by decide +kernel, rfl⟩, Or.inl (tw_471), j_K_type, ⟨tw_472, tw_473⟩, ⟨TX4, 5, rfl⟩, by decide, rfl⟩
theorem c_law_law_780 {P : kt_P} {NM : Nat} {L : List (Option Value)} {rest : List Value} {N : Nat} {I : kt_I} {J : kt_J} {R : kt_R} {Q : Option Value → kt_I → kt_J → kt_R → Prop} {b : Nat} {x0 : Int32} (hkd : kt_kd P N b = (4, 0)) (hrest : (rest.map fun v => v.category).sum ≤ 8) (kk : KW P i_K_type N 0 [some (.ref b), some (.int x0)] [] N I J R (fun v I' J' R' => KW P i_law_law NM 783 L (kt_pu v rest) N I' J' R' Q)) : KW P i_law_law NM 780 L (.int x0 :: .ref b :: rest) N I J R Q := kw_callV x_law_law_780 (As := [.int x0]) rfl rfl (Nat.le_of_ble_eq_true rfl) hrest hkd (Nat.le_refl N) (fun h => h) kk
theorem x_law_law_783 : kt_dc i_law_law 783 (.aload_n 2) 1 784 := ⟨by decide +kernel, rfl⟩
theorem x_law_law_784 : kt_dc i_law_law 784 (.aload_n 0) 1 785 := ⟨by decide +kernel, rfl⟩
theorem x_law_law_785 : kt_dc i_law_law 785 (.iload_n 3) 1 786 := ⟨by decide +kernel, rfl⟩
theorem x_law_law_786 : kt_dc i_law_law 786 (.iconst 1) 1 787 ∧ Int32.ofInt (1) = nI 1 := ⟨⟨by decide +kernel, rfl⟩, by decide⟩
theorem x_law_law_787 : kt_dc i_law_law 787 (.iadd) 1 788 := ⟨by decide +kernel, rfl⟩
theorem x_law_law_788 : kt_dc i_law_law 788 (.iaload) 1 789 := ⟨by decide +kernel, rfl⟩
theorem x_law_law_789 : kt_sV i_law_law 789 i_M_type 5 1 792 := ⟨101, ⟨by decide +kernel, rfl⟩, Or.inl (tw_800), j_M_type, ⟨tw_801, tw_802⟩, ⟨TX5, 18, rfl⟩, by decide, rfl⟩
theorem c_law_law_789 {P : kt_P} {NM : Nat} {L : List (Option Value)} {rest : List Value} {N : Nat} {I : kt_I} {J : kt_J} {R : kt_R} {Q : Option Value → kt_I → kt_J → kt_R → Prop} {b : Nat} {x0 : Int32} (hkd : kt_kd P N b = (5, 0)) (hrest : (rest.map fun v => v.category).sum ≤ 8) (kk : KW P i_M_type N 0 [some (.ref b), some (.int x0)] [] N I J R (fun v I' J' R' => KW P i_law_law NM 792 L (kt_pu v rest) N I' J' R' Q)) : KW P i_law_law NM 789 L (.int x0 :: .ref b :: rest) N I J R Q := kw_callV x_law_law_789 (As := [.int x0]) rfl rfl (Nat.le_of_ble_eq_true rfl) hrest hkd (Nat.le_refl N) (fun h => h) kk
theorem x_law_law_792 : kt_dj i_law_law 792 (.if_icmp .eq) 846 795 := ⟨54, by decide +kernel, by decide, rfl⟩
theorem x_law_law_795 : kt_dc i_law_law 795 (.iconst 0) 1 796 ∧ Int32.ofInt (0) = nI 0 := ⟨⟨by decide +kernel, rfl⟩, by decide⟩
theorem x_law_law_796 : kt_dc i_law_law 796 (.ireturn) 1 797 ∧ kt_rt i_law_law = (some .boolean) := ⟨⟨by decide +kernel, rfl⟩, rfl⟩
theorem x_law_law_797 : kt_dc i_law_law 797 (.aload_n 1) 1 798 := ⟨by decide +kernel, rfl⟩
theorem x_law_law_798 : kt_sV i_law_law 798 i_K_clearText 4 0 801 := ⟨102, ⟨by decide +kernel, rfl⟩, Or.inl (tw_475), j_K_clearText, ⟨tw_476, tw_477⟩, ⟨TX4, 5, rfl⟩, by decide, rfl⟩
theorem c_law_law_798 {P : kt_P} {NM : Nat} {L : List (Option Value)} {rest : List Value} {N : Nat} {I : kt_I} {J : kt_J} {R : kt_R} {Q : Option Value → kt_I → kt_J → kt_R → Prop} {b : Nat} (hkd : kt_kd P N b = (4, 0)) (hrest : (rest.map fun v => v.category).sum ≤ 8) (kk : KW P i_K_clearText N 0 [some (.ref b), none] [] N I J R (fun v I' J' R' => KW P i_law_law NM 801 L (kt_pu v rest) N I' J' R' Q)) : KW P i_law_law NM 798 L (.ref b :: rest) N I J R Q := kw_callV x_law_law_798 (As := []) rfl rfl (Nat.le_of_ble_eq_true rfl) hrest hkd (Nat.le_refl N) (fun h => h) kk
theorem x_law_law_801 : kt_dc i_law_law 801 (.aload_n 2) 1 802 := ⟨by decide +kernel, rfl⟩
theorem x_law_law_802 : kt_sV i_law_law 802 i_M_clearText 5 0 805 := ⟨105, ⟨by decide +kernel, rfl⟩, Or.inl (tw_804), j_M_clearText, ⟨tw_805, tw_806⟩, ⟨TX5, 18, rfl⟩, by decide, rfl⟩
theorem c_law_law_802 {P : kt_P} {NM : Nat} {L : List (Option Value)} {rest : List Value} {N : Nat} {I : kt_I} {J : kt_J} {R : kt_R} {Q : Option Value → kt_I → kt_J → kt_R → Prop} {b : Nat} (hkd : kt_kd P N b = (5, 0)) (hrest : (rest.map fun v => v.category).sum ≤ 8) (kk : KW P i_M_clearText N 0 [some (.ref b), none] [] N I J R (fun v I' J' R' => KW P i_law_law NM 805 L (kt_pu v rest) N I' J' R' Q)) : KW P i_law_law NM 802 L (.ref b :: rest) N I J R Q := kw_callV x_law_law_802 (As := []) rfl rfl (Nat.le_of_ble_eq_true rfl) hrest hkd (Nat.le_refl N) (fun h => h) kk
theorem x_law_law_805 : kt_dj i_law_law 805 (.if_icmp .eq) 846 808 := ⟨41, by decide +kernel, by decide, rfl⟩
theorem x_law_law_808 : kt_dc i_law_law 808 (.iconst 0) 1 809 ∧ Int32.ofInt (0) = nI 0 := ⟨⟨by decide +kernel, rfl⟩, by decide⟩
theorem x_law_law_809 : kt_dc i_law_law 809 (.ireturn) 1 810 ∧ kt_rt i_law_law = (some .boolean) := ⟨⟨by decide +kernel, rfl⟩, rfl⟩
theorem x_law_law_810 : kt_dc i_law_law 810 (.aload_n 1) 1 811 := ⟨by decide +kernel, rfl⟩
theorem x_law_law_811 : kt_dc i_law_law 811 (.aload_n 0) 1 812 := ⟨by decide +kernel, rfl⟩
theorem x_law_law_812 : kt_dc i_law_law 812 (.iload_n 3) 1 813 := ⟨by decide +kernel, rfl⟩
theorem x_law_law_813 : kt_dc i_law_law 813 (.iconst 1) 1 814 ∧ Int32.ofInt (1) = nI 1 := ⟨⟨by decide +kernel, rfl⟩, by decide⟩
theorem x_law_law_814 : kt_dc i_law_law 814 (.iadd) 1 815 := ⟨by decide +kernel, rfl⟩
theorem x_law_law_815 : kt_dc i_law_law 815 (.iaload) 1 816 := ⟨by decide +kernel, rfl⟩
theorem x_law_law_816 : kt_sV i_law_law 816 i_K_fault 4 1 819 := ⟨106, ⟨by decide +kernel, rfl⟩, Or.inl (tw_479), j_K_fault, ⟨tw_480, tw_481⟩, ⟨TX4, 5, rfl⟩, by decide, rfl⟩
theorem c_law_law_816 {P : kt_P} {NM : Nat} {L : List (Option Value)} {rest : List Value} {N : Nat} {I : kt_I} {J : kt_J} {R : kt_R} {Q : Option Value → kt_I → kt_J → kt_R → Prop} {b : Nat} {x0 : Int32} (hkd : kt_kd P N b = (4, 0)) (hrest : (rest.map fun v => v.category).sum ≤ 8) (kk : KW P i_K_fault N 0 [some (.ref b), some (.int x0)] [] N I J R (fun v I' J' R' => KW P i_law_law NM 819 L (kt_pu v rest) N I' J' R' Q)) : KW P i_law_law NM 816 L (.int x0 :: .ref b :: rest) N I J R Q := kw_callV x_law_law_816 (As := [.int x0]) rfl rfl (Nat.le_of_ble_eq_true rfl) hrest hkd (Nat.le_refl N) (fun h => h) kk
theorem x_law_law_819 : kt_dc i_law_law 819 (.aload_n 2) 1 820 := ⟨by decide +kernel, rfl⟩
theorem x_law_law_820 : kt_dc i_law_law 820 (.aload_n 0) 1 821 := ⟨by decide +kernel, rfl⟩
theorem x_law_law_821 : kt_dc i_law_law 821 (.iload_n 3) 1 822 := ⟨by decide +kernel, rfl⟩
theorem x_law_law_822 : kt_dc i_law_law 822 (.iconst 1) 1 823 ∧ Int32.ofInt (1) = nI 1 := ⟨⟨by decide +kernel, rfl⟩, by decide⟩
theorem x_law_law_823 : kt_dc i_law_law 823 (.iadd) 1 824 := ⟨by decide +kernel, rfl⟩
theorem x_law_law_824 : kt_dc i_law_law 824 (.iaload) 1 825 := ⟨by decide +kernel, rfl⟩
theorem x_law_law_825 : kt_sV i_law_law 825 i_M_fault 5 1 828 := ⟨109, ⟨by decide +kernel, rfl⟩, Or.inl (tw_808), j_M_fault, ⟨tw_809, tw_810⟩, ⟨TX5, 18, rfl⟩, by decide, rfl⟩
theorem c_law_law_825 {P : kt_P} {NM : Nat} {L : List (Option Value)} {rest : List Value} {N : Nat} {I : kt_I} {J : kt_J} {R : kt_R} {Q : Option Value → kt_I → kt_J → kt_R → Prop} {b : Nat} {x0 : Int32} (hkd : kt_kd P N b = (5, 0)) (hrest : (rest.map fun v => v.category).sum ≤ 8) (kk : KW P i_M_fault N 0 [some (.ref b), some (.int x0), none] [] N I J R (fun v I' J' R' => KW P i_law_law NM 828 L (kt_pu v rest) N I' J' R' Q)) : KW P i_law_law NM 825 L (.int x0 :: .ref b :: rest) N I J R Q := kw_callV x_law_law_825 (As := [.int x0]) rfl rfl (Nat.le_of_ble_eq_true rfl) hrest hkd (Nat.le_refl N) (fun h => h) kk
theorem x_law_law_828 : kt_dj i_law_law 828 (.if_icmp .eq) 846 831 := ⟨18, by decide +kernel, by decide, rfl⟩
theorem x_law_law_831 : kt_dc i_law_law 831 (.iconst 0) 1 832 ∧ Int32.ofInt (0) = nI 0 := ⟨⟨by decide +kernel, rfl⟩, by decide⟩
theorem x_law_law_832 : kt_dc i_law_law 832 (.ireturn) 1 833 ∧ kt_rt i_law_law = (some .boolean) := ⟨⟨by decide +kernel, rfl⟩, rfl⟩
theorem x_law_law_833 : kt_dc i_law_law 833 (.aload_n 1) 1 834 := ⟨by decide +kernel, rfl⟩
theorem x_law_law_834 : kt_sV i_law_law 834 i_K_play 4 0 837 := ⟨110, ⟨by decide +kernel, rfl⟩, Or.inl (tw_525), j_K_play, ⟨tw_526, tw_527⟩, ⟨TX4, 5, rfl⟩, by decide, rfl⟩
theorem c_law_law_834 {P : kt_P} {NM : Nat} {L : List (Option Value)} {rest : List Value} {N : Nat} {I : kt_I} {J : kt_J} {R : kt_R} {Q : Option Value → kt_I → kt_J → kt_R → Prop} {b : Nat} (hkd : kt_kd P N b = (4, 0)) (hrest : (rest.map fun v => v.category).sum ≤ 8) (kk : KW P i_K_play N 0 [some (.ref b), none] [] N I J R (fun v I' J' R' => KW P i_law_law NM 837 L (kt_pu v rest) N I' J' R' Q)) : KW P i_law_law NM 834 L (.ref b :: rest) N I J R Q := kw_callV x_law_law_834 (As := []) rfl rfl (Nat.le_of_ble_eq_true rfl) hrest hkd (Nat.le_refl N) (fun h => h) kk
theorem x_law_law_837 : kt_dc i_law_law 837 (.aload_n 2) 1 838 := ⟨by decide +kernel, rfl⟩
theorem x_law_law_838 : kt_sV i_law_law 838 i_M_play 5 0 841 := ⟨113, ⟨by decide +kernel, rfl⟩, Or.inl (tw_837), j_M_play, ⟨tw_838, tw_839⟩, ⟨TX5, 18, rfl⟩, by decide, rfl⟩
theorem c_law_law_838 {P : kt_P} {NM : Nat} {L : List (Option Value)} {rest : List Value} {N : Nat} {I : kt_I} {J : kt_J} {R : kt_R} {Q : Option Value → kt_I → kt_J → kt_R → Prop} {b : Nat} (hkd : kt_kd P N b = (5, 0)) (hrest : (rest.map fun v => v.category).sum ≤ 8) (kk : KW P i_M_play N 0 [some (.ref b), none] [] N I J R (fun v I' J' R' => KW P i_law_law NM 841 L (kt_pu v rest) N I' J' R' Q)) : KW P i_law_law NM 838 L (.ref b :: rest) N I J R Q := kw_callV x_law_law_838 (As := []) rfl rfl (Nat.le_of_ble_eq_true rfl) hrest hkd (Nat.le_refl N) (fun h => h) kk
theorem x_law_law_841 : kt_dj i_law_law 841 (.if_icmp .eq) 846 844 := ⟨5, by decide +kernel, by decide, rfl⟩
theorem x_law_law_844 : kt_dc i_law_law 844 (.iconst 0) 1 845 ∧ Int32.ofInt (0) = nI 0 := ⟨⟨by decide +kernel, rfl⟩, by decide⟩
theorem x_law_law_845 : kt_dc i_law_law 845 (.ireturn) 1 846 ∧ kt_rt i_law_law = (some .boolean) := ⟨⟨by decide +kernel, rfl⟩, rfl⟩
theorem x_law_law_846 : kt_dc i_law_law 846 (.iinc 3 5) 3 849 ∧ Int32.ofInt (5) = nI 5 := ⟨⟨by decide +kernel, rfl⟩, by decide⟩
theorem x_law_law_849 : kt_dj i_law_law 849 .goto 18 852 := ⟨-831, by decide +kernel, by decide, rfl⟩
theorem x_law_law_852 : kt_dc i_law_law 852 (.iconst 1) 1 853 ∧ Int32.ofInt (1) = nI 1 := ⟨⟨by decide +kernel, rfl⟩, by decide⟩
theorem x_law_law_853 : kt_dc i_law_law 853 (.ireturn) 1 854 ∧ kt_rt i_law_law = (some .boolean) := ⟨⟨by decide +kernel, rfl⟩, rfl⟩
