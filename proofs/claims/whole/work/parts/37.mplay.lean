/-! the reference: fault and play -/
theorem xrun_b {tx : Nat → Nat} {ty : Nat} : ∀ k s c X, ((xrun tx ty k s c X).2.1 ≠ 0 → (xrun tx ty k s c X).1 < ty) ∧ (xrun tx ty k s c X).2.1 < 4 ∧ (xrun tx ty k s c X).2.2.2 ≤ c + k
  | 0, s, c, X => ⟨fun h => absurd rfl h, (by decide : 0 < 4), Nat.le_refl _⟩
  | k + 1, s, c, X => by
    unfold xrun
    split
    · rename_i hs
      split
      · split
        · refine ⟨fun _ => hs, ?_, ?_⟩
          · show (if _ then 2 else 3) < 4
            split <;> decide
          · show c + 1 ≤ c + (k + 1)
            omega
        · have h := xrun_b (tx := tx) (ty := ty) k (xps tx ty s (xnb (tx s))) (c + 1) (xdo X (tx s) (xnm tx ty s)).2
          exact ⟨h.1, h.2.1, by have := h.2.2; omega⟩
      · exact ⟨fun _ => hs, (by decide : 1 < 4), by show c + 1 ≤ c + (k + 1); omega⟩
    · exact ⟨fun h => absurd rfl h, (by decide : 0 < 4), by show c ≤ c + (k + 1); omega⟩
theorem kt_nm4 {x : Nat} (h : x < 2147483648) (q : nI x = -4) : False := nI_pos (kt_p31 h) (by rw [q]; decide)
def kt_lg (m : Nat) (I I' : kt_I) : Prop := (∀ a, a ≠ m → a ≠ m + 1 → a ≠ m + 2 → a ≠ m + 3 → a ≠ m + 6 → a ≠ m + 7 → a ≠ m + 8 → a ≠ m + 9 → a ≠ m + 11 → I' a = I a) ∧ ∀ j, j ≠ 4 → j ≠ 5 → j ≠ 10 → j ≠ 14 → j ≠ 15 → j ≠ 16 → I' m j = I m j
theorem kt_lg.tr {m : Nat} {I I' I'' : kt_I} (h : kt_lg m I I') (h' : kt_lg m I' I'') : kt_lg m I I'' := ⟨fun a h1 h2 h3 h4 h5 h6 h7 h8 h9 => (h'.1 a h1 h2 h3 h4 h5 h6 h7 h8 h9).trans (h.1 a h1 h2 h3 h4 h5 h6 h7 h8 h9), fun j h1 h2 h3 h4 h5 h6 => (h'.2 j h1 h2 h3 h4 h5 h6).trans (h.2 j h1 h2 h3 h4 h5 h6)⟩
theorem kt_lf.lg {m : Nat} {I I' : kt_I} (h : kt_lf m I I') : kt_lg m I I' := ⟨fun a h1 h2 h3 _ h5 h6 h7 h8 h9 => h.1 a h1 h2 h3 h5 h6 h7 h8 h9, h.2⟩
theorem kt_lg.one {m : Nat} {I I' : kt_I} {b : Nat} (hb : b ≠ m) (hq : b = m + 1 ∨ b = m + 3) (h : ∀ c, c ≠ b → I' c = I c) : kt_lg m I I' := ⟨fun a h1 h2 h3 h4 h5 h6 h7 h8 h9 => h a (by omega), fun j _ _ _ _ _ _ => by rw [h m (by omega)]⟩
def xfa (r : kt_ru) (w : Nat) : Int32 := if r.2.1 = 0 then -4 else if w = 0 then nI r.1 else nI r.2.1
section MO
variable {P : kt_P} {N : Nat} {I : kt_I} {J : kt_J} {R : kt_R} {Q : Option Value → kt_I → kt_J → kt_R → Prop} {m : Nat} {X : kt_X}
theorem s_M_fault (hM : kt_isM P N R m) (hE : kt_enc (I (m + 1)) X) (hW : kt_wf X) {ty : Nat} {tx : Nat → Nat} (hx : kt_tx m ty tx I) {np : Nat} {PX : Nat → kt_X} (hpa : kt_pa m np PX I) (hbo : I m 5 = kt_bo false) {a : Int32} (kf : ¬ vR 0 1 a → Q (some (.int (-1))) I J R)
    (k : ∀ w, a = nI w → w ≤ 1 → ∀ I', kt_lg m I I' → kt_enc (I' (m + 1)) X → kt_pa m np PX I' → I' m 5 = kt_bo false → Q (some (.int (xfa (xrun tx ty 80 0 0 X) w))) I' J R) : KW P i_M_fault N 0 [some (.ref m), some (.int a), none] [] N I J R Q := by
  have hn := hW.2.2.1
  have hty := hx.2.1
  have hrb := xrun_b (tx := tx) (ty := ty) 80 0 0 X
  refine kw_ild_n x_M_fault_0 rfl ?_
  refine kw_icon x_M_fault_1 ?_
  refine kw_icon x_M_fault_2 ?_
  refine c_M_fault_3 (Nat.le_of_ble_eq_true rfl) ?_
  refine s_M_in ?_
  first | refine kw_if_ne_b x_M_fault_6 (fun h6 => ?_) (fun h6 => ?_) | refine kw_if_ne_s x_M_fault_6 ⟨by omega, by omega⟩ (fun h6 => ?_) (fun h6 => ?_) | refine kw_if_ne_n x_M_fault_6 (by omega) (fun h6 => ?_) (fun h6 => ?_) | refine kw_if_ne x_M_fault_6 (fun h6 => ?_) (fun h6 => ?_)
  · first
    | exfalso; omega
    | skip
      obtain ⟨w, hw1, hw2, rfl⟩ := kt_yR (by omega) h6
      refine kw_ald_n x_M_fault_11 rfl ?_
      refine kw_gr x_M_fault_12 (by exact isM_k hM) (by exact isM_r0 hM) ?_
      refine kw_ald_n x_M_fault_15 rfl ?_
      refine kw_gr x_M_fault_16 (by exact isM_k hM) (by exact isM_r2 hM) ?_
      refine c_M_fault_19 (Nat.le_of_ble_eq_true rfl) ?_
      refine s_M_copies (isM_a1 hM) (isM_a3 hM) (by omega) (fun I1 f1 f2 => ?_)
      have hE1 : kt_enc (I1 (m + 1)) X := (by rw [f1 _ (by omega)]; exact hE)
      refine kw_ald_n x_M_fault_22 rfl ?_
      refine c_M_fault_23 (by exact isM_k hM) (Nat.le_of_ble_eq_true rfl) ?_
      refine s_M_plays hM hE1 hW (hx.same (by rw [f1 _ (by omega)]) (f1 _ (by omega))) (hpa.same (by rw [f1 _ (by omega)]) (f1 _ (by omega))) (fun I2 g1 g2 g3 g4 g5 g6 g7 => ?_)
      by_cases hz : (xrun tx ty 80 0 0 X).2.1 = 0
      · rw [if_pos hz]
        refine kw_ist_n x_M_fault_26 (by decide) ?_
        refine kw_ald_n x_M_fault_27 rfl ?_
        refine kw_gr x_M_fault_28 (by exact isM_k hM) (by exact isM_r2 hM) ?_
        refine kw_ald_n x_M_fault_31 rfl ?_
        refine kw_gr x_M_fault_32 (by exact isM_k hM) (by exact isM_r0 hM) ?_
        refine c_M_fault_35 (Nat.le_of_ble_eq_true rfl) ?_
        refine s_M_copies (isM_a3 hM) (isM_a1 hM) (by omega) (fun I3 f3 f4 => ?_)
        have hb : kt_enc (I3 (m + 1)) X := kt_enc_ext (fun q hq => by rw [f4 q hq, g1.1 _ (by omega) (by omega) (by omega) (by omega) (by omega) (by omega) (by omega) (by omega), f2 q hq]) hn hE
        have hlg := (kt_lg.one (m := m) (by omega) (Or.inr rfl) f1).tr (g1.lg.tr (kt_lg.one (by omega) (Or.inl rfl) f3))
        have h15 : I3 m 15 = nI (xrun tx ty 80 0 0 X).2.1 := (by rw [f3 _ (by omega)]; exact g5)
        have hk := k w rfl hw2 I3 hlg hb (g3.same (by rw [f3 _ (by omega)]) (f3 _ (by omega))) (by rw [f3 _ (by omega)]; exact g4)
        unfold xfa at hk
        refine kw_ild_n x_M_fault_38 rfl ?_
        refine kw_bip x_M_fault_39 ?_
        first | refine kw_ic_eq_n x_M_fault_41 ⟨by omega, by omega⟩ (fun h41 => ?_) (fun h41 => ?_) | refine kw_ic_eq x_M_fault_41 (fun h41 => ?_) (fun h41 => ?_)
        · first
          | exfalso; first | omega | exact h41 rfl
          | skip
            refine kw_ild_n x_M_fault_48 rfl ?_
            refine kw_goto x_M_fault_49 ?_
            refine kw_iret x_M_fault_56 ?_
            first
              | (rw [if_pos hz] at hk; exact hk)
              | (rw [if_neg hz, if_pos (by omega)] at hk; exact hk)
              | (rw [if_neg hz, if_neg (by omega)] at hk; exact hk)
        · first
          | exfalso; first | omega | exact h41 rfl
          | skip
            refine kw_ild_n x_M_fault_44 rfl ?_
            first | refine kw_if_ne_b x_M_fault_45 (fun h45 => ?_) (fun h45 => ?_) | refine kw_if_ne_s x_M_fault_45 ⟨by omega, by omega⟩ (fun h45 => ?_) (fun h45 => ?_) | refine kw_if_ne_n x_M_fault_45 (by omega) (fun h45 => ?_) (fun h45 => ?_) | refine kw_if_ne x_M_fault_45 (fun h45 => ?_) (fun h45 => ?_)
            · first
              | exfalso; first | omega | exact h41 rfl
              | skip
                refine kw_ald_n x_M_fault_52 rfl ?_
                refine kw_gi_e x_M_fault_53 (by exact isM_k hM) (by first | exact h15 | exact rfl) ?_
                refine kw_iret x_M_fault_56 ?_
                first
                  | (rw [if_pos hz] at hk; exact hk)
                  | (rw [if_neg hz, if_pos (by omega)] at hk; exact hk)
                  | (rw [if_neg hz, if_neg (by omega)] at hk; exact hk)
            · first
              | exfalso; first | omega | exact h41 rfl
              | skip
                refine kw_ild_n x_M_fault_48 rfl ?_
                refine kw_goto x_M_fault_49 ?_
                refine kw_iret x_M_fault_56 ?_
                first
                  | (rw [if_pos hz] at hk; exact hk)
                  | (rw [if_neg hz, if_pos (by omega)] at hk; exact hk)
                  | (rw [if_neg hz, if_neg (by omega)] at hk; exact hk)
      · rw [if_neg hz]
        have hz1 := hrb.1 hz
        refine kw_ist_n x_M_fault_26 (by decide) ?_
        refine kw_ald_n x_M_fault_27 rfl ?_
        refine kw_gr x_M_fault_28 (by exact isM_k hM) (by exact isM_r2 hM) ?_
        refine kw_ald_n x_M_fault_31 rfl ?_
        refine kw_gr x_M_fault_32 (by exact isM_k hM) (by exact isM_r0 hM) ?_
        refine c_M_fault_35 (Nat.le_of_ble_eq_true rfl) ?_
        refine s_M_copies (isM_a3 hM) (isM_a1 hM) (by omega) (fun I3 f3 f4 => ?_)
        have hb : kt_enc (I3 (m + 1)) X := kt_enc_ext (fun q hq => by rw [f4 q hq, g1.1 _ (by omega) (by omega) (by omega) (by omega) (by omega) (by omega) (by omega) (by omega), f2 q hq]) hn hE
        have hlg := (kt_lg.one (m := m) (by omega) (Or.inr rfl) f1).tr (g1.lg.tr (kt_lg.one (by omega) (Or.inl rfl) f3))
        have h15 : I3 m 15 = nI (xrun tx ty 80 0 0 X).2.1 := (by rw [f3 _ (by omega)]; exact g5)
        have hk := k w rfl hw2 I3 hlg hb (g3.same (by rw [f3 _ (by omega)]) (f3 _ (by omega))) (by rw [f3 _ (by omega)]; exact g4)
        unfold xfa at hk
        refine kw_ild_n x_M_fault_38 rfl ?_
        refine kw_bip x_M_fault_39 ?_
        first | refine kw_ic_eq_n x_M_fault_41 ⟨by omega, by omega⟩ (fun h41 => ?_) (fun h41 => ?_) | refine kw_ic_eq x_M_fault_41 (fun h41 => ?_) (fun h41 => ?_)
        · first
          | exfalso; first | omega | exact kt_nm4 (x := (xrun tx ty 80 0 0 X).1) (by omega) h41
          | skip
            refine kw_ild_n x_M_fault_48 rfl ?_
            refine kw_goto x_M_fault_49 ?_
            refine kw_iret x_M_fault_56 ?_
            first
              | (rw [if_pos hz] at hk; exact hk)
              | (rw [if_neg hz, if_pos (by omega)] at hk; exact hk)
              | (rw [if_neg hz, if_neg (by omega)] at hk; exact hk)
        · first
          | exfalso; first | omega | exact kt_nm4 (x := (xrun tx ty 80 0 0 X).1) (by omega) h41
          | skip
            refine kw_ild_n x_M_fault_44 rfl ?_
            first | refine kw_if_ne_b x_M_fault_45 (fun h45 => ?_) (fun h45 => ?_) | refine kw_if_ne_s x_M_fault_45 ⟨by omega, by omega⟩ (fun h45 => ?_) (fun h45 => ?_) | refine kw_if_ne_n x_M_fault_45 (by omega) (fun h45 => ?_) (fun h45 => ?_) | refine kw_if_ne x_M_fault_45 (fun h45 => ?_) (fun h45 => ?_)
            · first
              | exfalso; first | omega | exact kt_nm4 (x := (xrun tx ty 80 0 0 X).1) (by omega) h41
              | skip
                refine kw_ald_n x_M_fault_52 rfl ?_
                refine kw_gi_e x_M_fault_53 (by exact isM_k hM) (by first | exact h15 | exact rfl) ?_
                refine kw_iret x_M_fault_56 ?_
                first
                  | (rw [if_pos hz] at hk; exact hk)
                  | (rw [if_neg hz, if_pos (by omega)] at hk; exact hk)
                  | (rw [if_neg hz, if_neg (by omega)] at hk; exact hk)
            · first
              | exfalso; first | omega | exact kt_nm4 (x := (xrun tx ty 80 0 0 X).1) (by omega) h41
              | skip
                refine kw_ild_n x_M_fault_48 rfl ?_
                refine kw_goto x_M_fault_49 ?_
                refine kw_iret x_M_fault_56 ?_
                first
                  | (rw [if_pos hz] at hk; exact hk)
                  | (rw [if_neg hz, if_pos (by omega)] at hk; exact hk)
                  | (rw [if_neg hz, if_neg (by omega)] at hk; exact hk)
  · first
    | exfalso; omega
    | skip
      refine kw_icon x_M_fault_9 ?_
      refine kw_iret x_M_fault_10 ?_
      exact kf (fun h => kt_nR (by omega) h6 h)
theorem s_M_play (hM : kt_isM P N R m) (hE : kt_enc (I (m + 1)) X) (hW : kt_wf X) {ty : Nat} {tx : Nat → Nat} (hx : kt_tx m ty tx I) {np : Nat} {PX : Nat → kt_X} (hpa : kt_pa m np PX I) (hbo : I m 5 = kt_bo false) (k0 : (xrun tx ty 80 0 0 X).2.1 ≠ 0 → ∀ I', kt_lg m I I' → kt_enc (I' (m + 1)) X → kt_pa m np PX I' → I' m 5 = kt_bo false → Q (some (.int (-2))) I' J R)
    (k : (xrun tx ty 80 0 0 X).2.1 = 0 → kt_wf (xrun tx ty 80 0 0 X).2.2.1 → ∀ I', kt_lg m I I' → kt_enc (I' (m + 1)) (xrun tx ty 80 0 0 X).2.2.1 → kt_pa m (xpn np) (xpp np PX X) I' → I' m 5 = kt_bo false → Q (some (.int (nI (xrun tx ty 80 0 0 X).2.2.2))) I' J R) : KW P i_M_play N 0 [some (.ref m), none] [] N I J R Q := by
  have hn := hW.2.2.1
  have hty := hx.2.1
  have hrb := xrun_b (tx := tx) (ty := ty) 80 0 0 X
  refine kw_ald_n x_M_play_0 rfl ?_
  refine kw_gr x_M_play_1 (by exact isM_k hM) (by exact isM_r0 hM) ?_
  refine kw_ald_n x_M_play_4 rfl ?_
  refine kw_gr x_M_play_5 (by exact isM_k hM) (by exact isM_r2 hM) ?_
  refine c_M_play_8 (Nat.le_of_ble_eq_true rfl) ?_
  refine s_M_copies (isM_a1 hM) (isM_a3 hM) (by omega) (fun I1 f1 f2 => ?_)
  have hE1 : kt_enc (I1 (m + 1)) X := (by rw [f1 _ (by omega)]; exact hE)
  refine kw_ald_n x_M_play_11 rfl ?_
  refine c_M_play_12 (by exact isM_k hM) (Nat.le_of_ble_eq_true rfl) ?_
  refine s_M_plays hM hE1 hW (hx.same (by rw [f1 _ (by omega)]) (f1 _ (by omega))) (hpa.same (by rw [f1 _ (by omega)]) (f1 _ (by omega))) (fun I2 g1 g2 g3 g4 g5 g6 g7 => ?_)
  by_cases hz : (xrun tx ty 80 0 0 X).2.1 = 0
  · rw [if_pos hz]
    refine kw_ist_n x_M_play_15 (by decide) ?_
    refine kw_ald_n x_M_play_16 rfl ?_
    refine kw_gr x_M_play_17 (by exact isM_k hM) (by exact isM_r2 hM) ?_
    refine kw_ald_n x_M_play_20 rfl ?_
    refine kw_gr x_M_play_21 (by exact isM_k hM) (by exact isM_r0 hM) ?_
    refine c_M_play_24 (Nat.le_of_ble_eq_true rfl) ?_
    refine s_M_copies (isM_a3 hM) (isM_a1 hM) (by omega) (fun I3 f3 f4 => ?_)
    have hb : kt_enc (I3 (m + 1)) X := kt_enc_ext (fun q hq => by rw [f4 q hq, g1.1 _ (by omega) (by omega) (by omega) (by omega) (by omega) (by omega) (by omega) (by omega), f2 q hq]) hn hE
    have hlg := (kt_lg.one (m := m) (by omega) (Or.inr rfl) f1).tr (g1.lg.tr (kt_lg.one (by omega) (Or.inl rfl) f3))
    have hx3 : kt_tx m ty tx I3 := hx.same (hlg.2 7 (by decide) (by decide) (by decide) (by decide) (by decide) (by decide)) (hlg.1 _ (by omega) (by omega) (by omega) (by omega) (by omega) (by omega) (by omega) (by omega) (by omega))
    have hpa3 : kt_pa m np PX I3 := g3.same (by rw [f3 _ (by omega)]) (f3 _ (by omega))
    have hb3 : I3 m 5 = kt_bo false := (by rw [f3 _ (by omega)]; exact g4)
    refine kw_ild_n x_M_play_27 rfl ?_
    refine kw_bip x_M_play_28 ?_
    first | refine kw_ic_eq_n x_M_play_30 ⟨by omega, by omega⟩ (fun h30 => ?_) (fun h30 => ?_) | refine kw_ic_eq x_M_play_30 (fun h30 => ?_) (fun h30 => ?_)
    · first
      | exfalso; first | omega | exact h30 rfl | exact h46 rfl
      | skip
        refine kw_ald_n x_M_play_36 rfl ?_
        refine c_M_play_37 (by exact isM_k hM) (Nat.le_of_ble_eq_true rfl) ?_
        refine s_M_records hM hb hn hpa3 (fun I4 r1 r2 r3 => ?_)
        refine kw_ald_n x_M_play_40 rfl ?_
        refine c_M_play_41 (by exact isM_k hM) (Nat.le_of_ble_eq_true rfl) ?_
        refine s_M_plays hM (by rw [r1 _ (by omega) (by omega)]; exact hb) hW (hx3.same (r2 _ (by decide)) (r1 _ (by omega) (by omega))) r3 (fun I5 w1 w2 w3 w4 w5 w6 w7 => ?_)
        rw [if_pos hz]
        refine kw_bip x_M_play_44 ?_
        first | refine kw_ic_ne_n x_M_play_46 ⟨by omega, by omega⟩ (fun h46 => ?_) (fun h46 => ?_) | refine kw_ic_ne x_M_play_46 (fun h46 => ?_) (fun h46 => ?_)
        · first
          | exfalso; first | omega | exact h30 rfl | exact h46 rfl
          | skip
            refine kw_bip x_M_play_56 ?_
            refine kw_iret x_M_play_58 ?_
            first
              | exact k0 hz I3 hlg hb hpa3 hb3
              | exact k hz w7 I5 (hlg.tr (kt_lg.tr ⟨fun a h1 _ h3 _ _ _ _ _ _ => r1 a h1 h3, fun j h _ _ _ _ _ => r2 j h⟩ w1.lg)) w2 w3 w4
        · first
          | exfalso; first | omega | exact h30 rfl | exact h46 rfl
          | skip
            refine kw_ald_n x_M_play_49 rfl ?_
            refine kw_gi_e x_M_play_50 (by exact isM_k hM) (by first | exact w6 | exact rfl) ?_
            refine kw_goto x_M_play_53 ?_
            refine kw_iret x_M_play_58 ?_
            first
              | exact k0 hz I3 hlg hb hpa3 hb3
              | exact k hz w7 I5 (hlg.tr (kt_lg.tr ⟨fun a h1 _ h3 _ _ _ _ _ _ => r1 a h1 h3, fun j h _ _ _ _ _ => r2 j h⟩ w1.lg)) w2 w3 w4
    · first
      | exfalso; first | omega | exact h30 rfl | exact h46 rfl
      | skip
        refine kw_bip x_M_play_33 ?_
        refine kw_iret x_M_play_35 ?_
        first
          | exact k0 hz I3 hlg hb hpa3 hb3
          | exact k hz w7 I5 (hlg.tr (kt_lg.tr ⟨fun a h1 _ h3 _ _ _ _ _ _ => r1 a h1 h3, fun j h _ _ _ _ _ => r2 j h⟩ w1.lg)) w2 w3 w4
  · rw [if_neg hz]
    have hz1 := hrb.1 hz
    refine kw_ist_n x_M_play_15 (by decide) ?_
    refine kw_ald_n x_M_play_16 rfl ?_
    refine kw_gr x_M_play_17 (by exact isM_k hM) (by exact isM_r2 hM) ?_
    refine kw_ald_n x_M_play_20 rfl ?_
    refine kw_gr x_M_play_21 (by exact isM_k hM) (by exact isM_r0 hM) ?_
    refine c_M_play_24 (Nat.le_of_ble_eq_true rfl) ?_
    refine s_M_copies (isM_a3 hM) (isM_a1 hM) (by omega) (fun I3 f3 f4 => ?_)
    have hb : kt_enc (I3 (m + 1)) X := kt_enc_ext (fun q hq => by rw [f4 q hq, g1.1 _ (by omega) (by omega) (by omega) (by omega) (by omega) (by omega) (by omega) (by omega), f2 q hq]) hn hE
    have hlg := (kt_lg.one (m := m) (by omega) (Or.inr rfl) f1).tr (g1.lg.tr (kt_lg.one (by omega) (Or.inl rfl) f3))
    have hx3 : kt_tx m ty tx I3 := hx.same (hlg.2 7 (by decide) (by decide) (by decide) (by decide) (by decide) (by decide)) (hlg.1 _ (by omega) (by omega) (by omega) (by omega) (by omega) (by omega) (by omega) (by omega) (by omega))
    have hpa3 : kt_pa m np PX I3 := g3.same (by rw [f3 _ (by omega)]) (f3 _ (by omega))
    have hb3 : I3 m 5 = kt_bo false := (by rw [f3 _ (by omega)]; exact g4)
    refine kw_ild_n x_M_play_27 rfl ?_
    refine kw_bip x_M_play_28 ?_
    first | refine kw_ic_eq_n x_M_play_30 ⟨by omega, by omega⟩ (fun h30 => ?_) (fun h30 => ?_) | refine kw_ic_eq x_M_play_30 (fun h30 => ?_) (fun h30 => ?_)
    · first
      | exfalso; omega
      | skip
        exact (kt_nm4 (x := (xrun tx ty 80 0 0 X).1) (by omega) h30).elim
    · first
      | exfalso; omega
      | skip
        refine kw_bip x_M_play_33 ?_
        refine kw_iret x_M_play_35 ?_
        first
          | exact k0 hz I3 hlg hb hpa3 hb3
          | exact k hz w7 I5 (hlg.tr (kt_lg.tr ⟨fun a h1 _ h3 _ _ _ _ _ _ => r1 a h1 h3, fun j h _ _ _ _ _ => r2 j h⟩ w1.lg)) w2 w3 w4
end MO
