theorem x_M_withStatus_0 : kt_dc i_M_withStatus 0 (.aload_n 0) 1 1 := ⟨by decide +kernel, rfl⟩
theorem x_M_withStatus_1 : kt_dc i_M_withStatus 1 (.iload_n 1) 1 2 := ⟨by decide +kernel, rfl⟩
theorem x_M_withStatus_2 : kt_sV i_M_withStatus 2 i_M_thinksAll 5 1 5 := ⟨76, ⟨by decide +kernel, rfl⟩, Or.inl (tw_607), j_M_thinksAll, ⟨tw_609, tp_48⟩, ⟨TX5, 18, rfl⟩, by decide, rfl⟩
theorem c_M_withStatus_2 {P : kt_P} {NM : Nat} {L : List (Option Value)} {rest : List Value} {N : Nat} {I : kt_I} {J : kt_J} {R : kt_R} {Q : Option Value → kt_I → kt_J → kt_R → Prop} {b : Nat} {x0 : Int32} (hkd : kt_kd P N b = (5, 0)) (hrest : (rest.map fun v => v.category).sum ≤ 8) (kk : KW P i_M_thinksAll N 0 [some (.ref b), some (.int x0), none] [] N I J R (fun v I' J' R' => KW P i_M_withStatus NM 5 L (kt_pu v rest) N I' J' R' Q)) : KW P i_M_withStatus NM 2 L (.int x0 :: .ref b :: rest) N I J R Q := kw_callV x_M_withStatus_2 (As := [.int x0]) rfl rfl (Nat.le_of_ble_eq_true rfl) hrest hkd (Nat.le_refl N) (fun h => h) kk
theorem x_M_withStatus_5 : kt_dc i_M_withStatus 5 (.iconst 0) 1 6 ∧ Int32.ofInt (0) = nI 0 := ⟨⟨by decide +kernel, rfl⟩, by decide⟩
theorem x_M_withStatus_6 : kt_dc i_M_withStatus 6 (.istore_n 3) 1 7 := ⟨by decide +kernel, rfl⟩
theorem x_M_withStatus_7 : kt_dc i_M_withStatus 7 (.iconst 0) 1 8 ∧ Int32.ofInt (0) = nI 0 := ⟨⟨by decide +kernel, rfl⟩, by decide⟩
theorem x_M_withStatus_8 : kt_dc i_M_withStatus 8 (.istore 4) 2 10 := ⟨by decide +kernel, rfl⟩
theorem x_M_withStatus_10 : kt_dc i_M_withStatus 10 (.iload 4) 2 12 := ⟨by decide +kernel, rfl⟩
theorem x_M_withStatus_12 : kt_dc i_M_withStatus 12 (.aload_n 0) 1 13 := ⟨by decide +kernel, rfl⟩
theorem x_M_withStatus_13 : kt_sG i_M_withStatus 13 5 0 2 16 := ⟨7, RX5, TX5, 18, ⟨by decide +kernel, rfl⟩, rfl, by decide, rfl, by decide, Or.inl (tw_535)⟩
theorem x_M_withStatus_16 : kt_dc i_M_withStatus 16 (.iconst 2) 1 17 ∧ Int32.ofInt (2) = nI 2 := ⟨⟨by decide +kernel, rfl⟩, by decide⟩
theorem x_M_withStatus_17 : kt_dc i_M_withStatus 17 (.iaload) 1 18 := ⟨by decide +kernel, rfl⟩
theorem x_M_withStatus_18 : kt_dj i_M_withStatus 18 (.if_icmp .ge) 46 21 := ⟨28, by decide +kernel, by decide, rfl⟩
theorem x_M_withStatus_21 : kt_dc i_M_withStatus 21 (.iload_n 3) 1 22 := ⟨by decide +kernel, rfl⟩
theorem x_M_withStatus_22 : kt_dc i_M_withStatus 22 (.aload_n 0) 1 23 := ⟨by decide +kernel, rfl⟩
theorem x_M_withStatus_23 : kt_sG i_M_withStatus 23 5 8 2 26 := ⟨25, RX5, TX5, 18, ⟨by decide +kernel, rfl⟩, rfl, by decide, rfl, by decide, Or.inl (tw_543)⟩
theorem x_M_withStatus_26 : kt_dc i_M_withStatus 26 (.iload 4) 2 28 := ⟨by decide +kernel, rfl⟩
theorem x_M_withStatus_28 : kt_dc i_M_withStatus 28 (.iaload) 1 29 := ⟨by decide +kernel, rfl⟩
theorem x_M_withStatus_29 : kt_dc i_M_withStatus 29 (.iload_n 2) 1 30 := ⟨by decide +kernel, rfl⟩
theorem x_M_withStatus_30 : kt_dj i_M_withStatus 30 (.if_icmp .ne) 37 33 := ⟨7, by decide +kernel, by decide, rfl⟩
theorem x_M_withStatus_33 : kt_dc i_M_withStatus 33 (.iconst 1) 1 34 ∧ Int32.ofInt (1) = nI 1 := ⟨⟨by decide +kernel, rfl⟩, by decide⟩
theorem x_M_withStatus_34 : kt_dj i_M_withStatus 34 .goto 38 37 := ⟨4, by decide +kernel, by decide, rfl⟩
theorem x_M_withStatus_37 : kt_dc i_M_withStatus 37 (.iconst 0) 1 38 ∧ Int32.ofInt (0) = nI 0 := ⟨⟨by decide +kernel, rfl⟩, by decide⟩
theorem x_M_withStatus_38 : kt_dc i_M_withStatus 38 (.iadd) 1 39 := ⟨by decide +kernel, rfl⟩
theorem x_M_withStatus_39 : kt_dc i_M_withStatus 39 (.istore_n 3) 1 40 := ⟨by decide +kernel, rfl⟩
theorem x_M_withStatus_40 : kt_dc i_M_withStatus 40 (.iinc 4 1) 3 43 ∧ Int32.ofInt (1) = nI 1 := ⟨⟨by decide +kernel, rfl⟩, by decide⟩
theorem x_M_withStatus_43 : kt_dj i_M_withStatus 43 .goto 10 46 := ⟨-33, by decide +kernel, by decide, rfl⟩
theorem x_M_withStatus_46 : kt_dc i_M_withStatus 46 (.iload_n 3) 1 47 := ⟨by decide +kernel, rfl⟩
theorem x_M_withStatus_47 : kt_dc i_M_withStatus 47 (.ireturn) 1 48 ∧ kt_rt i_M_withStatus = (some .int) := ⟨⟨by decide +kernel, rfl⟩, rfl⟩
theorem x_M_sorry_0 : kt_dc i_M_sorry 0 (.iconst 0) 1 1 ∧ Int32.ofInt (0) = nI 0 := ⟨⟨by decide +kernel, rfl⟩, by decide⟩
theorem x_M_sorry_1 : kt_dc i_M_sorry 1 (.istore_n 2) 1 2 := ⟨by decide +kernel, rfl⟩
theorem x_M_sorry_2 : kt_dc i_M_sorry 2 (.iconst 0) 1 3 ∧ Int32.ofInt (0) = nI 0 := ⟨⟨by decide +kernel, rfl⟩, by decide⟩
theorem x_M_sorry_3 : kt_dc i_M_sorry 3 (.istore_n 3) 1 4 := ⟨by decide +kernel, rfl⟩
theorem x_M_sorry_4 : kt_dc i_M_sorry 4 (.iload_n 3) 1 5 := ⟨by decide +kernel, rfl⟩
theorem x_M_sorry_5 : kt_dc i_M_sorry 5 (.aload_n 0) 1 6 := ⟨by decide +kernel, rfl⟩
theorem x_M_sorry_6 : kt_sG i_M_sorry 6 5 0 2 9 := ⟨7, RX5, TX5, 18, ⟨by decide +kernel, rfl⟩, rfl, by decide, rfl, by decide, Or.inl (tw_535)⟩
theorem x_M_sorry_9 : kt_dc i_M_sorry 9 (.iconst 2) 1 10 ∧ Int32.ofInt (2) = nI 2 := ⟨⟨by decide +kernel, rfl⟩, by decide⟩
theorem x_M_sorry_10 : kt_dc i_M_sorry 10 (.iaload) 1 11 := ⟨by decide +kernel, rfl⟩
theorem x_M_sorry_11 : kt_dj i_M_sorry 11 (.if_icmp .ge) 34 14 := ⟨23, by decide +kernel, by decide, rfl⟩
theorem x_M_sorry_14 : kt_dc i_M_sorry 14 (.iload_n 2) 1 15 := ⟨by decide +kernel, rfl⟩
theorem x_M_sorry_15 : kt_dc i_M_sorry 15 (.aload_n 0) 1 16 := ⟨by decide +kernel, rfl⟩
theorem x_M_sorry_16 : kt_dc i_M_sorry 16 (.iload_n 3) 1 17 := ⟨by decide +kernel, rfl⟩
theorem x_M_sorry_17 : kt_dc i_M_sorry 17 (.bipush 8) 2 19 ∧ (Int8.ofInt (8)).toInt32 = nI 8 := ⟨⟨by decide +kernel, rfl⟩, by decide⟩
theorem x_M_sorry_19 : kt_sV i_M_sorry 19 i_M_of 5 2 22 := ⟨44, ⟨by decide +kernel, rfl⟩, Or.inl (tw_615), j_M_of, ⟨tw_617, tp_50⟩, ⟨TX5, 18, rfl⟩, by decide, rfl⟩
theorem c_M_sorry_19 {P : kt_P} {NM : Nat} {L : List (Option Value)} {rest : List Value} {N : Nat} {I : kt_I} {J : kt_J} {R : kt_R} {Q : Option Value → kt_I → kt_J → kt_R → Prop} {b : Nat} {x0 : Int32} {x1 : Int32} (hkd : kt_kd P N b = (5, 0)) (hrest : (rest.map fun v => v.category).sum ≤ 8) (kk : KW P i_M_of N 0 [some (.ref b), some (.int x0), some (.int x1)] [] N I J R (fun v I' J' R' => KW P i_M_sorry NM 22 L (kt_pu v rest) N I' J' R' Q)) : KW P i_M_sorry NM 19 L (.int x1 :: .int x0 :: .ref b :: rest) N I J R Q := kw_callV x_M_sorry_19 (As := [.int x0, .int x1]) rfl rfl (Nat.le_of_ble_eq_true rfl) hrest hkd (Nat.le_refl N) (fun h => h) kk
theorem x_M_sorry_22 : kt_dc i_M_sorry 22 (.iload_n 1) 1 23 := ⟨by decide +kernel, rfl⟩
theorem x_M_sorry_23 : kt_dc i_M_sorry 23 (.ishr) 1 24 := ⟨by decide +kernel, rfl⟩
theorem x_M_sorry_24 : kt_dc i_M_sorry 24 (.iconst 1) 1 25 ∧ Int32.ofInt (1) = nI 1 := ⟨⟨by decide +kernel, rfl⟩, by decide⟩
theorem x_M_sorry_25 : kt_dc i_M_sorry 25 (.iand) 1 26 := ⟨by decide +kernel, rfl⟩
theorem x_M_sorry_26 : kt_dc i_M_sorry 26 (.iadd) 1 27 := ⟨by decide +kernel, rfl⟩
theorem x_M_sorry_27 : kt_dc i_M_sorry 27 (.istore_n 2) 1 28 := ⟨by decide +kernel, rfl⟩
theorem x_M_sorry_28 : kt_dc i_M_sorry 28 (.iinc 3 1) 3 31 ∧ Int32.ofInt (1) = nI 1 := ⟨⟨by decide +kernel, rfl⟩, by decide⟩
theorem x_M_sorry_31 : kt_dj i_M_sorry 31 .goto 4 34 := ⟨-27, by decide +kernel, by decide, rfl⟩
theorem x_M_sorry_34 : kt_dc i_M_sorry 34 (.iload_n 2) 1 35 := ⟨by decide +kernel, rfl⟩
theorem x_M_sorry_35 : kt_dc i_M_sorry 35 (.ireturn) 1 36 ∧ kt_rt i_M_sorry = (some .int) := ⟨⟨by decide +kernel, rfl⟩, rfl⟩
theorem x_M_madeIn_0 : kt_dc i_M_madeIn 0 (.iconst 0) 1 1 ∧ Int32.ofInt (0) = nI 0 := ⟨⟨by decide +kernel, rfl⟩, by decide⟩
theorem x_M_madeIn_1 : kt_dc i_M_madeIn 1 (.istore_n 2) 1 2 := ⟨by decide +kernel, rfl⟩
theorem x_M_madeIn_2 : kt_dc i_M_madeIn 2 (.iconst 0) 1 3 ∧ Int32.ofInt (0) = nI 0 := ⟨⟨by decide +kernel, rfl⟩, by decide⟩
theorem x_M_madeIn_3 : kt_dc i_M_madeIn 3 (.istore_n 3) 1 4 := ⟨by decide +kernel, rfl⟩
theorem x_M_madeIn_4 : kt_dc i_M_madeIn 4 (.iload_n 3) 1 5 := ⟨by decide +kernel, rfl⟩
theorem x_M_madeIn_5 : kt_dc i_M_madeIn 5 (.aload_n 0) 1 6 := ⟨by decide +kernel, rfl⟩
theorem x_M_madeIn_6 : kt_sG i_M_madeIn 6 5 0 2 9 := ⟨7, RX5, TX5, 18, ⟨by decide +kernel, rfl⟩, rfl, by decide, rfl, by decide, Or.inl (tw_535)⟩
theorem x_M_madeIn_9 : kt_dc i_M_madeIn 9 (.iconst 2) 1 10 ∧ Int32.ofInt (2) = nI 2 := ⟨⟨by decide +kernel, rfl⟩, by decide⟩
theorem x_M_madeIn_10 : kt_dc i_M_madeIn 10 (.iaload) 1 11 := ⟨by decide +kernel, rfl⟩
theorem x_M_madeIn_11 : kt_dj i_M_madeIn 11 (.if_icmp .ge) 38 14 := ⟨27, by decide +kernel, by decide, rfl⟩
theorem x_M_madeIn_14 : kt_dc i_M_madeIn 14 (.iload_n 2) 1 15 := ⟨by decide +kernel, rfl⟩
theorem x_M_madeIn_15 : kt_dc i_M_madeIn 15 (.aload_n 0) 1 16 := ⟨by decide +kernel, rfl⟩
theorem x_M_madeIn_16 : kt_dc i_M_madeIn 16 (.iload_n 3) 1 17 := ⟨by decide +kernel, rfl⟩
theorem x_M_madeIn_17 : kt_dc i_M_madeIn 17 (.iconst 1) 1 18 ∧ Int32.ofInt (1) = nI 1 := ⟨⟨by decide +kernel, rfl⟩, by decide⟩
theorem x_M_madeIn_18 : kt_sV i_M_madeIn 18 i_M_of 5 2 21 := ⟨44, ⟨by decide +kernel, rfl⟩, Or.inl (tw_615), j_M_of, ⟨tw_617, tp_50⟩, ⟨TX5, 18, rfl⟩, by decide, rfl⟩
theorem c_M_madeIn_18 {P : kt_P} {NM : Nat} {L : List (Option Value)} {rest : List Value} {N : Nat} {I : kt_I} {J : kt_J} {R : kt_R} {Q : Option Value → kt_I → kt_J → kt_R → Prop} {b : Nat} {x0 : Int32} {x1 : Int32} (hkd : kt_kd P N b = (5, 0)) (hrest : (rest.map fun v => v.category).sum ≤ 8) (kk : KW P i_M_of N 0 [some (.ref b), some (.int x0), some (.int x1)] [] N I J R (fun v I' J' R' => KW P i_M_madeIn NM 21 L (kt_pu v rest) N I' J' R' Q)) : KW P i_M_madeIn NM 18 L (.int x1 :: .int x0 :: .ref b :: rest) N I J R Q := kw_callV x_M_madeIn_18 (As := [.int x0, .int x1]) rfl rfl (Nat.le_of_ble_eq_true rfl) hrest hkd (Nat.le_refl N) (fun h => h) kk
theorem x_M_madeIn_21 : kt_dc i_M_madeIn 21 (.iload_n 1) 1 22 := ⟨by decide +kernel, rfl⟩
theorem x_M_madeIn_22 : kt_dj i_M_madeIn 22 (.if_icmp .ne) 29 25 := ⟨7, by decide +kernel, by decide, rfl⟩
theorem x_M_madeIn_25 : kt_dc i_M_madeIn 25 (.iconst 1) 1 26 ∧ Int32.ofInt (1) = nI 1 := ⟨⟨by decide +kernel, rfl⟩, by decide⟩
theorem x_M_madeIn_26 : kt_dj i_M_madeIn 26 .goto 30 29 := ⟨4, by decide +kernel, by decide, rfl⟩
theorem x_M_madeIn_29 : kt_dc i_M_madeIn 29 (.iconst 0) 1 30 ∧ Int32.ofInt (0) = nI 0 := ⟨⟨by decide +kernel, rfl⟩, by decide⟩
theorem x_M_madeIn_30 : kt_dc i_M_madeIn 30 (.iadd) 1 31 := ⟨by decide +kernel, rfl⟩
theorem x_M_madeIn_31 : kt_dc i_M_madeIn 31 (.istore_n 2) 1 32 := ⟨by decide +kernel, rfl⟩
theorem x_M_madeIn_32 : kt_dc i_M_madeIn 32 (.iinc 3 1) 3 35 ∧ Int32.ofInt (1) = nI 1 := ⟨⟨by decide +kernel, rfl⟩, by decide⟩
theorem x_M_madeIn_35 : kt_dj i_M_madeIn 35 .goto 4 38 := ⟨-31, by decide +kernel, by decide, rfl⟩
theorem x_M_madeIn_38 : kt_dc i_M_madeIn 38 (.iload_n 2) 1 39 := ⟨by decide +kernel, rfl⟩
theorem x_M_madeIn_39 : kt_dc i_M_madeIn 39 (.ireturn) 1 40 ∧ kt_rt i_M_madeIn = (some .int) := ⟨⟨by decide +kernel, rfl⟩, rfl⟩
theorem x_M_likes_0 : kt_dc i_M_likes 0 (.iconst 0) 1 1 ∧ Int32.ofInt (0) = nI 0 := ⟨⟨by decide +kernel, rfl⟩, by decide⟩
theorem x_M_likes_1 : kt_dc i_M_likes 1 (.istore_n 2) 1 2 := ⟨by decide +kernel, rfl⟩
theorem x_M_likes_2 : kt_dc i_M_likes 2 (.iconst 0) 1 3 ∧ Int32.ofInt (0) = nI 0 := ⟨⟨by decide +kernel, rfl⟩, by decide⟩
theorem x_M_likes_3 : kt_dc i_M_likes 3 (.istore_n 3) 1 4 := ⟨by decide +kernel, rfl⟩
theorem x_M_likes_4 : kt_dc i_M_likes 4 (.iload_n 3) 1 5 := ⟨by decide +kernel, rfl⟩
theorem x_M_likes_5 : kt_dc i_M_likes 5 (.aload_n 0) 1 6 := ⟨by decide +kernel, rfl⟩
theorem x_M_likes_6 : kt_sG i_M_likes 6 5 0 2 9 := ⟨7, RX5, TX5, 18, ⟨by decide +kernel, rfl⟩, rfl, by decide, rfl, by decide, Or.inl (tw_535)⟩
theorem x_M_likes_9 : kt_dc i_M_likes 9 (.iconst 1) 1 10 ∧ Int32.ofInt (1) = nI 1 := ⟨⟨by decide +kernel, rfl⟩, by decide⟩
theorem x_M_likes_10 : kt_dc i_M_likes 10 (.iaload) 1 11 := ⟨by decide +kernel, rfl⟩
theorem x_M_likes_11 : kt_dj i_M_likes 11 (.if_icmp .ge) 87 14 := ⟨76, by decide +kernel, by decide, rfl⟩
theorem x_M_likes_14 : kt_dc i_M_likes 14 (.iconst 1) 1 15 ∧ Int32.ofInt (1) = nI 1 := ⟨⟨by decide +kernel, rfl⟩, by decide⟩
theorem x_M_likes_15 : kt_dc i_M_likes 15 (.istore 4) 2 17 := ⟨by decide +kernel, rfl⟩
theorem x_M_likes_17 : kt_dc i_M_likes 17 (.iconst 0) 1 18 ∧ Int32.ofInt (0) = nI 0 := ⟨⟨by decide +kernel, rfl⟩, by decide⟩
theorem x_M_likes_18 : kt_dc i_M_likes 18 (.istore 5) 2 20 := ⟨by decide +kernel, rfl⟩
theorem x_M_likes_20 : kt_dc i_M_likes 20 (.iload 5) 2 22 := ⟨by decide +kernel, rfl⟩
theorem x_M_likes_22 : kt_dc i_M_likes 22 (.aload_n 0) 1 23 := ⟨by decide +kernel, rfl⟩
theorem x_M_likes_23 : kt_sG i_M_likes 23 5 0 2 26 := ⟨7, RX5, TX5, 18, ⟨by decide +kernel, rfl⟩, rfl, by decide, rfl, by decide, Or.inl (tw_535)⟩
theorem x_M_likes_26 : kt_dc i_M_likes 26 (.iconst 2) 1 27 ∧ Int32.ofInt (2) = nI 2 := ⟨⟨by decide +kernel, rfl⟩, by decide⟩
theorem x_M_likes_27 : kt_dc i_M_likes 27 (.iaload) 1 28 := ⟨by decide +kernel, rfl⟩
theorem x_M_likes_28 : kt_dj i_M_likes 28 (.if_icmp .ge) 66 31 := ⟨38, by decide +kernel, by decide, rfl⟩
theorem x_M_likes_31 : kt_dc i_M_likes 31 (.iload 4) 2 33 := ⟨by decide +kernel, rfl⟩
theorem x_M_likes_33 : kt_dj i_M_likes 33 (.ifCond .eq) 57 36 := ⟨24, by decide +kernel, by decide, rfl⟩
theorem x_M_likes_36 : kt_dc i_M_likes 36 (.aload_n 0) 1 37 := ⟨by decide +kernel, rfl⟩
theorem x_M_likes_37 : kt_dc i_M_likes 37 (.iload_n 3) 1 38 := ⟨by decide +kernel, rfl⟩
theorem x_M_likes_38 : kt_dc i_M_likes 38 (.iload 5) 2 40 := ⟨by decide +kernel, rfl⟩
theorem x_M_likes_40 : kt_sV i_M_likes 40 i_M_knows 5 2 43 := ⟨48, ⟨by decide +kernel, rfl⟩, Or.inl (tw_619), j_M_knows, ⟨tw_621, tp_51⟩, ⟨TX5, 18, rfl⟩, by decide, rfl⟩
theorem c_M_likes_40 {P : kt_P} {NM : Nat} {L : List (Option Value)} {rest : List Value} {N : Nat} {I : kt_I} {J : kt_J} {R : kt_R} {Q : Option Value → kt_I → kt_J → kt_R → Prop} {b : Nat} {x0 : Int32} {x1 : Int32} (hkd : kt_kd P N b = (5, 0)) (hrest : (rest.map fun v => v.category).sum ≤ 8) (kk : KW P i_M_knows N 0 [some (.ref b), some (.int x0), some (.int x1)] [] N I J R (fun v I' J' R' => KW P i_M_likes NM 43 L (kt_pu v rest) N I' J' R' Q)) : KW P i_M_likes NM 40 L (.int x1 :: .int x0 :: .ref b :: rest) N I J R Q := kw_callV x_M_likes_40 (As := [.int x0, .int x1]) rfl rfl (Nat.le_of_ble_eq_true rfl) hrest hkd (Nat.le_refl N) (fun h => h) kk
theorem x_M_likes_43 : kt_dc i_M_likes 43 (.aload_n 0) 1 44 := ⟨by decide +kernel, rfl⟩
theorem x_M_likes_44 : kt_dc i_M_likes 44 (.iload_n 1) 1 45 := ⟨by decide +kernel, rfl⟩
theorem x_M_likes_45 : kt_dc i_M_likes 45 (.iload 5) 2 47 := ⟨by decide +kernel, rfl⟩
theorem x_M_likes_47 : kt_sV i_M_likes 47 i_M_knows 5 2 50 := ⟨48, ⟨by decide +kernel, rfl⟩, Or.inl (tw_619), j_M_knows, ⟨tw_621, tp_51⟩, ⟨TX5, 18, rfl⟩, by decide, rfl⟩
theorem c_M_likes_47 {P : kt_P} {NM : Nat} {L : List (Option Value)} {rest : List Value} {N : Nat} {I : kt_I} {J : kt_J} {R : kt_R} {Q : Option Value → kt_I → kt_J → kt_R → Prop} {b : Nat} {x0 : Int32} {x1 : Int32} (hkd : kt_kd P N b = (5, 0)) (hrest : (rest.map fun v => v.category).sum ≤ 8) (kk : KW P i_M_knows N 0 [some (.ref b), some (.int x0), some (.int x1)] [] N I J R (fun v I' J' R' => KW P i_M_likes NM 50 L (kt_pu v rest) N I' J' R' Q)) : KW P i_M_likes NM 47 L (.int x1 :: .int x0 :: .ref b :: rest) N I J R Q := kw_callV x_M_likes_47 (As := [.int x0, .int x1]) rfl rfl (Nat.le_of_ble_eq_true rfl) hrest hkd (Nat.le_refl N) (fun h => h) kk
theorem x_M_likes_50 : kt_dj i_M_likes 50 (.if_icmp .ne) 57 53 := ⟨7, by decide +kernel, by decide, rfl⟩
theorem x_M_likes_53 : kt_dc i_M_likes 53 (.iconst 1) 1 54 ∧ Int32.ofInt (1) = nI 1 := ⟨⟨by decide +kernel, rfl⟩, by decide⟩
theorem x_M_likes_54 : kt_dj i_M_likes 54 .goto 58 57 := ⟨4, by decide +kernel, by decide, rfl⟩
theorem x_M_likes_57 : kt_dc i_M_likes 57 (.iconst 0) 1 58 ∧ Int32.ofInt (0) = nI 0 := ⟨⟨by decide +kernel, rfl⟩, by decide⟩
theorem x_M_likes_58 : kt_dc i_M_likes 58 (.istore 4) 2 60 := ⟨by decide +kernel, rfl⟩
theorem x_M_likes_60 : kt_dc i_M_likes 60 (.iinc 5 1) 3 63 ∧ Int32.ofInt (1) = nI 1 := ⟨⟨by decide +kernel, rfl⟩, by decide⟩
theorem x_M_likes_63 : kt_dj i_M_likes 63 .goto 20 66 := ⟨-43, by decide +kernel, by decide, rfl⟩
theorem x_M_likes_66 : kt_dc i_M_likes 66 (.iload_n 2) 1 67 := ⟨by decide +kernel, rfl⟩
theorem x_M_likes_67 : kt_dc i_M_likes 67 (.iload 4) 2 69 := ⟨by decide +kernel, rfl⟩
theorem x_M_likes_69 : kt_dj i_M_likes 69 (.ifCond .eq) 78 72 := ⟨9, by decide +kernel, by decide, rfl⟩
theorem x_M_likes_72 : kt_dc i_M_likes 72 (.iconst 1) 1 73 ∧ Int32.ofInt (1) = nI 1 := ⟨⟨by decide +kernel, rfl⟩, by decide⟩
theorem x_M_likes_73 : kt_dc i_M_likes 73 (.iload_n 3) 1 74 := ⟨by decide +kernel, rfl⟩
theorem x_M_likes_74 : kt_dc i_M_likes 74 (.ishl) 1 75 := ⟨by decide +kernel, rfl⟩
theorem x_M_likes_75 : kt_dj i_M_likes 75 .goto 79 78 := ⟨4, by decide +kernel, by decide, rfl⟩
theorem x_M_likes_78 : kt_dc i_M_likes 78 (.iconst 0) 1 79 ∧ Int32.ofInt (0) = nI 0 := ⟨⟨by decide +kernel, rfl⟩, by decide⟩
theorem x_M_likes_79 : kt_dc i_M_likes 79 (.ior) 1 80 := ⟨by decide +kernel, rfl⟩
theorem x_M_likes_80 : kt_dc i_M_likes 80 (.istore_n 2) 1 81 := ⟨by decide +kernel, rfl⟩
theorem x_M_likes_81 : kt_dc i_M_likes 81 (.iinc 3 1) 3 84 ∧ Int32.ofInt (1) = nI 1 := ⟨⟨by decide +kernel, rfl⟩, by decide⟩
theorem x_M_likes_84 : kt_dj i_M_likes 84 .goto 4 87 := ⟨-80, by decide +kernel, by decide, rfl⟩
theorem x_M_likes_87 : kt_dc i_M_likes 87 (.iload_n 2) 1 88 := ⟨by decide +kernel, rfl⟩
theorem x_M_likes_88 : kt_dc i_M_likes 88 (.ireturn) 1 89 ∧ kt_rt i_M_likes = (some .int) := ⟨⟨by decide +kernel, rfl⟩, rfl⟩
theorem x_M_goodOf_0 : kt_dc i_M_goodOf 0 (.aload_n 0) 1 1 := ⟨by decide +kernel, rfl⟩
theorem x_M_goodOf_1 : kt_dc i_M_goodOf 1 (.iload_n 1) 1 2 := ⟨by decide +kernel, rfl⟩
theorem x_M_goodOf_2 : kt_sV i_M_goodOf 2 i_M_isTown 5 1 5 := ⟨103, ⟨by decide +kernel, rfl⟩, Or.inl (tw_647), j_M_isTown, ⟨tw_649, tp_57⟩, ⟨TX5, 18, rfl⟩, by decide, rfl⟩
theorem c_M_goodOf_2 {P : kt_P} {NM : Nat} {L : List (Option Value)} {rest : List Value} {N : Nat} {I : kt_I} {J : kt_J} {R : kt_R} {Q : Option Value → kt_I → kt_J → kt_R → Prop} {b : Nat} {x0 : Int32} (hkd : kt_kd P N b = (5, 0)) (hrest : (rest.map fun v => v.category).sum ≤ 8) (kk : KW P i_M_isTown N 0 [some (.ref b), some (.int x0)] [] N I J R (fun v I' J' R' => KW P i_M_goodOf NM 5 L (kt_pu v rest) N I' J' R' Q)) : KW P i_M_goodOf NM 2 L (.int x0 :: .ref b :: rest) N I J R Q := kw_callV x_M_goodOf_2 (As := [.int x0]) rfl rfl (Nat.le_of_ble_eq_true rfl) hrest hkd (Nat.le_refl N) (fun h => h) kk
theorem x_M_goodOf_5 : kt_dj i_M_goodOf 5 (.ifCond .eq) 26 8 := ⟨21, by decide +kernel, by decide, rfl⟩
theorem x_M_goodOf_8 : kt_dc i_M_goodOf 8 (.iload_n 2) 1 9 := ⟨by decide +kernel, rfl⟩
theorem x_M_goodOf_9 : kt_dc i_M_goodOf 9 (.iconst 0) 1 10 ∧ Int32.ofInt (0) = nI 0 := ⟨⟨by decide +kernel, rfl⟩, by decide⟩
theorem x_M_goodOf_10 : kt_dc i_M_goodOf 10 (.iconst 5) 1 11 ∧ Int32.ofInt (5) = nI 5 := ⟨⟨by decide +kernel, rfl⟩, by decide⟩
theorem x_M_goodOf_11 : kt_sS i_M_goodOf 11 i_M_in 3 14 := ⟨107, ⟨by decide +kernel, rfl⟩, Or.inl (tw_651), j_M_in, tw_652, rfl⟩
theorem c_M_goodOf_11 {P : kt_P} {NM : Nat} {L : List (Option Value)} {rest : List Value} {N : Nat} {I : kt_I} {J : kt_J} {R : kt_R} {Q : Option Value → kt_I → kt_J → kt_R → Prop} {x0 : Int32} {x1 : Int32} {x2 : Int32} (hrest : (rest.map fun v => v.category).sum ≤ 8) (kk : KW P i_M_in N 0 [some (.int x0), some (.int x1), some (.int x2)] [] N I J R (fun v I' J' R' => KW P i_M_goodOf NM 14 L (kt_pu v rest) N I' J' R' Q)) : KW P i_M_goodOf NM 11 L (.int x2 :: .int x1 :: .int x0 :: rest) N I J R Q := kw_callS x_M_goodOf_11 (As := [.int x0, .int x1, .int x2]) rfl rfl (Nat.le_of_ble_eq_true rfl) hrest (Nat.le_refl N) (fun h => h) kk
theorem x_M_goodOf_14 : kt_dj i_M_goodOf 14 (.ifCond .eq) 26 17 := ⟨12, by decide +kernel, by decide, rfl⟩
theorem x_M_goodOf_17 : kt_dc i_M_goodOf 17 (.iload_n 3) 1 18 := ⟨by decide +kernel, rfl⟩
theorem x_M_goodOf_18 : kt_dc i_M_goodOf 18 (.iconst 0) 1 19 ∧ Int32.ofInt (0) = nI 0 := ⟨⟨by decide +kernel, rfl⟩, by decide⟩
theorem x_M_goodOf_19 : kt_dc i_M_goodOf 19 (.iconst 3) 1 20 ∧ Int32.ofInt (3) = nI 3 := ⟨⟨by decide +kernel, rfl⟩, by decide⟩
theorem x_M_goodOf_20 : kt_sS i_M_goodOf 20 i_M_in 3 23 := ⟨107, ⟨by decide +kernel, rfl⟩, Or.inl (tw_651), j_M_in, tw_652, rfl⟩
theorem c_M_goodOf_20 {P : kt_P} {NM : Nat} {L : List (Option Value)} {rest : List Value} {N : Nat} {I : kt_I} {J : kt_J} {R : kt_R} {Q : Option Value → kt_I → kt_J → kt_R → Prop} {x0 : Int32} {x1 : Int32} {x2 : Int32} (hrest : (rest.map fun v => v.category).sum ≤ 8) (kk : KW P i_M_in N 0 [some (.int x0), some (.int x1), some (.int x2)] [] N I J R (fun v I' J' R' => KW P i_M_goodOf NM 23 L (kt_pu v rest) N I' J' R' Q)) : KW P i_M_goodOf NM 20 L (.int x2 :: .int x1 :: .int x0 :: rest) N I J R Q := kw_callS x_M_goodOf_20 (As := [.int x0, .int x1, .int x2]) rfl rfl (Nat.le_of_ble_eq_true rfl) hrest (Nat.le_refl N) (fun h => h) kk
theorem x_M_goodOf_23 : kt_dj i_M_goodOf 23 (.ifCond .ne) 28 26 := ⟨5, by decide +kernel, by decide, rfl⟩
theorem x_M_goodOf_26 : kt_dc i_M_goodOf 26 (.iconst (-1)) 1 27 ∧ Int32.ofInt (-1) = (-1 : Int32) := ⟨⟨by decide +kernel, rfl⟩, by decide⟩
theorem x_M_goodOf_27 : kt_dc i_M_goodOf 27 (.ireturn) 1 28 ∧ kt_rt i_M_goodOf = (some .int) := ⟨⟨by decide +kernel, rfl⟩, rfl⟩
theorem x_M_goodOf_28 : kt_dc i_M_goodOf 28 (.aload_n 0) 1 29 := ⟨by decide +kernel, rfl⟩
theorem x_M_goodOf_29 : kt_dc i_M_goodOf 29 (.iload_n 1) 1 30 := ⟨by decide +kernel, rfl⟩
theorem x_M_goodOf_30 : kt_sV i_M_goodOf 30 i_M_thinksAll 5 1 33 := ⟨76, ⟨by decide +kernel, rfl⟩, Or.inl (tw_607), j_M_thinksAll, ⟨tw_609, tp_48⟩, ⟨TX5, 18, rfl⟩, by decide, rfl⟩
theorem c_M_goodOf_30 {P : kt_P} {NM : Nat} {L : List (Option Value)} {rest : List Value} {N : Nat} {I : kt_I} {J : kt_J} {R : kt_R} {Q : Option Value → kt_I → kt_J → kt_R → Prop} {b : Nat} {x0 : Int32} (hkd : kt_kd P N b = (5, 0)) (hrest : (rest.map fun v => v.category).sum ≤ 8) (kk : KW P i_M_thinksAll N 0 [some (.ref b), some (.int x0), none] [] N I J R (fun v I' J' R' => KW P i_M_goodOf NM 33 L (kt_pu v rest) N I' J' R' Q)) : KW P i_M_goodOf NM 30 L (.int x0 :: .ref b :: rest) N I J R Q := kw_callV x_M_goodOf_30 (As := [.int x0]) rfl rfl (Nat.le_of_ble_eq_true rfl) hrest hkd (Nat.le_refl N) (fun h => h) kk
theorem x_M_goodOf_33 : kt_dc i_M_goodOf 33 (.iconst 0) 1 34 ∧ Int32.ofInt (0) = nI 0 := ⟨⟨by decide +kernel, rfl⟩, by decide⟩
theorem x_M_goodOf_34 : kt_dc i_M_goodOf 34 (.istore 4) 2 36 := ⟨by decide +kernel, rfl⟩
theorem x_M_goodOf_36 : kt_dc i_M_goodOf 36 (.iconst 0) 1 37 ∧ Int32.ofInt (0) = nI 0 := ⟨⟨by decide +kernel, rfl⟩, by decide⟩
theorem x_M_goodOf_37 : kt_dc i_M_goodOf 37 (.istore 5) 2 39 := ⟨by decide +kernel, rfl⟩
theorem x_M_goodOf_39 : kt_dc i_M_goodOf 39 (.iconst 0) 1 40 ∧ Int32.ofInt (0) = nI 0 := ⟨⟨by decide +kernel, rfl⟩, by decide⟩
theorem x_M_goodOf_40 : kt_dc i_M_goodOf 40 (.istore 6) 2 42 := ⟨by decide +kernel, rfl⟩
theorem x_M_goodOf_42 : kt_dc i_M_goodOf 42 (.iload 6) 2 44 := ⟨by decide +kernel, rfl⟩
theorem x_M_goodOf_44 : kt_dc i_M_goodOf 44 (.aload_n 0) 1 45 := ⟨by decide +kernel, rfl⟩
theorem x_M_goodOf_45 : kt_sG i_M_goodOf 45 5 0 2 48 := ⟨7, RX5, TX5, 18, ⟨by decide +kernel, rfl⟩, rfl, by decide, rfl, by decide, Or.inl (tw_535)⟩
theorem x_M_goodOf_48 : kt_dc i_M_goodOf 48 (.iconst 2) 1 49 ∧ Int32.ofInt (2) = nI 2 := ⟨⟨by decide +kernel, rfl⟩, by decide⟩
theorem x_M_goodOf_49 : kt_dc i_M_goodOf 49 (.iaload) 1 50 := ⟨by decide +kernel, rfl⟩
theorem x_M_goodOf_50 : kt_dj i_M_goodOf 50 (.if_icmp .ge) 134 53 := ⟨84, by decide +kernel, by decide, rfl⟩
theorem x_M_goodOf_53 : kt_dc i_M_goodOf 53 (.iload 4) 2 55 := ⟨by decide +kernel, rfl⟩
theorem x_M_goodOf_55 : kt_dc i_M_goodOf 55 (.aload_n 0) 1 56 := ⟨by decide +kernel, rfl⟩
theorem x_M_goodOf_56 : kt_dc i_M_goodOf 56 (.iload 6) 2 58 := ⟨by decide +kernel, rfl⟩
theorem x_M_goodOf_58 : kt_dc i_M_goodOf 58 (.iconst 3) 1 59 ∧ Int32.ofInt (3) = nI 3 := ⟨⟨by decide +kernel, rfl⟩, by decide⟩
theorem x_M_goodOf_59 : kt_sV i_M_goodOf 59 i_M_of 5 2 62 := ⟨44, ⟨by decide +kernel, rfl⟩, Or.inl (tw_615), j_M_of, ⟨tw_617, tp_50⟩, ⟨TX5, 18, rfl⟩, by decide, rfl⟩
theorem c_M_goodOf_59 {P : kt_P} {NM : Nat} {L : List (Option Value)} {rest : List Value} {N : Nat} {I : kt_I} {J : kt_J} {R : kt_R} {Q : Option Value → kt_I → kt_J → kt_R → Prop} {b : Nat} {x0 : Int32} {x1 : Int32} (hkd : kt_kd P N b = (5, 0)) (hrest : (rest.map fun v => v.category).sum ≤ 8) (kk : KW P i_M_of N 0 [some (.ref b), some (.int x0), some (.int x1)] [] N I J R (fun v I' J' R' => KW P i_M_goodOf NM 62 L (kt_pu v rest) N I' J' R' Q)) : KW P i_M_goodOf NM 59 L (.int x1 :: .int x0 :: .ref b :: rest) N I J R Q := kw_callV x_M_goodOf_59 (As := [.int x0, .int x1]) rfl rfl (Nat.le_of_ble_eq_true rfl) hrest hkd (Nat.le_refl N) (fun h => h) kk
theorem x_M_goodOf_62 : kt_dc i_M_goodOf 62 (.iload_n 2) 1 63 := ⟨by decide +kernel, rfl⟩
theorem x_M_goodOf_63 : kt_dj i_M_goodOf 63 (.if_icmp .ne) 86 66 := ⟨23, by decide +kernel, by decide, rfl⟩
theorem x_M_goodOf_66 : kt_dc i_M_goodOf 66 (.aload_n 0) 1 67 := ⟨by decide +kernel, rfl⟩
theorem x_M_goodOf_67 : kt_sG i_M_goodOf 67 5 8 2 70 := ⟨25, RX5, TX5, 18, ⟨by decide +kernel, rfl⟩, rfl, by decide, rfl, by decide, Or.inl (tw_543)⟩
theorem x_M_goodOf_70 : kt_dc i_M_goodOf 70 (.iload 6) 2 72 := ⟨by decide +kernel, rfl⟩
theorem x_M_goodOf_72 : kt_dc i_M_goodOf 72 (.iaload) 1 73 := ⟨by decide +kernel, rfl⟩
theorem x_M_goodOf_73 : kt_dj i_M_goodOf 73 (.ifCond .ne) 86 76 := ⟨13, by decide +kernel, by decide, rfl⟩
theorem x_M_goodOf_76 : kt_dc i_M_goodOf 76 (.aload_n 0) 1 77 := ⟨by decide +kernel, rfl⟩
theorem x_M_goodOf_77 : kt_dc i_M_goodOf 77 (.iload 6) 2 79 := ⟨by decide +kernel, rfl⟩
theorem x_M_goodOf_79 : kt_dc i_M_goodOf 79 (.iconst 4) 1 80 ∧ Int32.ofInt (4) = nI 4 := ⟨⟨by decide +kernel, rfl⟩, by decide⟩
theorem x_M_goodOf_80 : kt_sV i_M_goodOf 80 i_M_of 5 2 83 := ⟨44, ⟨by decide +kernel, rfl⟩, Or.inl (tw_615), j_M_of, ⟨tw_617, tp_50⟩, ⟨TX5, 18, rfl⟩, by decide, rfl⟩
theorem c_M_goodOf_80 {P : kt_P} {NM : Nat} {L : List (Option Value)} {rest : List Value} {N : Nat} {I : kt_I} {J : kt_J} {R : kt_R} {Q : Option Value → kt_I → kt_J → kt_R → Prop} {b : Nat} {x0 : Int32} {x1 : Int32} (hkd : kt_kd P N b = (5, 0)) (hrest : (rest.map fun v => v.category).sum ≤ 8) (kk : KW P i_M_of N 0 [some (.ref b), some (.int x0), some (.int x1)] [] N I J R (fun v I' J' R' => KW P i_M_goodOf NM 83 L (kt_pu v rest) N I' J' R' Q)) : KW P i_M_goodOf NM 80 L (.int x1 :: .int x0 :: .ref b :: rest) N I J R Q := kw_callV x_M_goodOf_80 (As := [.int x0, .int x1]) rfl rfl (Nat.le_of_ble_eq_true rfl) hrest hkd (Nat.le_refl N) (fun h => h) kk
theorem x_M_goodOf_83 : kt_dj i_M_goodOf 83 .goto 87 86 := ⟨4, by decide +kernel, by decide, rfl⟩
theorem x_M_goodOf_86 : kt_dc i_M_goodOf 86 (.iconst 0) 1 87 ∧ Int32.ofInt (0) = nI 0 := ⟨⟨by decide +kernel, rfl⟩, by decide⟩
theorem x_M_goodOf_87 : kt_dc i_M_goodOf 87 (.iadd) 1 88 := ⟨by decide +kernel, rfl⟩
theorem x_M_goodOf_88 : kt_dc i_M_goodOf 88 (.istore 4) 2 90 := ⟨by decide +kernel, rfl⟩
theorem x_M_goodOf_90 : kt_dc i_M_goodOf 90 (.iload 5) 2 92 := ⟨by decide +kernel, rfl⟩
theorem x_M_goodOf_92 : kt_dc i_M_goodOf 92 (.aload_n 0) 1 93 := ⟨by decide +kernel, rfl⟩
theorem x_M_goodOf_93 : kt_dc i_M_goodOf 93 (.iload 6) 2 95 := ⟨by decide +kernel, rfl⟩
theorem x_M_goodOf_95 : kt_dc i_M_goodOf 95 (.iconst 3) 1 96 ∧ Int32.ofInt (3) = nI 3 := ⟨⟨by decide +kernel, rfl⟩, by decide⟩
theorem x_M_goodOf_96 : kt_sV i_M_goodOf 96 i_M_of 5 2 99 := ⟨44, ⟨by decide +kernel, rfl⟩, Or.inl (tw_615), j_M_of, ⟨tw_617, tp_50⟩, ⟨TX5, 18, rfl⟩, by decide, rfl⟩
theorem c_M_goodOf_96 {P : kt_P} {NM : Nat} {L : List (Option Value)} {rest : List Value} {N : Nat} {I : kt_I} {J : kt_J} {R : kt_R} {Q : Option Value → kt_I → kt_J → kt_R → Prop} {b : Nat} {x0 : Int32} {x1 : Int32} (hkd : kt_kd P N b = (5, 0)) (hrest : (rest.map fun v => v.category).sum ≤ 8) (kk : KW P i_M_of N 0 [some (.ref b), some (.int x0), some (.int x1)] [] N I J R (fun v I' J' R' => KW P i_M_goodOf NM 99 L (kt_pu v rest) N I' J' R' Q)) : KW P i_M_goodOf NM 96 L (.int x1 :: .int x0 :: .ref b :: rest) N I J R Q := kw_callV x_M_goodOf_96 (As := [.int x0, .int x1]) rfl rfl (Nat.le_of_ble_eq_true rfl) hrest hkd (Nat.le_refl N) (fun h => h) kk
theorem x_M_goodOf_99 : kt_dc i_M_goodOf 99 (.iload_n 2) 1 100 := ⟨by decide +kernel, rfl⟩
theorem x_M_goodOf_100 : kt_dj i_M_goodOf 100 (.if_icmp .ne) 124 103 := ⟨24, by decide +kernel, by decide, rfl⟩
theorem x_M_goodOf_103 : kt_dc i_M_goodOf 103 (.aload_n 0) 1 104 := ⟨by decide +kernel, rfl⟩
theorem x_M_goodOf_104 : kt_sG i_M_goodOf 104 5 8 2 107 := ⟨25, RX5, TX5, 18, ⟨by decide +kernel, rfl⟩, rfl, by decide, rfl, by decide, Or.inl (tw_543)⟩
theorem x_M_goodOf_107 : kt_dc i_M_goodOf 107 (.iload 6) 2 109 := ⟨by decide +kernel, rfl⟩
theorem x_M_goodOf_109 : kt_dc i_M_goodOf 109 (.iaload) 1 110 := ⟨by decide +kernel, rfl⟩
theorem x_M_goodOf_110 : kt_dc i_M_goodOf 110 (.iconst 1) 1 111 ∧ Int32.ofInt (1) = nI 1 := ⟨⟨by decide +kernel, rfl⟩, by decide⟩
theorem x_M_goodOf_111 : kt_dj i_M_goodOf 111 (.if_icmp .ne) 124 114 := ⟨13, by decide +kernel, by decide, rfl⟩
theorem x_M_goodOf_114 : kt_dc i_M_goodOf 114 (.aload_n 0) 1 115 := ⟨by decide +kernel, rfl⟩
theorem x_M_goodOf_115 : kt_dc i_M_goodOf 115 (.iload 6) 2 117 := ⟨by decide +kernel, rfl⟩
theorem x_M_goodOf_117 : kt_dc i_M_goodOf 117 (.iconst 4) 1 118 ∧ Int32.ofInt (4) = nI 4 := ⟨⟨by decide +kernel, rfl⟩, by decide⟩
theorem x_M_goodOf_118 : kt_sV i_M_goodOf 118 i_M_of 5 2 121 := ⟨44, ⟨by decide +kernel, rfl⟩, Or.inl (tw_615), j_M_of, ⟨tw_617, tp_50⟩, ⟨TX5, 18, rfl⟩, by decide, rfl⟩
theorem c_M_goodOf_118 {P : kt_P} {NM : Nat} {L : List (Option Value)} {rest : List Value} {N : Nat} {I : kt_I} {J : kt_J} {R : kt_R} {Q : Option Value → kt_I → kt_J → kt_R → Prop} {b : Nat} {x0 : Int32} {x1 : Int32} (hkd : kt_kd P N b = (5, 0)) (hrest : (rest.map fun v => v.category).sum ≤ 8) (kk : KW P i_M_of N 0 [some (.ref b), some (.int x0), some (.int x1)] [] N I J R (fun v I' J' R' => KW P i_M_goodOf NM 121 L (kt_pu v rest) N I' J' R' Q)) : KW P i_M_goodOf NM 118 L (.int x1 :: .int x0 :: .ref b :: rest) N I J R Q := kw_callV x_M_goodOf_118 (As := [.int x0, .int x1]) rfl rfl (Nat.le_of_ble_eq_true rfl) hrest hkd (Nat.le_refl N) (fun h => h) kk
theorem x_M_goodOf_121 : kt_dj i_M_goodOf 121 .goto 125 124 := ⟨4, by decide +kernel, by decide, rfl⟩
theorem x_M_goodOf_124 : kt_dc i_M_goodOf 124 (.iconst 0) 1 125 ∧ Int32.ofInt (0) = nI 0 := ⟨⟨by decide +kernel, rfl⟩, by decide⟩
theorem x_M_goodOf_125 : kt_dc i_M_goodOf 125 (.iadd) 1 126 := ⟨by decide +kernel, rfl⟩
theorem x_M_goodOf_126 : kt_dc i_M_goodOf 126 (.istore 5) 2 128 := ⟨by decide +kernel, rfl⟩
theorem x_M_goodOf_128 : kt_dc i_M_goodOf 128 (.iinc 6 1) 3 131 ∧ Int32.ofInt (1) = nI 1 := ⟨⟨by decide +kernel, rfl⟩, by decide⟩
theorem x_M_goodOf_131 : kt_dj i_M_goodOf 131 .goto 42 134 := ⟨-89, by decide +kernel, by decide, rfl⟩
theorem x_M_goodOf_134 : kt_dc i_M_goodOf 134 (.aload_n 0) 1 135 := ⟨by decide +kernel, rfl⟩
theorem x_M_goodOf_135 : kt_dc i_M_goodOf 135 (.iload_n 1) 1 136 := ⟨by decide +kernel, rfl⟩
theorem x_M_goodOf_136 : kt_dc i_M_goodOf 136 (.iload_n 2) 1 137 := ⟨by decide +kernel, rfl⟩
theorem x_M_goodOf_137 : kt_sV i_M_goodOf 137 i_M_stock 5 2 140 := ⟨55, ⟨by decide +kernel, rfl⟩, Or.inl (tw_631), j_M_stock, ⟨tw_633, tp_54⟩, ⟨TX5, 18, rfl⟩, by decide, rfl⟩
theorem c_M_goodOf_137 {P : kt_P} {NM : Nat} {L : List (Option Value)} {rest : List Value} {N : Nat} {I : kt_I} {J : kt_J} {R : kt_R} {Q : Option Value → kt_I → kt_J → kt_R → Prop} {b : Nat} {x0 : Int32} {x1 : Int32} (hkd : kt_kd P N b = (5, 0)) (hrest : (rest.map fun v => v.category).sum ≤ 8) (kk : KW P i_M_stock N 0 [some (.ref b), some (.int x0), some (.int x1), none, none] [] N I J R (fun v I' J' R' => KW P i_M_goodOf NM 140 L (kt_pu v rest) N I' J' R' Q)) : KW P i_M_goodOf NM 137 L (.int x1 :: .int x0 :: .ref b :: rest) N I J R Q := kw_callV x_M_goodOf_137 (As := [.int x0, .int x1]) rfl rfl (Nat.le_of_ble_eq_true rfl) hrest hkd (Nat.le_refl N) (fun h => h) kk
theorem x_M_goodOf_140 : kt_dc i_M_goodOf 140 (.istore 6) 2 142 := ⟨by decide +kernel, rfl⟩
theorem x_M_goodOf_142 : kt_dc i_M_goodOf 142 (.iload_n 3) 1 143 := ⟨by decide +kernel, rfl⟩
theorem x_M_goodOf_143 : kt_dj i_M_goodOf 143 (.ifCond .ne) 151 146 := ⟨8, by decide +kernel, by decide, rfl⟩
theorem x_M_goodOf_146 : kt_dc i_M_goodOf 146 (.iload 6) 2 148 := ⟨by decide +kernel, rfl⟩
theorem x_M_goodOf_148 : kt_dj i_M_goodOf 148 .goto 176 151 := ⟨28, by decide +kernel, by decide, rfl⟩
theorem x_M_goodOf_151 : kt_dc i_M_goodOf 151 (.iload_n 3) 1 152 := ⟨by decide +kernel, rfl⟩
theorem x_M_goodOf_152 : kt_dc i_M_goodOf 152 (.iconst 1) 1 153 ∧ Int32.ofInt (1) = nI 1 := ⟨⟨by decide +kernel, rfl⟩, by decide⟩
theorem x_M_goodOf_153 : kt_dj i_M_goodOf 153 (.if_icmp .ne) 161 156 := ⟨8, by decide +kernel, by decide, rfl⟩
theorem x_M_goodOf_156 : kt_dc i_M_goodOf 156 (.iload 4) 2 158 := ⟨by decide +kernel, rfl⟩
theorem x_M_goodOf_158 : kt_dj i_M_goodOf 158 .goto 176 161 := ⟨18, by decide +kernel, by decide, rfl⟩
theorem x_M_goodOf_161 : kt_dc i_M_goodOf 161 (.iload_n 3) 1 162 := ⟨by decide +kernel, rfl⟩
theorem x_M_goodOf_162 : kt_dc i_M_goodOf 162 (.iconst 2) 1 163 ∧ Int32.ofInt (2) = nI 2 := ⟨⟨by decide +kernel, rfl⟩, by decide⟩
theorem x_M_goodOf_163 : kt_dj i_M_goodOf 163 (.if_icmp .ne) 174 166 := ⟨11, by decide +kernel, by decide, rfl⟩
theorem x_M_goodOf_166 : kt_dc i_M_goodOf 166 (.iload 6) 2 168 := ⟨by decide +kernel, rfl⟩
theorem x_M_goodOf_168 : kt_dc i_M_goodOf 168 (.iload 4) 2 170 := ⟨by decide +kernel, rfl⟩
theorem x_M_goodOf_170 : kt_dc i_M_goodOf 170 (.isub) 1 171 := ⟨by decide +kernel, rfl⟩
theorem x_M_goodOf_171 : kt_dj i_M_goodOf 171 .goto 176 174 := ⟨5, by decide +kernel, by decide, rfl⟩
theorem x_M_goodOf_174 : kt_dc i_M_goodOf 174 (.iload 5) 2 176 := ⟨by decide +kernel, rfl⟩
theorem x_M_goodOf_176 : kt_dc i_M_goodOf 176 (.ireturn) 1 177 ∧ kt_rt i_M_goodOf = (some .int) := ⟨⟨by decide +kernel, rfl⟩, rfl⟩
theorem x_M_lookedAt_0 : kt_dc i_M_lookedAt 0 (.aload_n 0) 1 1 := ⟨by decide +kernel, rfl⟩
theorem x_M_lookedAt_1 : kt_dc i_M_lookedAt 1 (.iload_n 1) 1 2 := ⟨by decide +kernel, rfl⟩
theorem x_M_lookedAt_2 : kt_sV i_M_lookedAt 2 i_M_isTown 5 1 5 := ⟨103, ⟨by decide +kernel, rfl⟩, Or.inl (tw_647), j_M_isTown, ⟨tw_649, tp_57⟩, ⟨TX5, 18, rfl⟩, by decide, rfl⟩
theorem c_M_lookedAt_2 {P : kt_P} {NM : Nat} {L : List (Option Value)} {rest : List Value} {N : Nat} {I : kt_I} {J : kt_J} {R : kt_R} {Q : Option Value → kt_I → kt_J → kt_R → Prop} {b : Nat} {x0 : Int32} (hkd : kt_kd P N b = (5, 0)) (hrest : (rest.map fun v => v.category).sum ≤ 8) (kk : KW P i_M_isTown N 0 [some (.ref b), some (.int x0)] [] N I J R (fun v I' J' R' => KW P i_M_lookedAt NM 5 L (kt_pu v rest) N I' J' R' Q)) : KW P i_M_lookedAt NM 2 L (.int x0 :: .ref b :: rest) N I J R Q := kw_callV x_M_lookedAt_2 (As := [.int x0]) rfl rfl (Nat.le_of_ble_eq_true rfl) hrest hkd (Nat.le_refl N) (fun h => h) kk
theorem x_M_lookedAt_5 : kt_dj i_M_lookedAt 5 (.ifCond .eq) 21 8 := ⟨16, by decide +kernel, by decide, rfl⟩
theorem x_M_lookedAt_8 : kt_dc i_M_lookedAt 8 (.iload_n 2) 1 9 := ⟨by decide +kernel, rfl⟩
theorem x_M_lookedAt_9 : kt_dc i_M_lookedAt 9 (.iconst 0) 1 10 ∧ Int32.ofInt (0) = nI 0 := ⟨⟨by decide +kernel, rfl⟩, by decide⟩
theorem x_M_lookedAt_10 : kt_dc i_M_lookedAt 10 (.iconst 5) 1 11 ∧ Int32.ofInt (5) = nI 5 := ⟨⟨by decide +kernel, rfl⟩, by decide⟩
theorem x_M_lookedAt_11 : kt_sS i_M_lookedAt 11 i_M_in 3 14 := ⟨107, ⟨by decide +kernel, rfl⟩, Or.inl (tw_651), j_M_in, tw_652, rfl⟩
theorem c_M_lookedAt_11 {P : kt_P} {NM : Nat} {L : List (Option Value)} {rest : List Value} {N : Nat} {I : kt_I} {J : kt_J} {R : kt_R} {Q : Option Value → kt_I → kt_J → kt_R → Prop} {x0 : Int32} {x1 : Int32} {x2 : Int32} (hrest : (rest.map fun v => v.category).sum ≤ 8) (kk : KW P i_M_in N 0 [some (.int x0), some (.int x1), some (.int x2)] [] N I J R (fun v I' J' R' => KW P i_M_lookedAt NM 14 L (kt_pu v rest) N I' J' R' Q)) : KW P i_M_lookedAt NM 11 L (.int x2 :: .int x1 :: .int x0 :: rest) N I J R Q := kw_callS x_M_lookedAt_11 (As := [.int x0, .int x1, .int x2]) rfl rfl (Nat.le_of_ble_eq_true rfl) hrest (Nat.le_refl N) (fun h => h) kk
theorem x_M_lookedAt_14 : kt_dj i_M_lookedAt 14 (.ifCond .eq) 21 17 := ⟨7, by decide +kernel, by decide, rfl⟩
theorem x_M_lookedAt_17 : kt_dc i_M_lookedAt 17 (.iload_n 3) 1 18 := ⟨by decide +kernel, rfl⟩
theorem x_M_lookedAt_18 : kt_dj i_M_lookedAt 18 (.ifCond .ge) 23 21 := ⟨5, by decide +kernel, by decide, rfl⟩
theorem x_M_lookedAt_21 : kt_dc i_M_lookedAt 21 (.iconst (-1)) 1 22 ∧ Int32.ofInt (-1) = (-1 : Int32) := ⟨⟨by decide +kernel, rfl⟩, by decide⟩
theorem x_M_lookedAt_22 : kt_dc i_M_lookedAt 22 (.ireturn) 1 23 ∧ kt_rt i_M_lookedAt = (some .int) := ⟨⟨by decide +kernel, rfl⟩, rfl⟩
theorem x_M_lookedAt_23 : kt_dc i_M_lookedAt 23 (.aload_n 0) 1 24 := ⟨by decide +kernel, rfl⟩
theorem x_M_lookedAt_24 : kt_dc i_M_lookedAt 24 (.iload_n 1) 1 25 := ⟨by decide +kernel, rfl⟩
theorem x_M_lookedAt_25 : kt_sV i_M_lookedAt 25 i_M_thinksOf 5 1 28 := ⟨68, ⟨by decide +kernel, rfl⟩, Or.inl (tw_611), j_M_thinksOf, ⟨tw_613, tp_49⟩, ⟨TX5, 18, rfl⟩, by decide, rfl⟩
theorem c_M_lookedAt_25 {P : kt_P} {NM : Nat} {L : List (Option Value)} {rest : List Value} {N : Nat} {I : kt_I} {J : kt_J} {R : kt_R} {Q : Option Value → kt_I → kt_J → kt_R → Prop} {b : Nat} {x0 : Int32} (hkd : kt_kd P N b = (5, 0)) (hrest : (rest.map fun v => v.category).sum ≤ 8) (kk : KW P i_M_thinksOf N 0 [some (.ref b), some (.int x0), none, none] [] N I J R (fun v I' J' R' => KW P i_M_lookedAt NM 28 L (kt_pu v rest) N I' J' R' Q)) : KW P i_M_lookedAt NM 25 L (.int x0 :: .ref b :: rest) N I J R Q := kw_callV x_M_lookedAt_25 (As := [.int x0]) rfl rfl (Nat.le_of_ble_eq_true rfl) hrest hkd (Nat.le_refl N) (fun h => h) kk
theorem x_M_lookedAt_28 : kt_dc i_M_lookedAt 28 (.aload_n 0) 1 29 := ⟨by decide +kernel, rfl⟩
theorem x_M_lookedAt_29 : kt_dc i_M_lookedAt 29 (.iload_n 1) 1 30 := ⟨by decide +kernel, rfl⟩
theorem x_M_lookedAt_30 : kt_dc i_M_lookedAt 30 (.iload_n 2) 1 31 := ⟨by decide +kernel, rfl⟩
theorem x_M_lookedAt_31 : kt_sV i_M_lookedAt 31 i_M_looks 5 2 34 := ⟨72, ⟨by decide +kernel, rfl⟩, Or.inl (tw_627), j_M_looks, ⟨tw_629, tp_53⟩, ⟨TX5, 18, rfl⟩, by decide, rfl⟩
theorem c_M_lookedAt_31 {P : kt_P} {NM : Nat} {L : List (Option Value)} {rest : List Value} {N : Nat} {I : kt_I} {J : kt_J} {R : kt_R} {Q : Option Value → kt_I → kt_J → kt_R → Prop} {b : Nat} {x0 : Int32} {x1 : Int32} (hkd : kt_kd P N b = (5, 0)) (hrest : (rest.map fun v => v.category).sum ≤ 8) (kk : KW P i_M_looks N 0 [some (.ref b), some (.int x0), some (.int x1), none, none, none, none] [] N I J R (fun v I' J' R' => KW P i_M_lookedAt NM 34 L (kt_pu v rest) N I' J' R' Q)) : KW P i_M_lookedAt NM 31 L (.int x1 :: .int x0 :: .ref b :: rest) N I J R Q := kw_callV x_M_lookedAt_31 (As := [.int x0, .int x1]) rfl rfl (Nat.le_of_ble_eq_true rfl) hrest hkd (Nat.le_refl N) (fun h => h) kk
theorem x_M_lookedAt_34 : kt_dc i_M_lookedAt 34 (.iload_n 3) 1 35 := ⟨by decide +kernel, rfl⟩
theorem x_M_lookedAt_35 : kt_dc i_M_lookedAt 35 (.aload_n 0) 1 36 := ⟨by decide +kernel, rfl⟩
theorem x_M_lookedAt_36 : kt_sG i_M_lookedAt 36 5 10 0 39 := ⟨58, RX5, TX5, 18, ⟨by decide +kernel, rfl⟩, rfl, by decide, rfl, by decide, Or.inl (tw_545)⟩
theorem x_M_lookedAt_39 : kt_dj i_M_lookedAt 39 (.if_icmp .ge) 51 42 := ⟨12, by decide +kernel, by decide, rfl⟩
theorem x_M_lookedAt_42 : kt_dc i_M_lookedAt 42 (.aload_n 0) 1 43 := ⟨by decide +kernel, rfl⟩
theorem x_M_lookedAt_43 : kt_sG i_M_lookedAt 43 5 9 2 46 := ⟨28, RX5, TX5, 18, ⟨by decide +kernel, rfl⟩, rfl, by decide, rfl, by decide, Or.inl (tw_544)⟩
theorem x_M_lookedAt_46 : kt_dc i_M_lookedAt 46 (.iload_n 3) 1 47 := ⟨by decide +kernel, rfl⟩
theorem x_M_lookedAt_47 : kt_dc i_M_lookedAt 47 (.iaload) 1 48 := ⟨by decide +kernel, rfl⟩
theorem x_M_lookedAt_48 : kt_dj i_M_lookedAt 48 .goto 53 51 := ⟨5, by decide +kernel, by decide, rfl⟩
theorem x_M_lookedAt_51 : kt_dc i_M_lookedAt 51 (.bipush (-4)) 2 53 ∧ (Int8.ofInt (-4)).toInt32 = (-4 : Int32) := ⟨⟨by decide +kernel, rfl⟩, by decide⟩
theorem x_M_lookedAt_53 : kt_dc i_M_lookedAt 53 (.ireturn) 1 54 ∧ kt_rt i_M_lookedAt = (some .int) := ⟨⟨by decide +kernel, rfl⟩, rfl⟩
theorem x_M_personOf_0 : kt_dc i_M_personOf 0 (.aload_n 0) 1 1 := ⟨by decide +kernel, rfl⟩
theorem x_M_personOf_1 : kt_dc i_M_personOf 1 (.iload_n 1) 1 2 := ⟨by decide +kernel, rfl⟩
theorem x_M_personOf_2 : kt_sV i_M_personOf 2 i_M_isTown 5 1 5 := ⟨103, ⟨by decide +kernel, rfl⟩, Or.inl (tw_647), j_M_isTown, ⟨tw_649, tp_57⟩, ⟨TX5, 18, rfl⟩, by decide, rfl⟩
theorem c_M_personOf_2 {P : kt_P} {NM : Nat} {L : List (Option Value)} {rest : List Value} {N : Nat} {I : kt_I} {J : kt_J} {R : kt_R} {Q : Option Value → kt_I → kt_J → kt_R → Prop} {b : Nat} {x0 : Int32} (hkd : kt_kd P N b = (5, 0)) (hrest : (rest.map fun v => v.category).sum ≤ 8) (kk : KW P i_M_isTown N 0 [some (.ref b), some (.int x0)] [] N I J R (fun v I' J' R' => KW P i_M_personOf NM 5 L (kt_pu v rest) N I' J' R' Q)) : KW P i_M_personOf NM 2 L (.int x0 :: .ref b :: rest) N I J R Q := kw_callV x_M_personOf_2 (As := [.int x0]) rfl rfl (Nat.le_of_ble_eq_true rfl) hrest hkd (Nat.le_refl N) (fun h => h) kk
theorem x_M_personOf_5 : kt_dj i_M_personOf 5 (.ifCond .eq) 27 8 := ⟨22, by decide +kernel, by decide, rfl⟩
theorem x_M_personOf_8 : kt_dc i_M_personOf 8 (.iload_n 2) 1 9 := ⟨by decide +kernel, rfl⟩
theorem x_M_personOf_9 : kt_dc i_M_personOf 9 (.iconst 0) 1 10 ∧ Int32.ofInt (0) = nI 0 := ⟨⟨by decide +kernel, rfl⟩, by decide⟩
theorem x_M_personOf_10 : kt_dc i_M_personOf 10 (.bipush 9) 2 12 ∧ (Int8.ofInt (9)).toInt32 = nI 9 := ⟨⟨by decide +kernel, rfl⟩, by decide⟩
theorem x_M_personOf_12 : kt_sS i_M_personOf 12 i_M_in 3 15 := ⟨107, ⟨by decide +kernel, rfl⟩, Or.inl (tw_651), j_M_in, tw_652, rfl⟩
theorem c_M_personOf_12 {P : kt_P} {NM : Nat} {L : List (Option Value)} {rest : List Value} {N : Nat} {I : kt_I} {J : kt_J} {R : kt_R} {Q : Option Value → kt_I → kt_J → kt_R → Prop} {x0 : Int32} {x1 : Int32} {x2 : Int32} (hrest : (rest.map fun v => v.category).sum ≤ 8) (kk : KW P i_M_in N 0 [some (.int x0), some (.int x1), some (.int x2)] [] N I J R (fun v I' J' R' => KW P i_M_personOf NM 15 L (kt_pu v rest) N I' J' R' Q)) : KW P i_M_personOf NM 12 L (.int x2 :: .int x1 :: .int x0 :: rest) N I J R Q := kw_callS x_M_personOf_12 (As := [.int x0, .int x1, .int x2]) rfl rfl (Nat.le_of_ble_eq_true rfl) hrest (Nat.le_refl N) (fun h => h) kk
theorem x_M_personOf_15 : kt_dj i_M_personOf 15 (.ifCond .eq) 27 18 := ⟨12, by decide +kernel, by decide, rfl⟩
theorem x_M_personOf_18 : kt_dc i_M_personOf 18 (.iload_n 3) 1 19 := ⟨by decide +kernel, rfl⟩
theorem x_M_personOf_19 : kt_dc i_M_personOf 19 (.iconst 0) 1 20 ∧ Int32.ofInt (0) = nI 0 := ⟨⟨by decide +kernel, rfl⟩, by decide⟩
theorem x_M_personOf_20 : kt_dc i_M_personOf 20 (.iconst 3) 1 21 ∧ Int32.ofInt (3) = nI 3 := ⟨⟨by decide +kernel, rfl⟩, by decide⟩
theorem x_M_personOf_21 : kt_sS i_M_personOf 21 i_M_in 3 24 := ⟨107, ⟨by decide +kernel, rfl⟩, Or.inl (tw_651), j_M_in, tw_652, rfl⟩
theorem c_M_personOf_21 {P : kt_P} {NM : Nat} {L : List (Option Value)} {rest : List Value} {N : Nat} {I : kt_I} {J : kt_J} {R : kt_R} {Q : Option Value → kt_I → kt_J → kt_R → Prop} {x0 : Int32} {x1 : Int32} {x2 : Int32} (hrest : (rest.map fun v => v.category).sum ≤ 8) (kk : KW P i_M_in N 0 [some (.int x0), some (.int x1), some (.int x2)] [] N I J R (fun v I' J' R' => KW P i_M_personOf NM 24 L (kt_pu v rest) N I' J' R' Q)) : KW P i_M_personOf NM 21 L (.int x2 :: .int x1 :: .int x0 :: rest) N I J R Q := kw_callS x_M_personOf_21 (As := [.int x0, .int x1, .int x2]) rfl rfl (Nat.le_of_ble_eq_true rfl) hrest (Nat.le_refl N) (fun h => h) kk
theorem x_M_personOf_24 : kt_dj i_M_personOf 24 (.ifCond .ne) 29 27 := ⟨5, by decide +kernel, by decide, rfl⟩
theorem x_M_personOf_27 : kt_dc i_M_personOf 27 (.iconst (-1)) 1 28 ∧ Int32.ofInt (-1) = (-1 : Int32) := ⟨⟨by decide +kernel, rfl⟩, by decide⟩
theorem x_M_personOf_28 : kt_dc i_M_personOf 28 (.ireturn) 1 29 ∧ kt_rt i_M_personOf = (some .int) := ⟨⟨by decide +kernel, rfl⟩, rfl⟩
theorem x_M_personOf_29 : kt_dc i_M_personOf 29 (.aload_n 0) 1 30 := ⟨by decide +kernel, rfl⟩
theorem x_M_personOf_30 : kt_dc i_M_personOf 30 (.iload_n 1) 1 31 := ⟨by decide +kernel, rfl⟩
theorem x_M_personOf_31 : kt_sV i_M_personOf 31 i_M_thinksAll 5 1 34 := ⟨76, ⟨by decide +kernel, rfl⟩, Or.inl (tw_607), j_M_thinksAll, ⟨tw_609, tp_48⟩, ⟨TX5, 18, rfl⟩, by decide, rfl⟩
theorem c_M_personOf_31 {P : kt_P} {NM : Nat} {L : List (Option Value)} {rest : List Value} {N : Nat} {I : kt_I} {J : kt_J} {R : kt_R} {Q : Option Value → kt_I → kt_J → kt_R → Prop} {b : Nat} {x0 : Int32} (hkd : kt_kd P N b = (5, 0)) (hrest : (rest.map fun v => v.category).sum ≤ 8) (kk : KW P i_M_thinksAll N 0 [some (.ref b), some (.int x0), none] [] N I J R (fun v I' J' R' => KW P i_M_personOf NM 34 L (kt_pu v rest) N I' J' R' Q)) : KW P i_M_personOf NM 31 L (.int x0 :: .ref b :: rest) N I J R Q := kw_callV x_M_personOf_31 (As := [.int x0]) rfl rfl (Nat.le_of_ble_eq_true rfl) hrest hkd (Nat.le_refl N) (fun h => h) kk
theorem x_M_personOf_34 : kt_dc i_M_personOf 34 (.iconst 0) 1 35 ∧ Int32.ofInt (0) = nI 0 := ⟨⟨by decide +kernel, rfl⟩, by decide⟩
theorem x_M_personOf_35 : kt_dc i_M_personOf 35 (.istore 4) 2 37 := ⟨by decide +kernel, rfl⟩
theorem x_M_personOf_37 : kt_dc i_M_personOf 37 (.iconst 0) 1 38 ∧ Int32.ofInt (0) = nI 0 := ⟨⟨by decide +kernel, rfl⟩, by decide⟩
theorem x_M_personOf_38 : kt_dc i_M_personOf 38 (.istore 5) 2 40 := ⟨by decide +kernel, rfl⟩
theorem x_M_personOf_40 : kt_dc i_M_personOf 40 (.iload 5) 2 42 := ⟨by decide +kernel, rfl⟩
theorem x_M_personOf_42 : kt_dc i_M_personOf 42 (.aload_n 0) 1 43 := ⟨by decide +kernel, rfl⟩
theorem x_M_personOf_43 : kt_sG i_M_personOf 43 5 0 2 46 := ⟨7, RX5, TX5, 18, ⟨by decide +kernel, rfl⟩, rfl, by decide, rfl, by decide, Or.inl (tw_535)⟩
theorem x_M_personOf_46 : kt_dc i_M_personOf 46 (.iconst 2) 1 47 ∧ Int32.ofInt (2) = nI 2 := ⟨⟨by decide +kernel, rfl⟩, by decide⟩
theorem x_M_personOf_47 : kt_dc i_M_personOf 47 (.iaload) 1 48 := ⟨by decide +kernel, rfl⟩
theorem x_M_personOf_48 : kt_dj i_M_personOf 48 (.if_icmp .ge) 171 51 := ⟨123, by decide +kernel, by decide, rfl⟩
theorem x_M_personOf_51 : kt_dc i_M_personOf 51 (.aload_n 0) 1 52 := ⟨by decide +kernel, rfl⟩
theorem x_M_personOf_52 : kt_dc i_M_personOf 52 (.iload 5) 2 54 := ⟨by decide +kernel, rfl⟩
theorem x_M_personOf_54 : kt_dc i_M_personOf 54 (.iconst 0) 1 55 ∧ Int32.ofInt (0) = nI 0 := ⟨⟨by decide +kernel, rfl⟩, by decide⟩
theorem x_M_personOf_55 : kt_sV i_M_personOf 55 i_M_of 5 2 58 := ⟨44, ⟨by decide +kernel, rfl⟩, Or.inl (tw_615), j_M_of, ⟨tw_617, tp_50⟩, ⟨TX5, 18, rfl⟩, by decide, rfl⟩
theorem c_M_personOf_55 {P : kt_P} {NM : Nat} {L : List (Option Value)} {rest : List Value} {N : Nat} {I : kt_I} {J : kt_J} {R : kt_R} {Q : Option Value → kt_I → kt_J → kt_R → Prop} {b : Nat} {x0 : Int32} {x1 : Int32} (hkd : kt_kd P N b = (5, 0)) (hrest : (rest.map fun v => v.category).sum ≤ 8) (kk : KW P i_M_of N 0 [some (.ref b), some (.int x0), some (.int x1)] [] N I J R (fun v I' J' R' => KW P i_M_personOf NM 58 L (kt_pu v rest) N I' J' R' Q)) : KW P i_M_personOf NM 55 L (.int x1 :: .int x0 :: .ref b :: rest) N I J R Q := kw_callV x_M_personOf_55 (As := [.int x0, .int x1]) rfl rfl (Nat.le_of_ble_eq_true rfl) hrest hkd (Nat.le_refl N) (fun h => h) kk
theorem x_M_personOf_58 : kt_dc i_M_personOf 58 (.iconst 1) 1 59 ∧ Int32.ofInt (1) = nI 1 := ⟨⟨by decide +kernel, rfl⟩, by decide⟩
theorem x_M_personOf_59 : kt_dj i_M_personOf 59 (.if_icmp .ne) 77 62 := ⟨18, by decide +kernel, by decide, rfl⟩
theorem x_M_personOf_62 : kt_dc i_M_personOf 62 (.aload_n 0) 1 63 := ⟨by decide +kernel, rfl⟩
theorem x_M_personOf_63 : kt_dc i_M_personOf 63 (.iload 5) 2 65 := ⟨by decide +kernel, rfl⟩
theorem x_M_personOf_65 : kt_dc i_M_personOf 65 (.iconst 5) 1 66 ∧ Int32.ofInt (5) = nI 5 := ⟨⟨by decide +kernel, rfl⟩, by decide⟩
theorem x_M_personOf_66 : kt_sV i_M_personOf 66 i_M_of 5 2 69 := ⟨44, ⟨by decide +kernel, rfl⟩, Or.inl (tw_615), j_M_of, ⟨tw_617, tp_50⟩, ⟨TX5, 18, rfl⟩, by decide, rfl⟩
theorem c_M_personOf_66 {P : kt_P} {NM : Nat} {L : List (Option Value)} {rest : List Value} {N : Nat} {I : kt_I} {J : kt_J} {R : kt_R} {Q : Option Value → kt_I → kt_J → kt_R → Prop} {b : Nat} {x0 : Int32} {x1 : Int32} (hkd : kt_kd P N b = (5, 0)) (hrest : (rest.map fun v => v.category).sum ≤ 8) (kk : KW P i_M_of N 0 [some (.ref b), some (.int x0), some (.int x1)] [] N I J R (fun v I' J' R' => KW P i_M_personOf NM 69 L (kt_pu v rest) N I' J' R' Q)) : KW P i_M_personOf NM 66 L (.int x1 :: .int x0 :: .ref b :: rest) N I J R Q := kw_callV x_M_personOf_66 (As := [.int x0, .int x1]) rfl rfl (Nat.le_of_ble_eq_true rfl) hrest hkd (Nat.le_refl N) (fun h => h) kk
theorem x_M_personOf_69 : kt_dc i_M_personOf 69 (.iload_n 2) 1 70 := ⟨by decide +kernel, rfl⟩
theorem x_M_personOf_70 : kt_dj i_M_personOf 70 (.if_icmp .ne) 77 73 := ⟨7, by decide +kernel, by decide, rfl⟩
theorem x_M_personOf_73 : kt_dc i_M_personOf 73 (.iconst 1) 1 74 ∧ Int32.ofInt (1) = nI 1 := ⟨⟨by decide +kernel, rfl⟩, by decide⟩
theorem x_M_personOf_74 : kt_dj i_M_personOf 74 .goto 78 77 := ⟨4, by decide +kernel, by decide, rfl⟩
theorem x_M_personOf_77 : kt_dc i_M_personOf 77 (.iconst 0) 1 78 ∧ Int32.ofInt (0) = nI 0 := ⟨⟨by decide +kernel, rfl⟩, by decide⟩
theorem x_M_personOf_78 : kt_dc i_M_personOf 78 (.istore 6) 2 80 := ⟨by decide +kernel, rfl⟩
theorem x_M_personOf_80 : kt_dc i_M_personOf 80 (.iload 4) 2 82 := ⟨by decide +kernel, rfl⟩
theorem x_M_personOf_82 : kt_dc i_M_personOf 82 (.iload 6) 2 84 := ⟨by decide +kernel, rfl⟩
theorem x_M_personOf_84 : kt_dj i_M_personOf 84 (.ifCond .ne) 91 87 := ⟨7, by decide +kernel, by decide, rfl⟩
theorem x_M_personOf_87 : kt_dc i_M_personOf 87 (.iconst 0) 1 88 ∧ Int32.ofInt (0) = nI 0 := ⟨⟨by decide +kernel, rfl⟩, by decide⟩
theorem x_M_personOf_88 : kt_dj i_M_personOf 88 .goto 162 91 := ⟨74, by decide +kernel, by decide, rfl⟩
theorem x_M_personOf_91 : kt_dc i_M_personOf 91 (.iload_n 3) 1 92 := ⟨by decide +kernel, rfl⟩
theorem x_M_personOf_92 : kt_dc i_M_personOf 92 (.iconst 3) 1 93 ∧ Int32.ofInt (3) = nI 3 := ⟨⟨by decide +kernel, rfl⟩, by decide⟩
theorem x_M_personOf_93 : kt_dj i_M_personOf 93 (.if_icmp .ne) 110 96 := ⟨17, by decide +kernel, by decide, rfl⟩
theorem x_M_personOf_96 : kt_dc i_M_personOf 96 (.aload_n 0) 1 97 := ⟨by decide +kernel, rfl⟩
theorem x_M_personOf_97 : kt_dc i_M_personOf 97 (.iload 5) 2 99 := ⟨by decide +kernel, rfl⟩
theorem x_M_personOf_99 : kt_dc i_M_personOf 99 (.bipush 8) 2 101 ∧ (Int8.ofInt (8)).toInt32 = nI 8 := ⟨⟨by decide +kernel, rfl⟩, by decide⟩
theorem x_M_personOf_101 : kt_sV i_M_personOf 101 i_M_of 5 2 104 := ⟨44, ⟨by decide +kernel, rfl⟩, Or.inl (tw_615), j_M_of, ⟨tw_617, tp_50⟩, ⟨TX5, 18, rfl⟩, by decide, rfl⟩
theorem c_M_personOf_101 {P : kt_P} {NM : Nat} {L : List (Option Value)} {rest : List Value} {N : Nat} {I : kt_I} {J : kt_J} {R : kt_R} {Q : Option Value → kt_I → kt_J → kt_R → Prop} {b : Nat} {x0 : Int32} {x1 : Int32} (hkd : kt_kd P N b = (5, 0)) (hrest : (rest.map fun v => v.category).sum ≤ 8) (kk : KW P i_M_of N 0 [some (.ref b), some (.int x0), some (.int x1)] [] N I J R (fun v I' J' R' => KW P i_M_personOf NM 104 L (kt_pu v rest) N I' J' R' Q)) : KW P i_M_personOf NM 101 L (.int x1 :: .int x0 :: .ref b :: rest) N I J R Q := kw_callV x_M_personOf_101 (As := [.int x0, .int x1]) rfl rfl (Nat.le_of_ble_eq_true rfl) hrest hkd (Nat.le_refl N) (fun h => h) kk
theorem x_M_personOf_104 : kt_sS i_M_personOf 104 i_M_bits 1 107 := ⟨137, ⟨by decide +kernel, rfl⟩, Or.inl (tw_738), j_M_bits, tw_739, rfl⟩
theorem c_M_personOf_104 {P : kt_P} {NM : Nat} {L : List (Option Value)} {rest : List Value} {N : Nat} {I : kt_I} {J : kt_J} {R : kt_R} {Q : Option Value → kt_I → kt_J → kt_R → Prop} {x0 : Int32} (hrest : (rest.map fun v => v.category).sum ≤ 8) (kk : KW P i_M_bits N 0 [some (.int x0), none, none] [] N I J R (fun v I' J' R' => KW P i_M_personOf NM 107 L (kt_pu v rest) N I' J' R' Q)) : KW P i_M_personOf NM 104 L (.int x0 :: rest) N I J R Q := kw_callS x_M_personOf_104 (As := [.int x0]) rfl rfl (Nat.le_of_ble_eq_true rfl) hrest (Nat.le_refl N) (fun h => h) kk
theorem x_M_personOf_107 : kt_dj i_M_personOf 107 .goto 162 110 := ⟨55, by decide +kernel, by decide, rfl⟩
theorem x_M_personOf_110 : kt_dc i_M_personOf 110 (.iload_n 3) 1 111 := ⟨by decide +kernel, rfl⟩
theorem x_M_personOf_111 : kt_dj i_M_personOf 111 (.ifCond .ne) 132 114 := ⟨21, by decide +kernel, by decide, rfl⟩
theorem x_M_personOf_114 : kt_dc i_M_personOf 114 (.aload_n 0) 1 115 := ⟨by decide +kernel, rfl⟩
theorem x_M_personOf_115 : kt_dc i_M_personOf 115 (.iload_n 1) 1 116 := ⟨by decide +kernel, rfl⟩
theorem x_M_personOf_116 : kt_dc i_M_personOf 116 (.iload 5) 2 118 := ⟨by decide +kernel, rfl⟩
theorem x_M_personOf_118 : kt_sV i_M_personOf 118 i_M_knows 5 2 121 := ⟨48, ⟨by decide +kernel, rfl⟩, Or.inl (tw_619), j_M_knows, ⟨tw_621, tp_51⟩, ⟨TX5, 18, rfl⟩, by decide, rfl⟩
theorem c_M_personOf_118 {P : kt_P} {NM : Nat} {L : List (Option Value)} {rest : List Value} {N : Nat} {I : kt_I} {J : kt_J} {R : kt_R} {Q : Option Value → kt_I → kt_J → kt_R → Prop} {b : Nat} {x0 : Int32} {x1 : Int32} (hkd : kt_kd P N b = (5, 0)) (hrest : (rest.map fun v => v.category).sum ≤ 8) (kk : KW P i_M_knows N 0 [some (.ref b), some (.int x0), some (.int x1)] [] N I J R (fun v I' J' R' => KW P i_M_personOf NM 121 L (kt_pu v rest) N I' J' R' Q)) : KW P i_M_personOf NM 118 L (.int x1 :: .int x0 :: .ref b :: rest) N I J R Q := kw_callV x_M_personOf_118 (As := [.int x0, .int x1]) rfl rfl (Nat.le_of_ble_eq_true rfl) hrest hkd (Nat.le_refl N) (fun h => h) kk
theorem x_M_personOf_121 : kt_dj i_M_personOf 121 (.ifCond .eq) 128 124 := ⟨7, by decide +kernel, by decide, rfl⟩
theorem x_M_personOf_124 : kt_dc i_M_personOf 124 (.iconst 1) 1 125 ∧ Int32.ofInt (1) = nI 1 := ⟨⟨by decide +kernel, rfl⟩, by decide⟩
theorem x_M_personOf_125 : kt_dj i_M_personOf 125 .goto 162 128 := ⟨37, by decide +kernel, by decide, rfl⟩
theorem x_M_personOf_128 : kt_dc i_M_personOf 128 (.iconst 0) 1 129 ∧ Int32.ofInt (0) = nI 0 := ⟨⟨by decide +kernel, rfl⟩, by decide⟩
theorem x_M_personOf_129 : kt_dj i_M_personOf 129 .goto 162 132 := ⟨33, by decide +kernel, by decide, rfl⟩
theorem x_M_personOf_132 : kt_dc i_M_personOf 132 (.aload_n 0) 1 133 := ⟨by decide +kernel, rfl⟩
theorem x_M_personOf_133 : kt_sG i_M_personOf 133 5 8 2 136 := ⟨25, RX5, TX5, 18, ⟨by decide +kernel, rfl⟩, rfl, by decide, rfl, by decide, Or.inl (tw_543)⟩
theorem x_M_personOf_136 : kt_dc i_M_personOf 136 (.iload 5) 2 138 := ⟨by decide +kernel, rfl⟩
theorem x_M_personOf_138 : kt_dc i_M_personOf 138 (.iaload) 1 139 := ⟨by decide +kernel, rfl⟩
theorem x_M_personOf_139 : kt_dj i_M_personOf 139 (.ifCond .eq) 146 142 := ⟨7, by decide +kernel, by decide, rfl⟩
theorem x_M_personOf_142 : kt_dc i_M_personOf 142 (.iconst 0) 1 143 ∧ Int32.ofInt (0) = nI 0 := ⟨⟨by decide +kernel, rfl⟩, by decide⟩
theorem x_M_personOf_143 : kt_dj i_M_personOf 143 .goto 162 146 := ⟨19, by decide +kernel, by decide, rfl⟩
theorem x_M_personOf_146 : kt_dc i_M_personOf 146 (.iload_n 3) 1 147 := ⟨by decide +kernel, rfl⟩
theorem x_M_personOf_147 : kt_dc i_M_personOf 147 (.iconst 1) 1 148 ∧ Int32.ofInt (1) = nI 1 := ⟨⟨by decide +kernel, rfl⟩, by decide⟩
theorem x_M_personOf_148 : kt_dj i_M_personOf 148 (.if_icmp .ne) 155 151 := ⟨7, by decide +kernel, by decide, rfl⟩
theorem x_M_personOf_151 : kt_dc i_M_personOf 151 (.iconst 1) 1 152 ∧ Int32.ofInt (1) = nI 1 := ⟨⟨by decide +kernel, rfl⟩, by decide⟩
theorem x_M_personOf_152 : kt_dj i_M_personOf 152 .goto 162 155 := ⟨10, by decide +kernel, by decide, rfl⟩
theorem x_M_personOf_155 : kt_dc i_M_personOf 155 (.aload_n 0) 1 156 := ⟨by decide +kernel, rfl⟩
theorem x_M_personOf_156 : kt_dc i_M_personOf 156 (.iload 5) 2 158 := ⟨by decide +kernel, rfl⟩
theorem x_M_personOf_158 : kt_dc i_M_personOf 158 (.iconst 4) 1 159 ∧ Int32.ofInt (4) = nI 4 := ⟨⟨by decide +kernel, rfl⟩, by decide⟩
theorem x_M_personOf_159 : kt_sV i_M_personOf 159 i_M_of 5 2 162 := ⟨44, ⟨by decide +kernel, rfl⟩, Or.inl (tw_615), j_M_of, ⟨tw_617, tp_50⟩, ⟨TX5, 18, rfl⟩, by decide, rfl⟩
theorem c_M_personOf_159 {P : kt_P} {NM : Nat} {L : List (Option Value)} {rest : List Value} {N : Nat} {I : kt_I} {J : kt_J} {R : kt_R} {Q : Option Value → kt_I → kt_J → kt_R → Prop} {b : Nat} {x0 : Int32} {x1 : Int32} (hkd : kt_kd P N b = (5, 0)) (hrest : (rest.map fun v => v.category).sum ≤ 8) (kk : KW P i_M_of N 0 [some (.ref b), some (.int x0), some (.int x1)] [] N I J R (fun v I' J' R' => KW P i_M_personOf NM 162 L (kt_pu v rest) N I' J' R' Q)) : KW P i_M_personOf NM 159 L (.int x1 :: .int x0 :: .ref b :: rest) N I J R Q := kw_callV x_M_personOf_159 (As := [.int x0, .int x1]) rfl rfl (Nat.le_of_ble_eq_true rfl) hrest hkd (Nat.le_refl N) (fun h => h) kk
theorem x_M_personOf_162 : kt_dc i_M_personOf 162 (.iadd) 1 163 := ⟨by decide +kernel, rfl⟩
theorem x_M_personOf_163 : kt_dc i_M_personOf 163 (.istore 4) 2 165 := ⟨by decide +kernel, rfl⟩
theorem x_M_personOf_165 : kt_dc i_M_personOf 165 (.iinc 5 1) 3 168 ∧ Int32.ofInt (1) = nI 1 := ⟨⟨by decide +kernel, rfl⟩, by decide⟩
theorem x_M_personOf_168 : kt_dj i_M_personOf 168 .goto 40 171 := ⟨-128, by decide +kernel, by decide, rfl⟩
theorem x_M_personOf_171 : kt_dc i_M_personOf 171 (.iload 4) 2 173 := ⟨by decide +kernel, rfl⟩
theorem x_M_personOf_173 : kt_dc i_M_personOf 173 (.ireturn) 1 174 ∧ kt_rt i_M_personOf = (some .int) := ⟨⟨by decide +kernel, rfl⟩, rfl⟩
theorem x_M_bits_0 : kt_dc i_M_bits 0 (.iconst 0) 1 1 ∧ Int32.ofInt (0) = nI 0 := ⟨⟨by decide +kernel, rfl⟩, by decide⟩
theorem x_M_bits_1 : kt_dc i_M_bits 1 (.istore_n 1) 1 2 := ⟨by decide +kernel, rfl⟩
theorem x_M_bits_2 : kt_dc i_M_bits 2 (.iconst 0) 1 3 ∧ Int32.ofInt (0) = nI 0 := ⟨⟨by decide +kernel, rfl⟩, by decide⟩
theorem x_M_bits_3 : kt_dc i_M_bits 3 (.istore_n 2) 1 4 := ⟨by decide +kernel, rfl⟩
theorem x_M_bits_4 : kt_dc i_M_bits 4 (.iload_n 2) 1 5 := ⟨by decide +kernel, rfl⟩
theorem x_M_bits_5 : kt_dc i_M_bits 5 (.iconst 5) 1 6 ∧ Int32.ofInt (5) = nI 5 := ⟨⟨by decide +kernel, rfl⟩, by decide⟩
theorem x_M_bits_6 : kt_dj i_M_bits 6 (.if_icmp .ge) 23 9 := ⟨17, by decide +kernel, by decide, rfl⟩
theorem x_M_bits_9 : kt_dc i_M_bits 9 (.iload_n 1) 1 10 := ⟨by decide +kernel, rfl⟩
theorem x_M_bits_10 : kt_dc i_M_bits 10 (.iload_n 0) 1 11 := ⟨by decide +kernel, rfl⟩
theorem x_M_bits_11 : kt_dc i_M_bits 11 (.iload_n 2) 1 12 := ⟨by decide +kernel, rfl⟩
theorem x_M_bits_12 : kt_dc i_M_bits 12 (.ishr) 1 13 := ⟨by decide +kernel, rfl⟩
theorem x_M_bits_13 : kt_dc i_M_bits 13 (.iconst 1) 1 14 ∧ Int32.ofInt (1) = nI 1 := ⟨⟨by decide +kernel, rfl⟩, by decide⟩
theorem x_M_bits_14 : kt_dc i_M_bits 14 (.iand) 1 15 := ⟨by decide +kernel, rfl⟩
theorem x_M_bits_15 : kt_dc i_M_bits 15 (.iadd) 1 16 := ⟨by decide +kernel, rfl⟩
theorem x_M_bits_16 : kt_dc i_M_bits 16 (.istore_n 1) 1 17 := ⟨by decide +kernel, rfl⟩
theorem x_M_bits_17 : kt_dc i_M_bits 17 (.iinc 2 1) 3 20 ∧ Int32.ofInt (1) = nI 1 := ⟨⟨by decide +kernel, rfl⟩, by decide⟩
theorem x_M_bits_20 : kt_dj i_M_bits 20 .goto 4 23 := ⟨-16, by decide +kernel, by decide, rfl⟩
theorem x_M_bits_23 : kt_dc i_M_bits 23 (.iload_n 1) 1 24 := ⟨by decide +kernel, rfl⟩
theorem x_M_bits_24 : kt_dc i_M_bits 24 (.ireturn) 1 25 ∧ kt_rt i_M_bits = (some .int) := ⟨⟨by decide +kernel, rfl⟩, rfl⟩
theorem x_M_unheard_0 : kt_dc i_M_unheard 0 (.aload_n 0) 1 1 := ⟨by decide +kernel, rfl⟩
theorem x_M_unheard_1 : kt_dc i_M_unheard 1 (.iload_n 1) 1 2 := ⟨by decide +kernel, rfl⟩
theorem x_M_unheard_2 : kt_sV i_M_unheard 2 i_M_isTown 5 1 5 := ⟨103, ⟨by decide +kernel, rfl⟩, Or.inl (tw_647), j_M_isTown, ⟨tw_649, tp_57⟩, ⟨TX5, 18, rfl⟩, by decide, rfl⟩
theorem c_M_unheard_2 {P : kt_P} {NM : Nat} {L : List (Option Value)} {rest : List Value} {N : Nat} {I : kt_I} {J : kt_J} {R : kt_R} {Q : Option Value → kt_I → kt_J → kt_R → Prop} {b : Nat} {x0 : Int32} (hkd : kt_kd P N b = (5, 0)) (hrest : (rest.map fun v => v.category).sum ≤ 8) (kk : KW P i_M_isTown N 0 [some (.ref b), some (.int x0)] [] N I J R (fun v I' J' R' => KW P i_M_unheard NM 5 L (kt_pu v rest) N I' J' R' Q)) : KW P i_M_unheard NM 2 L (.int x0 :: .ref b :: rest) N I J R Q := kw_callV x_M_unheard_2 (As := [.int x0]) rfl rfl (Nat.le_of_ble_eq_true rfl) hrest hkd (Nat.le_refl N) (fun h => h) kk
theorem x_M_unheard_5 : kt_dj i_M_unheard 5 (.ifCond .eq) 16 8 := ⟨11, by decide +kernel, by decide, rfl⟩
theorem x_M_unheard_8 : kt_dc i_M_unheard 8 (.aload_n 0) 1 9 := ⟨by decide +kernel, rfl⟩
theorem x_M_unheard_9 : kt_dc i_M_unheard 9 (.iload_n 2) 1 10 := ⟨by decide +kernel, rfl⟩
theorem x_M_unheard_10 : kt_sV i_M_unheard 10 i_M_isTown 5 1 13 := ⟨103, ⟨by decide +kernel, rfl⟩, Or.inl (tw_647), j_M_isTown, ⟨tw_649, tp_57⟩, ⟨TX5, 18, rfl⟩, by decide, rfl⟩
theorem c_M_unheard_10 {P : kt_P} {NM : Nat} {L : List (Option Value)} {rest : List Value} {N : Nat} {I : kt_I} {J : kt_J} {R : kt_R} {Q : Option Value → kt_I → kt_J → kt_R → Prop} {b : Nat} {x0 : Int32} (hkd : kt_kd P N b = (5, 0)) (hrest : (rest.map fun v => v.category).sum ≤ 8) (kk : KW P i_M_isTown N 0 [some (.ref b), some (.int x0)] [] N I J R (fun v I' J' R' => KW P i_M_unheard NM 13 L (kt_pu v rest) N I' J' R' Q)) : KW P i_M_unheard NM 10 L (.int x0 :: .ref b :: rest) N I J R Q := kw_callV x_M_unheard_10 (As := [.int x0]) rfl rfl (Nat.le_of_ble_eq_true rfl) hrest hkd (Nat.le_refl N) (fun h => h) kk
theorem x_M_unheard_13 : kt_dj i_M_unheard 13 (.ifCond .ne) 18 16 := ⟨5, by decide +kernel, by decide, rfl⟩
theorem x_M_unheard_16 : kt_dc i_M_unheard 16 (.iconst (-1)) 1 17 ∧ Int32.ofInt (-1) = (-1 : Int32) := ⟨⟨by decide +kernel, rfl⟩, by decide⟩
theorem x_M_unheard_17 : kt_dc i_M_unheard 17 (.ireturn) 1 18 ∧ kt_rt i_M_unheard = (some .int) := ⟨⟨by decide +kernel, rfl⟩, rfl⟩
theorem x_M_unheard_18 : kt_dc i_M_unheard 18 (.iconst 0) 1 19 ∧ Int32.ofInt (0) = nI 0 := ⟨⟨by decide +kernel, rfl⟩, by decide⟩
theorem x_M_unheard_19 : kt_dc i_M_unheard 19 (.istore_n 3) 1 20 := ⟨by decide +kernel, rfl⟩
theorem x_M_unheard_20 : kt_dc i_M_unheard 20 (.iconst 0) 1 21 ∧ Int32.ofInt (0) = nI 0 := ⟨⟨by decide +kernel, rfl⟩, by decide⟩
theorem x_M_unheard_21 : kt_dc i_M_unheard 21 (.istore 4) 2 23 := ⟨by decide +kernel, rfl⟩
theorem x_M_unheard_23 : kt_dc i_M_unheard 23 (.iload 4) 2 25 := ⟨by decide +kernel, rfl⟩
theorem x_M_unheard_25 : kt_dc i_M_unheard 25 (.aload_n 0) 1 26 := ⟨by decide +kernel, rfl⟩
theorem x_M_unheard_26 : kt_sG i_M_unheard 26 5 0 2 29 := ⟨7, RX5, TX5, 18, ⟨by decide +kernel, rfl⟩, rfl, by decide, rfl, by decide, Or.inl (tw_535)⟩
theorem x_M_unheard_29 : kt_dc i_M_unheard 29 (.iconst 2) 1 30 ∧ Int32.ofInt (2) = nI 2 := ⟨⟨by decide +kernel, rfl⟩, by decide⟩
theorem x_M_unheard_30 : kt_dc i_M_unheard 30 (.iaload) 1 31 := ⟨by decide +kernel, rfl⟩
theorem x_M_unheard_31 : kt_dj i_M_unheard 31 (.if_icmp .ge) 68 34 := ⟨37, by decide +kernel, by decide, rfl⟩
theorem x_M_unheard_34 : kt_dc i_M_unheard 34 (.iload_n 3) 1 35 := ⟨by decide +kernel, rfl⟩
theorem x_M_unheard_35 : kt_dc i_M_unheard 35 (.aload_n 0) 1 36 := ⟨by decide +kernel, rfl⟩
theorem x_M_unheard_36 : kt_dc i_M_unheard 36 (.iload_n 1) 1 37 := ⟨by decide +kernel, rfl⟩
theorem x_M_unheard_37 : kt_dc i_M_unheard 37 (.iload 4) 2 39 := ⟨by decide +kernel, rfl⟩
theorem x_M_unheard_39 : kt_sV i_M_unheard 39 i_M_knows 5 2 42 := ⟨48, ⟨by decide +kernel, rfl⟩, Or.inl (tw_619), j_M_knows, ⟨tw_621, tp_51⟩, ⟨TX5, 18, rfl⟩, by decide, rfl⟩
theorem c_M_unheard_39 {P : kt_P} {NM : Nat} {L : List (Option Value)} {rest : List Value} {N : Nat} {I : kt_I} {J : kt_J} {R : kt_R} {Q : Option Value → kt_I → kt_J → kt_R → Prop} {b : Nat} {x0 : Int32} {x1 : Int32} (hkd : kt_kd P N b = (5, 0)) (hrest : (rest.map fun v => v.category).sum ≤ 8) (kk : KW P i_M_knows N 0 [some (.ref b), some (.int x0), some (.int x1)] [] N I J R (fun v I' J' R' => KW P i_M_unheard NM 42 L (kt_pu v rest) N I' J' R' Q)) : KW P i_M_unheard NM 39 L (.int x1 :: .int x0 :: .ref b :: rest) N I J R Q := kw_callV x_M_unheard_39 (As := [.int x0, .int x1]) rfl rfl (Nat.le_of_ble_eq_true rfl) hrest hkd (Nat.le_refl N) (fun h => h) kk
theorem x_M_unheard_42 : kt_dj i_M_unheard 42 (.ifCond .eq) 59 45 := ⟨17, by decide +kernel, by decide, rfl⟩
theorem x_M_unheard_45 : kt_dc i_M_unheard 45 (.aload_n 0) 1 46 := ⟨by decide +kernel, rfl⟩
theorem x_M_unheard_46 : kt_dc i_M_unheard 46 (.iload_n 2) 1 47 := ⟨by decide +kernel, rfl⟩
theorem x_M_unheard_47 : kt_dc i_M_unheard 47 (.iload 4) 2 49 := ⟨by decide +kernel, rfl⟩
theorem x_M_unheard_49 : kt_sV i_M_unheard 49 i_M_knows 5 2 52 := ⟨48, ⟨by decide +kernel, rfl⟩, Or.inl (tw_619), j_M_knows, ⟨tw_621, tp_51⟩, ⟨TX5, 18, rfl⟩, by decide, rfl⟩
theorem c_M_unheard_49 {P : kt_P} {NM : Nat} {L : List (Option Value)} {rest : List Value} {N : Nat} {I : kt_I} {J : kt_J} {R : kt_R} {Q : Option Value → kt_I → kt_J → kt_R → Prop} {b : Nat} {x0 : Int32} {x1 : Int32} (hkd : kt_kd P N b = (5, 0)) (hrest : (rest.map fun v => v.category).sum ≤ 8) (kk : KW P i_M_knows N 0 [some (.ref b), some (.int x0), some (.int x1)] [] N I J R (fun v I' J' R' => KW P i_M_unheard NM 52 L (kt_pu v rest) N I' J' R' Q)) : KW P i_M_unheard NM 49 L (.int x1 :: .int x0 :: .ref b :: rest) N I J R Q := kw_callV x_M_unheard_49 (As := [.int x0, .int x1]) rfl rfl (Nat.le_of_ble_eq_true rfl) hrest hkd (Nat.le_refl N) (fun h => h) kk
theorem x_M_unheard_52 : kt_dj i_M_unheard 52 (.ifCond .ne) 59 55 := ⟨7, by decide +kernel, by decide, rfl⟩
theorem x_M_unheard_55 : kt_dc i_M_unheard 55 (.iconst 1) 1 56 ∧ Int32.ofInt (1) = nI 1 := ⟨⟨by decide +kernel, rfl⟩, by decide⟩
theorem x_M_unheard_56 : kt_dj i_M_unheard 56 .goto 60 59 := ⟨4, by decide +kernel, by decide, rfl⟩
theorem x_M_unheard_59 : kt_dc i_M_unheard 59 (.iconst 0) 1 60 ∧ Int32.ofInt (0) = nI 0 := ⟨⟨by decide +kernel, rfl⟩, by decide⟩
theorem x_M_unheard_60 : kt_dc i_M_unheard 60 (.iadd) 1 61 := ⟨by decide +kernel, rfl⟩
theorem x_M_unheard_61 : kt_dc i_M_unheard 61 (.istore_n 3) 1 62 := ⟨by decide +kernel, rfl⟩
theorem x_M_unheard_62 : kt_dc i_M_unheard 62 (.iinc 4 1) 3 65 ∧ Int32.ofInt (1) = nI 1 := ⟨⟨by decide +kernel, rfl⟩, by decide⟩
theorem x_M_unheard_65 : kt_dj i_M_unheard 65 .goto 23 68 := ⟨-42, by decide +kernel, by decide, rfl⟩
theorem x_M_unheard_68 : kt_dc i_M_unheard 68 (.iload_n 3) 1 69 := ⟨by decide +kernel, rfl⟩
theorem x_M_unheard_69 : kt_dc i_M_unheard 69 (.ireturn) 1 70 ∧ kt_rt i_M_unheard = (some .int) := ⟨⟨by decide +kernel, rfl⟩, rfl⟩
theorem x_M_count_0 : kt_dc i_M_count 0 (.iload_n 1) 1 1 := ⟨by decide +kernel, rfl⟩
theorem x_M_count_1 : kt_dt i_M_count 1 0 [60, 67, 74, 74, 74, 82, 89, 94, 103, 126, 131] 136 := ⟨135, 10, #[59, 66, 73, 73, 73, 81, 88, 93, 102, 125, 130], 59, by decide +kernel, by decide, by decide, by decide⟩
theorem s_M_count_1 {P : kt_P} {NM : Nat} {L : List (Option Value)} {st : List Value} {N : Nat} {I : kt_I} {J : kt_J} {R : kt_R} {Q : Option Value → kt_I → kt_J → kt_R → Prop} {x : Int32} (h0 : x = nI 0 → KW P i_M_count NM 60 L st N I J R Q) (h1 : x = nI 1 → KW P i_M_count NM 67 L st N I J R Q) (h2 : x = nI 2 → KW P i_M_count NM 74 L st N I J R Q) (h3 : x = nI 3 → KW P i_M_count NM 74 L st N I J R Q) (h4 : x = nI 4 → KW P i_M_count NM 74 L st N I J R Q) (h5 : x = nI 5 → KW P i_M_count NM 82 L st N I J R Q) (h6 : x = nI 6 → KW P i_M_count NM 89 L st N I J R Q) (h7 : x = nI 7 → KW P i_M_count NM 94 L st N I J R Q) (h8 : x = nI 8 → KW P i_M_count NM 103 L st N I J R Q) (h9 : x = nI 9 → KW P i_M_count NM 126 L st N I J R Q) (h10 : x = nI 10 → KW P i_M_count NM 131 L st N I J R Q) (hd : ¬ x = nI 0 → ¬ x = nI 1 → ¬ x = nI 2 → ¬ x = nI 3 → ¬ x = nI 4 → ¬ x = nI 5 → ¬ x = nI 6 → ¬ x = nI 7 → ¬ x = nI 8 → ¬ x = nI 9 → ¬ x = nI 10 → KW P i_M_count NM 136 L st N I J R Q) : KW P i_M_count NM 1 L (.int x :: st) N I J R Q :=
  kw_tsw x_M_count_1 (fun j t hj hx => by
    match j, hj, hx with
    | 0, hj, hx => cases hj; exact h0 (Int32.toInt_inj.mp (hx.trans (by decide)))
    | 1, hj, hx => cases hj; exact h1 (Int32.toInt_inj.mp (hx.trans (by decide)))
    | 2, hj, hx => cases hj; exact h2 (Int32.toInt_inj.mp (hx.trans (by decide)))
    | 3, hj, hx => cases hj; exact h3 (Int32.toInt_inj.mp (hx.trans (by decide)))
    | 4, hj, hx => cases hj; exact h4 (Int32.toInt_inj.mp (hx.trans (by decide)))
    | 5, hj, hx => cases hj; exact h5 (Int32.toInt_inj.mp (hx.trans (by decide)))
    | 6, hj, hx => cases hj; exact h6 (Int32.toInt_inj.mp (hx.trans (by decide)))
    | 7, hj, hx => cases hj; exact h7 (Int32.toInt_inj.mp (hx.trans (by decide)))
    | 8, hj, hx => cases hj; exact h8 (Int32.toInt_inj.mp (hx.trans (by decide)))
    | 9, hj, hx => cases hj; exact h9 (Int32.toInt_inj.mp (hx.trans (by decide)))
    | 10, hj, hx => cases hj; exact h10 (Int32.toInt_inj.mp (hx.trans (by decide)))
    | n + 11, hj, hx => simp at hj)
    (fun h => hd (fun e => by subst e; revert h; decide) (fun e => by subst e; revert h; decide) (fun e => by subst e; revert h; decide) (fun e => by subst e; revert h; decide) (fun e => by subst e; revert h; decide) (fun e => by subst e; revert h; decide) (fun e => by subst e; revert h; decide) (fun e => by subst e; revert h; decide) (fun e => by subst e; revert h; decide) (fun e => by subst e; revert h; decide) (fun e => by subst e; revert h; decide))
theorem x_M_count_60 : kt_dc i_M_count 60 (.aload_n 0) 1 61 := ⟨by decide +kernel, rfl⟩
theorem x_M_count_61 : kt_sG i_M_count 61 5 0 2 64 := ⟨7, RX5, TX5, 18, ⟨by decide +kernel, rfl⟩, rfl, by decide, rfl, by decide, Or.inl (tw_535)⟩
theorem x_M_count_64 : kt_dc i_M_count 64 (.iconst 1) 1 65 ∧ Int32.ofInt (1) = nI 1 := ⟨⟨by decide +kernel, rfl⟩, by decide⟩
theorem x_M_count_65 : kt_dc i_M_count 65 (.iaload) 1 66 := ⟨by decide +kernel, rfl⟩
theorem x_M_count_66 : kt_dc i_M_count 66 (.ireturn) 1 67 ∧ kt_rt i_M_count = (some .int) := ⟨⟨by decide +kernel, rfl⟩, rfl⟩
theorem x_M_count_67 : kt_dc i_M_count 67 (.aload_n 0) 1 68 := ⟨by decide +kernel, rfl⟩
theorem x_M_count_68 : kt_sG i_M_count 68 5 0 2 71 := ⟨7, RX5, TX5, 18, ⟨by decide +kernel, rfl⟩, rfl, by decide, rfl, by decide, Or.inl (tw_535)⟩
theorem x_M_count_71 : kt_dc i_M_count 71 (.iconst 2) 1 72 ∧ Int32.ofInt (2) = nI 2 := ⟨⟨by decide +kernel, rfl⟩, by decide⟩
theorem x_M_count_72 : kt_dc i_M_count 72 (.iaload) 1 73 := ⟨by decide +kernel, rfl⟩
theorem x_M_count_73 : kt_dc i_M_count 73 (.ireturn) 1 74 ∧ kt_rt i_M_count = (some .int) := ⟨⟨by decide +kernel, rfl⟩, rfl⟩
theorem x_M_count_74 : kt_dc i_M_count 74 (.aload_n 0) 1 75 := ⟨by decide +kernel, rfl⟩
theorem x_M_count_75 : kt_dc i_M_count 75 (.iload_n 1) 1 76 := ⟨by decide +kernel, rfl⟩
theorem x_M_count_76 : kt_dc i_M_count 76 (.iconst 2) 1 77 ∧ Int32.ofInt (2) = nI 2 := ⟨⟨by decide +kernel, rfl⟩, by decide⟩
theorem x_M_count_77 : kt_dc i_M_count 77 (.isub) 1 78 := ⟨by decide +kernel, rfl⟩
theorem x_M_count_78 : kt_sV i_M_count 78 i_M_ofKind 5 1 81 := ⟨140, ⟨by decide +kernel, rfl⟩, Or.inl (tw_749), j_M_ofKind, ⟨tw_751, tp_68⟩, ⟨TX5, 18, rfl⟩, by decide, rfl⟩
theorem c_M_count_78 {P : kt_P} {NM : Nat} {L : List (Option Value)} {rest : List Value} {N : Nat} {I : kt_I} {J : kt_J} {R : kt_R} {Q : Option Value → kt_I → kt_J → kt_R → Prop} {b : Nat} {x0 : Int32} (hkd : kt_kd P N b = (5, 0)) (hrest : (rest.map fun v => v.category).sum ≤ 8) (kk : KW P i_M_ofKind N 0 [some (.ref b), some (.int x0), none, none] [] N I J R (fun v I' J' R' => KW P i_M_count NM 81 L (kt_pu v rest) N I' J' R' Q)) : KW P i_M_count NM 78 L (.int x0 :: .ref b :: rest) N I J R Q := kw_callV x_M_count_78 (As := [.int x0]) rfl rfl (Nat.le_of_ble_eq_true rfl) hrest hkd (Nat.le_refl N) (fun h => h) kk
theorem x_M_count_81 : kt_dc i_M_count 81 (.ireturn) 1 82 ∧ kt_rt i_M_count = (some .int) := ⟨⟨by decide +kernel, rfl⟩, rfl⟩
theorem x_M_count_82 : kt_dc i_M_count 82 (.aload_n 0) 1 83 := ⟨by decide +kernel, rfl⟩
theorem x_M_count_83 : kt_sG i_M_count 83 5 0 2 86 := ⟨7, RX5, TX5, 18, ⟨by decide +kernel, rfl⟩, rfl, by decide, rfl, by decide, Or.inl (tw_535)⟩
theorem x_M_count_86 : kt_dc i_M_count 86 (.iconst 0) 1 87 ∧ Int32.ofInt (0) = nI 0 := ⟨⟨by decide +kernel, rfl⟩, by decide⟩
theorem x_M_count_87 : kt_dc i_M_count 87 (.iaload) 1 88 := ⟨by decide +kernel, rfl⟩
theorem x_M_count_88 : kt_dc i_M_count 88 (.ireturn) 1 89 ∧ kt_rt i_M_count = (some .int) := ⟨⟨by decide +kernel, rfl⟩, rfl⟩
theorem x_M_count_89 : kt_dc i_M_count 89 (.aload_n 0) 1 90 := ⟨by decide +kernel, rfl⟩
theorem x_M_count_90 : kt_sV i_M_count 90 i_M_sorries 5 0 93 := ⟨143, ⟨by decide +kernel, rfl⟩, Or.inl (tw_753), j_M_sorries, ⟨tw_755, tp_69⟩, ⟨TX5, 18, rfl⟩, by decide, rfl⟩
theorem c_M_count_90 {P : kt_P} {NM : Nat} {L : List (Option Value)} {rest : List Value} {N : Nat} {I : kt_I} {J : kt_J} {R : kt_R} {Q : Option Value → kt_I → kt_J → kt_R → Prop} {b : Nat} (hkd : kt_kd P N b = (5, 0)) (hrest : (rest.map fun v => v.category).sum ≤ 8) (kk : KW P i_M_sorries N 0 [some (.ref b), none, none] [] N I J R (fun v I' J' R' => KW P i_M_count NM 93 L (kt_pu v rest) N I' J' R' Q)) : KW P i_M_count NM 90 L (.ref b :: rest) N I J R Q := kw_callV x_M_count_90 (As := []) rfl rfl (Nat.le_of_ble_eq_true rfl) hrest hkd (Nat.le_refl N) (fun h => h) kk
theorem x_M_count_93 : kt_dc i_M_count 93 (.ireturn) 1 94 ∧ kt_rt i_M_count = (some .int) := ⟨⟨by decide +kernel, rfl⟩, rfl⟩
theorem x_M_count_94 : kt_dc i_M_count 94 (.aload_n 0) 1 95 := ⟨by decide +kernel, rfl⟩
theorem x_M_count_95 : kt_dc i_M_count 95 (.aload_n 0) 1 96 := ⟨by decide +kernel, rfl⟩
theorem x_M_count_96 : kt_sV i_M_count 96 i_M_everyone 5 0 99 := ⟨147, ⟨by decide +kernel, rfl⟩, Or.inl (tw_757), j_M_everyone, ⟨tw_759, tp_70⟩, ⟨TX5, 18, rfl⟩, by decide, rfl⟩
theorem c_M_count_96 {P : kt_P} {NM : Nat} {L : List (Option Value)} {rest : List Value} {N : Nat} {I : kt_I} {J : kt_J} {R : kt_R} {Q : Option Value → kt_I → kt_J → kt_R → Prop} {b : Nat} (hkd : kt_kd P N b = (5, 0)) (hrest : (rest.map fun v => v.category).sum ≤ 8) (kk : KW P i_M_everyone N 0 [some (.ref b)] [] N I J R (fun v I' J' R' => KW P i_M_count NM 99 L (kt_pu v rest) N I' J' R' Q)) : KW P i_M_count NM 96 L (.ref b :: rest) N I J R Q := kw_callV x_M_count_96 (As := []) rfl rfl (Nat.le_of_ble_eq_true rfl) hrest hkd (Nat.le_refl N) (fun h => h) kk
theorem x_M_count_99 : kt_sV i_M_count 99 i_M_known 5 1 102 := ⟨150, ⟨by decide +kernel, rfl⟩, Or.inl (tw_761), j_M_known, ⟨tw_763, tp_71⟩, ⟨TX5, 18, rfl⟩, by decide, rfl⟩
theorem c_M_count_99 {P : kt_P} {NM : Nat} {L : List (Option Value)} {rest : List Value} {N : Nat} {I : kt_I} {J : kt_J} {R : kt_R} {Q : Option Value → kt_I → kt_J → kt_R → Prop} {b : Nat} {x0 : Int32} (hkd : kt_kd P N b = (5, 0)) (hrest : (rest.map fun v => v.category).sum ≤ 8) (kk : KW P i_M_known N 0 [some (.ref b), some (.int x0), none, none] [] N I J R (fun v I' J' R' => KW P i_M_count NM 102 L (kt_pu v rest) N I' J' R' Q)) : KW P i_M_count NM 99 L (.int x0 :: .ref b :: rest) N I J R Q := kw_callV x_M_count_99 (As := [.int x0]) rfl rfl (Nat.le_of_ble_eq_true rfl) hrest hkd (Nat.le_refl N) (fun h => h) kk
theorem x_M_count_102 : kt_dc i_M_count 102 (.ireturn) 1 103 ∧ kt_rt i_M_count = (some .int) := ⟨⟨by decide +kernel, rfl⟩, rfl⟩
theorem x_M_count_103 : kt_dc i_M_count 103 (.aload_n 0) 1 104 := ⟨by decide +kernel, rfl⟩
theorem x_M_count_104 : kt_dc i_M_count 104 (.aload_n 0) 1 105 := ⟨by decide +kernel, rfl⟩
theorem x_M_count_105 : kt_sV i_M_count 105 i_M_everyone 5 0 108 := ⟨147, ⟨by decide +kernel, rfl⟩, Or.inl (tw_757), j_M_everyone, ⟨tw_759, tp_70⟩, ⟨TX5, 18, rfl⟩, by decide, rfl⟩
theorem c_M_count_105 {P : kt_P} {NM : Nat} {L : List (Option Value)} {rest : List Value} {N : Nat} {I : kt_I} {J : kt_J} {R : kt_R} {Q : Option Value → kt_I → kt_J → kt_R → Prop} {b : Nat} (hkd : kt_kd P N b = (5, 0)) (hrest : (rest.map fun v => v.category).sum ≤ 8) (kk : KW P i_M_everyone N 0 [some (.ref b)] [] N I J R (fun v I' J' R' => KW P i_M_count NM 108 L (kt_pu v rest) N I' J' R' Q)) : KW P i_M_count NM 105 L (.ref b :: rest) N I J R Q := kw_callV x_M_count_105 (As := []) rfl rfl (Nat.le_of_ble_eq_true rfl) hrest hkd (Nat.le_refl N) (fun h => h) kk
theorem x_M_count_108 : kt_sV i_M_count 108 i_M_known 5 1 111 := ⟨150, ⟨by decide +kernel, rfl⟩, Or.inl (tw_761), j_M_known, ⟨tw_763, tp_71⟩, ⟨TX5, 18, rfl⟩, by decide, rfl⟩
theorem c_M_count_108 {P : kt_P} {NM : Nat} {L : List (Option Value)} {rest : List Value} {N : Nat} {I : kt_I} {J : kt_J} {R : kt_R} {Q : Option Value → kt_I → kt_J → kt_R → Prop} {b : Nat} {x0 : Int32} (hkd : kt_kd P N b = (5, 0)) (hrest : (rest.map fun v => v.category).sum ≤ 8) (kk : KW P i_M_known N 0 [some (.ref b), some (.int x0), none, none] [] N I J R (fun v I' J' R' => KW P i_M_count NM 111 L (kt_pu v rest) N I' J' R' Q)) : KW P i_M_count NM 108 L (.int x0 :: .ref b :: rest) N I J R Q := kw_callV x_M_count_108 (As := [.int x0]) rfl rfl (Nat.le_of_ble_eq_true rfl) hrest hkd (Nat.le_refl N) (fun h => h) kk
theorem x_M_count_111 : kt_dc i_M_count 111 (.aload_n 0) 1 112 := ⟨by decide +kernel, rfl⟩
theorem x_M_count_112 : kt_sG i_M_count 112 5 0 2 115 := ⟨7, RX5, TX5, 18, ⟨by decide +kernel, rfl⟩, rfl, by decide, rfl, by decide, Or.inl (tw_535)⟩
theorem x_M_count_115 : kt_dc i_M_count 115 (.iconst 2) 1 116 ∧ Int32.ofInt (2) = nI 2 := ⟨⟨by decide +kernel, rfl⟩, by decide⟩
theorem x_M_count_116 : kt_dc i_M_count 116 (.iaload) 1 117 := ⟨by decide +kernel, rfl⟩
theorem x_M_count_117 : kt_dj i_M_count 117 (.if_icmp .ne) 124 120 := ⟨7, by decide +kernel, by decide, rfl⟩
theorem x_M_count_120 : kt_dc i_M_count 120 (.iconst 1) 1 121 ∧ Int32.ofInt (1) = nI 1 := ⟨⟨by decide +kernel, rfl⟩, by decide⟩
theorem x_M_count_121 : kt_dj i_M_count 121 .goto 125 124 := ⟨4, by decide +kernel, by decide, rfl⟩
theorem x_M_count_124 : kt_dc i_M_count 124 (.iconst 0) 1 125 ∧ Int32.ofInt (0) = nI 0 := ⟨⟨by decide +kernel, rfl⟩, by decide⟩
theorem x_M_count_125 : kt_dc i_M_count 125 (.ireturn) 1 126 ∧ kt_rt i_M_count = (some .int) := ⟨⟨by decide +kernel, rfl⟩, rfl⟩
theorem x_M_count_126 : kt_dc i_M_count 126 (.aload_n 0) 1 127 := ⟨by decide +kernel, rfl⟩
theorem x_M_count_127 : kt_sG i_M_count 127 5 4 0 130 := ⟨83, RX5, TX5, 18, ⟨by decide +kernel, rfl⟩, rfl, by decide, rfl, by decide, Or.inl (tw_539)⟩
theorem x_M_count_130 : kt_dc i_M_count 130 (.ireturn) 1 131 ∧ kt_rt i_M_count = (some .int) := ⟨⟨by decide +kernel, rfl⟩, rfl⟩
theorem x_M_count_131 : kt_dc i_M_count 131 (.aload_n 0) 1 132 := ⟨by decide +kernel, rfl⟩
theorem x_M_count_132 : kt_sG i_M_count 132 5 7 0 135 := ⟨153, RX5, TX5, 18, ⟨by decide +kernel, rfl⟩, rfl, by decide, rfl, by decide, Or.inl (tw_542)⟩
theorem x_M_count_135 : kt_dc i_M_count 135 (.ireturn) 1 136 ∧ kt_rt i_M_count = (some .int) := ⟨⟨by decide +kernel, rfl⟩, rfl⟩
theorem x_M_count_136 : kt_dc i_M_count 136 (.iconst (-1)) 1 137 ∧ Int32.ofInt (-1) = (-1 : Int32) := ⟨⟨by decide +kernel, rfl⟩, by decide⟩
theorem x_M_count_137 : kt_dc i_M_count 137 (.ireturn) 1 138 ∧ kt_rt i_M_count = (some .int) := ⟨⟨by decide +kernel, rfl⟩, rfl⟩
theorem x_M_ofKind_0 : kt_dc i_M_ofKind 0 (.iconst 0) 1 1 ∧ Int32.ofInt (0) = nI 0 := ⟨⟨by decide +kernel, rfl⟩, by decide⟩
theorem x_M_ofKind_1 : kt_dc i_M_ofKind 1 (.istore_n 2) 1 2 := ⟨by decide +kernel, rfl⟩
theorem x_M_ofKind_2 : kt_dc i_M_ofKind 2 (.iconst 0) 1 3 ∧ Int32.ofInt (0) = nI 0 := ⟨⟨by decide +kernel, rfl⟩, by decide⟩
theorem x_M_ofKind_3 : kt_dc i_M_ofKind 3 (.istore_n 3) 1 4 := ⟨by decide +kernel, rfl⟩
theorem x_M_ofKind_4 : kt_dc i_M_ofKind 4 (.iload_n 3) 1 5 := ⟨by decide +kernel, rfl⟩
theorem x_M_ofKind_5 : kt_dc i_M_ofKind 5 (.aload_n 0) 1 6 := ⟨by decide +kernel, rfl⟩
theorem x_M_ofKind_6 : kt_sG i_M_ofKind 6 5 0 2 9 := ⟨7, RX5, TX5, 18, ⟨by decide +kernel, rfl⟩, rfl, by decide, rfl, by decide, Or.inl (tw_535)⟩
theorem x_M_ofKind_9 : kt_dc i_M_ofKind 9 (.iconst 2) 1 10 ∧ Int32.ofInt (2) = nI 2 := ⟨⟨by decide +kernel, rfl⟩, by decide⟩
theorem x_M_ofKind_10 : kt_dc i_M_ofKind 10 (.iaload) 1 11 := ⟨by decide +kernel, rfl⟩
theorem x_M_ofKind_11 : kt_dj i_M_ofKind 11 (.if_icmp .ge) 38 14 := ⟨27, by decide +kernel, by decide, rfl⟩
theorem x_M_ofKind_14 : kt_dc i_M_ofKind 14 (.iload_n 2) 1 15 := ⟨by decide +kernel, rfl⟩
theorem x_M_ofKind_15 : kt_dc i_M_ofKind 15 (.aload_n 0) 1 16 := ⟨by decide +kernel, rfl⟩
theorem x_M_ofKind_16 : kt_dc i_M_ofKind 16 (.iload_n 3) 1 17 := ⟨by decide +kernel, rfl⟩
theorem x_M_ofKind_17 : kt_dc i_M_ofKind 17 (.iconst 0) 1 18 ∧ Int32.ofInt (0) = nI 0 := ⟨⟨by decide +kernel, rfl⟩, by decide⟩
theorem x_M_ofKind_18 : kt_sV i_M_ofKind 18 i_M_of 5 2 21 := ⟨44, ⟨by decide +kernel, rfl⟩, Or.inl (tw_615), j_M_of, ⟨tw_617, tp_50⟩, ⟨TX5, 18, rfl⟩, by decide, rfl⟩
theorem c_M_ofKind_18 {P : kt_P} {NM : Nat} {L : List (Option Value)} {rest : List Value} {N : Nat} {I : kt_I} {J : kt_J} {R : kt_R} {Q : Option Value → kt_I → kt_J → kt_R → Prop} {b : Nat} {x0 : Int32} {x1 : Int32} (hkd : kt_kd P N b = (5, 0)) (hrest : (rest.map fun v => v.category).sum ≤ 8) (kk : KW P i_M_of N 0 [some (.ref b), some (.int x0), some (.int x1)] [] N I J R (fun v I' J' R' => KW P i_M_ofKind NM 21 L (kt_pu v rest) N I' J' R' Q)) : KW P i_M_ofKind NM 18 L (.int x1 :: .int x0 :: .ref b :: rest) N I J R Q := kw_callV x_M_ofKind_18 (As := [.int x0, .int x1]) rfl rfl (Nat.le_of_ble_eq_true rfl) hrest hkd (Nat.le_refl N) (fun h => h) kk
theorem x_M_ofKind_21 : kt_dc i_M_ofKind 21 (.iload_n 1) 1 22 := ⟨by decide +kernel, rfl⟩
theorem x_M_ofKind_22 : kt_dj i_M_ofKind 22 (.if_icmp .ne) 29 25 := ⟨7, by decide +kernel, by decide, rfl⟩
theorem x_M_ofKind_25 : kt_dc i_M_ofKind 25 (.iconst 1) 1 26 ∧ Int32.ofInt (1) = nI 1 := ⟨⟨by decide +kernel, rfl⟩, by decide⟩
theorem x_M_ofKind_26 : kt_dj i_M_ofKind 26 .goto 30 29 := ⟨4, by decide +kernel, by decide, rfl⟩
theorem x_M_ofKind_29 : kt_dc i_M_ofKind 29 (.iconst 0) 1 30 ∧ Int32.ofInt (0) = nI 0 := ⟨⟨by decide +kernel, rfl⟩, by decide⟩
theorem x_M_ofKind_30 : kt_dc i_M_ofKind 30 (.iadd) 1 31 := ⟨by decide +kernel, rfl⟩
theorem x_M_ofKind_31 : kt_dc i_M_ofKind 31 (.istore_n 2) 1 32 := ⟨by decide +kernel, rfl⟩
theorem x_M_ofKind_32 : kt_dc i_M_ofKind 32 (.iinc 3 1) 3 35 ∧ Int32.ofInt (1) = nI 1 := ⟨⟨by decide +kernel, rfl⟩, by decide⟩
theorem x_M_ofKind_35 : kt_dj i_M_ofKind 35 .goto 4 38 := ⟨-31, by decide +kernel, by decide, rfl⟩
theorem x_M_ofKind_38 : kt_dc i_M_ofKind 38 (.iload_n 2) 1 39 := ⟨by decide +kernel, rfl⟩
theorem x_M_ofKind_39 : kt_dc i_M_ofKind 39 (.ireturn) 1 40 ∧ kt_rt i_M_ofKind = (some .int) := ⟨⟨by decide +kernel, rfl⟩, rfl⟩
theorem x_M_sorries_0 : kt_dc i_M_sorries 0 (.iconst 0) 1 1 ∧ Int32.ofInt (0) = nI 0 := ⟨⟨by decide +kernel, rfl⟩, by decide⟩
theorem x_M_sorries_1 : kt_dc i_M_sorries 1 (.istore_n 1) 1 2 := ⟨by decide +kernel, rfl⟩
theorem x_M_sorries_2 : kt_dc i_M_sorries 2 (.iconst 0) 1 3 ∧ Int32.ofInt (0) = nI 0 := ⟨⟨by decide +kernel, rfl⟩, by decide⟩
theorem x_M_sorries_3 : kt_dc i_M_sorries 3 (.istore_n 2) 1 4 := ⟨by decide +kernel, rfl⟩
theorem x_M_sorries_4 : kt_dc i_M_sorries 4 (.iload_n 2) 1 5 := ⟨by decide +kernel, rfl⟩
theorem x_M_sorries_5 : kt_dc i_M_sorries 5 (.aload_n 0) 1 6 := ⟨by decide +kernel, rfl⟩
theorem x_M_sorries_6 : kt_sG i_M_sorries 6 5 0 2 9 := ⟨7, RX5, TX5, 18, ⟨by decide +kernel, rfl⟩, rfl, by decide, rfl, by decide, Or.inl (tw_535)⟩
theorem x_M_sorries_9 : kt_dc i_M_sorries 9 (.iconst 2) 1 10 ∧ Int32.ofInt (2) = nI 2 := ⟨⟨by decide +kernel, rfl⟩, by decide⟩
theorem x_M_sorries_10 : kt_dc i_M_sorries 10 (.iaload) 1 11 := ⟨by decide +kernel, rfl⟩
theorem x_M_sorries_11 : kt_dj i_M_sorries 11 (.if_icmp .ge) 33 14 := ⟨22, by decide +kernel, by decide, rfl⟩
theorem x_M_sorries_14 : kt_dc i_M_sorries 14 (.iload_n 1) 1 15 := ⟨by decide +kernel, rfl⟩
theorem x_M_sorries_15 : kt_dc i_M_sorries 15 (.aload_n 0) 1 16 := ⟨by decide +kernel, rfl⟩
theorem x_M_sorries_16 : kt_dc i_M_sorries 16 (.iload_n 2) 1 17 := ⟨by decide +kernel, rfl⟩
theorem x_M_sorries_17 : kt_dc i_M_sorries 17 (.bipush 8) 2 19 ∧ (Int8.ofInt (8)).toInt32 = nI 8 := ⟨⟨by decide +kernel, rfl⟩, by decide⟩
theorem x_M_sorries_19 : kt_sV i_M_sorries 19 i_M_of 5 2 22 := ⟨44, ⟨by decide +kernel, rfl⟩, Or.inl (tw_615), j_M_of, ⟨tw_617, tp_50⟩, ⟨TX5, 18, rfl⟩, by decide, rfl⟩
theorem c_M_sorries_19 {P : kt_P} {NM : Nat} {L : List (Option Value)} {rest : List Value} {N : Nat} {I : kt_I} {J : kt_J} {R : kt_R} {Q : Option Value → kt_I → kt_J → kt_R → Prop} {b : Nat} {x0 : Int32} {x1 : Int32} (hkd : kt_kd P N b = (5, 0)) (hrest : (rest.map fun v => v.category).sum ≤ 8) (kk : KW P i_M_of N 0 [some (.ref b), some (.int x0), some (.int x1)] [] N I J R (fun v I' J' R' => KW P i_M_sorries NM 22 L (kt_pu v rest) N I' J' R' Q)) : KW P i_M_sorries NM 19 L (.int x1 :: .int x0 :: .ref b :: rest) N I J R Q := kw_callV x_M_sorries_19 (As := [.int x0, .int x1]) rfl rfl (Nat.le_of_ble_eq_true rfl) hrest hkd (Nat.le_refl N) (fun h => h) kk
theorem x_M_sorries_22 : kt_sS i_M_sorries 22 i_M_bits 1 25 := ⟨137, ⟨by decide +kernel, rfl⟩, Or.inl (tw_738), j_M_bits, tw_739, rfl⟩
theorem c_M_sorries_22 {P : kt_P} {NM : Nat} {L : List (Option Value)} {rest : List Value} {N : Nat} {I : kt_I} {J : kt_J} {R : kt_R} {Q : Option Value → kt_I → kt_J → kt_R → Prop} {x0 : Int32} (hrest : (rest.map fun v => v.category).sum ≤ 8) (kk : KW P i_M_bits N 0 [some (.int x0), none, none] [] N I J R (fun v I' J' R' => KW P i_M_sorries NM 25 L (kt_pu v rest) N I' J' R' Q)) : KW P i_M_sorries NM 22 L (.int x0 :: rest) N I J R Q := kw_callS x_M_sorries_22 (As := [.int x0]) rfl rfl (Nat.le_of_ble_eq_true rfl) hrest (Nat.le_refl N) (fun h => h) kk
theorem x_M_sorries_25 : kt_dc i_M_sorries 25 (.iadd) 1 26 := ⟨by decide +kernel, rfl⟩
theorem x_M_sorries_26 : kt_dc i_M_sorries 26 (.istore_n 1) 1 27 := ⟨by decide +kernel, rfl⟩
theorem x_M_sorries_27 : kt_dc i_M_sorries 27 (.iinc 2 1) 3 30 ∧ Int32.ofInt (1) = nI 1 := ⟨⟨by decide +kernel, rfl⟩, by decide⟩
theorem x_M_sorries_30 : kt_dj i_M_sorries 30 .goto 4 33 := ⟨-26, by decide +kernel, by decide, rfl⟩
theorem x_M_sorries_33 : kt_dc i_M_sorries 33 (.iload_n 1) 1 34 := ⟨by decide +kernel, rfl⟩
theorem x_M_sorries_34 : kt_dc i_M_sorries 34 (.ireturn) 1 35 ∧ kt_rt i_M_sorries = (some .int) := ⟨⟨by decide +kernel, rfl⟩, rfl⟩
theorem x_M_everyone_0 : kt_dc i_M_everyone 0 (.iconst 1) 1 1 ∧ Int32.ofInt (1) = nI 1 := ⟨⟨by decide +kernel, rfl⟩, by decide⟩
theorem x_M_everyone_1 : kt_dc i_M_everyone 1 (.aload_n 0) 1 2 := ⟨by decide +kernel, rfl⟩
theorem x_M_everyone_2 : kt_sG i_M_everyone 2 5 0 2 5 := ⟨7, RX5, TX5, 18, ⟨by decide +kernel, rfl⟩, rfl, by decide, rfl, by decide, Or.inl (tw_535)⟩
theorem x_M_everyone_5 : kt_dc i_M_everyone 5 (.iconst 1) 1 6 ∧ Int32.ofInt (1) = nI 1 := ⟨⟨by decide +kernel, rfl⟩, by decide⟩
theorem x_M_everyone_6 : kt_dc i_M_everyone 6 (.iaload) 1 7 := ⟨by decide +kernel, rfl⟩
theorem x_M_everyone_7 : kt_dc i_M_everyone 7 (.ishl) 1 8 := ⟨by decide +kernel, rfl⟩
theorem x_M_everyone_8 : kt_dc i_M_everyone 8 (.iconst 1) 1 9 ∧ Int32.ofInt (1) = nI 1 := ⟨⟨by decide +kernel, rfl⟩, by decide⟩
theorem x_M_everyone_9 : kt_dc i_M_everyone 9 (.isub) 1 10 := ⟨by decide +kernel, rfl⟩
theorem x_M_everyone_10 : kt_dc i_M_everyone 10 (.ireturn) 1 11 ∧ kt_rt i_M_everyone = (some .int) := ⟨⟨by decide +kernel, rfl⟩, rfl⟩
theorem x_M_known_0 : kt_dc i_M_known 0 (.iconst 0) 1 1 ∧ Int32.ofInt (0) = nI 0 := ⟨⟨by decide +kernel, rfl⟩, by decide⟩
theorem x_M_known_1 : kt_dc i_M_known 1 (.istore_n 2) 1 2 := ⟨by decide +kernel, rfl⟩
theorem x_M_known_2 : kt_dc i_M_known 2 (.iconst 0) 1 3 ∧ Int32.ofInt (0) = nI 0 := ⟨⟨by decide +kernel, rfl⟩, by decide⟩
theorem x_M_known_3 : kt_dc i_M_known 3 (.istore_n 3) 1 4 := ⟨by decide +kernel, rfl⟩
theorem x_M_known_4 : kt_dc i_M_known 4 (.iload_n 3) 1 5 := ⟨by decide +kernel, rfl⟩
theorem x_M_known_5 : kt_dc i_M_known 5 (.aload_n 0) 1 6 := ⟨by decide +kernel, rfl⟩
theorem x_M_known_6 : kt_sG i_M_known 6 5 0 2 9 := ⟨7, RX5, TX5, 18, ⟨by decide +kernel, rfl⟩, rfl, by decide, rfl, by decide, Or.inl (tw_535)⟩
theorem x_M_known_9 : kt_dc i_M_known 9 (.iconst 2) 1 10 ∧ Int32.ofInt (2) = nI 2 := ⟨⟨by decide +kernel, rfl⟩, by decide⟩
theorem x_M_known_10 : kt_dc i_M_known 10 (.iaload) 1 11 := ⟨by decide +kernel, rfl⟩
theorem x_M_known_11 : kt_dj i_M_known 11 (.if_icmp .ge) 39 14 := ⟨28, by decide +kernel, by decide, rfl⟩
theorem x_M_known_14 : kt_dc i_M_known 14 (.iload_n 2) 1 15 := ⟨by decide +kernel, rfl⟩
theorem x_M_known_15 : kt_dc i_M_known 15 (.aload_n 0) 1 16 := ⟨by decide +kernel, rfl⟩
theorem x_M_known_16 : kt_dc i_M_known 16 (.iload_n 3) 1 17 := ⟨by decide +kernel, rfl⟩
theorem x_M_known_17 : kt_dc i_M_known 17 (.bipush 7) 2 19 ∧ (Int8.ofInt (7)).toInt32 = nI 7 := ⟨⟨by decide +kernel, rfl⟩, by decide⟩
theorem x_M_known_19 : kt_sV i_M_known 19 i_M_of 5 2 22 := ⟨44, ⟨by decide +kernel, rfl⟩, Or.inl (tw_615), j_M_of, ⟨tw_617, tp_50⟩, ⟨TX5, 18, rfl⟩, by decide, rfl⟩
theorem c_M_known_19 {P : kt_P} {NM : Nat} {L : List (Option Value)} {rest : List Value} {N : Nat} {I : kt_I} {J : kt_J} {R : kt_R} {Q : Option Value → kt_I → kt_J → kt_R → Prop} {b : Nat} {x0 : Int32} {x1 : Int32} (hkd : kt_kd P N b = (5, 0)) (hrest : (rest.map fun v => v.category).sum ≤ 8) (kk : KW P i_M_of N 0 [some (.ref b), some (.int x0), some (.int x1)] [] N I J R (fun v I' J' R' => KW P i_M_known NM 22 L (kt_pu v rest) N I' J' R' Q)) : KW P i_M_known NM 19 L (.int x1 :: .int x0 :: .ref b :: rest) N I J R Q := kw_callV x_M_known_19 (As := [.int x0, .int x1]) rfl rfl (Nat.le_of_ble_eq_true rfl) hrest hkd (Nat.le_refl N) (fun h => h) kk
theorem x_M_known_22 : kt_dc i_M_known 22 (.iload_n 1) 1 23 := ⟨by decide +kernel, rfl⟩
theorem x_M_known_23 : kt_dj i_M_known 23 (.if_icmp .ne) 30 26 := ⟨7, by decide +kernel, by decide, rfl⟩
theorem x_M_known_26 : kt_dc i_M_known 26 (.iconst 1) 1 27 ∧ Int32.ofInt (1) = nI 1 := ⟨⟨by decide +kernel, rfl⟩, by decide⟩
theorem x_M_known_27 : kt_dj i_M_known 27 .goto 31 30 := ⟨4, by decide +kernel, by decide, rfl⟩
theorem x_M_known_30 : kt_dc i_M_known 30 (.iconst 0) 1 31 ∧ Int32.ofInt (0) = nI 0 := ⟨⟨by decide +kernel, rfl⟩, by decide⟩
theorem x_M_known_31 : kt_dc i_M_known 31 (.iadd) 1 32 := ⟨by decide +kernel, rfl⟩
theorem x_M_known_32 : kt_dc i_M_known 32 (.istore_n 2) 1 33 := ⟨by decide +kernel, rfl⟩
theorem x_M_known_33 : kt_dc i_M_known 33 (.iinc 3 1) 3 36 ∧ Int32.ofInt (1) = nI 1 := ⟨⟨by decide +kernel, rfl⟩, by decide⟩
theorem x_M_known_36 : kt_dj i_M_known 36 .goto 4 39 := ⟨-32, by decide +kernel, by decide, rfl⟩
theorem x_M_known_39 : kt_dc i_M_known 39 (.iload_n 2) 1 40 := ⟨by decide +kernel, rfl⟩
theorem x_M_known_40 : kt_dc i_M_known 40 (.ireturn) 1 41 ∧ kt_rt i_M_known = (some .int) := ⟨⟨by decide +kernel, rfl⟩, rfl⟩
theorem x_M_would_0 : kt_dc i_M_would 0 (.aload_n 0) 1 1 := ⟨by decide +kernel, rfl⟩
theorem x_M_would_1 : kt_dc i_M_would 1 (.iload_n 1) 1 2 := ⟨by decide +kernel, rfl⟩
theorem x_M_would_2 : kt_sV i_M_would 2 i_M_isTown 5 1 5 := ⟨103, ⟨by decide +kernel, rfl⟩, Or.inl (tw_647), j_M_isTown, ⟨tw_649, tp_57⟩, ⟨TX5, 18, rfl⟩, by decide, rfl⟩
theorem c_M_would_2 {P : kt_P} {NM : Nat} {L : List (Option Value)} {rest : List Value} {N : Nat} {I : kt_I} {J : kt_J} {R : kt_R} {Q : Option Value → kt_I → kt_J → kt_R → Prop} {b : Nat} {x0 : Int32} (hkd : kt_kd P N b = (5, 0)) (hrest : (rest.map fun v => v.category).sum ≤ 8) (kk : KW P i_M_isTown N 0 [some (.ref b), some (.int x0)] [] N I J R (fun v I' J' R' => KW P i_M_would NM 5 L (kt_pu v rest) N I' J' R' Q)) : KW P i_M_would NM 2 L (.int x0 :: .ref b :: rest) N I J R Q := kw_callV x_M_would_2 (As := [.int x0]) rfl rfl (Nat.le_of_ble_eq_true rfl) hrest hkd (Nat.le_refl N) (fun h => h) kk
theorem x_M_would_5 : kt_dj i_M_would 5 (.ifCond .eq) 30 8 := ⟨25, by decide +kernel, by decide, rfl⟩
theorem x_M_would_8 : kt_dc i_M_would 8 (.aload_n 0) 1 9 := ⟨by decide +kernel, rfl⟩
theorem x_M_would_9 : kt_dc i_M_would 9 (.iload_n 2) 1 10 := ⟨by decide +kernel, rfl⟩
theorem x_M_would_10 : kt_sV i_M_would 10 i_M_isTown 5 1 13 := ⟨103, ⟨by decide +kernel, rfl⟩, Or.inl (tw_647), j_M_isTown, ⟨tw_649, tp_57⟩, ⟨TX5, 18, rfl⟩, by decide, rfl⟩
theorem c_M_would_10 {P : kt_P} {NM : Nat} {L : List (Option Value)} {rest : List Value} {N : Nat} {I : kt_I} {J : kt_J} {R : kt_R} {Q : Option Value → kt_I → kt_J → kt_R → Prop} {b : Nat} {x0 : Int32} (hkd : kt_kd P N b = (5, 0)) (hrest : (rest.map fun v => v.category).sum ≤ 8) (kk : KW P i_M_isTown N 0 [some (.ref b), some (.int x0)] [] N I J R (fun v I' J' R' => KW P i_M_would NM 13 L (kt_pu v rest) N I' J' R' Q)) : KW P i_M_would NM 10 L (.int x0 :: .ref b :: rest) N I J R Q := kw_callV x_M_would_10 (As := [.int x0]) rfl rfl (Nat.le_of_ble_eq_true rfl) hrest hkd (Nat.le_refl N) (fun h => h) kk
theorem x_M_would_13 : kt_dj i_M_would 13 (.ifCond .eq) 30 16 := ⟨17, by decide +kernel, by decide, rfl⟩
theorem x_M_would_16 : kt_dc i_M_would 16 (.iload_n 1) 1 17 := ⟨by decide +kernel, rfl⟩
theorem x_M_would_17 : kt_dc i_M_would 17 (.iload_n 2) 1 18 := ⟨by decide +kernel, rfl⟩
theorem x_M_would_18 : kt_dj i_M_would 18 (.if_icmp .eq) 30 21 := ⟨12, by decide +kernel, by decide, rfl⟩
theorem x_M_would_21 : kt_dc i_M_would 21 (.iload_n 3) 1 22 := ⟨by decide +kernel, rfl⟩
theorem x_M_would_22 : kt_dc i_M_would 22 (.iconst 0) 1 23 ∧ Int32.ofInt (0) = nI 0 := ⟨⟨by decide +kernel, rfl⟩, by decide⟩
theorem x_M_would_23 : kt_dc i_M_would 23 (.iconst 2) 1 24 ∧ Int32.ofInt (2) = nI 2 := ⟨⟨by decide +kernel, rfl⟩, by decide⟩
theorem x_M_would_24 : kt_sS i_M_would 24 i_M_in 3 27 := ⟨107, ⟨by decide +kernel, rfl⟩, Or.inl (tw_651), j_M_in, tw_652, rfl⟩
theorem c_M_would_24 {P : kt_P} {NM : Nat} {L : List (Option Value)} {rest : List Value} {N : Nat} {I : kt_I} {J : kt_J} {R : kt_R} {Q : Option Value → kt_I → kt_J → kt_R → Prop} {x0 : Int32} {x1 : Int32} {x2 : Int32} (hrest : (rest.map fun v => v.category).sum ≤ 8) (kk : KW P i_M_in N 0 [some (.int x0), some (.int x1), some (.int x2)] [] N I J R (fun v I' J' R' => KW P i_M_would NM 27 L (kt_pu v rest) N I' J' R' Q)) : KW P i_M_would NM 24 L (.int x2 :: .int x1 :: .int x0 :: rest) N I J R Q := kw_callS x_M_would_24 (As := [.int x0, .int x1, .int x2]) rfl rfl (Nat.le_of_ble_eq_true rfl) hrest (Nat.le_refl N) (fun h => h) kk
theorem x_M_would_27 : kt_dj i_M_would 27 (.ifCond .ne) 32 30 := ⟨5, by decide +kernel, by decide, rfl⟩
theorem x_M_would_30 : kt_dc i_M_would 30 (.iconst (-1)) 1 31 ∧ Int32.ofInt (-1) = (-1 : Int32) := ⟨⟨by decide +kernel, rfl⟩, by decide⟩
theorem x_M_would_31 : kt_dc i_M_would 31 (.ireturn) 1 32 ∧ kt_rt i_M_would = (some .int) := ⟨⟨by decide +kernel, rfl⟩, rfl⟩
theorem x_M_would_32 : kt_dc i_M_would 32 (.aload_n 0) 1 33 := ⟨by decide +kernel, rfl⟩
theorem x_M_would_33 : kt_sG i_M_would 33 5 0 2 36 := ⟨7, RX5, TX5, 18, ⟨by decide +kernel, rfl⟩, rfl, by decide, rfl, by decide, Or.inl (tw_535)⟩
theorem x_M_would_36 : kt_dc i_M_would 36 (.aload_n 0) 1 37 := ⟨by decide +kernel, rfl⟩
theorem x_M_would_37 : kt_sG i_M_would 37 5 3 2 40 := ⟨19, RX5, TX5, 18, ⟨by decide +kernel, rfl⟩, rfl, by decide, rfl, by decide, Or.inl (tw_538)⟩
theorem x_M_would_40 : kt_sS i_M_would 40 i_M_copies 2 43 := ⟨156, ⟨by decide +kernel, rfl⟩, Or.inl (tw_769), j_M_copies, tw_770, rfl⟩
theorem c_M_would_40 {P : kt_P} {NM : Nat} {L : List (Option Value)} {rest : List Value} {N : Nat} {I : kt_I} {J : kt_J} {R : kt_R} {Q : Option Value → kt_I → kt_J → kt_R → Prop} {x0 : Nat} {x1 : Nat} (hrest : (rest.map fun v => v.category).sum ≤ 8) (kk : KW P i_M_copies N 0 [some (.ref x0), some (.ref x1), none] [] N I J R (fun v I' J' R' => KW P i_M_would NM 43 L (kt_pu v rest) N I' J' R' Q)) : KW P i_M_would NM 40 L (.ref x1 :: .ref x0 :: rest) N I J R Q := kw_callS x_M_would_40 (As := [.ref x0, .ref x1]) rfl rfl (Nat.le_of_ble_eq_true rfl) hrest (Nat.le_refl N) (fun h => h) kk
theorem x_M_would_43 : kt_dc i_M_would 43 (.aload_n 0) 1 44 := ⟨by decide +kernel, rfl⟩
theorem x_M_would_44 : kt_sV i_M_would 44 i_M_remembers 5 0 47 := ⟨93, ⟨by decide +kernel, rfl⟩, Or.inl (tw_603), j_M_remembers, ⟨tw_605, tp_47⟩, ⟨TX5, 18, rfl⟩, by decide, rfl⟩
theorem c_M_would_44 {P : kt_P} {NM : Nat} {L : List (Option Value)} {rest : List Value} {N : Nat} {I : kt_I} {J : kt_J} {R : kt_R} {Q : Option Value → kt_I → kt_J → kt_R → Prop} {b : Nat} (hkd : kt_kd P N b = (5, 0)) (hrest : (rest.map fun v => v.category).sum ≤ 8) (kk : KW P i_M_remembers N 0 [some (.ref b), none, none] [] N I J R (fun v I' J' R' => KW P i_M_would NM 47 L (kt_pu v rest) N I' J' R' Q)) : KW P i_M_would NM 44 L (.ref b :: rest) N I J R Q := kw_callV x_M_would_44 (As := []) rfl rfl (Nat.le_of_ble_eq_true rfl) hrest hkd (Nat.le_refl N) (fun h => h) kk
theorem x_M_would_47 : kt_dc i_M_would 47 (.aload_n 0) 1 48 := ⟨by decide +kernel, rfl⟩
theorem x_M_would_48 : kt_dc i_M_would 48 (.iload_n 1) 1 49 := ⟨by decide +kernel, rfl⟩
theorem x_M_would_49 : kt_dc i_M_would 49 (.iload_n 2) 1 50 := ⟨by decide +kernel, rfl⟩
theorem x_M_would_50 : kt_sV i_M_would 50 i_M_thinksBoth 5 2 53 := ⟨160, ⟨by decide +kernel, rfl⟩, Or.inl (tw_772), j_M_thinksBoth, ⟨tw_774, tp_72⟩, ⟨TX5, 18, rfl⟩, by decide, rfl⟩
theorem c_M_would_50 {P : kt_P} {NM : Nat} {L : List (Option Value)} {rest : List Value} {N : Nat} {I : kt_I} {J : kt_J} {R : kt_R} {Q : Option Value → kt_I → kt_J → kt_R → Prop} {b : Nat} {x0 : Int32} {x1 : Int32} (hkd : kt_kd P N b = (5, 0)) (hrest : (rest.map fun v => v.category).sum ≤ 8) (kk : KW P i_M_thinksBoth N 0 [some (.ref b), some (.int x0), some (.int x1), none, none] [] N I J R (fun v I' J' R' => KW P i_M_would NM 53 L (kt_pu v rest) N I' J' R' Q)) : KW P i_M_would NM 50 L (.int x1 :: .int x0 :: .ref b :: rest) N I J R Q := kw_callV x_M_would_50 (As := [.int x0, .int x1]) rfl rfl (Nat.le_of_ble_eq_true rfl) hrest hkd (Nat.le_refl N) (fun h => h) kk
theorem x_M_would_53 : kt_dc i_M_would 53 (.aload_n 0) 1 54 := ⟨by decide +kernel, rfl⟩
theorem x_M_would_54 : kt_dc i_M_would 54 (.iload_n 1) 1 55 := ⟨by decide +kernel, rfl⟩
theorem x_M_would_55 : kt_dc i_M_would 55 (.iload_n 2) 1 56 := ⟨by decide +kernel, rfl⟩
theorem x_M_would_56 : kt_dc i_M_would 56 (.iconst 1) 1 57 ∧ Int32.ofInt (1) = nI 1 := ⟨⟨by decide +kernel, rfl⟩, by decide⟩
theorem x_M_would_57 : kt_sV i_M_would 57 i_M_hears 5 3 60 := ⟨118, ⟨by decide +kernel, rfl⟩, Or.inl (tw_682), j_M_hears, ⟨tw_684, tp_62⟩, ⟨TX5, 18, rfl⟩, by decide, rfl⟩
theorem c_M_would_57 {P : kt_P} {NM : Nat} {L : List (Option Value)} {rest : List Value} {N : Nat} {I : kt_I} {J : kt_J} {R : kt_R} {Q : Option Value → kt_I → kt_J → kt_R → Prop} {b : Nat} {x0 : Int32} {x1 : Int32} {x2 : Int32} (hkd : kt_kd P N b = (5, 0)) (hrest : (rest.map fun v => v.category).sum ≤ 8) (kk : KW P i_M_hears N 0 [some (.ref b), some (.int x0), some (.int x1), some (.int x2), none, none, none, none, none, none] [] N I J R (fun v I' J' R' => KW P i_M_would NM 60 L (kt_pu v rest) N I' J' R' Q)) : KW P i_M_would NM 57 L (.int x2 :: .int x1 :: .int x0 :: .ref b :: rest) N I J R Q := kw_callV x_M_would_57 (As := [.int x0, .int x1, .int x2]) rfl rfl (Nat.le_of_ble_eq_true rfl) hrest hkd (Nat.le_refl N) (fun h => h) kk
theorem x_M_would_60 : kt_dc i_M_would 60 (.istore 4) 2 62 := ⟨by decide +kernel, rfl⟩
theorem x_M_would_62 : kt_dc i_M_would 62 (.aload_n 0) 1 63 := ⟨by decide +kernel, rfl⟩
theorem x_M_would_63 : kt_dc i_M_would 63 (.iload_n 1) 1 64 := ⟨by decide +kernel, rfl⟩
theorem x_M_would_64 : kt_dc i_M_would 64 (.iload_n 2) 1 65 := ⟨by decide +kernel, rfl⟩
theorem x_M_would_65 : kt_sV i_M_would 65 i_M_others 5 2 68 := ⟨163, ⟨by decide +kernel, rfl⟩, Or.inl (tw_776), j_M_others, ⟨tw_778, tp_73⟩, ⟨TX5, 18, rfl⟩, by decide, rfl⟩
theorem c_M_would_65 {P : kt_P} {NM : Nat} {L : List (Option Value)} {rest : List Value} {N : Nat} {I : kt_I} {J : kt_J} {R : kt_R} {Q : Option Value → kt_I → kt_J → kt_R → Prop} {b : Nat} {x0 : Int32} {x1 : Int32} (hkd : kt_kd P N b = (5, 0)) (hrest : (rest.map fun v => v.category).sum ≤ 8) (kk : KW P i_M_others N 0 [some (.ref b), some (.int x0), some (.int x1), none, none, none, none, none] [] N I J R (fun v I' J' R' => KW P i_M_would NM 68 L (kt_pu v rest) N I' J' R' Q)) : KW P i_M_would NM 65 L (.int x1 :: .int x0 :: .ref b :: rest) N I J R Q := kw_callV x_M_would_65 (As := [.int x0, .int x1]) rfl rfl (Nat.le_of_ble_eq_true rfl) hrest hkd (Nat.le_refl N) (fun h => h) kk
theorem x_M_would_68 : kt_dc i_M_would 68 (.istore 5) 2 70 := ⟨by decide +kernel, rfl⟩
theorem x_M_would_70 : kt_dc i_M_would 70 (.aload_n 0) 1 71 := ⟨by decide +kernel, rfl⟩
theorem x_M_would_71 : kt_dc i_M_would 71 (.aload_n 0) 1 72 := ⟨by decide +kernel, rfl⟩
theorem x_M_would_72 : kt_sG i_M_would 72 5 0 2 75 := ⟨7, RX5, TX5, 18, ⟨by decide +kernel, rfl⟩, rfl, by decide, rfl, by decide, Or.inl (tw_535)⟩
theorem x_M_would_75 : kt_dc i_M_would 75 (.iconst 1) 1 76 ∧ Int32.ofInt (1) = nI 1 := ⟨⟨by decide +kernel, rfl⟩, by decide⟩
theorem x_M_would_76 : kt_dc i_M_would 76 (.iaload) 1 77 := ⟨by decide +kernel, rfl⟩
theorem x_M_would_77 : kt_sV i_M_would 77 i_M_apologizes 5 1 80 := ⟨99, ⟨by decide +kernel, rfl⟩, Or.inl (tw_662), j_M_apologizes, ⟨tw_664, tp_60⟩, ⟨TX5, 18, rfl⟩, by decide, rfl⟩
theorem c_M_would_77 {P : kt_P} {NM : Nat} {L : List (Option Value)} {rest : List Value} {N : Nat} {I : kt_I} {J : kt_J} {R : kt_R} {Q : Option Value → kt_I → kt_J → kt_R → Prop} {b : Nat} {x0 : Int32} (hkd : kt_kd P N b = (5, 0)) (hrest : (rest.map fun v => v.category).sum ≤ 8) (kk : KW P i_M_apologizes N 0 [some (.ref b), some (.int x0), none, none, none] [] N I J R (fun v I' J' R' => KW P i_M_would NM 80 L (kt_pu v rest) N I' J' R' Q)) : KW P i_M_would NM 77 L (.int x0 :: .ref b :: rest) N I J R Q := kw_callV x_M_would_77 (As := [.int x0]) rfl rfl (Nat.le_of_ble_eq_true rfl) hrest hkd (Nat.le_refl N) (fun h => h) kk
theorem x_M_would_80 : kt_dc i_M_would 80 (.istore 6) 2 82 := ⟨by decide +kernel, rfl⟩
theorem x_M_would_82 : kt_dc i_M_would 82 (.aload_n 0) 1 83 := ⟨by decide +kernel, rfl⟩
theorem x_M_would_83 : kt_sG i_M_would 83 5 3 2 86 := ⟨19, RX5, TX5, 18, ⟨by decide +kernel, rfl⟩, rfl, by decide, rfl, by decide, Or.inl (tw_538)⟩
theorem x_M_would_86 : kt_dc i_M_would 86 (.aload_n 0) 1 87 := ⟨by decide +kernel, rfl⟩
theorem x_M_would_87 : kt_sG i_M_would 87 5 0 2 90 := ⟨7, RX5, TX5, 18, ⟨by decide +kernel, rfl⟩, rfl, by decide, rfl, by decide, Or.inl (tw_535)⟩
theorem x_M_would_90 : kt_sS i_M_would 90 i_M_copies 2 93 := ⟨156, ⟨by decide +kernel, rfl⟩, Or.inl (tw_769), j_M_copies, tw_770, rfl⟩
theorem c_M_would_90 {P : kt_P} {NM : Nat} {L : List (Option Value)} {rest : List Value} {N : Nat} {I : kt_I} {J : kt_J} {R : kt_R} {Q : Option Value → kt_I → kt_J → kt_R → Prop} {x0 : Nat} {x1 : Nat} (hrest : (rest.map fun v => v.category).sum ≤ 8) (kk : KW P i_M_copies N 0 [some (.ref x0), some (.ref x1), none] [] N I J R (fun v I' J' R' => KW P i_M_would NM 93 L (kt_pu v rest) N I' J' R' Q)) : KW P i_M_would NM 90 L (.ref x1 :: .ref x0 :: rest) N I J R Q := kw_callS x_M_would_90 (As := [.ref x0, .ref x1]) rfl rfl (Nat.le_of_ble_eq_true rfl) hrest (Nat.le_refl N) (fun h => h) kk
theorem x_M_would_93 : kt_dc i_M_would 93 (.iload_n 3) 1 94 := ⟨by decide +kernel, rfl⟩
theorem x_M_would_94 : kt_dj i_M_would 94 (.ifCond .ne) 102 97 := ⟨8, by decide +kernel, by decide, rfl⟩
theorem x_M_would_97 : kt_dc i_M_would 97 (.iload 6) 2 99 := ⟨by decide +kernel, rfl⟩
theorem x_M_would_99 : kt_dj i_M_would 99 .goto 114 102 := ⟨15, by decide +kernel, by decide, rfl⟩
theorem x_M_would_102 : kt_dc i_M_would 102 (.iload_n 3) 1 103 := ⟨by decide +kernel, rfl⟩
theorem x_M_would_103 : kt_dc i_M_would 103 (.iconst 1) 1 104 ∧ Int32.ofInt (1) = nI 1 := ⟨⟨by decide +kernel, rfl⟩, by decide⟩
theorem x_M_would_104 : kt_dj i_M_would 104 (.if_icmp .ne) 112 107 := ⟨8, by decide +kernel, by decide, rfl⟩
theorem x_M_would_107 : kt_dc i_M_would 107 (.iload 4) 2 109 := ⟨by decide +kernel, rfl⟩
theorem x_M_would_109 : kt_dj i_M_would 109 .goto 114 112 := ⟨5, by decide +kernel, by decide, rfl⟩
theorem x_M_would_112 : kt_dc i_M_would 112 (.iload 5) 2 114 := ⟨by decide +kernel, rfl⟩
theorem x_M_would_114 : kt_dc i_M_would 114 (.ireturn) 1 115 ∧ kt_rt i_M_would = (some .int) := ⟨⟨by decide +kernel, rfl⟩, rfl⟩
theorem x_M_copies_0 : kt_dc i_M_copies 0 (.iconst 0) 1 1 ∧ Int32.ofInt (0) = nI 0 := ⟨⟨by decide +kernel, rfl⟩, by decide⟩
theorem x_M_copies_1 : kt_dc i_M_copies 1 (.istore_n 2) 1 2 := ⟨by decide +kernel, rfl⟩
theorem x_M_copies_2 : kt_dc i_M_copies 2 (.iload_n 2) 1 3 := ⟨by decide +kernel, rfl⟩
theorem x_M_copies_3 : kt_dc i_M_copies 3 (.sipush 548) 3 6 ∧ (Int16.ofInt (548)).toInt32 = nI 548 := ⟨⟨by decide +kernel, rfl⟩, by decide⟩
theorem x_M_copies_6 : kt_dj i_M_copies 6 (.if_icmp .ge) 21 9 := ⟨15, by decide +kernel, by decide, rfl⟩
theorem x_M_copies_9 : kt_dc i_M_copies 9 (.aload_n 1) 1 10 := ⟨by decide +kernel, rfl⟩
theorem x_M_copies_10 : kt_dc i_M_copies 10 (.iload_n 2) 1 11 := ⟨by decide +kernel, rfl⟩
theorem x_M_copies_11 : kt_dc i_M_copies 11 (.aload_n 0) 1 12 := ⟨by decide +kernel, rfl⟩
theorem x_M_copies_12 : kt_dc i_M_copies 12 (.iload_n 2) 1 13 := ⟨by decide +kernel, rfl⟩
theorem x_M_copies_13 : kt_dc i_M_copies 13 (.iaload) 1 14 := ⟨by decide +kernel, rfl⟩
theorem x_M_copies_14 : kt_dc i_M_copies 14 (.iastore) 1 15 := ⟨by decide +kernel, rfl⟩
theorem x_M_copies_15 : kt_dc i_M_copies 15 (.iinc 2 1) 3 18 ∧ Int32.ofInt (1) = nI 1 := ⟨⟨by decide +kernel, rfl⟩, by decide⟩
theorem x_M_copies_18 : kt_dj i_M_copies 18 .goto 2 21 := ⟨-16, by decide +kernel, by decide, rfl⟩
theorem x_M_copies_21 : kt_dc i_M_copies 21 (.return_) 1 22 ∧ kt_rt i_M_copies = none := ⟨⟨by decide +kernel, rfl⟩, rfl⟩
theorem x_M_thinksBoth_0 : kt_dc i_M_thinksBoth 0 (.iconst 0) 1 1 ∧ Int32.ofInt (0) = nI 0 := ⟨⟨by decide +kernel, rfl⟩, by decide⟩
theorem x_M_thinksBoth_1 : kt_dc i_M_thinksBoth 1 (.istore_n 3) 1 2 := ⟨by decide +kernel, rfl⟩
theorem x_M_thinksBoth_2 : kt_dc i_M_thinksBoth 2 (.iload_n 3) 1 3 := ⟨by decide +kernel, rfl⟩
theorem x_M_thinksBoth_3 : kt_dc i_M_thinksBoth 3 (.iconst 2) 1 4 ∧ Int32.ofInt (2) = nI 2 := ⟨⟨by decide +kernel, rfl⟩, by decide⟩
theorem x_M_thinksBoth_4 : kt_dj i_M_thinksBoth 4 (.if_icmp .ge) 65 7 := ⟨61, by decide +kernel, by decide, rfl⟩
theorem x_M_thinksBoth_7 : kt_dc i_M_thinksBoth 7 (.aload_n 0) 1 8 := ⟨by decide +kernel, rfl⟩
theorem x_M_thinksBoth_8 : kt_dc i_M_thinksBoth 8 (.iload_n 3) 1 9 := ⟨by decide +kernel, rfl⟩
theorem x_M_thinksBoth_9 : kt_dj i_M_thinksBoth 9 (.ifCond .ne) 16 12 := ⟨7, by decide +kernel, by decide, rfl⟩
theorem x_M_thinksBoth_12 : kt_dc i_M_thinksBoth 12 (.iload_n 1) 1 13 := ⟨by decide +kernel, rfl⟩
theorem x_M_thinksBoth_13 : kt_dj i_M_thinksBoth 13 .goto 17 16 := ⟨4, by decide +kernel, by decide, rfl⟩
theorem x_M_thinksBoth_16 : kt_dc i_M_thinksBoth 16 (.iload_n 2) 1 17 := ⟨by decide +kernel, rfl⟩
theorem x_M_thinksBoth_17 : kt_sV i_M_thinksBoth 17 i_M_thinksAll 5 1 20 := ⟨76, ⟨by decide +kernel, rfl⟩, Or.inl (tw_607), j_M_thinksAll, ⟨tw_609, tp_48⟩, ⟨TX5, 18, rfl⟩, by decide, rfl⟩
theorem c_M_thinksBoth_17 {P : kt_P} {NM : Nat} {L : List (Option Value)} {rest : List Value} {N : Nat} {I : kt_I} {J : kt_J} {R : kt_R} {Q : Option Value → kt_I → kt_J → kt_R → Prop} {b : Nat} {x0 : Int32} (hkd : kt_kd P N b = (5, 0)) (hrest : (rest.map fun v => v.category).sum ≤ 8) (kk : KW P i_M_thinksAll N 0 [some (.ref b), some (.int x0), none] [] N I J R (fun v I' J' R' => KW P i_M_thinksBoth NM 20 L (kt_pu v rest) N I' J' R' Q)) : KW P i_M_thinksBoth NM 17 L (.int x0 :: .ref b :: rest) N I J R Q := kw_callV x_M_thinksBoth_17 (As := [.int x0]) rfl rfl (Nat.le_of_ble_eq_true rfl) hrest hkd (Nat.le_refl N) (fun h => h) kk
theorem x_M_thinksBoth_20 : kt_dc i_M_thinksBoth 20 (.iconst 0) 1 21 ∧ Int32.ofInt (0) = nI 0 := ⟨⟨by decide +kernel, rfl⟩, by decide⟩
theorem x_M_thinksBoth_21 : kt_dc i_M_thinksBoth 21 (.istore 4) 2 23 := ⟨by decide +kernel, rfl⟩
theorem x_M_thinksBoth_23 : kt_dc i_M_thinksBoth 23 (.iload 4) 2 25 := ⟨by decide +kernel, rfl⟩
theorem x_M_thinksBoth_25 : kt_dc i_M_thinksBoth 25 (.aload_n 0) 1 26 := ⟨by decide +kernel, rfl⟩
theorem x_M_thinksBoth_26 : kt_sG i_M_thinksBoth 26 5 0 2 29 := ⟨7, RX5, TX5, 18, ⟨by decide +kernel, rfl⟩, rfl, by decide, rfl, by decide, Or.inl (tw_535)⟩
theorem x_M_thinksBoth_29 : kt_dc i_M_thinksBoth 29 (.iconst 2) 1 30 ∧ Int32.ofInt (2) = nI 2 := ⟨⟨by decide +kernel, rfl⟩, by decide⟩
theorem x_M_thinksBoth_30 : kt_dc i_M_thinksBoth 30 (.iaload) 1 31 := ⟨by decide +kernel, rfl⟩
theorem x_M_thinksBoth_31 : kt_dj i_M_thinksBoth 31 (.if_icmp .ge) 59 34 := ⟨28, by decide +kernel, by decide, rfl⟩
theorem x_M_thinksBoth_34 : kt_dc i_M_thinksBoth 34 (.aload_n 0) 1 35 := ⟨by decide +kernel, rfl⟩
theorem x_M_thinksBoth_35 : kt_sG i_M_thinksBoth 35 5 13 2 38 := ⟨38, RX5, TX5, 18, ⟨by decide +kernel, rfl⟩, rfl, by decide, rfl, by decide, Or.inl (tw_548)⟩
theorem x_M_thinksBoth_38 : kt_dc i_M_thinksBoth 38 (.bipush 60) 2 40 ∧ (Int8.ofInt (60)).toInt32 = nI 60 := ⟨⟨by decide +kernel, rfl⟩, by decide⟩
theorem x_M_thinksBoth_40 : kt_dc i_M_thinksBoth 40 (.iload_n 3) 1 41 := ⟨by decide +kernel, rfl⟩
theorem x_M_thinksBoth_41 : kt_dc i_M_thinksBoth 41 (.imul) 1 42 := ⟨by decide +kernel, rfl⟩
theorem x_M_thinksBoth_42 : kt_dc i_M_thinksBoth 42 (.iload 4) 2 44 := ⟨by decide +kernel, rfl⟩
theorem x_M_thinksBoth_44 : kt_dc i_M_thinksBoth 44 (.iadd) 1 45 := ⟨by decide +kernel, rfl⟩
theorem x_M_thinksBoth_45 : kt_dc i_M_thinksBoth 45 (.aload_n 0) 1 46 := ⟨by decide +kernel, rfl⟩
theorem x_M_thinksBoth_46 : kt_sG i_M_thinksBoth 46 5 8 2 49 := ⟨25, RX5, TX5, 18, ⟨by decide +kernel, rfl⟩, rfl, by decide, rfl, by decide, Or.inl (tw_543)⟩
theorem x_M_thinksBoth_49 : kt_dc i_M_thinksBoth 49 (.iload 4) 2 51 := ⟨by decide +kernel, rfl⟩
theorem x_M_thinksBoth_51 : kt_dc i_M_thinksBoth 51 (.iaload) 1 52 := ⟨by decide +kernel, rfl⟩
theorem x_M_thinksBoth_52 : kt_dc i_M_thinksBoth 52 (.iastore) 1 53 := ⟨by decide +kernel, rfl⟩
theorem x_M_thinksBoth_53 : kt_dc i_M_thinksBoth 53 (.iinc 4 1) 3 56 ∧ Int32.ofInt (1) = nI 1 := ⟨⟨by decide +kernel, rfl⟩, by decide⟩
theorem x_M_thinksBoth_56 : kt_dj i_M_thinksBoth 56 .goto 23 59 := ⟨-33, by decide +kernel, by decide, rfl⟩
theorem x_M_thinksBoth_59 : kt_dc i_M_thinksBoth 59 (.iinc 3 1) 3 62 ∧ Int32.ofInt (1) = nI 1 := ⟨⟨by decide +kernel, rfl⟩, by decide⟩
theorem x_M_thinksBoth_62 : kt_dj i_M_thinksBoth 62 .goto 2 65 := ⟨-60, by decide +kernel, by decide, rfl⟩
theorem x_M_thinksBoth_65 : kt_dc i_M_thinksBoth 65 (.return_) 1 66 ∧ kt_rt i_M_thinksBoth = none := ⟨⟨by decide +kernel, rfl⟩, rfl⟩
theorem x_M_others_0 : kt_dc i_M_others 0 (.iconst 0) 1 1 ∧ Int32.ofInt (0) = nI 0 := ⟨⟨by decide +kernel, rfl⟩, by decide⟩
theorem x_M_others_1 : kt_dc i_M_others 1 (.istore_n 3) 1 2 := ⟨by decide +kernel, rfl⟩
theorem x_M_others_2 : kt_dc i_M_others 2 (.iconst 0) 1 3 ∧ Int32.ofInt (0) = nI 0 := ⟨⟨by decide +kernel, rfl⟩, by decide⟩
theorem x_M_others_3 : kt_dc i_M_others 3 (.istore 4) 2 5 := ⟨by decide +kernel, rfl⟩
theorem x_M_others_5 : kt_dc i_M_others 5 (.iload 4) 2 7 := ⟨by decide +kernel, rfl⟩
theorem x_M_others_7 : kt_dc i_M_others 7 (.iconst 2) 1 8 ∧ Int32.ofInt (2) = nI 2 := ⟨⟨by decide +kernel, rfl⟩, by decide⟩
theorem x_M_others_8 : kt_dj i_M_others 8 (.if_icmp .ge) 131 11 := ⟨123, by decide +kernel, by decide, rfl⟩
theorem x_M_others_11 : kt_dc i_M_others 11 (.aload_n 0) 1 12 := ⟨by decide +kernel, rfl⟩
theorem x_M_others_12 : kt_dc i_M_others 12 (.iload 4) 2 14 := ⟨by decide +kernel, rfl⟩
theorem x_M_others_14 : kt_dj i_M_others 14 (.ifCond .ne) 21 17 := ⟨7, by decide +kernel, by decide, rfl⟩
theorem x_M_others_17 : kt_dc i_M_others 17 (.iload_n 1) 1 18 := ⟨by decide +kernel, rfl⟩
theorem x_M_others_18 : kt_dj i_M_others 18 .goto 22 21 := ⟨4, by decide +kernel, by decide, rfl⟩
theorem x_M_others_21 : kt_dc i_M_others 21 (.iload_n 2) 1 22 := ⟨by decide +kernel, rfl⟩
theorem x_M_others_22 : kt_sV i_M_others 22 i_M_thinksAll 5 1 25 := ⟨76, ⟨by decide +kernel, rfl⟩, Or.inl (tw_607), j_M_thinksAll, ⟨tw_609, tp_48⟩, ⟨TX5, 18, rfl⟩, by decide, rfl⟩
theorem c_M_others_22 {P : kt_P} {NM : Nat} {L : List (Option Value)} {rest : List Value} {N : Nat} {I : kt_I} {J : kt_J} {R : kt_R} {Q : Option Value → kt_I → kt_J → kt_R → Prop} {b : Nat} {x0 : Int32} (hkd : kt_kd P N b = (5, 0)) (hrest : (rest.map fun v => v.category).sum ≤ 8) (kk : KW P i_M_thinksAll N 0 [some (.ref b), some (.int x0), none] [] N I J R (fun v I' J' R' => KW P i_M_others NM 25 L (kt_pu v rest) N I' J' R' Q)) : KW P i_M_others NM 22 L (.int x0 :: .ref b :: rest) N I J R Q := kw_callV x_M_others_22 (As := [.int x0]) rfl rfl (Nat.le_of_ble_eq_true rfl) hrest hkd (Nat.le_refl N) (fun h => h) kk
theorem x_M_others_25 : kt_dc i_M_others 25 (.iconst 0) 1 26 ∧ Int32.ofInt (0) = nI 0 := ⟨⟨by decide +kernel, rfl⟩, by decide⟩
theorem x_M_others_26 : kt_dc i_M_others 26 (.istore 5) 2 28 := ⟨by decide +kernel, rfl⟩
theorem x_M_others_28 : kt_dc i_M_others 28 (.iload 5) 2 30 := ⟨by decide +kernel, rfl⟩
theorem x_M_others_30 : kt_dc i_M_others 30 (.aload_n 0) 1 31 := ⟨by decide +kernel, rfl⟩
theorem x_M_others_31 : kt_sG i_M_others 31 5 0 2 34 := ⟨7, RX5, TX5, 18, ⟨by decide +kernel, rfl⟩, rfl, by decide, rfl, by decide, Or.inl (tw_535)⟩
theorem x_M_others_34 : kt_dc i_M_others 34 (.iconst 2) 1 35 ∧ Int32.ofInt (2) = nI 2 := ⟨⟨by decide +kernel, rfl⟩, by decide⟩
theorem x_M_others_35 : kt_dc i_M_others 35 (.iaload) 1 36 := ⟨by decide +kernel, rfl⟩
theorem x_M_others_36 : kt_dj i_M_others 36 (.if_icmp .ge) 125 39 := ⟨89, by decide +kernel, by decide, rfl⟩
theorem x_M_others_39 : kt_dc i_M_others 39 (.aload_n 0) 1 40 := ⟨by decide +kernel, rfl⟩
theorem x_M_others_40 : kt_sG i_M_others 40 5 13 2 43 := ⟨38, RX5, TX5, 18, ⟨by decide +kernel, rfl⟩, rfl, by decide, rfl, by decide, Or.inl (tw_548)⟩
theorem x_M_others_43 : kt_dc i_M_others 43 (.bipush 60) 2 45 ∧ (Int8.ofInt (60)).toInt32 = nI 60 := ⟨⟨by decide +kernel, rfl⟩, by decide⟩
theorem x_M_others_45 : kt_dc i_M_others 45 (.iload 4) 2 47 := ⟨by decide +kernel, rfl⟩
theorem x_M_others_47 : kt_dc i_M_others 47 (.imul) 1 48 := ⟨by decide +kernel, rfl⟩
theorem x_M_others_48 : kt_dc i_M_others 48 (.iload 5) 2 50 := ⟨by decide +kernel, rfl⟩
theorem x_M_others_50 : kt_dc i_M_others 50 (.iadd) 1 51 := ⟨by decide +kernel, rfl⟩
theorem x_M_others_51 : kt_dc i_M_others 51 (.iaload) 1 52 := ⟨by decide +kernel, rfl⟩
theorem x_M_others_52 : kt_dc i_M_others 52 (.istore 6) 2 54 := ⟨by decide +kernel, rfl⟩
theorem x_M_others_54 : kt_dc i_M_others 54 (.aload_n 0) 1 55 := ⟨by decide +kernel, rfl⟩
theorem x_M_others_55 : kt_sG i_M_others 55 5 8 2 58 := ⟨25, RX5, TX5, 18, ⟨by decide +kernel, rfl⟩, rfl, by decide, rfl, by decide, Or.inl (tw_543)⟩
theorem x_M_others_58 : kt_dc i_M_others 58 (.iload 5) 2 60 := ⟨by decide +kernel, rfl⟩
theorem x_M_others_60 : kt_dc i_M_others 60 (.iaload) 1 61 := ⟨by decide +kernel, rfl⟩
theorem x_M_others_61 : kt_dc i_M_others 61 (.iload 6) 2 63 := ⟨by decide +kernel, rfl⟩
theorem x_M_others_63 : kt_dj i_M_others 63 (.if_icmp .eq) 95 66 := ⟨32, by decide +kernel, by decide, rfl⟩
theorem x_M_others_66 : kt_dc i_M_others 66 (.aload_n 0) 1 67 := ⟨by decide +kernel, rfl⟩
theorem x_M_others_67 : kt_sG i_M_others 67 5 8 2 70 := ⟨25, RX5, TX5, 18, ⟨by decide +kernel, rfl⟩, rfl, by decide, rfl, by decide, Or.inl (tw_543)⟩
theorem x_M_others_70 : kt_dc i_M_others 70 (.iload 5) 2 72 := ⟨by decide +kernel, rfl⟩
theorem x_M_others_72 : kt_dc i_M_others 72 (.iaload) 1 73 := ⟨by decide +kernel, rfl⟩
theorem x_M_others_73 : kt_dc i_M_others 73 (.iconst 0) 1 74 ∧ Int32.ofInt (0) = nI 0 := ⟨⟨by decide +kernel, rfl⟩, by decide⟩
theorem x_M_others_74 : kt_dc i_M_others 74 (.iconst 1) 1 75 ∧ Int32.ofInt (1) = nI 1 := ⟨⟨by decide +kernel, rfl⟩, by decide⟩
theorem x_M_others_75 : kt_sS i_M_others 75 i_M_in 3 78 := ⟨107, ⟨by decide +kernel, rfl⟩, Or.inl (tw_651), j_M_in, tw_652, rfl⟩
theorem c_M_others_75 {P : kt_P} {NM : Nat} {L : List (Option Value)} {rest : List Value} {N : Nat} {I : kt_I} {J : kt_J} {R : kt_R} {Q : Option Value → kt_I → kt_J → kt_R → Prop} {x0 : Int32} {x1 : Int32} {x2 : Int32} (hrest : (rest.map fun v => v.category).sum ≤ 8) (kk : KW P i_M_in N 0 [some (.int x0), some (.int x1), some (.int x2)] [] N I J R (fun v I' J' R' => KW P i_M_others NM 78 L (kt_pu v rest) N I' J' R' Q)) : KW P i_M_others NM 75 L (.int x2 :: .int x1 :: .int x0 :: rest) N I J R Q := kw_callS x_M_others_75 (As := [.int x0, .int x1, .int x2]) rfl rfl (Nat.le_of_ble_eq_true rfl) hrest (Nat.le_refl N) (fun h => h) kk
theorem x_M_others_78 : kt_dj i_M_others 78 (.ifCond .ne) 91 81 := ⟨13, by decide +kernel, by decide, rfl⟩
theorem x_M_others_81 : kt_dc i_M_others 81 (.iload 6) 2 83 := ⟨by decide +kernel, rfl⟩
theorem x_M_others_83 : kt_dc i_M_others 83 (.iconst 0) 1 84 ∧ Int32.ofInt (0) = nI 0 := ⟨⟨by decide +kernel, rfl⟩, by decide⟩
theorem x_M_others_84 : kt_dc i_M_others 84 (.iconst 1) 1 85 ∧ Int32.ofInt (1) = nI 1 := ⟨⟨by decide +kernel, rfl⟩, by decide⟩
theorem x_M_others_85 : kt_sS i_M_others 85 i_M_in 3 88 := ⟨107, ⟨by decide +kernel, rfl⟩, Or.inl (tw_651), j_M_in, tw_652, rfl⟩
theorem c_M_others_85 {P : kt_P} {NM : Nat} {L : List (Option Value)} {rest : List Value} {N : Nat} {I : kt_I} {J : kt_J} {R : kt_R} {Q : Option Value → kt_I → kt_J → kt_R → Prop} {x0 : Int32} {x1 : Int32} {x2 : Int32} (hrest : (rest.map fun v => v.category).sum ≤ 8) (kk : KW P i_M_in N 0 [some (.int x0), some (.int x1), some (.int x2)] [] N I J R (fun v I' J' R' => KW P i_M_others NM 88 L (kt_pu v rest) N I' J' R' Q)) : KW P i_M_others NM 85 L (.int x2 :: .int x1 :: .int x0 :: rest) N I J R Q := kw_callS x_M_others_85 (As := [.int x0, .int x1, .int x2]) rfl rfl (Nat.le_of_ble_eq_true rfl) hrest (Nat.le_refl N) (fun h => h) kk
theorem x_M_others_88 : kt_dj i_M_others 88 (.ifCond .eq) 95 91 := ⟨7, by decide +kernel, by decide, rfl⟩
theorem x_M_others_91 : kt_dc i_M_others 91 (.iconst 1) 1 92 ∧ Int32.ofInt (1) = nI 1 := ⟨⟨by decide +kernel, rfl⟩, by decide⟩
theorem x_M_others_92 : kt_dj i_M_others 92 .goto 96 95 := ⟨4, by decide +kernel, by decide, rfl⟩
theorem x_M_others_95 : kt_dc i_M_others 95 (.iconst 0) 1 96 ∧ Int32.ofInt (0) = nI 0 := ⟨⟨by decide +kernel, rfl⟩, by decide⟩
theorem x_M_others_96 : kt_dc i_M_others 96 (.istore 7) 2 98 := ⟨by decide +kernel, rfl⟩
theorem x_M_others_98 : kt_dc i_M_others 98 (.iload_n 3) 1 99 := ⟨by decide +kernel, rfl⟩
theorem x_M_others_99 : kt_dc i_M_others 99 (.iload 7) 2 101 := ⟨by decide +kernel, rfl⟩
theorem x_M_others_101 : kt_dj i_M_others 101 (.ifCond .eq) 116 104 := ⟨15, by decide +kernel, by decide, rfl⟩
theorem x_M_others_104 : kt_dc i_M_others 104 (.iconst 1) 1 105 ∧ Int32.ofInt (1) = nI 1 := ⟨⟨by decide +kernel, rfl⟩, by decide⟩
theorem x_M_others_105 : kt_dc i_M_others 105 (.aload_n 0) 1 106 := ⟨by decide +kernel, rfl⟩
theorem x_M_others_106 : kt_dc i_M_others 106 (.iload 5) 2 108 := ⟨by decide +kernel, rfl⟩
theorem x_M_others_108 : kt_dc i_M_others 108 (.iconst 3) 1 109 ∧ Int32.ofInt (3) = nI 3 := ⟨⟨by decide +kernel, rfl⟩, by decide⟩
theorem x_M_others_109 : kt_sV i_M_others 109 i_M_of 5 2 112 := ⟨44, ⟨by decide +kernel, rfl⟩, Or.inl (tw_615), j_M_of, ⟨tw_617, tp_50⟩, ⟨TX5, 18, rfl⟩, by decide, rfl⟩
theorem c_M_others_109 {P : kt_P} {NM : Nat} {L : List (Option Value)} {rest : List Value} {N : Nat} {I : kt_I} {J : kt_J} {R : kt_R} {Q : Option Value → kt_I → kt_J → kt_R → Prop} {b : Nat} {x0 : Int32} {x1 : Int32} (hkd : kt_kd P N b = (5, 0)) (hrest : (rest.map fun v => v.category).sum ≤ 8) (kk : KW P i_M_of N 0 [some (.ref b), some (.int x0), some (.int x1)] [] N I J R (fun v I' J' R' => KW P i_M_others NM 112 L (kt_pu v rest) N I' J' R' Q)) : KW P i_M_others NM 109 L (.int x1 :: .int x0 :: .ref b :: rest) N I J R Q := kw_callV x_M_others_109 (As := [.int x0, .int x1]) rfl rfl (Nat.le_of_ble_eq_true rfl) hrest hkd (Nat.le_refl N) (fun h => h) kk
theorem x_M_others_112 : kt_dc i_M_others 112 (.ishl) 1 113 := ⟨by decide +kernel, rfl⟩
theorem x_M_others_113 : kt_dj i_M_others 113 .goto 117 116 := ⟨4, by decide +kernel, by decide, rfl⟩
theorem x_M_others_116 : kt_dc i_M_others 116 (.iconst 0) 1 117 ∧ Int32.ofInt (0) = nI 0 := ⟨⟨by decide +kernel, rfl⟩, by decide⟩
theorem x_M_others_117 : kt_dc i_M_others 117 (.ior) 1 118 := ⟨by decide +kernel, rfl⟩
theorem x_M_others_118 : kt_dc i_M_others 118 (.istore_n 3) 1 119 := ⟨by decide +kernel, rfl⟩
theorem x_M_others_119 : kt_dc i_M_others 119 (.iinc 5 1) 3 122 ∧ Int32.ofInt (1) = nI 1 := ⟨⟨by decide +kernel, rfl⟩, by decide⟩
theorem x_M_others_122 : kt_dj i_M_others 122 .goto 28 125 := ⟨-94, by decide +kernel, by decide, rfl⟩
theorem x_M_others_125 : kt_dc i_M_others 125 (.iinc 4 1) 3 128 ∧ Int32.ofInt (1) = nI 1 := ⟨⟨by decide +kernel, rfl⟩, by decide⟩
theorem x_M_others_128 : kt_dj i_M_others 128 .goto 5 131 := ⟨-123, by decide +kernel, by decide, rfl⟩
theorem x_M_others_131 : kt_dc i_M_others 131 (.iload_n 3) 1 132 := ⟨by decide +kernel, rfl⟩
theorem x_M_others_132 : kt_dc i_M_others 132 (.ireturn) 1 133 ∧ kt_rt i_M_others = (some .int) := ⟨⟨by decide +kernel, rfl⟩, rfl⟩
theorem x_M_wouldRule_0 : kt_dc i_M_wouldRule 0 (.iload_n 1) 1 1 := ⟨by decide +kernel, rfl⟩
theorem x_M_wouldRule_1 : kt_dc i_M_wouldRule 1 (.iconst 0) 1 2 ∧ Int32.ofInt (0) = nI 0 := ⟨⟨by decide +kernel, rfl⟩, by decide⟩
theorem x_M_wouldRule_2 : kt_dc i_M_wouldRule 2 (.iconst 2) 1 3 ∧ Int32.ofInt (2) = nI 2 := ⟨⟨by decide +kernel, rfl⟩, by decide⟩
theorem x_M_wouldRule_3 : kt_sS i_M_wouldRule 3 i_M_in 3 6 := ⟨107, ⟨by decide +kernel, rfl⟩, Or.inl (tw_651), j_M_in, tw_652, rfl⟩
theorem c_M_wouldRule_3 {P : kt_P} {NM : Nat} {L : List (Option Value)} {rest : List Value} {N : Nat} {I : kt_I} {J : kt_J} {R : kt_R} {Q : Option Value → kt_I → kt_J → kt_R → Prop} {x0 : Int32} {x1 : Int32} {x2 : Int32} (hrest : (rest.map fun v => v.category).sum ≤ 8) (kk : KW P i_M_in N 0 [some (.int x0), some (.int x1), some (.int x2)] [] N I J R (fun v I' J' R' => KW P i_M_wouldRule NM 6 L (kt_pu v rest) N I' J' R' Q)) : KW P i_M_wouldRule NM 3 L (.int x2 :: .int x1 :: .int x0 :: rest) N I J R Q := kw_callS x_M_wouldRule_3 (As := [.int x0, .int x1, .int x2]) rfl rfl (Nat.le_of_ble_eq_true rfl) hrest (Nat.le_refl N) (fun h => h) kk
theorem x_M_wouldRule_6 : kt_dj i_M_wouldRule 6 (.ifCond .ne) 11 9 := ⟨5, by decide +kernel, by decide, rfl⟩
theorem x_M_wouldRule_9 : kt_dc i_M_wouldRule 9 (.iconst (-1)) 1 10 ∧ Int32.ofInt (-1) = (-1 : Int32) := ⟨⟨by decide +kernel, rfl⟩, by decide⟩
theorem x_M_wouldRule_10 : kt_dc i_M_wouldRule 10 (.ireturn) 1 11 ∧ kt_rt i_M_wouldRule = (some .int) := ⟨⟨by decide +kernel, rfl⟩, rfl⟩
theorem x_M_wouldRule_11 : kt_dc i_M_wouldRule 11 (.aload_n 0) 1 12 := ⟨by decide +kernel, rfl⟩
theorem x_M_wouldRule_12 : kt_sG i_M_wouldRule 12 5 0 2 15 := ⟨7, RX5, TX5, 18, ⟨by decide +kernel, rfl⟩, rfl, by decide, rfl, by decide, Or.inl (tw_535)⟩
theorem x_M_wouldRule_15 : kt_dc i_M_wouldRule 15 (.aload_n 0) 1 16 := ⟨by decide +kernel, rfl⟩
theorem x_M_wouldRule_16 : kt_sG i_M_wouldRule 16 5 3 2 19 := ⟨19, RX5, TX5, 18, ⟨by decide +kernel, rfl⟩, rfl, by decide, rfl, by decide, Or.inl (tw_538)⟩
theorem x_M_wouldRule_19 : kt_sS i_M_wouldRule 19 i_M_copies 2 22 := ⟨156, ⟨by decide +kernel, rfl⟩, Or.inl (tw_769), j_M_copies, tw_770, rfl⟩
theorem c_M_wouldRule_19 {P : kt_P} {NM : Nat} {L : List (Option Value)} {rest : List Value} {N : Nat} {I : kt_I} {J : kt_J} {R : kt_R} {Q : Option Value → kt_I → kt_J → kt_R → Prop} {x0 : Nat} {x1 : Nat} (hrest : (rest.map fun v => v.category).sum ≤ 8) (kk : KW P i_M_copies N 0 [some (.ref x0), some (.ref x1), none] [] N I J R (fun v I' J' R' => KW P i_M_wouldRule NM 22 L (kt_pu v rest) N I' J' R' Q)) : KW P i_M_wouldRule NM 19 L (.ref x1 :: .ref x0 :: rest) N I J R Q := kw_callS x_M_wouldRule_19 (As := [.ref x0, .ref x1]) rfl rfl (Nat.le_of_ble_eq_true rfl) hrest (Nat.le_refl N) (fun h => h) kk
theorem x_M_wouldRule_22 : kt_dc i_M_wouldRule 22 (.aload_n 0) 1 23 := ⟨by decide +kernel, rfl⟩
theorem x_M_wouldRule_23 : kt_sV i_M_wouldRule 23 i_M_remembers 5 0 26 := ⟨93, ⟨by decide +kernel, rfl⟩, Or.inl (tw_603), j_M_remembers, ⟨tw_605, tp_47⟩, ⟨TX5, 18, rfl⟩, by decide, rfl⟩
theorem c_M_wouldRule_23 {P : kt_P} {NM : Nat} {L : List (Option Value)} {rest : List Value} {N : Nat} {I : kt_I} {J : kt_J} {R : kt_R} {Q : Option Value → kt_I → kt_J → kt_R → Prop} {b : Nat} (hkd : kt_kd P N b = (5, 0)) (hrest : (rest.map fun v => v.category).sum ≤ 8) (kk : KW P i_M_remembers N 0 [some (.ref b), none, none] [] N I J R (fun v I' J' R' => KW P i_M_wouldRule NM 26 L (kt_pu v rest) N I' J' R' Q)) : KW P i_M_wouldRule NM 23 L (.ref b :: rest) N I J R Q := kw_callV x_M_wouldRule_23 (As := []) rfl rfl (Nat.le_of_ble_eq_true rfl) hrest hkd (Nat.le_refl N) (fun h => h) kk
theorem x_M_wouldRule_26 : kt_dc i_M_wouldRule 26 (.aload_n 0) 1 27 := ⟨by decide +kernel, rfl⟩
theorem x_M_wouldRule_27 : kt_sG i_M_wouldRule 27 5 0 2 30 := ⟨7, RX5, TX5, 18, ⟨by decide +kernel, rfl⟩, rfl, by decide, rfl, by decide, Or.inl (tw_535)⟩
theorem x_M_wouldRule_30 : kt_dc i_M_wouldRule 30 (.iconst 0) 1 31 ∧ Int32.ofInt (0) = nI 0 := ⟨⟨by decide +kernel, rfl⟩, by decide⟩
theorem x_M_wouldRule_31 : kt_dc i_M_wouldRule 31 (.iload_n 1) 1 32 := ⟨by decide +kernel, rfl⟩
theorem x_M_wouldRule_32 : kt_dc i_M_wouldRule 32 (.iastore) 1 33 := ⟨by decide +kernel, rfl⟩
theorem x_M_wouldRule_33 : kt_dc i_M_wouldRule 33 (.aload_n 0) 1 34 := ⟨by decide +kernel, rfl⟩
theorem x_M_wouldRule_34 : kt_dc i_M_wouldRule 34 (.aload_n 0) 1 35 := ⟨by decide +kernel, rfl⟩
theorem x_M_wouldRule_35 : kt_sG i_M_wouldRule 35 5 0 2 38 := ⟨7, RX5, TX5, 18, ⟨by decide +kernel, rfl⟩, rfl, by decide, rfl, by decide, Or.inl (tw_535)⟩
theorem x_M_wouldRule_38 : kt_dc i_M_wouldRule 38 (.iconst 1) 1 39 ∧ Int32.ofInt (1) = nI 1 := ⟨⟨by decide +kernel, rfl⟩, by decide⟩
theorem x_M_wouldRule_39 : kt_dc i_M_wouldRule 39 (.iaload) 1 40 := ⟨by decide +kernel, rfl⟩
theorem x_M_wouldRule_40 : kt_sV i_M_wouldRule 40 i_M_apologizes 5 1 43 := ⟨99, ⟨by decide +kernel, rfl⟩, Or.inl (tw_662), j_M_apologizes, ⟨tw_664, tp_60⟩, ⟨TX5, 18, rfl⟩, by decide, rfl⟩
theorem c_M_wouldRule_40 {P : kt_P} {NM : Nat} {L : List (Option Value)} {rest : List Value} {N : Nat} {I : kt_I} {J : kt_J} {R : kt_R} {Q : Option Value → kt_I → kt_J → kt_R → Prop} {b : Nat} {x0 : Int32} (hkd : kt_kd P N b = (5, 0)) (hrest : (rest.map fun v => v.category).sum ≤ 8) (kk : KW P i_M_apologizes N 0 [some (.ref b), some (.int x0), none, none, none] [] N I J R (fun v I' J' R' => KW P i_M_wouldRule NM 43 L (kt_pu v rest) N I' J' R' Q)) : KW P i_M_wouldRule NM 40 L (.int x0 :: .ref b :: rest) N I J R Q := kw_callV x_M_wouldRule_40 (As := [.int x0]) rfl rfl (Nat.le_of_ble_eq_true rfl) hrest hkd (Nat.le_refl N) (fun h => h) kk
theorem x_M_wouldRule_43 : kt_dc i_M_wouldRule 43 (.istore_n 2) 1 44 := ⟨by decide +kernel, rfl⟩
theorem x_M_wouldRule_44 : kt_dc i_M_wouldRule 44 (.aload_n 0) 1 45 := ⟨by decide +kernel, rfl⟩
theorem x_M_wouldRule_45 : kt_sG i_M_wouldRule 45 5 3 2 48 := ⟨19, RX5, TX5, 18, ⟨by decide +kernel, rfl⟩, rfl, by decide, rfl, by decide, Or.inl (tw_538)⟩
theorem x_M_wouldRule_48 : kt_dc i_M_wouldRule 48 (.aload_n 0) 1 49 := ⟨by decide +kernel, rfl⟩
theorem x_M_wouldRule_49 : kt_sG i_M_wouldRule 49 5 0 2 52 := ⟨7, RX5, TX5, 18, ⟨by decide +kernel, rfl⟩, rfl, by decide, rfl, by decide, Or.inl (tw_535)⟩
theorem x_M_wouldRule_52 : kt_sS i_M_wouldRule 52 i_M_copies 2 55 := ⟨156, ⟨by decide +kernel, rfl⟩, Or.inl (tw_769), j_M_copies, tw_770, rfl⟩
theorem c_M_wouldRule_52 {P : kt_P} {NM : Nat} {L : List (Option Value)} {rest : List Value} {N : Nat} {I : kt_I} {J : kt_J} {R : kt_R} {Q : Option Value → kt_I → kt_J → kt_R → Prop} {x0 : Nat} {x1 : Nat} (hrest : (rest.map fun v => v.category).sum ≤ 8) (kk : KW P i_M_copies N 0 [some (.ref x0), some (.ref x1), none] [] N I J R (fun v I' J' R' => KW P i_M_wouldRule NM 55 L (kt_pu v rest) N I' J' R' Q)) : KW P i_M_wouldRule NM 52 L (.ref x1 :: .ref x0 :: rest) N I J R Q := kw_callS x_M_wouldRule_52 (As := [.ref x0, .ref x1]) rfl rfl (Nat.le_of_ble_eq_true rfl) hrest (Nat.le_refl N) (fun h => h) kk
theorem x_M_wouldRule_55 : kt_dc i_M_wouldRule 55 (.iload_n 2) 1 56 := ⟨by decide +kernel, rfl⟩
theorem x_M_wouldRule_56 : kt_dc i_M_wouldRule 56 (.ireturn) 1 57 ∧ kt_rt i_M_wouldRule = (some .int) := ⟨⟨by decide +kernel, rfl⟩, rfl⟩
theorem x_M_kindest_0 : kt_dc i_M_kindest 0 (.iload_n 1) 1 1 := ⟨by decide +kernel, rfl⟩
theorem x_M_kindest_1 : kt_dc i_M_kindest 1 (.iconst 0) 1 2 ∧ Int32.ofInt (0) = nI 0 := ⟨⟨by decide +kernel, rfl⟩, by decide⟩
theorem x_M_kindest_2 : kt_dc i_M_kindest 2 (.iconst 1) 1 3 ∧ Int32.ofInt (1) = nI 1 := ⟨⟨by decide +kernel, rfl⟩, by decide⟩
theorem x_M_kindest_3 : kt_sS i_M_kindest 3 i_M_in 3 6 := ⟨107, ⟨by decide +kernel, rfl⟩, Or.inl (tw_651), j_M_in, tw_652, rfl⟩
theorem c_M_kindest_3 {P : kt_P} {NM : Nat} {L : List (Option Value)} {rest : List Value} {N : Nat} {I : kt_I} {J : kt_J} {R : kt_R} {Q : Option Value → kt_I → kt_J → kt_R → Prop} {x0 : Int32} {x1 : Int32} {x2 : Int32} (hrest : (rest.map fun v => v.category).sum ≤ 8) (kk : KW P i_M_in N 0 [some (.int x0), some (.int x1), some (.int x2)] [] N I J R (fun v I' J' R' => KW P i_M_kindest NM 6 L (kt_pu v rest) N I' J' R' Q)) : KW P i_M_kindest NM 3 L (.int x2 :: .int x1 :: .int x0 :: rest) N I J R Q := kw_callS x_M_kindest_3 (As := [.int x0, .int x1, .int x2]) rfl rfl (Nat.le_of_ble_eq_true rfl) hrest (Nat.le_refl N) (fun h => h) kk
theorem x_M_kindest_6 : kt_dj i_M_kindest 6 (.ifCond .ne) 11 9 := ⟨5, by decide +kernel, by decide, rfl⟩
theorem x_M_kindest_9 : kt_dc i_M_kindest 9 (.iconst (-1)) 1 10 ∧ Int32.ofInt (-1) = (-1 : Int32) := ⟨⟨by decide +kernel, rfl⟩, by decide⟩
theorem x_M_kindest_10 : kt_dc i_M_kindest 10 (.ireturn) 1 11 ∧ kt_rt i_M_kindest = (some .int) := ⟨⟨by decide +kernel, rfl⟩, rfl⟩
theorem x_M_kindest_11 : kt_dc i_M_kindest 11 (.aload_n 0) 1 12 := ⟨by decide +kernel, rfl⟩
theorem x_M_kindest_12 : kt_sG i_M_kindest 12 5 0 2 15 := ⟨7, RX5, TX5, 18, ⟨by decide +kernel, rfl⟩, rfl, by decide, rfl, by decide, Or.inl (tw_535)⟩
theorem x_M_kindest_15 : kt_dc i_M_kindest 15 (.iconst 0) 1 16 ∧ Int32.ofInt (0) = nI 0 := ⟨⟨by decide +kernel, rfl⟩, by decide⟩
theorem x_M_kindest_16 : kt_dc i_M_kindest 16 (.iaload) 1 17 := ⟨by decide +kernel, rfl⟩
theorem x_M_kindest_17 : kt_dc i_M_kindest 17 (.istore_n 2) 1 18 := ⟨by decide +kernel, rfl⟩
theorem x_M_kindest_18 : kt_dc i_M_kindest 18 (.iconst 0) 1 19 ∧ Int32.ofInt (0) = nI 0 := ⟨⟨by decide +kernel, rfl⟩, by decide⟩
theorem x_M_kindest_19 : kt_dc i_M_kindest 19 (.istore_n 3) 1 20 := ⟨by decide +kernel, rfl⟩
theorem x_M_kindest_20 : kt_dc i_M_kindest 20 (.iconst (-1)) 1 21 ∧ Int32.ofInt (-1) = (-1 : Int32) := ⟨⟨by decide +kernel, rfl⟩, by decide⟩
theorem x_M_kindest_21 : kt_dc i_M_kindest 21 (.istore 4) 2 23 := ⟨by decide +kernel, rfl⟩
theorem x_M_kindest_23 : kt_dc i_M_kindest 23 (.iconst 0) 1 24 ∧ Int32.ofInt (0) = nI 0 := ⟨⟨by decide +kernel, rfl⟩, by decide⟩
theorem x_M_kindest_24 : kt_dc i_M_kindest 24 (.istore 5) 2 26 := ⟨by decide +kernel, rfl⟩
theorem x_M_kindest_26 : kt_dc i_M_kindest 26 (.iload 5) 2 28 := ⟨by decide +kernel, rfl⟩
theorem x_M_kindest_28 : kt_dc i_M_kindest 28 (.iconst 3) 1 29 ∧ Int32.ofInt (3) = nI 3 := ⟨⟨by decide +kernel, rfl⟩, by decide⟩
theorem x_M_kindest_29 : kt_dj i_M_kindest 29 (.if_icmp .ge) 82 32 := ⟨53, by decide +kernel, by decide, rfl⟩
theorem x_M_kindest_32 : kt_dc i_M_kindest 32 (.aload_n 0) 1 33 := ⟨by decide +kernel, rfl⟩
theorem x_M_kindest_33 : kt_sG i_M_kindest 33 5 0 2 36 := ⟨7, RX5, TX5, 18, ⟨by decide +kernel, rfl⟩, rfl, by decide, rfl, by decide, Or.inl (tw_535)⟩
theorem x_M_kindest_36 : kt_dc i_M_kindest 36 (.iconst 0) 1 37 ∧ Int32.ofInt (0) = nI 0 := ⟨⟨by decide +kernel, rfl⟩, by decide⟩
theorem x_M_kindest_37 : kt_dc i_M_kindest 37 (.iload 5) 2 39 := ⟨by decide +kernel, rfl⟩
theorem x_M_kindest_39 : kt_dc i_M_kindest 39 (.iastore) 1 40 := ⟨by decide +kernel, rfl⟩
theorem x_M_kindest_40 : kt_dc i_M_kindest 40 (.aload_n 0) 1 41 := ⟨by decide +kernel, rfl⟩
theorem x_M_kindest_41 : kt_sV i_M_kindest 41 i_M_happy 5 0 44 := ⟨166, ⟨by decide +kernel, rfl⟩, Or.inl (tw_788), j_M_happy, ⟨tw_790, tp_74⟩, ⟨TX5, 18, rfl⟩, by decide, rfl⟩
theorem c_M_kindest_41 {P : kt_P} {NM : Nat} {L : List (Option Value)} {rest : List Value} {N : Nat} {I : kt_I} {J : kt_J} {R : kt_R} {Q : Option Value → kt_I → kt_J → kt_R → Prop} {b : Nat} (hkd : kt_kd P N b = (5, 0)) (hrest : (rest.map fun v => v.category).sum ≤ 8) (kk : KW P i_M_happy N 0 [some (.ref b), none, none, none] [] N I J R (fun v I' J' R' => KW P i_M_kindest NM 44 L (kt_pu v rest) N I' J' R' Q)) : KW P i_M_kindest NM 41 L (.ref b :: rest) N I J R Q := kw_callV x_M_kindest_41 (As := []) rfl rfl (Nat.le_of_ble_eq_true rfl) hrest hkd (Nat.le_refl N) (fun h => h) kk
theorem x_M_kindest_44 : kt_dc i_M_kindest 44 (.istore 6) 2 46 := ⟨by decide +kernel, rfl⟩
theorem x_M_kindest_46 : kt_dc i_M_kindest 46 (.iload 6) 2 48 := ⟨by decide +kernel, rfl⟩
theorem x_M_kindest_48 : kt_dc i_M_kindest 48 (.iload 4) 2 50 := ⟨by decide +kernel, rfl⟩
theorem x_M_kindest_50 : kt_dj i_M_kindest 50 (.if_icmp .le) 58 53 := ⟨8, by decide +kernel, by decide, rfl⟩
theorem x_M_kindest_53 : kt_dc i_M_kindest 53 (.iload 5) 2 55 := ⟨by decide +kernel, rfl⟩
theorem x_M_kindest_55 : kt_dj i_M_kindest 55 .goto 59 58 := ⟨4, by decide +kernel, by decide, rfl⟩
theorem x_M_kindest_58 : kt_dc i_M_kindest 58 (.iload_n 3) 1 59 := ⟨by decide +kernel, rfl⟩
theorem x_M_kindest_59 : kt_dc i_M_kindest 59 (.istore_n 3) 1 60 := ⟨by decide +kernel, rfl⟩
theorem x_M_kindest_60 : kt_dc i_M_kindest 60 (.iload 6) 2 62 := ⟨by decide +kernel, rfl⟩
theorem x_M_kindest_62 : kt_dc i_M_kindest 62 (.iload 4) 2 64 := ⟨by decide +kernel, rfl⟩
theorem x_M_kindest_64 : kt_dj i_M_kindest 64 (.if_icmp .le) 72 67 := ⟨8, by decide +kernel, by decide, rfl⟩
theorem x_M_kindest_67 : kt_dc i_M_kindest 67 (.iload 6) 2 69 := ⟨by decide +kernel, rfl⟩
theorem x_M_kindest_69 : kt_dj i_M_kindest 69 .goto 74 72 := ⟨5, by decide +kernel, by decide, rfl⟩
theorem x_M_kindest_72 : kt_dc i_M_kindest 72 (.iload 4) 2 74 := ⟨by decide +kernel, rfl⟩
theorem x_M_kindest_74 : kt_dc i_M_kindest 74 (.istore 4) 2 76 := ⟨by decide +kernel, rfl⟩
theorem x_M_kindest_76 : kt_dc i_M_kindest 76 (.iinc 5 1) 3 79 ∧ Int32.ofInt (1) = nI 1 := ⟨⟨by decide +kernel, rfl⟩, by decide⟩
theorem x_M_kindest_79 : kt_dj i_M_kindest 79 .goto 26 82 := ⟨-53, by decide +kernel, by decide, rfl⟩
theorem x_M_kindest_82 : kt_dc i_M_kindest 82 (.aload_n 0) 1 83 := ⟨by decide +kernel, rfl⟩
theorem x_M_kindest_83 : kt_sG i_M_kindest 83 5 0 2 86 := ⟨7, RX5, TX5, 18, ⟨by decide +kernel, rfl⟩, rfl, by decide, rfl, by decide, Or.inl (tw_535)⟩
theorem x_M_kindest_86 : kt_dc i_M_kindest 86 (.iconst 0) 1 87 ∧ Int32.ofInt (0) = nI 0 := ⟨⟨by decide +kernel, rfl⟩, by decide⟩
theorem x_M_kindest_87 : kt_dc i_M_kindest 87 (.iload_n 2) 1 88 := ⟨by decide +kernel, rfl⟩
theorem x_M_kindest_88 : kt_dc i_M_kindest 88 (.iastore) 1 89 := ⟨by decide +kernel, rfl⟩
theorem x_M_kindest_89 : kt_dc i_M_kindest 89 (.iload_n 1) 1 90 := ⟨by decide +kernel, rfl⟩
theorem x_M_kindest_90 : kt_dj i_M_kindest 90 (.ifCond .ne) 97 93 := ⟨7, by decide +kernel, by decide, rfl⟩
theorem x_M_kindest_93 : kt_dc i_M_kindest 93 (.iload_n 3) 1 94 := ⟨by decide +kernel, rfl⟩
theorem x_M_kindest_94 : kt_dj i_M_kindest 94 .goto 99 97 := ⟨5, by decide +kernel, by decide, rfl⟩
theorem x_M_kindest_97 : kt_dc i_M_kindest 97 (.iload 4) 2 99 := ⟨by decide +kernel, rfl⟩
theorem x_M_kindest_99 : kt_dc i_M_kindest 99 (.ireturn) 1 100 ∧ kt_rt i_M_kindest = (some .int) := ⟨⟨by decide +kernel, rfl⟩, rfl⟩
theorem x_M_happy_0 : kt_dc i_M_happy 0 (.aload_n 0) 1 1 := ⟨by decide +kernel, rfl⟩
theorem x_M_happy_1 : kt_dc i_M_happy 1 (.iconst 5) 1 2 ∧ Int32.ofInt (5) = nI 5 := ⟨⟨by decide +kernel, rfl⟩, by decide⟩
theorem x_M_happy_2 : kt_sV i_M_happy 2 i_M_thinksAll 5 1 5 := ⟨76, ⟨by decide +kernel, rfl⟩, Or.inl (tw_607), j_M_thinksAll, ⟨tw_609, tp_48⟩, ⟨TX5, 18, rfl⟩, by decide, rfl⟩
theorem c_M_happy_2 {P : kt_P} {NM : Nat} {L : List (Option Value)} {rest : List Value} {N : Nat} {I : kt_I} {J : kt_J} {R : kt_R} {Q : Option Value → kt_I → kt_J → kt_R → Prop} {b : Nat} {x0 : Int32} (hkd : kt_kd P N b = (5, 0)) (hrest : (rest.map fun v => v.category).sum ≤ 8) (kk : KW P i_M_thinksAll N 0 [some (.ref b), some (.int x0), none] [] N I J R (fun v I' J' R' => KW P i_M_happy NM 5 L (kt_pu v rest) N I' J' R' Q)) : KW P i_M_happy NM 2 L (.int x0 :: .ref b :: rest) N I J R Q := kw_callV x_M_happy_2 (As := [.int x0]) rfl rfl (Nat.le_of_ble_eq_true rfl) hrest hkd (Nat.le_refl N) (fun h => h) kk
theorem x_M_happy_5 : kt_dc i_M_happy 5 (.iconst 0) 1 6 ∧ Int32.ofInt (0) = nI 0 := ⟨⟨by decide +kernel, rfl⟩, by decide⟩
theorem x_M_happy_6 : kt_dc i_M_happy 6 (.istore_n 1) 1 7 := ⟨by decide +kernel, rfl⟩
theorem x_M_happy_7 : kt_dc i_M_happy 7 (.iconst 0) 1 8 ∧ Int32.ofInt (0) = nI 0 := ⟨⟨by decide +kernel, rfl⟩, by decide⟩
theorem x_M_happy_8 : kt_dc i_M_happy 8 (.istore_n 2) 1 9 := ⟨by decide +kernel, rfl⟩
theorem x_M_happy_9 : kt_dc i_M_happy 9 (.iload_n 2) 1 10 := ⟨by decide +kernel, rfl⟩
theorem x_M_happy_10 : kt_dc i_M_happy 10 (.aload_n 0) 1 11 := ⟨by decide +kernel, rfl⟩
theorem x_M_happy_11 : kt_sG i_M_happy 11 5 0 2 14 := ⟨7, RX5, TX5, 18, ⟨by decide +kernel, rfl⟩, rfl, by decide, rfl, by decide, Or.inl (tw_535)⟩
theorem x_M_happy_14 : kt_dc i_M_happy 14 (.iconst 2) 1 15 ∧ Int32.ofInt (2) = nI 2 := ⟨⟨by decide +kernel, rfl⟩, by decide⟩
theorem x_M_happy_15 : kt_dc i_M_happy 15 (.iaload) 1 16 := ⟨by decide +kernel, rfl⟩
theorem x_M_happy_16 : kt_dj i_M_happy 16 (.if_icmp .ge) 49 19 := ⟨33, by decide +kernel, by decide, rfl⟩
theorem x_M_happy_19 : kt_dc i_M_happy 19 (.iload_n 1) 1 20 := ⟨by decide +kernel, rfl⟩
theorem x_M_happy_20 : kt_dc i_M_happy 20 (.aload_n 0) 1 21 := ⟨by decide +kernel, rfl⟩
theorem x_M_happy_21 : kt_sG i_M_happy 21 5 8 2 24 := ⟨25, RX5, TX5, 18, ⟨by decide +kernel, rfl⟩, rfl, by decide, rfl, by decide, Or.inl (tw_543)⟩
theorem x_M_happy_24 : kt_dc i_M_happy 24 (.iload_n 2) 1 25 := ⟨by decide +kernel, rfl⟩
theorem x_M_happy_25 : kt_dc i_M_happy 25 (.iaload) 1 26 := ⟨by decide +kernel, rfl⟩
theorem x_M_happy_26 : kt_dj i_M_happy 26 (.ifCond .ne) 40 29 := ⟨14, by decide +kernel, by decide, rfl⟩
theorem x_M_happy_29 : kt_dc i_M_happy 29 (.iconst 1) 1 30 ∧ Int32.ofInt (1) = nI 1 := ⟨⟨by decide +kernel, rfl⟩, by decide⟩
theorem x_M_happy_30 : kt_dc i_M_happy 30 (.aload_n 0) 1 31 := ⟨by decide +kernel, rfl⟩
theorem x_M_happy_31 : kt_dc i_M_happy 31 (.iload_n 2) 1 32 := ⟨by decide +kernel, rfl⟩
theorem x_M_happy_32 : kt_dc i_M_happy 32 (.iconst 5) 1 33 ∧ Int32.ofInt (5) = nI 5 := ⟨⟨by decide +kernel, rfl⟩, by decide⟩
theorem x_M_happy_33 : kt_sV i_M_happy 33 i_M_of 5 2 36 := ⟨44, ⟨by decide +kernel, rfl⟩, Or.inl (tw_615), j_M_of, ⟨tw_617, tp_50⟩, ⟨TX5, 18, rfl⟩, by decide, rfl⟩
theorem c_M_happy_33 {P : kt_P} {NM : Nat} {L : List (Option Value)} {rest : List Value} {N : Nat} {I : kt_I} {J : kt_J} {R : kt_R} {Q : Option Value → kt_I → kt_J → kt_R → Prop} {b : Nat} {x0 : Int32} {x1 : Int32} (hkd : kt_kd P N b = (5, 0)) (hrest : (rest.map fun v => v.category).sum ≤ 8) (kk : KW P i_M_of N 0 [some (.ref b), some (.int x0), some (.int x1)] [] N I J R (fun v I' J' R' => KW P i_M_happy NM 36 L (kt_pu v rest) N I' J' R' Q)) : KW P i_M_happy NM 33 L (.int x1 :: .int x0 :: .ref b :: rest) N I J R Q := kw_callV x_M_happy_33 (As := [.int x0, .int x1]) rfl rfl (Nat.le_of_ble_eq_true rfl) hrest hkd (Nat.le_refl N) (fun h => h) kk
theorem x_M_happy_36 : kt_dc i_M_happy 36 (.ishl) 1 37 := ⟨by decide +kernel, rfl⟩
theorem x_M_happy_37 : kt_dj i_M_happy 37 .goto 41 40 := ⟨4, by decide +kernel, by decide, rfl⟩
theorem x_M_happy_40 : kt_dc i_M_happy 40 (.iconst 0) 1 41 ∧ Int32.ofInt (0) = nI 0 := ⟨⟨by decide +kernel, rfl⟩, by decide⟩
theorem x_M_happy_41 : kt_dc i_M_happy 41 (.ior) 1 42 := ⟨by decide +kernel, rfl⟩
theorem x_M_happy_42 : kt_dc i_M_happy 42 (.istore_n 1) 1 43 := ⟨by decide +kernel, rfl⟩
theorem x_M_happy_43 : kt_dc i_M_happy 43 (.iinc 2 1) 3 46 ∧ Int32.ofInt (1) = nI 1 := ⟨⟨by decide +kernel, rfl⟩, by decide⟩
theorem x_M_happy_46 : kt_dj i_M_happy 46 .goto 9 49 := ⟨-37, by decide +kernel, by decide, rfl⟩
theorem x_M_happy_49 : kt_dc i_M_happy 49 (.iconst 0) 1 50 ∧ Int32.ofInt (0) = nI 0 := ⟨⟨by decide +kernel, rfl⟩, by decide⟩
theorem x_M_happy_50 : kt_dc i_M_happy 50 (.istore_n 2) 1 51 := ⟨by decide +kernel, rfl⟩
theorem x_M_happy_51 : kt_dc i_M_happy 51 (.iconst 0) 1 52 ∧ Int32.ofInt (0) = nI 0 := ⟨⟨by decide +kernel, rfl⟩, by decide⟩
theorem x_M_happy_52 : kt_dc i_M_happy 52 (.istore_n 3) 1 53 := ⟨by decide +kernel, rfl⟩
theorem x_M_happy_53 : kt_dc i_M_happy 53 (.iload_n 3) 1 54 := ⟨by decide +kernel, rfl⟩
theorem x_M_happy_54 : kt_dc i_M_happy 54 (.bipush 10) 2 56 ∧ (Int8.ofInt (10)).toInt32 = nI 10 := ⟨⟨by decide +kernel, rfl⟩, by decide⟩
theorem x_M_happy_56 : kt_dj i_M_happy 56 (.if_icmp .ge) 73 59 := ⟨17, by decide +kernel, by decide, rfl⟩
theorem x_M_happy_59 : kt_dc i_M_happy 59 (.iload_n 2) 1 60 := ⟨by decide +kernel, rfl⟩
theorem x_M_happy_60 : kt_dc i_M_happy 60 (.iload_n 1) 1 61 := ⟨by decide +kernel, rfl⟩
theorem x_M_happy_61 : kt_dc i_M_happy 61 (.iload_n 3) 1 62 := ⟨by decide +kernel, rfl⟩
theorem x_M_happy_62 : kt_dc i_M_happy 62 (.ishr) 1 63 := ⟨by decide +kernel, rfl⟩
theorem x_M_happy_63 : kt_dc i_M_happy 63 (.iconst 1) 1 64 ∧ Int32.ofInt (1) = nI 1 := ⟨⟨by decide +kernel, rfl⟩, by decide⟩
theorem x_M_happy_64 : kt_dc i_M_happy 64 (.iand) 1 65 := ⟨by decide +kernel, rfl⟩
theorem x_M_happy_65 : kt_dc i_M_happy 65 (.iadd) 1 66 := ⟨by decide +kernel, rfl⟩
theorem x_M_happy_66 : kt_dc i_M_happy 66 (.istore_n 2) 1 67 := ⟨by decide +kernel, rfl⟩
theorem x_M_happy_67 : kt_dc i_M_happy 67 (.iinc 3 1) 3 70 ∧ Int32.ofInt (1) = nI 1 := ⟨⟨by decide +kernel, rfl⟩, by decide⟩
theorem x_M_happy_70 : kt_dj i_M_happy 70 .goto 53 73 := ⟨-17, by decide +kernel, by decide, rfl⟩
theorem x_M_happy_73 : kt_dc i_M_happy 73 (.iload_n 2) 1 74 := ⟨by decide +kernel, rfl⟩
theorem x_M_happy_74 : kt_dc i_M_happy 74 (.ireturn) 1 75 ∧ kt_rt i_M_happy = (some .int) := ⟨⟨by decide +kernel, rfl⟩, rfl⟩
theorem x_M_rounds_0 : kt_dc i_M_rounds 0 (.aload_n 0) 1 1 := ⟨by decide +kernel, rfl⟩
theorem x_M_rounds_1 : kt_sG i_M_rounds 1 5 0 2 4 := ⟨7, RX5, TX5, 18, ⟨by decide +kernel, rfl⟩, rfl, by decide, rfl, by decide, Or.inl (tw_535)⟩
theorem x_M_rounds_4 : kt_dc i_M_rounds 4 (.aload_n 0) 1 5 := ⟨by decide +kernel, rfl⟩
theorem x_M_rounds_5 : kt_sG i_M_rounds 5 5 3 2 8 := ⟨19, RX5, TX5, 18, ⟨by decide +kernel, rfl⟩, rfl, by decide, rfl, by decide, Or.inl (tw_538)⟩
theorem x_M_rounds_8 : kt_sS i_M_rounds 8 i_M_copies 2 11 := ⟨156, ⟨by decide +kernel, rfl⟩, Or.inl (tw_769), j_M_copies, tw_770, rfl⟩
theorem c_M_rounds_8 {P : kt_P} {NM : Nat} {L : List (Option Value)} {rest : List Value} {N : Nat} {I : kt_I} {J : kt_J} {R : kt_R} {Q : Option Value → kt_I → kt_J → kt_R → Prop} {x0 : Nat} {x1 : Nat} (hrest : (rest.map fun v => v.category).sum ≤ 8) (kk : KW P i_M_copies N 0 [some (.ref x0), some (.ref x1), none] [] N I J R (fun v I' J' R' => KW P i_M_rounds NM 11 L (kt_pu v rest) N I' J' R' Q)) : KW P i_M_rounds NM 8 L (.ref x1 :: .ref x0 :: rest) N I J R Q := kw_callS x_M_rounds_8 (As := [.ref x0, .ref x1]) rfl rfl (Nat.le_of_ble_eq_true rfl) hrest (Nat.le_refl N) (fun h => h) kk
theorem x_M_rounds_11 : kt_dc i_M_rounds 11 (.iconst 0) 1 12 ∧ Int32.ofInt (0) = nI 0 := ⟨⟨by decide +kernel, rfl⟩, by decide⟩
theorem x_M_rounds_12 : kt_dc i_M_rounds 12 (.istore_n 1) 1 13 := ⟨by decide +kernel, rfl⟩
theorem x_M_rounds_13 : kt_dc i_M_rounds 13 (.aload_n 0) 1 14 := ⟨by decide +kernel, rfl⟩
theorem x_M_rounds_14 : kt_dc i_M_rounds 14 (.aload_n 0) 1 15 := ⟨by decide +kernel, rfl⟩
theorem x_M_rounds_15 : kt_sV i_M_rounds 15 i_M_everyone 5 0 18 := ⟨147, ⟨by decide +kernel, rfl⟩, Or.inl (tw_757), j_M_everyone, ⟨tw_759, tp_70⟩, ⟨TX5, 18, rfl⟩, by decide, rfl⟩
theorem c_M_rounds_15 {P : kt_P} {NM : Nat} {L : List (Option Value)} {rest : List Value} {N : Nat} {I : kt_I} {J : kt_J} {R : kt_R} {Q : Option Value → kt_I → kt_J → kt_R → Prop} {b : Nat} (hkd : kt_kd P N b = (5, 0)) (hrest : (rest.map fun v => v.category).sum ≤ 8) (kk : KW P i_M_everyone N 0 [some (.ref b)] [] N I J R (fun v I' J' R' => KW P i_M_rounds NM 18 L (kt_pu v rest) N I' J' R' Q)) : KW P i_M_rounds NM 15 L (.ref b :: rest) N I J R Q := kw_callV x_M_rounds_15 (As := []) rfl rfl (Nat.le_of_ble_eq_true rfl) hrest hkd (Nat.le_refl N) (fun h => h) kk
theorem x_M_rounds_18 : kt_sV i_M_rounds 18 i_M_known 5 1 21 := ⟨150, ⟨by decide +kernel, rfl⟩, Or.inl (tw_761), j_M_known, ⟨tw_763, tp_71⟩, ⟨TX5, 18, rfl⟩, by decide, rfl⟩
theorem c_M_rounds_18 {P : kt_P} {NM : Nat} {L : List (Option Value)} {rest : List Value} {N : Nat} {I : kt_I} {J : kt_J} {R : kt_R} {Q : Option Value → kt_I → kt_J → kt_R → Prop} {b : Nat} {x0 : Int32} (hkd : kt_kd P N b = (5, 0)) (hrest : (rest.map fun v => v.category).sum ≤ 8) (kk : KW P i_M_known N 0 [some (.ref b), some (.int x0), none, none] [] N I J R (fun v I' J' R' => KW P i_M_rounds NM 21 L (kt_pu v rest) N I' J' R' Q)) : KW P i_M_rounds NM 18 L (.int x0 :: .ref b :: rest) N I J R Q := kw_callV x_M_rounds_18 (As := [.int x0]) rfl rfl (Nat.le_of_ble_eq_true rfl) hrest hkd (Nat.le_refl N) (fun h => h) kk
theorem x_M_rounds_21 : kt_dc i_M_rounds 21 (.aload_n 0) 1 22 := ⟨by decide +kernel, rfl⟩
theorem x_M_rounds_22 : kt_sG i_M_rounds 22 5 0 2 25 := ⟨7, RX5, TX5, 18, ⟨by decide +kernel, rfl⟩, rfl, by decide, rfl, by decide, Or.inl (tw_535)⟩
theorem x_M_rounds_25 : kt_dc i_M_rounds 25 (.iconst 2) 1 26 ∧ Int32.ofInt (2) = nI 2 := ⟨⟨by decide +kernel, rfl⟩, by decide⟩
theorem x_M_rounds_26 : kt_dc i_M_rounds 26 (.iaload) 1 27 := ⟨by decide +kernel, rfl⟩
theorem x_M_rounds_27 : kt_dj i_M_rounds 27 (.if_icmp .ge) 64 30 := ⟨37, by decide +kernel, by decide, rfl⟩
theorem x_M_rounds_30 : kt_dc i_M_rounds 30 (.iconst 1) 1 31 ∧ Int32.ofInt (1) = nI 1 := ⟨⟨by decide +kernel, rfl⟩, by decide⟩
theorem x_M_rounds_31 : kt_dc i_M_rounds 31 (.istore_n 2) 1 32 := ⟨by decide +kernel, rfl⟩
theorem x_M_rounds_32 : kt_dc i_M_rounds 32 (.iload_n 2) 1 33 := ⟨by decide +kernel, rfl⟩
theorem x_M_rounds_33 : kt_dc i_M_rounds 33 (.aload_n 0) 1 34 := ⟨by decide +kernel, rfl⟩
theorem x_M_rounds_34 : kt_sG i_M_rounds 34 5 0 2 37 := ⟨7, RX5, TX5, 18, ⟨by decide +kernel, rfl⟩, rfl, by decide, rfl, by decide, Or.inl (tw_535)⟩
theorem x_M_rounds_37 : kt_dc i_M_rounds 37 (.iconst 1) 1 38 ∧ Int32.ofInt (1) = nI 1 := ⟨⟨by decide +kernel, rfl⟩, by decide⟩
theorem x_M_rounds_38 : kt_dc i_M_rounds 38 (.iaload) 1 39 := ⟨by decide +kernel, rfl⟩
theorem x_M_rounds_39 : kt_dj i_M_rounds 39 (.if_icmp .ge) 58 42 := ⟨19, by decide +kernel, by decide, rfl⟩
theorem x_M_rounds_42 : kt_dc i_M_rounds 42 (.aload_n 0) 1 43 := ⟨by decide +kernel, rfl⟩
theorem x_M_rounds_43 : kt_dc i_M_rounds 43 (.iload_n 2) 1 44 := ⟨by decide +kernel, rfl⟩
theorem x_M_rounds_44 : kt_dc i_M_rounds 44 (.iconst 1) 1 45 ∧ Int32.ofInt (1) = nI 1 := ⟨⟨by decide +kernel, rfl⟩, by decide⟩
theorem x_M_rounds_45 : kt_dc i_M_rounds 45 (.isub) 1 46 := ⟨by decide +kernel, rfl⟩
theorem x_M_rounds_46 : kt_dc i_M_rounds 46 (.iload_n 2) 1 47 := ⟨by decide +kernel, rfl⟩
theorem x_M_rounds_47 : kt_dc i_M_rounds 47 (.iconst 1) 1 48 ∧ Int32.ofInt (1) = nI 1 := ⟨⟨by decide +kernel, rfl⟩, by decide⟩
theorem x_M_rounds_48 : kt_sV i_M_rounds 48 i_M_hears 5 3 51 := ⟨118, ⟨by decide +kernel, rfl⟩, Or.inl (tw_682), j_M_hears, ⟨tw_684, tp_62⟩, ⟨TX5, 18, rfl⟩, by decide, rfl⟩
theorem c_M_rounds_48 {P : kt_P} {NM : Nat} {L : List (Option Value)} {rest : List Value} {N : Nat} {I : kt_I} {J : kt_J} {R : kt_R} {Q : Option Value → kt_I → kt_J → kt_R → Prop} {b : Nat} {x0 : Int32} {x1 : Int32} {x2 : Int32} (hkd : kt_kd P N b = (5, 0)) (hrest : (rest.map fun v => v.category).sum ≤ 8) (kk : KW P i_M_hears N 0 [some (.ref b), some (.int x0), some (.int x1), some (.int x2), none, none, none, none, none, none] [] N I J R (fun v I' J' R' => KW P i_M_rounds NM 51 L (kt_pu v rest) N I' J' R' Q)) : KW P i_M_rounds NM 48 L (.int x2 :: .int x1 :: .int x0 :: .ref b :: rest) N I J R Q := kw_callV x_M_rounds_48 (As := [.int x0, .int x1, .int x2]) rfl rfl (Nat.le_of_ble_eq_true rfl) hrest hkd (Nat.le_refl N) (fun h => h) kk
theorem x_M_rounds_51 : kt_dc i_M_rounds 51 (.pop) 1 52 := ⟨by decide +kernel, rfl⟩
theorem x_M_rounds_52 : kt_dc i_M_rounds 52 (.iinc 2 1) 3 55 ∧ Int32.ofInt (1) = nI 1 := ⟨⟨by decide +kernel, rfl⟩, by decide⟩
theorem x_M_rounds_55 : kt_dj i_M_rounds 55 .goto 32 58 := ⟨-23, by decide +kernel, by decide, rfl⟩
theorem x_M_rounds_58 : kt_dc i_M_rounds 58 (.iinc 1 1) 3 61 ∧ Int32.ofInt (1) = nI 1 := ⟨⟨by decide +kernel, rfl⟩, by decide⟩
theorem x_M_rounds_61 : kt_dj i_M_rounds 61 .goto 13 64 := ⟨-48, by decide +kernel, by decide, rfl⟩
theorem x_M_rounds_64 : kt_dc i_M_rounds 64 (.aload_n 0) 1 65 := ⟨by decide +kernel, rfl⟩
theorem x_M_rounds_65 : kt_sG i_M_rounds 65 5 3 2 68 := ⟨19, RX5, TX5, 18, ⟨by decide +kernel, rfl⟩, rfl, by decide, rfl, by decide, Or.inl (tw_538)⟩
theorem x_M_rounds_68 : kt_dc i_M_rounds 68 (.aload_n 0) 1 69 := ⟨by decide +kernel, rfl⟩
theorem x_M_rounds_69 : kt_sG i_M_rounds 69 5 0 2 72 := ⟨7, RX5, TX5, 18, ⟨by decide +kernel, rfl⟩, rfl, by decide, rfl, by decide, Or.inl (tw_535)⟩
theorem x_M_rounds_72 : kt_sS i_M_rounds 72 i_M_copies 2 75 := ⟨156, ⟨by decide +kernel, rfl⟩, Or.inl (tw_769), j_M_copies, tw_770, rfl⟩
theorem c_M_rounds_72 {P : kt_P} {NM : Nat} {L : List (Option Value)} {rest : List Value} {N : Nat} {I : kt_I} {J : kt_J} {R : kt_R} {Q : Option Value → kt_I → kt_J → kt_R → Prop} {x0 : Nat} {x1 : Nat} (hrest : (rest.map fun v => v.category).sum ≤ 8) (kk : KW P i_M_copies N 0 [some (.ref x0), some (.ref x1), none] [] N I J R (fun v I' J' R' => KW P i_M_rounds NM 75 L (kt_pu v rest) N I' J' R' Q)) : KW P i_M_rounds NM 72 L (.ref x1 :: .ref x0 :: rest) N I J R Q := kw_callS x_M_rounds_72 (As := [.ref x0, .ref x1]) rfl rfl (Nat.le_of_ble_eq_true rfl) hrest (Nat.le_refl N) (fun h => h) kk
theorem x_M_rounds_75 : kt_dc i_M_rounds 75 (.iload_n 1) 1 76 := ⟨by decide +kernel, rfl⟩
theorem x_M_rounds_76 : kt_dc i_M_rounds 76 (.ireturn) 1 77 ∧ kt_rt i_M_rounds = (some .int) := ⟨⟨by decide +kernel, rfl⟩, rfl⟩
theorem x_M_undo_0 : kt_dc i_M_undo 0 (.aload_n 0) 1 1 := ⟨by decide +kernel, rfl⟩
theorem x_M_undo_1 : kt_sG i_M_undo 1 5 4 0 4 := ⟨83, RX5, TX5, 18, ⟨by decide +kernel, rfl⟩, rfl, by decide, rfl, by decide, Or.inl (tw_539)⟩
theorem x_M_undo_4 : kt_dj i_M_undo 4 (.ifCond .ne) 10 7 := ⟨6, by decide +kernel, by decide, rfl⟩
theorem x_M_undo_7 : kt_dc i_M_undo 7 (.bipush (-2)) 2 9 ∧ (Int8.ofInt (-2)).toInt32 = (-2 : Int32) := ⟨⟨by decide +kernel, rfl⟩, by decide⟩
theorem x_M_undo_9 : kt_dc i_M_undo 9 (.ireturn) 1 10 ∧ kt_rt i_M_undo = (some .int) := ⟨⟨by decide +kernel, rfl⟩, rfl⟩
theorem x_M_undo_10 : kt_dc i_M_undo 10 (.aload_n 0) 1 11 := ⟨by decide +kernel, rfl⟩
theorem x_M_undo_11 : kt_dc i_M_undo 11 (.dup) 1 12 := ⟨by decide +kernel, rfl⟩
theorem x_M_undo_12 : kt_sG i_M_undo 12 5 4 0 15 := ⟨83, RX5, TX5, 18, ⟨by decide +kernel, rfl⟩, rfl, by decide, rfl, by decide, Or.inl (tw_539)⟩
theorem x_M_undo_15 : kt_dc i_M_undo 15 (.iconst 1) 1 16 ∧ Int32.ofInt (1) = nI 1 := ⟨⟨by decide +kernel, rfl⟩, by decide⟩
theorem x_M_undo_16 : kt_dc i_M_undo 16 (.isub) 1 17 := ⟨by decide +kernel, rfl⟩
theorem x_M_undo_17 : kt_sP i_M_undo 17 5 4 0 20 := ⟨83, RX5, TX5, 18, tyX5 4, ⟨by decide +kernel, rfl⟩, rfl, by decide, rfl, by decide, by decide +kernel, rfl, Or.inl ⟨rfl, Or.inl (tw_539)⟩⟩
theorem x_M_undo_20 : kt_dc i_M_undo 20 (.iconst 0) 1 21 ∧ Int32.ofInt (0) = nI 0 := ⟨⟨by decide +kernel, rfl⟩, by decide⟩
theorem x_M_undo_21 : kt_dc i_M_undo 21 (.istore_n 1) 1 22 := ⟨by decide +kernel, rfl⟩
theorem x_M_undo_22 : kt_dc i_M_undo 22 (.iload_n 1) 1 23 := ⟨by decide +kernel, rfl⟩
theorem x_M_undo_23 : kt_dc i_M_undo 23 (.sipush 548) 3 26 ∧ (Int16.ofInt (548)).toInt32 = nI 548 := ⟨⟨by decide +kernel, rfl⟩, by decide⟩
theorem x_M_undo_26 : kt_dj i_M_undo 26 (.if_icmp .ge) 56 29 := ⟨30, by decide +kernel, by decide, rfl⟩
theorem x_M_undo_29 : kt_dc i_M_undo 29 (.aload_n 0) 1 30 := ⟨by decide +kernel, rfl⟩
theorem x_M_undo_30 : kt_sG i_M_undo 30 5 0 2 33 := ⟨7, RX5, TX5, 18, ⟨by decide +kernel, rfl⟩, rfl, by decide, rfl, by decide, Or.inl (tw_535)⟩
theorem x_M_undo_33 : kt_dc i_M_undo 33 (.iload_n 1) 1 34 := ⟨by decide +kernel, rfl⟩
theorem x_M_undo_34 : kt_dc i_M_undo 34 (.aload_n 0) 1 35 := ⟨by decide +kernel, rfl⟩
theorem x_M_undo_35 : kt_sG i_M_undo 35 5 1 2 38 := ⟨13, RX5, TX5, 18, ⟨by decide +kernel, rfl⟩, rfl, by decide, rfl, by decide, Or.inl (tw_536)⟩
theorem x_M_undo_38 : kt_dc i_M_undo 38 (.sipush 548) 3 41 ∧ (Int16.ofInt (548)).toInt32 = nI 548 := ⟨⟨by decide +kernel, rfl⟩, by decide⟩
theorem x_M_undo_41 : kt_dc i_M_undo 41 (.aload_n 0) 1 42 := ⟨by decide +kernel, rfl⟩
theorem x_M_undo_42 : kt_sG i_M_undo 42 5 4 0 45 := ⟨83, RX5, TX5, 18, ⟨by decide +kernel, rfl⟩, rfl, by decide, rfl, by decide, Or.inl (tw_539)⟩
theorem x_M_undo_45 : kt_dc i_M_undo 45 (.imul) 1 46 := ⟨by decide +kernel, rfl⟩
theorem x_M_undo_46 : kt_dc i_M_undo 46 (.iload_n 1) 1 47 := ⟨by decide +kernel, rfl⟩
theorem x_M_undo_47 : kt_dc i_M_undo 47 (.iadd) 1 48 := ⟨by decide +kernel, rfl⟩
theorem x_M_undo_48 : kt_dc i_M_undo 48 (.iaload) 1 49 := ⟨by decide +kernel, rfl⟩
theorem x_M_undo_49 : kt_dc i_M_undo 49 (.iastore) 1 50 := ⟨by decide +kernel, rfl⟩
theorem x_M_undo_50 : kt_dc i_M_undo 50 (.iinc 1 1) 3 53 ∧ Int32.ofInt (1) = nI 1 := ⟨⟨by decide +kernel, rfl⟩, by decide⟩
theorem x_M_undo_53 : kt_dj i_M_undo 53 .goto 22 56 := ⟨-31, by decide +kernel, by decide, rfl⟩
theorem x_M_undo_56 : kt_dc i_M_undo 56 (.aload_n 0) 1 57 := ⟨by decide +kernel, rfl⟩
theorem x_M_undo_57 : kt_sG i_M_undo 57 5 4 0 60 := ⟨83, RX5, TX5, 18, ⟨by decide +kernel, rfl⟩, rfl, by decide, rfl, by decide, Or.inl (tw_539)⟩
theorem x_M_undo_60 : kt_dc i_M_undo 60 (.ireturn) 1 61 ∧ kt_rt i_M_undo = (some .int) := ⟨⟨by decide +kernel, rfl⟩, rfl⟩
theorem x_M_type_0 : kt_dc i_M_type 0 (.iload_n 1) 1 1 := ⟨by decide +kernel, rfl⟩
theorem x_M_type_1 : kt_dc i_M_type 1 (.bipush 32) 2 3 ∧ (Int8.ofInt (32)).toInt32 = nI 32 := ⟨⟨by decide +kernel, rfl⟩, by decide⟩
theorem x_M_type_3 : kt_dc i_M_type 3 (.bipush 126) 2 5 ∧ (Int8.ofInt (126)).toInt32 = nI 126 := ⟨⟨by decide +kernel, rfl⟩, by decide⟩
theorem x_M_type_5 : kt_sS i_M_type 5 i_M_in 3 8 := ⟨107, ⟨by decide +kernel, rfl⟩, Or.inl (tw_651), j_M_in, tw_652, rfl⟩
theorem c_M_type_5 {P : kt_P} {NM : Nat} {L : List (Option Value)} {rest : List Value} {N : Nat} {I : kt_I} {J : kt_J} {R : kt_R} {Q : Option Value → kt_I → kt_J → kt_R → Prop} {x0 : Int32} {x1 : Int32} {x2 : Int32} (hrest : (rest.map fun v => v.category).sum ≤ 8) (kk : KW P i_M_in N 0 [some (.int x0), some (.int x1), some (.int x2)] [] N I J R (fun v I' J' R' => KW P i_M_type NM 8 L (kt_pu v rest) N I' J' R' Q)) : KW P i_M_type NM 5 L (.int x2 :: .int x1 :: .int x0 :: rest) N I J R Q := kw_callS x_M_type_5 (As := [.int x0, .int x1, .int x2]) rfl rfl (Nat.le_of_ble_eq_true rfl) hrest (Nat.le_refl N) (fun h => h) kk
theorem x_M_type_8 : kt_dj i_M_type 8 (.ifCond .ne) 13 11 := ⟨5, by decide +kernel, by decide, rfl⟩
theorem x_M_type_11 : kt_dc i_M_type 11 (.iconst (-1)) 1 12 ∧ Int32.ofInt (-1) = (-1 : Int32) := ⟨⟨by decide +kernel, rfl⟩, by decide⟩
theorem x_M_type_12 : kt_dc i_M_type 12 (.ireturn) 1 13 ∧ kt_rt i_M_type = (some .int) := ⟨⟨by decide +kernel, rfl⟩, rfl⟩
theorem x_M_type_13 : kt_dc i_M_type 13 (.aload_n 0) 1 14 := ⟨by decide +kernel, rfl⟩
theorem x_M_type_14 : kt_sG i_M_type 14 5 7 0 17 := ⟨153, RX5, TX5, 18, ⟨by decide +kernel, rfl⟩, rfl, by decide, rfl, by decide, Or.inl (tw_542)⟩
theorem x_M_type_17 : kt_dc i_M_type 17 (.bipush 80) 2 19 ∧ (Int8.ofInt (80)).toInt32 = nI 80 := ⟨⟨by decide +kernel, rfl⟩, by decide⟩
theorem x_M_type_19 : kt_dj i_M_type 19 (.if_icmp .ne) 25 22 := ⟨6, by decide +kernel, by decide, rfl⟩
theorem x_M_type_22 : kt_dc i_M_type 22 (.bipush (-3)) 2 24 ∧ (Int8.ofInt (-3)).toInt32 = (-3 : Int32) := ⟨⟨by decide +kernel, rfl⟩, by decide⟩
theorem x_M_type_24 : kt_dc i_M_type 24 (.ireturn) 1 25 ∧ kt_rt i_M_type = (some .int) := ⟨⟨by decide +kernel, rfl⟩, rfl⟩
theorem x_M_type_25 : kt_dc i_M_type 25 (.aload_n 0) 1 26 := ⟨by decide +kernel, rfl⟩
theorem x_M_type_26 : kt_sG i_M_type 26 5 6 2 29 := ⟨22, RX5, TX5, 18, ⟨by decide +kernel, rfl⟩, rfl, by decide, rfl, by decide, Or.inl (tw_541)⟩
theorem x_M_type_29 : kt_dc i_M_type 29 (.aload_n 0) 1 30 := ⟨by decide +kernel, rfl⟩
theorem x_M_type_30 : kt_sG i_M_type 30 5 7 0 33 := ⟨153, RX5, TX5, 18, ⟨by decide +kernel, rfl⟩, rfl, by decide, rfl, by decide, Or.inl (tw_542)⟩
theorem x_M_type_33 : kt_dc i_M_type 33 (.iload_n 1) 1 34 := ⟨by decide +kernel, rfl⟩
theorem x_M_type_34 : kt_dc i_M_type 34 (.iastore) 1 35 := ⟨by decide +kernel, rfl⟩
theorem x_M_type_35 : kt_dc i_M_type 35 (.aload_n 0) 1 36 := ⟨by decide +kernel, rfl⟩
theorem x_M_type_36 : kt_dc i_M_type 36 (.dup) 1 37 := ⟨by decide +kernel, rfl⟩
theorem x_M_type_37 : kt_sG i_M_type 37 5 7 0 40 := ⟨153, RX5, TX5, 18, ⟨by decide +kernel, rfl⟩, rfl, by decide, rfl, by decide, Or.inl (tw_542)⟩
theorem x_M_type_40 : kt_dc i_M_type 40 (.iconst 1) 1 41 ∧ Int32.ofInt (1) = nI 1 := ⟨⟨by decide +kernel, rfl⟩, by decide⟩
theorem x_M_type_41 : kt_dc i_M_type 41 (.iadd) 1 42 := ⟨by decide +kernel, rfl⟩
theorem x_M_type_42 : kt_sP i_M_type 42 5 7 0 45 := ⟨153, RX5, TX5, 18, tyX5 7, ⟨by decide +kernel, rfl⟩, rfl, by decide, rfl, by decide, by decide +kernel, rfl, Or.inl ⟨rfl, Or.inl (tw_542)⟩⟩
theorem x_M_type_45 : kt_dc i_M_type 45 (.aload_n 0) 1 46 := ⟨by decide +kernel, rfl⟩
theorem x_M_type_46 : kt_sG i_M_type 46 5 7 0 49 := ⟨153, RX5, TX5, 18, ⟨by decide +kernel, rfl⟩, rfl, by decide, rfl, by decide, Or.inl (tw_542)⟩
theorem x_M_type_49 : kt_dc i_M_type 49 (.ireturn) 1 50 ∧ kt_rt i_M_type = (some .int) := ⟨⟨by decide +kernel, rfl⟩, rfl⟩
theorem x_M_clearText_0 : kt_dc i_M_clearText 0 (.aload_n 0) 1 1 := ⟨by decide +kernel, rfl⟩
theorem x_M_clearText_1 : kt_sG i_M_clearText 1 5 7 0 4 := ⟨153, RX5, TX5, 18, ⟨by decide +kernel, rfl⟩, rfl, by decide, rfl, by decide, Or.inl (tw_542)⟩
theorem x_M_clearText_4 : kt_dc i_M_clearText 4 (.istore_n 1) 1 5 := ⟨by decide +kernel, rfl⟩
theorem x_M_clearText_5 : kt_dc i_M_clearText 5 (.aload_n 0) 1 6 := ⟨by decide +kernel, rfl⟩
theorem x_M_clearText_6 : kt_dc i_M_clearText 6 (.iconst 0) 1 7 ∧ Int32.ofInt (0) = nI 0 := ⟨⟨by decide +kernel, rfl⟩, by decide⟩
theorem x_M_clearText_7 : kt_sP i_M_clearText 7 5 7 0 10 := ⟨153, RX5, TX5, 18, tyX5 7, ⟨by decide +kernel, rfl⟩, rfl, by decide, rfl, by decide, by decide +kernel, rfl, Or.inl ⟨rfl, Or.inl (tw_542)⟩⟩
theorem x_M_clearText_10 : kt_dc i_M_clearText 10 (.iload_n 1) 1 11 := ⟨by decide +kernel, rfl⟩
theorem x_M_clearText_11 : kt_dc i_M_clearText 11 (.ireturn) 1 12 ∧ kt_rt i_M_clearText = (some .int) := ⟨⟨by decide +kernel, rfl⟩, rfl⟩
theorem x_M_fault_0 : kt_dc i_M_fault 0 (.iload_n 1) 1 1 := ⟨by decide +kernel, rfl⟩
theorem x_M_fault_1 : kt_dc i_M_fault 1 (.iconst 0) 1 2 ∧ Int32.ofInt (0) = nI 0 := ⟨⟨by decide +kernel, rfl⟩, by decide⟩
theorem x_M_fault_2 : kt_dc i_M_fault 2 (.iconst 1) 1 3 ∧ Int32.ofInt (1) = nI 1 := ⟨⟨by decide +kernel, rfl⟩, by decide⟩
theorem x_M_fault_3 : kt_sS i_M_fault 3 i_M_in 3 6 := ⟨107, ⟨by decide +kernel, rfl⟩, Or.inl (tw_651), j_M_in, tw_652, rfl⟩
theorem c_M_fault_3 {P : kt_P} {NM : Nat} {L : List (Option Value)} {rest : List Value} {N : Nat} {I : kt_I} {J : kt_J} {R : kt_R} {Q : Option Value → kt_I → kt_J → kt_R → Prop} {x0 : Int32} {x1 : Int32} {x2 : Int32} (hrest : (rest.map fun v => v.category).sum ≤ 8) (kk : KW P i_M_in N 0 [some (.int x0), some (.int x1), some (.int x2)] [] N I J R (fun v I' J' R' => KW P i_M_fault NM 6 L (kt_pu v rest) N I' J' R' Q)) : KW P i_M_fault NM 3 L (.int x2 :: .int x1 :: .int x0 :: rest) N I J R Q := kw_callS x_M_fault_3 (As := [.int x0, .int x1, .int x2]) rfl rfl (Nat.le_of_ble_eq_true rfl) hrest (Nat.le_refl N) (fun h => h) kk
theorem x_M_fault_6 : kt_dj i_M_fault 6 (.ifCond .ne) 11 9 := ⟨5, by decide +kernel, by decide, rfl⟩
theorem x_M_fault_9 : kt_dc i_M_fault 9 (.iconst (-1)) 1 10 ∧ Int32.ofInt (-1) = (-1 : Int32) := ⟨⟨by decide +kernel, rfl⟩, by decide⟩
theorem x_M_fault_10 : kt_dc i_M_fault 10 (.ireturn) 1 11 ∧ kt_rt i_M_fault = (some .int) := ⟨⟨by decide +kernel, rfl⟩, rfl⟩
theorem x_M_fault_11 : kt_dc i_M_fault 11 (.aload_n 0) 1 12 := ⟨by decide +kernel, rfl⟩
theorem x_M_fault_12 : kt_sG i_M_fault 12 5 0 2 15 := ⟨7, RX5, TX5, 18, ⟨by decide +kernel, rfl⟩, rfl, by decide, rfl, by decide, Or.inl (tw_535)⟩
theorem x_M_fault_15 : kt_dc i_M_fault 15 (.aload_n 0) 1 16 := ⟨by decide +kernel, rfl⟩
theorem x_M_fault_16 : kt_sG i_M_fault 16 5 2 2 19 := ⟨16, RX5, TX5, 18, ⟨by decide +kernel, rfl⟩, rfl, by decide, rfl, by decide, Or.inl (tw_537)⟩
theorem x_M_fault_19 : kt_sS i_M_fault 19 i_M_copies 2 22 := ⟨156, ⟨by decide +kernel, rfl⟩, Or.inl (tw_769), j_M_copies, tw_770, rfl⟩
theorem c_M_fault_19 {P : kt_P} {NM : Nat} {L : List (Option Value)} {rest : List Value} {N : Nat} {I : kt_I} {J : kt_J} {R : kt_R} {Q : Option Value → kt_I → kt_J → kt_R → Prop} {x0 : Nat} {x1 : Nat} (hrest : (rest.map fun v => v.category).sum ≤ 8) (kk : KW P i_M_copies N 0 [some (.ref x0), some (.ref x1), none] [] N I J R (fun v I' J' R' => KW P i_M_fault NM 22 L (kt_pu v rest) N I' J' R' Q)) : KW P i_M_fault NM 19 L (.ref x1 :: .ref x0 :: rest) N I J R Q := kw_callS x_M_fault_19 (As := [.ref x0, .ref x1]) rfl rfl (Nat.le_of_ble_eq_true rfl) hrest (Nat.le_refl N) (fun h => h) kk
theorem x_M_fault_22 : kt_dc i_M_fault 22 (.aload_n 0) 1 23 := ⟨by decide +kernel, rfl⟩
theorem x_M_fault_23 : kt_sV i_M_fault 23 i_M_plays 5 0 26 := ⟨210, ⟨by decide +kernel, rfl⟩, Or.inl (tw_812), j_M_plays, ⟨tw_814, tp_75⟩, ⟨TX5, 18, rfl⟩, by decide, rfl⟩
theorem c_M_fault_23 {P : kt_P} {NM : Nat} {L : List (Option Value)} {rest : List Value} {N : Nat} {I : kt_I} {J : kt_J} {R : kt_R} {Q : Option Value → kt_I → kt_J → kt_R → Prop} {b : Nat} (hkd : kt_kd P N b = (5, 0)) (hrest : (rest.map fun v => v.category).sum ≤ 8) (kk : KW P i_M_plays N 0 [some (.ref b), none, none, none, none, none] [] N I J R (fun v I' J' R' => KW P i_M_fault NM 26 L (kt_pu v rest) N I' J' R' Q)) : KW P i_M_fault NM 23 L (.ref b :: rest) N I J R Q := kw_callV x_M_fault_23 (As := []) rfl rfl (Nat.le_of_ble_eq_true rfl) hrest hkd (Nat.le_refl N) (fun h => h) kk
theorem x_M_fault_26 : kt_dc i_M_fault 26 (.istore_n 2) 1 27 := ⟨by decide +kernel, rfl⟩
theorem x_M_fault_27 : kt_dc i_M_fault 27 (.aload_n 0) 1 28 := ⟨by decide +kernel, rfl⟩
theorem x_M_fault_28 : kt_sG i_M_fault 28 5 2 2 31 := ⟨16, RX5, TX5, 18, ⟨by decide +kernel, rfl⟩, rfl, by decide, rfl, by decide, Or.inl (tw_537)⟩
theorem x_M_fault_31 : kt_dc i_M_fault 31 (.aload_n 0) 1 32 := ⟨by decide +kernel, rfl⟩
theorem x_M_fault_32 : kt_sG i_M_fault 32 5 0 2 35 := ⟨7, RX5, TX5, 18, ⟨by decide +kernel, rfl⟩, rfl, by decide, rfl, by decide, Or.inl (tw_535)⟩
theorem x_M_fault_35 : kt_sS i_M_fault 35 i_M_copies 2 38 := ⟨156, ⟨by decide +kernel, rfl⟩, Or.inl (tw_769), j_M_copies, tw_770, rfl⟩
theorem c_M_fault_35 {P : kt_P} {NM : Nat} {L : List (Option Value)} {rest : List Value} {N : Nat} {I : kt_I} {J : kt_J} {R : kt_R} {Q : Option Value → kt_I → kt_J → kt_R → Prop} {x0 : Nat} {x1 : Nat} (hrest : (rest.map fun v => v.category).sum ≤ 8) (kk : KW P i_M_copies N 0 [some (.ref x0), some (.ref x1), none] [] N I J R (fun v I' J' R' => KW P i_M_fault NM 38 L (kt_pu v rest) N I' J' R' Q)) : KW P i_M_fault NM 35 L (.ref x1 :: .ref x0 :: rest) N I J R Q := kw_callS x_M_fault_35 (As := [.ref x0, .ref x1]) rfl rfl (Nat.le_of_ble_eq_true rfl) hrest (Nat.le_refl N) (fun h => h) kk
theorem x_M_fault_38 : kt_dc i_M_fault 38 (.iload_n 2) 1 39 := ⟨by decide +kernel, rfl⟩
theorem x_M_fault_39 : kt_dc i_M_fault 39 (.bipush (-4)) 2 41 ∧ (Int8.ofInt (-4)).toInt32 = (-4 : Int32) := ⟨⟨by decide +kernel, rfl⟩, by decide⟩
theorem x_M_fault_41 : kt_dj i_M_fault 41 (.if_icmp .eq) 48 44 := ⟨7, by decide +kernel, by decide, rfl⟩
theorem x_M_fault_44 : kt_dc i_M_fault 44 (.iload_n 1) 1 45 := ⟨by decide +kernel, rfl⟩
theorem x_M_fault_45 : kt_dj i_M_fault 45 (.ifCond .ne) 52 48 := ⟨7, by decide +kernel, by decide, rfl⟩
theorem x_M_fault_48 : kt_dc i_M_fault 48 (.iload_n 2) 1 49 := ⟨by decide +kernel, rfl⟩
theorem x_M_fault_49 : kt_dj i_M_fault 49 .goto 56 52 := ⟨7, by decide +kernel, by decide, rfl⟩
theorem x_M_fault_52 : kt_dc i_M_fault 52 (.aload_n 0) 1 53 := ⟨by decide +kernel, rfl⟩
theorem x_M_fault_53 : kt_sG i_M_fault 53 5 15 0 56 := ⟨198, RX5, TX5, 18, ⟨by decide +kernel, rfl⟩, rfl, by decide, rfl, by decide, Or.inl (tw_550)⟩
theorem x_M_fault_56 : kt_dc i_M_fault 56 (.ireturn) 1 57 ∧ kt_rt i_M_fault = (some .int) := ⟨⟨by decide +kernel, rfl⟩, rfl⟩
theorem x_M_plays_0 : kt_dc i_M_plays 0 (.aload_n 0) 1 1 := ⟨by decide +kernel, rfl⟩
theorem x_M_plays_1 : kt_dc i_M_plays 1 (.iconst 1) 1 2 ∧ Int32.ofInt (1) = nI 1 := ⟨⟨by decide +kernel, rfl⟩, by decide⟩
theorem x_M_plays_2 : kt_sP i_M_plays 2 5 5 3 5 := ⟨86, RX5, TX5, 18, tyX5 5, ⟨by decide +kernel, rfl⟩, rfl, by decide, rfl, by decide, by decide +kernel, rfl, Or.inl ⟨rfl, Or.inl (tw_540)⟩⟩
theorem x_M_plays_5 : kt_dc i_M_plays 5 (.aload_n 0) 1 6 := ⟨by decide +kernel, rfl⟩
theorem x_M_plays_6 : kt_dc i_M_plays 6 (.iconst 0) 1 7 ∧ Int32.ofInt (0) = nI 0 := ⟨⟨by decide +kernel, rfl⟩, by decide⟩
theorem x_M_plays_7 : kt_sP i_M_plays 7 5 14 0 10 := ⟨169, RX5, TX5, 18, tyX5 14, ⟨by decide +kernel, rfl⟩, rfl, by decide, rfl, by decide, by decide +kernel, rfl, Or.inl ⟨rfl, Or.inl (tw_549)⟩⟩
theorem x_M_plays_10 : kt_dc i_M_plays 10 (.aload_n 0) 1 11 := ⟨by decide +kernel, rfl⟩
theorem x_M_plays_11 : kt_dc i_M_plays 11 (.iconst 0) 1 12 ∧ Int32.ofInt (0) = nI 0 := ⟨⟨by decide +kernel, rfl⟩, by decide⟩
theorem x_M_plays_12 : kt_sP i_M_plays 12 5 16 0 15 := ⟨195, RX5, TX5, 18, tyX5 16, ⟨by decide +kernel, rfl⟩, rfl, by decide, rfl, by decide, by decide +kernel, rfl, Or.inl ⟨rfl, Or.inl (tw_551)⟩⟩
theorem x_M_plays_15 : kt_dc i_M_plays 15 (.aload_n 0) 1 16 := ⟨by decide +kernel, rfl⟩
theorem x_M_plays_16 : kt_dc i_M_plays 16 (.iconst 0) 1 17 ∧ Int32.ofInt (0) = nI 0 := ⟨⟨by decide +kernel, rfl⟩, by decide⟩
theorem x_M_plays_17 : kt_sP i_M_plays 17 5 15 0 20 := ⟨198, RX5, TX5, 18, tyX5 15, ⟨by decide +kernel, rfl⟩, rfl, by decide, rfl, by decide, by decide +kernel, rfl, Or.inl ⟨rfl, Or.inl (tw_550)⟩⟩
theorem x_M_plays_20 : kt_dc i_M_plays 20 (.iconst 0) 1 21 ∧ Int32.ofInt (0) = nI 0 := ⟨⟨by decide +kernel, rfl⟩, by decide⟩
theorem x_M_plays_21 : kt_dc i_M_plays 21 (.istore_n 1) 1 22 := ⟨by decide +kernel, rfl⟩
theorem x_M_plays_22 : kt_dc i_M_plays 22 (.aload_n 0) 1 23 := ⟨by decide +kernel, rfl⟩
theorem x_M_plays_23 : kt_sG i_M_plays 23 5 14 0 26 := ⟨169, RX5, TX5, 18, ⟨by decide +kernel, rfl⟩, rfl, by decide, rfl, by decide, Or.inl (tw_549)⟩
theorem x_M_plays_26 : kt_dc i_M_plays 26 (.aload_n 0) 1 27 := ⟨by decide +kernel, rfl⟩
theorem x_M_plays_27 : kt_sG i_M_plays 27 5 7 0 30 := ⟨153, RX5, TX5, 18, ⟨by decide +kernel, rfl⟩, rfl, by decide, rfl, by decide, Or.inl (tw_542)⟩
theorem x_M_plays_30 : kt_dj i_M_plays 30 (.if_icmp .ge) 186 33 := ⟨156, by decide +kernel, by decide, rfl⟩
theorem x_M_plays_33 : kt_dc i_M_plays 33 (.aload_n 0) 1 34 := ⟨by decide +kernel, rfl⟩
theorem x_M_plays_34 : kt_sG i_M_plays 34 5 15 0 37 := ⟨198, RX5, TX5, 18, ⟨by decide +kernel, rfl⟩, rfl, by decide, rfl, by decide, Or.inl (tw_550)⟩
theorem x_M_plays_37 : kt_dj i_M_plays 37 (.ifCond .ne) 186 40 := ⟨149, by decide +kernel, by decide, rfl⟩
theorem x_M_plays_40 : kt_dc i_M_plays 40 (.aload_n 0) 1 41 := ⟨by decide +kernel, rfl⟩
theorem x_M_plays_41 : kt_sG i_M_plays 41 5 14 0 44 := ⟨169, RX5, TX5, 18, ⟨by decide +kernel, rfl⟩, rfl, by decide, rfl, by decide, Or.inl (tw_549)⟩
theorem x_M_plays_44 : kt_dc i_M_plays 44 (.istore_n 1) 1 45 := ⟨by decide +kernel, rfl⟩
theorem x_M_plays_45 : kt_dc i_M_plays 45 (.aload_n 0) 1 46 := ⟨by decide +kernel, rfl⟩
theorem x_M_plays_46 : kt_sG i_M_plays 46 5 6 2 49 := ⟨22, RX5, TX5, 18, ⟨by decide +kernel, rfl⟩, rfl, by decide, rfl, by decide, Or.inl (tw_541)⟩
theorem x_M_plays_49 : kt_dc i_M_plays 49 (.aload_n 0) 1 50 := ⟨by decide +kernel, rfl⟩
theorem x_M_plays_50 : kt_sG i_M_plays 50 5 14 0 53 := ⟨169, RX5, TX5, 18, ⟨by decide +kernel, rfl⟩, rfl, by decide, rfl, by decide, Or.inl (tw_549)⟩
theorem x_M_plays_53 : kt_dc i_M_plays 53 (.iaload) 1 54 := ⟨by decide +kernel, rfl⟩
theorem x_M_plays_54 : kt_dc i_M_plays 54 (.istore_n 2) 1 55 := ⟨by decide +kernel, rfl⟩
theorem x_M_plays_55 : kt_dc i_M_plays 55 (.iload_n 2) 1 56 := ⟨by decide +kernel, rfl⟩
theorem x_M_plays_56 : kt_sS i_M_plays 56 i_M_numbersOf 1 59 := ⟨201, ⟨by decide +kernel, rfl⟩, Or.inl (tw_816), j_M_numbersOf, tw_817, rfl⟩
theorem c_M_plays_56 {P : kt_P} {NM : Nat} {L : List (Option Value)} {rest : List Value} {N : Nat} {I : kt_I} {J : kt_J} {R : kt_R} {Q : Option Value → kt_I → kt_J → kt_R → Prop} {x0 : Int32} (hrest : (rest.map fun v => v.category).sum ≤ 8) (kk : KW P i_M_numbersOf N 0 [some (.int x0)] [] N I J R (fun v I' J' R' => KW P i_M_plays NM 59 L (kt_pu v rest) N I' J' R' Q)) : KW P i_M_plays NM 56 L (.int x0 :: rest) N I J R Q := kw_callS x_M_plays_56 (As := [.int x0]) rfl rfl (Nat.le_of_ble_eq_true rfl) hrest (Nat.le_refl N) (fun h => h) kk
theorem x_M_plays_59 : kt_dc i_M_plays 59 (.istore_n 3) 1 60 := ⟨by decide +kernel, rfl⟩
theorem x_M_plays_60 : kt_dc i_M_plays 60 (.aload_n 0) 1 61 := ⟨by decide +kernel, rfl⟩
theorem x_M_plays_61 : kt_dc i_M_plays 61 (.dup) 1 62 := ⟨by decide +kernel, rfl⟩
theorem x_M_plays_62 : kt_sG i_M_plays 62 5 14 0 65 := ⟨169, RX5, TX5, 18, ⟨by decide +kernel, rfl⟩, rfl, by decide, rfl, by decide, Or.inl (tw_549)⟩
theorem x_M_plays_65 : kt_dc i_M_plays 65 (.iconst 1) 1 66 ∧ Int32.ofInt (1) = nI 1 := ⟨⟨by decide +kernel, rfl⟩, by decide⟩
theorem x_M_plays_66 : kt_dc i_M_plays 66 (.iadd) 1 67 := ⟨by decide +kernel, rfl⟩
theorem x_M_plays_67 : kt_sP i_M_plays 67 5 14 0 70 := ⟨169, RX5, TX5, 18, tyX5 14, ⟨by decide +kernel, rfl⟩, rfl, by decide, rfl, by decide, by decide +kernel, rfl, Or.inl ⟨rfl, Or.inl (tw_549)⟩⟩
theorem x_M_plays_70 : kt_dc i_M_plays 70 (.iload_n 3) 1 71 := ⟨by decide +kernel, rfl⟩
theorem x_M_plays_71 : kt_dj i_M_plays 71 (.ifCond .le) 78 74 := ⟨7, by decide +kernel, by decide, rfl⟩
theorem x_M_plays_74 : kt_dc i_M_plays 74 (.iconst 1) 1 75 ∧ Int32.ofInt (1) = nI 1 := ⟨⟨by decide +kernel, rfl⟩, by decide⟩
theorem x_M_plays_75 : kt_dj i_M_plays 75 .goto 79 78 := ⟨4, by decide +kernel, by decide, rfl⟩
theorem x_M_plays_78 : kt_dc i_M_plays 78 (.iconst 0) 1 79 ∧ Int32.ofInt (0) = nI 0 := ⟨⟨by decide +kernel, rfl⟩, by decide⟩
theorem x_M_plays_79 : kt_dc i_M_plays 79 (.istore 4) 2 81 := ⟨by decide +kernel, rfl⟩
theorem x_M_plays_81 : kt_dc i_M_plays 81 (.iconst 0) 1 82 ∧ Int32.ofInt (0) = nI 0 := ⟨⟨by decide +kernel, rfl⟩, by decide⟩
theorem x_M_plays_82 : kt_dc i_M_plays 82 (.istore 5) 2 84 := ⟨by decide +kernel, rfl⟩
theorem x_M_plays_84 : kt_dc i_M_plays 84 (.iload 5) 2 86 := ⟨by decide +kernel, rfl⟩
theorem x_M_plays_86 : kt_dc i_M_plays 86 (.iload_n 3) 1 87 := ⟨by decide +kernel, rfl⟩
theorem x_M_plays_87 : kt_dj i_M_plays 87 (.if_icmp .ge) 124 90 := ⟨37, by decide +kernel, by decide, rfl⟩
theorem x_M_plays_90 : kt_dc i_M_plays 90 (.iload 4) 2 92 := ⟨by decide +kernel, rfl⟩
theorem x_M_plays_92 : kt_dj i_M_plays 92 (.ifCond .eq) 124 95 := ⟨32, by decide +kernel, by decide, rfl⟩
theorem x_M_plays_95 : kt_dc i_M_plays 95 (.aload_n 0) 1 96 := ⟨by decide +kernel, rfl⟩
theorem x_M_plays_96 : kt_dc i_M_plays 96 (.iload 5) 2 98 := ⟨by decide +kernel, rfl⟩
theorem x_M_plays_98 : kt_dc i_M_plays 98 (.iload 5) 2 100 := ⟨by decide +kernel, rfl⟩
theorem x_M_plays_100 : kt_dc i_M_plays 100 (.iload_n 3) 1 101 := ⟨by decide +kernel, rfl⟩
theorem x_M_plays_101 : kt_dc i_M_plays 101 (.iconst 1) 1 102 ∧ Int32.ofInt (1) = nI 1 := ⟨⟨by decide +kernel, rfl⟩, by decide⟩
theorem x_M_plays_102 : kt_dc i_M_plays 102 (.isub) 1 103 := ⟨by decide +kernel, rfl⟩
theorem x_M_plays_103 : kt_dj i_M_plays 103 (.if_icmp .ne) 111 106 := ⟨8, by decide +kernel, by decide, rfl⟩
theorem x_M_plays_106 : kt_dc i_M_plays 106 (.bipush 59) 2 108 ∧ (Int8.ofInt (59)).toInt32 = nI 59 := ⟨⟨by decide +kernel, rfl⟩, by decide⟩
theorem x_M_plays_108 : kt_dj i_M_plays 108 .goto 113 111 := ⟨5, by decide +kernel, by decide, rfl⟩
theorem x_M_plays_111 : kt_dc i_M_plays 111 (.bipush 44) 2 113 ∧ (Int8.ofInt (44)).toInt32 = nI 44 := ⟨⟨by decide +kernel, rfl⟩, by decide⟩
theorem x_M_plays_113 : kt_sV i_M_plays 113 i_M_number 5 2 116 := ⟨204, ⟨by decide +kernel, rfl⟩, Or.inl (tw_819), j_M_number, ⟨tw_821, tp_76⟩, ⟨TX5, 18, rfl⟩, by decide, rfl⟩
theorem c_M_plays_113 {P : kt_P} {NM : Nat} {L : List (Option Value)} {rest : List Value} {N : Nat} {I : kt_I} {J : kt_J} {R : kt_R} {Q : Option Value → kt_I → kt_J → kt_R → Prop} {b : Nat} {x0 : Int32} {x1 : Int32} (hkd : kt_kd P N b = (5, 0)) (hrest : (rest.map fun v => v.category).sum ≤ 8) (kk : KW P i_M_number N 0 [some (.ref b), some (.int x0), some (.int x1), none, none] [] N I J R (fun v I' J' R' => KW P i_M_plays NM 116 L (kt_pu v rest) N I' J' R' Q)) : KW P i_M_plays NM 113 L (.int x1 :: .int x0 :: .ref b :: rest) N I J R Q := kw_callV x_M_plays_113 (As := [.int x0, .int x1]) rfl rfl (Nat.le_of_ble_eq_true rfl) hrest hkd (Nat.le_refl N) (fun h => h) kk
theorem x_M_plays_116 : kt_dc i_M_plays 116 (.istore 4) 2 118 := ⟨by decide +kernel, rfl⟩
theorem x_M_plays_118 : kt_dc i_M_plays 118 (.iinc 5 1) 3 121 ∧ Int32.ofInt (1) = nI 1 := ⟨⟨by decide +kernel, rfl⟩, by decide⟩
theorem x_M_plays_121 : kt_dj i_M_plays 121 .goto 84 124 := ⟨-37, by decide +kernel, by decide, rfl⟩
theorem x_M_plays_124 : kt_dc i_M_plays 124 (.iload 4) 2 126 := ⟨by decide +kernel, rfl⟩
theorem x_M_plays_126 : kt_dj i_M_plays 126 (.ifCond .eq) 137 129 := ⟨11, by decide +kernel, by decide, rfl⟩
theorem x_M_plays_129 : kt_dc i_M_plays 129 (.aload_n 0) 1 130 := ⟨by decide +kernel, rfl⟩
theorem x_M_plays_130 : kt_dc i_M_plays 130 (.iload_n 2) 1 131 := ⟨by decide +kernel, rfl⟩
theorem x_M_plays_131 : kt_sV i_M_plays 131 i_M_calls 5 1 134 := ⟨207, ⟨by decide +kernel, rfl⟩, Or.inl (tw_827), j_M_calls, ⟨tw_829, tp_78⟩, ⟨TX5, 18, rfl⟩, by decide, rfl⟩
theorem c_M_plays_131 {P : kt_P} {NM : Nat} {L : List (Option Value)} {rest : List Value} {N : Nat} {I : kt_I} {J : kt_J} {R : kt_R} {Q : Option Value → kt_I → kt_J → kt_R → Prop} {b : Nat} {x0 : Int32} (hkd : kt_kd P N b = (5, 0)) (hrest : (rest.map fun v => v.category).sum ≤ 8) (kk : KW P i_M_calls N 0 [some (.ref b), some (.int x0)] [] N I J R (fun v I' J' R' => KW P i_M_plays NM 134 L (kt_pu v rest) N I' J' R' Q)) : KW P i_M_plays NM 131 L (.int x0 :: .ref b :: rest) N I J R Q := kw_callV x_M_plays_131 (As := [.int x0]) rfl rfl (Nat.le_of_ble_eq_true rfl) hrest hkd (Nat.le_refl N) (fun h => h) kk
theorem x_M_plays_134 : kt_dj i_M_plays 134 .goto 138 137 := ⟨4, by decide +kernel, by decide, rfl⟩
theorem x_M_plays_137 : kt_dc i_M_plays 137 (.iconst 0) 1 138 ∧ Int32.ofInt (0) = nI 0 := ⟨⟨by decide +kernel, rfl⟩, by decide⟩
theorem x_M_plays_138 : kt_dc i_M_plays 138 (.istore 5) 2 140 := ⟨by decide +kernel, rfl⟩
theorem x_M_plays_140 : kt_dc i_M_plays 140 (.aload_n 0) 1 141 := ⟨by decide +kernel, rfl⟩
theorem x_M_plays_141 : kt_dc i_M_plays 141 (.iload 4) 2 143 := ⟨by decide +kernel, rfl⟩
theorem x_M_plays_143 : kt_dj i_M_plays 143 (.ifCond .ne) 150 146 := ⟨7, by decide +kernel, by decide, rfl⟩
theorem x_M_plays_146 : kt_dc i_M_plays 146 (.iconst 1) 1 147 ∧ Int32.ofInt (1) = nI 1 := ⟨⟨by decide +kernel, rfl⟩, by decide⟩
theorem x_M_plays_147 : kt_dj i_M_plays 147 .goto 170 150 := ⟨23, by decide +kernel, by decide, rfl⟩
theorem x_M_plays_150 : kt_dc i_M_plays 150 (.iload 5) 2 152 := ⟨by decide +kernel, rfl⟩
theorem x_M_plays_152 : kt_dj i_M_plays 152 (.ifCond .lt) 159 155 := ⟨7, by decide +kernel, by decide, rfl⟩
theorem x_M_plays_155 : kt_dc i_M_plays 155 (.iconst 0) 1 156 ∧ Int32.ofInt (0) = nI 0 := ⟨⟨by decide +kernel, rfl⟩, by decide⟩
theorem x_M_plays_156 : kt_dj i_M_plays 156 .goto 170 159 := ⟨14, by decide +kernel, by decide, rfl⟩
theorem x_M_plays_159 : kt_dc i_M_plays 159 (.iload 5) 2 161 := ⟨by decide +kernel, rfl⟩
theorem x_M_plays_161 : kt_dc i_M_plays 161 (.iconst (-1)) 1 162 ∧ Int32.ofInt (-1) = (-1 : Int32) := ⟨⟨by decide +kernel, rfl⟩, by decide⟩
theorem x_M_plays_162 : kt_dj i_M_plays 162 (.if_icmp .ne) 169 165 := ⟨7, by decide +kernel, by decide, rfl⟩
theorem x_M_plays_165 : kt_dc i_M_plays 165 (.iconst 2) 1 166 ∧ Int32.ofInt (2) = nI 2 := ⟨⟨by decide +kernel, rfl⟩, by decide⟩
theorem x_M_plays_166 : kt_dj i_M_plays 166 .goto 170 169 := ⟨4, by decide +kernel, by decide, rfl⟩
theorem x_M_plays_169 : kt_dc i_M_plays 169 (.iconst 3) 1 170 ∧ Int32.ofInt (3) = nI 3 := ⟨⟨by decide +kernel, rfl⟩, by decide⟩
theorem x_M_plays_170 : kt_sP i_M_plays 170 5 15 0 173 := ⟨198, RX5, TX5, 18, tyX5 15, ⟨by decide +kernel, rfl⟩, rfl, by decide, rfl, by decide, by decide +kernel, rfl, Or.inl ⟨rfl, Or.inl (tw_550)⟩⟩
theorem x_M_plays_173 : kt_dc i_M_plays 173 (.aload_n 0) 1 174 := ⟨by decide +kernel, rfl⟩
theorem x_M_plays_174 : kt_dc i_M_plays 174 (.dup) 1 175 := ⟨by decide +kernel, rfl⟩
theorem x_M_plays_175 : kt_sG i_M_plays 175 5 16 0 178 := ⟨195, RX5, TX5, 18, ⟨by decide +kernel, rfl⟩, rfl, by decide, rfl, by decide, Or.inl (tw_551)⟩
theorem x_M_plays_178 : kt_dc i_M_plays 178 (.iconst 1) 1 179 ∧ Int32.ofInt (1) = nI 1 := ⟨⟨by decide +kernel, rfl⟩, by decide⟩
theorem x_M_plays_179 : kt_dc i_M_plays 179 (.iadd) 1 180 := ⟨by decide +kernel, rfl⟩
theorem x_M_plays_180 : kt_sP i_M_plays 180 5 16 0 183 := ⟨195, RX5, TX5, 18, tyX5 16, ⟨by decide +kernel, rfl⟩, rfl, by decide, rfl, by decide, by decide +kernel, rfl, Or.inl ⟨rfl, Or.inl (tw_551)⟩⟩
theorem x_M_plays_183 : kt_dj i_M_plays 183 .goto 22 186 := ⟨-161, by decide +kernel, by decide, rfl⟩
theorem x_M_plays_186 : kt_dc i_M_plays 186 (.aload_n 0) 1 187 := ⟨by decide +kernel, rfl⟩
theorem x_M_plays_187 : kt_dc i_M_plays 187 (.iconst 0) 1 188 ∧ Int32.ofInt (0) = nI 0 := ⟨⟨by decide +kernel, rfl⟩, by decide⟩
theorem x_M_plays_188 : kt_sP i_M_plays 188 5 5 3 191 := ⟨86, RX5, TX5, 18, tyX5 5, ⟨by decide +kernel, rfl⟩, rfl, by decide, rfl, by decide, by decide +kernel, rfl, Or.inl ⟨rfl, Or.inl (tw_540)⟩⟩
theorem x_M_plays_191 : kt_dc i_M_plays 191 (.aload_n 0) 1 192 := ⟨by decide +kernel, rfl⟩
theorem x_M_plays_192 : kt_sG i_M_plays 192 5 15 0 195 := ⟨198, RX5, TX5, 18, ⟨by decide +kernel, rfl⟩, rfl, by decide, rfl, by decide, Or.inl (tw_550)⟩
theorem x_M_plays_195 : kt_dj i_M_plays 195 (.ifCond .ne) 203 198 := ⟨8, by decide +kernel, by decide, rfl⟩
theorem x_M_plays_198 : kt_dc i_M_plays 198 (.bipush (-4)) 2 200 ∧ (Int8.ofInt (-4)).toInt32 = (-4 : Int32) := ⟨⟨by decide +kernel, rfl⟩, by decide⟩
theorem x_M_plays_200 : kt_dj i_M_plays 200 .goto 204 203 := ⟨4, by decide +kernel, by decide, rfl⟩
theorem x_M_plays_203 : kt_dc i_M_plays 203 (.iload_n 1) 1 204 := ⟨by decide +kernel, rfl⟩
theorem x_M_plays_204 : kt_dc i_M_plays 204 (.ireturn) 1 205 ∧ kt_rt i_M_plays = (some .int) := ⟨⟨by decide +kernel, rfl⟩, rfl⟩
theorem x_M_numbersOf_0 : kt_dc i_M_numbersOf 0 (.iload_n 0) 1 1 := ⟨by decide +kernel, rfl⟩
theorem x_M_numbersOf_1 : kt_dc i_M_numbersOf 1 (.bipush 111) 2 3 ∧ (Int8.ofInt (111)).toInt32 = nI 111 := ⟨⟨by decide +kernel, rfl⟩, by decide⟩
theorem x_M_numbersOf_3 : kt_dj i_M_numbersOf 3 (.if_icmp .ne) 10 6 := ⟨7, by decide +kernel, by decide, rfl⟩
theorem x_M_numbersOf_6 : kt_dc i_M_numbersOf 6 (.iconst 4) 1 7 ∧ Int32.ofInt (4) = nI 4 := ⟨⟨by decide +kernel, rfl⟩, by decide⟩
theorem x_M_numbersOf_7 : kt_dj i_M_numbersOf 7 .goto 53 10 := ⟨46, by decide +kernel, by decide, rfl⟩
theorem x_M_numbersOf_10 : kt_dc i_M_numbersOf 10 (.iload_n 0) 1 11 := ⟨by decide +kernel, rfl⟩
theorem x_M_numbersOf_11 : kt_dc i_M_numbersOf 11 (.bipush 100) 2 13 ∧ (Int8.ofInt (100)).toInt32 = nI 100 := ⟨⟨by decide +kernel, rfl⟩, by decide⟩
theorem x_M_numbersOf_13 : kt_dj i_M_numbersOf 13 (.if_icmp .ne) 20 16 := ⟨7, by decide +kernel, by decide, rfl⟩
theorem x_M_numbersOf_16 : kt_dc i_M_numbersOf 16 (.iconst 3) 1 17 ∧ Int32.ofInt (3) = nI 3 := ⟨⟨by decide +kernel, rfl⟩, by decide⟩
theorem x_M_numbersOf_17 : kt_dj i_M_numbersOf 17 .goto 53 20 := ⟨36, by decide +kernel, by decide, rfl⟩
theorem x_M_numbersOf_20 : kt_dc i_M_numbersOf 20 (.iload_n 0) 1 21 := ⟨by decide +kernel, rfl⟩
theorem x_M_numbersOf_21 : kt_dc i_M_numbersOf 21 (.bipush 99) 2 23 ∧ (Int8.ofInt (99)).toInt32 = nI 99 := ⟨⟨by decide +kernel, rfl⟩, by decide⟩
theorem x_M_numbersOf_23 : kt_dj i_M_numbersOf 23 (.if_icmp .eq) 38 26 := ⟨15, by decide +kernel, by decide, rfl⟩
theorem x_M_numbersOf_26 : kt_dc i_M_numbersOf 26 (.iload_n 0) 1 27 := ⟨by decide +kernel, rfl⟩
theorem x_M_numbersOf_27 : kt_dc i_M_numbersOf 27 (.bipush 109) 2 29 ∧ (Int8.ofInt (109)).toInt32 = nI 109 := ⟨⟨by decide +kernel, rfl⟩, by decide⟩
theorem x_M_numbersOf_29 : kt_dj i_M_numbersOf 29 (.if_icmp .eq) 38 32 := ⟨9, by decide +kernel, by decide, rfl⟩
theorem x_M_numbersOf_32 : kt_dc i_M_numbersOf 32 (.iload_n 0) 1 33 := ⟨by decide +kernel, rfl⟩
theorem x_M_numbersOf_33 : kt_dc i_M_numbersOf 33 (.bipush 104) 2 35 ∧ (Int8.ofInt (104)).toInt32 = nI 104 := ⟨⟨by decide +kernel, rfl⟩, by decide⟩
theorem x_M_numbersOf_35 : kt_dj i_M_numbersOf 35 (.if_icmp .ne) 42 38 := ⟨7, by decide +kernel, by decide, rfl⟩
theorem x_M_numbersOf_38 : kt_dc i_M_numbersOf 38 (.iconst 2) 1 39 ∧ Int32.ofInt (2) = nI 2 := ⟨⟨by decide +kernel, rfl⟩, by decide⟩
theorem x_M_numbersOf_39 : kt_dj i_M_numbersOf 39 .goto 53 42 := ⟨14, by decide +kernel, by decide, rfl⟩
theorem x_M_numbersOf_42 : kt_dc i_M_numbersOf 42 (.iload_n 0) 1 43 := ⟨by decide +kernel, rfl⟩
theorem x_M_numbersOf_43 : kt_dc i_M_numbersOf 43 (.bipush 114) 2 45 ∧ (Int8.ofInt (114)).toInt32 = nI 114 := ⟨⟨by decide +kernel, rfl⟩, by decide⟩
theorem x_M_numbersOf_45 : kt_dj i_M_numbersOf 45 (.if_icmp .ne) 52 48 := ⟨7, by decide +kernel, by decide, rfl⟩
theorem x_M_numbersOf_48 : kt_dc i_M_numbersOf 48 (.iconst 1) 1 49 ∧ Int32.ofInt (1) = nI 1 := ⟨⟨by decide +kernel, rfl⟩, by decide⟩
theorem x_M_numbersOf_49 : kt_dj i_M_numbersOf 49 .goto 53 52 := ⟨4, by decide +kernel, by decide, rfl⟩
theorem x_M_numbersOf_52 : kt_dc i_M_numbersOf 52 (.iconst 0) 1 53 ∧ Int32.ofInt (0) = nI 0 := ⟨⟨by decide +kernel, rfl⟩, by decide⟩
theorem x_M_numbersOf_53 : kt_dc i_M_numbersOf 53 (.ireturn) 1 54 ∧ kt_rt i_M_numbersOf = (some .int) := ⟨⟨by decide +kernel, rfl⟩, rfl⟩
theorem x_M_number_0 : kt_dc i_M_number 0 (.aload_n 0) 1 1 := ⟨by decide +kernel, rfl⟩
theorem x_M_number_1 : kt_sG i_M_number 1 5 14 0 4 := ⟨169, RX5, TX5, 18, ⟨by decide +kernel, rfl⟩, rfl, by decide, rfl, by decide, Or.inl (tw_549)⟩
theorem x_M_number_4 : kt_dc i_M_number 4 (.istore_n 3) 1 5 := ⟨by decide +kernel, rfl⟩
theorem x_M_number_5 : kt_dc i_M_number 5 (.aload_n 0) 1 6 := ⟨by decide +kernel, rfl⟩
theorem x_M_number_6 : kt_sG i_M_number 6 5 17 2 9 := ⟨41, RX5, TX5, 18, ⟨by decide +kernel, rfl⟩, rfl, by decide, rfl, by decide, Or.inl (tw_552)⟩
theorem x_M_number_9 : kt_dc i_M_number 9 (.iload_n 1) 1 10 := ⟨by decide +kernel, rfl⟩
theorem x_M_number_10 : kt_dc i_M_number 10 (.iconst 0) 1 11 ∧ Int32.ofInt (0) = nI 0 := ⟨⟨by decide +kernel, rfl⟩, by decide⟩
theorem x_M_number_11 : kt_dc i_M_number 11 (.iastore) 1 12 := ⟨by decide +kernel, rfl⟩
theorem x_M_number_12 : kt_dc i_M_number 12 (.aload_n 0) 1 13 := ⟨by decide +kernel, rfl⟩
theorem x_M_number_13 : kt_dc i_M_number 13 (.bipush 48) 2 15 ∧ (Int8.ofInt (48)).toInt32 = nI 48 := ⟨⟨by decide +kernel, rfl⟩, by decide⟩
theorem x_M_number_15 : kt_dc i_M_number 15 (.bipush 57) 2 17 ∧ (Int8.ofInt (57)).toInt32 = nI 57 := ⟨⟨by decide +kernel, rfl⟩, by decide⟩
theorem x_M_number_17 : kt_sV i_M_number 17 i_M_isAt 5 2 20 := ⟨172, ⟨by decide +kernel, rfl⟩, Or.inl (tw_823), j_M_isAt, ⟨tw_825, tp_77⟩, ⟨TX5, 18, rfl⟩, by decide, rfl⟩
theorem c_M_number_17 {P : kt_P} {NM : Nat} {L : List (Option Value)} {rest : List Value} {N : Nat} {I : kt_I} {J : kt_J} {R : kt_R} {Q : Option Value → kt_I → kt_J → kt_R → Prop} {b : Nat} {x0 : Int32} {x1 : Int32} (hkd : kt_kd P N b = (5, 0)) (hrest : (rest.map fun v => v.category).sum ≤ 8) (kk : KW P i_M_isAt N 0 [some (.ref b), some (.int x0), some (.int x1)] [] N I J R (fun v I' J' R' => KW P i_M_number NM 20 L (kt_pu v rest) N I' J' R' Q)) : KW P i_M_number NM 17 L (.int x1 :: .int x0 :: .ref b :: rest) N I J R Q := kw_callV x_M_number_17 (As := [.int x0, .int x1]) rfl rfl (Nat.le_of_ble_eq_true rfl) hrest hkd (Nat.le_refl N) (fun h => h) kk
theorem x_M_number_20 : kt_dj i_M_number 20 (.ifCond .eq) 74 23 := ⟨54, by decide +kernel, by decide, rfl⟩
theorem x_M_number_23 : kt_dc i_M_number 23 (.aload_n 0) 1 24 := ⟨by decide +kernel, rfl⟩
theorem x_M_number_24 : kt_sG i_M_number 24 5 14 0 27 := ⟨169, RX5, TX5, 18, ⟨by decide +kernel, rfl⟩, rfl, by decide, rfl, by decide, Or.inl (tw_549)⟩
theorem x_M_number_27 : kt_dc i_M_number 27 (.iload_n 3) 1 28 := ⟨by decide +kernel, rfl⟩
theorem x_M_number_28 : kt_dc i_M_number 28 (.isub) 1 29 := ⟨by decide +kernel, rfl⟩
theorem x_M_number_29 : kt_dc i_M_number 29 (.iconst 2) 1 30 ∧ Int32.ofInt (2) = nI 2 := ⟨⟨by decide +kernel, rfl⟩, by decide⟩
theorem x_M_number_30 : kt_dj i_M_number 30 (.if_icmp .ge) 74 33 := ⟨44, by decide +kernel, by decide, rfl⟩
theorem x_M_number_33 : kt_dc i_M_number 33 (.aload_n 0) 1 34 := ⟨by decide +kernel, rfl⟩
theorem x_M_number_34 : kt_sG i_M_number 34 5 17 2 37 := ⟨41, RX5, TX5, 18, ⟨by decide +kernel, rfl⟩, rfl, by decide, rfl, by decide, Or.inl (tw_552)⟩
theorem x_M_number_37 : kt_dc i_M_number 37 (.iload_n 1) 1 38 := ⟨by decide +kernel, rfl⟩
theorem x_M_number_38 : kt_dc i_M_number 38 (.bipush 10) 2 40 ∧ (Int8.ofInt (10)).toInt32 = nI 10 := ⟨⟨by decide +kernel, rfl⟩, by decide⟩
theorem x_M_number_40 : kt_dc i_M_number 40 (.aload_n 0) 1 41 := ⟨by decide +kernel, rfl⟩
theorem x_M_number_41 : kt_sG i_M_number 41 5 17 2 44 := ⟨41, RX5, TX5, 18, ⟨by decide +kernel, rfl⟩, rfl, by decide, rfl, by decide, Or.inl (tw_552)⟩
theorem x_M_number_44 : kt_dc i_M_number 44 (.iload_n 1) 1 45 := ⟨by decide +kernel, rfl⟩
theorem x_M_number_45 : kt_dc i_M_number 45 (.iaload) 1 46 := ⟨by decide +kernel, rfl⟩
theorem x_M_number_46 : kt_dc i_M_number 46 (.imul) 1 47 := ⟨by decide +kernel, rfl⟩
theorem x_M_number_47 : kt_dc i_M_number 47 (.aload_n 0) 1 48 := ⟨by decide +kernel, rfl⟩
theorem x_M_number_48 : kt_sG i_M_number 48 5 6 2 51 := ⟨22, RX5, TX5, 18, ⟨by decide +kernel, rfl⟩, rfl, by decide, rfl, by decide, Or.inl (tw_541)⟩
theorem x_M_number_51 : kt_dc i_M_number 51 (.aload_n 0) 1 52 := ⟨by decide +kernel, rfl⟩
theorem x_M_number_52 : kt_sG i_M_number 52 5 14 0 55 := ⟨169, RX5, TX5, 18, ⟨by decide +kernel, rfl⟩, rfl, by decide, rfl, by decide, Or.inl (tw_549)⟩
theorem x_M_number_55 : kt_dc i_M_number 55 (.iaload) 1 56 := ⟨by decide +kernel, rfl⟩
theorem x_M_number_56 : kt_dc i_M_number 56 (.iadd) 1 57 := ⟨by decide +kernel, rfl⟩
theorem x_M_number_57 : kt_dc i_M_number 57 (.bipush 48) 2 59 ∧ (Int8.ofInt (48)).toInt32 = nI 48 := ⟨⟨by decide +kernel, rfl⟩, by decide⟩
theorem x_M_number_59 : kt_dc i_M_number 59 (.isub) 1 60 := ⟨by decide +kernel, rfl⟩
theorem x_M_number_60 : kt_dc i_M_number 60 (.iastore) 1 61 := ⟨by decide +kernel, rfl⟩
theorem x_M_number_61 : kt_dc i_M_number 61 (.aload_n 0) 1 62 := ⟨by decide +kernel, rfl⟩
theorem x_M_number_62 : kt_dc i_M_number 62 (.dup) 1 63 := ⟨by decide +kernel, rfl⟩
theorem x_M_number_63 : kt_sG i_M_number 63 5 14 0 66 := ⟨169, RX5, TX5, 18, ⟨by decide +kernel, rfl⟩, rfl, by decide, rfl, by decide, Or.inl (tw_549)⟩
theorem x_M_number_66 : kt_dc i_M_number 66 (.iconst 1) 1 67 ∧ Int32.ofInt (1) = nI 1 := ⟨⟨by decide +kernel, rfl⟩, by decide⟩
theorem x_M_number_67 : kt_dc i_M_number 67 (.iadd) 1 68 := ⟨by decide +kernel, rfl⟩
theorem x_M_number_68 : kt_sP i_M_number 68 5 14 0 71 := ⟨169, RX5, TX5, 18, tyX5 14, ⟨by decide +kernel, rfl⟩, rfl, by decide, rfl, by decide, by decide +kernel, rfl, Or.inl ⟨rfl, Or.inl (tw_549)⟩⟩
theorem x_M_number_71 : kt_dj i_M_number 71 .goto 12 74 := ⟨-59, by decide +kernel, by decide, rfl⟩
theorem x_M_number_74 : kt_dc i_M_number 74 (.aload_n 0) 1 75 := ⟨by decide +kernel, rfl⟩
theorem x_M_number_75 : kt_sG i_M_number 75 5 14 0 78 := ⟨169, RX5, TX5, 18, ⟨by decide +kernel, rfl⟩, rfl, by decide, rfl, by decide, Or.inl (tw_549)⟩
theorem x_M_number_78 : kt_dc i_M_number 78 (.iload_n 3) 1 79 := ⟨by decide +kernel, rfl⟩
theorem x_M_number_79 : kt_dj i_M_number 79 (.if_icmp .le) 95 82 := ⟨16, by decide +kernel, by decide, rfl⟩
theorem x_M_number_82 : kt_dc i_M_number 82 (.aload_n 0) 1 83 := ⟨by decide +kernel, rfl⟩
theorem x_M_number_83 : kt_dc i_M_number 83 (.iload_n 2) 1 84 := ⟨by decide +kernel, rfl⟩
theorem x_M_number_84 : kt_dc i_M_number 84 (.iload_n 2) 1 85 := ⟨by decide +kernel, rfl⟩
theorem x_M_number_85 : kt_sV i_M_number 85 i_M_isAt 5 2 88 := ⟨172, ⟨by decide +kernel, rfl⟩, Or.inl (tw_823), j_M_isAt, ⟨tw_825, tp_77⟩, ⟨TX5, 18, rfl⟩, by decide, rfl⟩
theorem c_M_number_85 {P : kt_P} {NM : Nat} {L : List (Option Value)} {rest : List Value} {N : Nat} {I : kt_I} {J : kt_J} {R : kt_R} {Q : Option Value → kt_I → kt_J → kt_R → Prop} {b : Nat} {x0 : Int32} {x1 : Int32} (hkd : kt_kd P N b = (5, 0)) (hrest : (rest.map fun v => v.category).sum ≤ 8) (kk : KW P i_M_isAt N 0 [some (.ref b), some (.int x0), some (.int x1)] [] N I J R (fun v I' J' R' => KW P i_M_number NM 88 L (kt_pu v rest) N I' J' R' Q)) : KW P i_M_number NM 85 L (.int x1 :: .int x0 :: .ref b :: rest) N I J R Q := kw_callV x_M_number_85 (As := [.int x0, .int x1]) rfl rfl (Nat.le_of_ble_eq_true rfl) hrest hkd (Nat.le_refl N) (fun h => h) kk
theorem x_M_number_88 : kt_dj i_M_number 88 (.ifCond .eq) 95 91 := ⟨7, by decide +kernel, by decide, rfl⟩
theorem x_M_number_91 : kt_dc i_M_number 91 (.iconst 1) 1 92 ∧ Int32.ofInt (1) = nI 1 := ⟨⟨by decide +kernel, rfl⟩, by decide⟩
theorem x_M_number_92 : kt_dj i_M_number 92 .goto 96 95 := ⟨4, by decide +kernel, by decide, rfl⟩
theorem x_M_number_95 : kt_dc i_M_number 95 (.iconst 0) 1 96 ∧ Int32.ofInt (0) = nI 0 := ⟨⟨by decide +kernel, rfl⟩, by decide⟩
theorem x_M_number_96 : kt_dc i_M_number 96 (.istore 4) 2 98 := ⟨by decide +kernel, rfl⟩
theorem x_M_number_98 : kt_dc i_M_number 98 (.aload_n 0) 1 99 := ⟨by decide +kernel, rfl⟩
theorem x_M_number_99 : kt_dc i_M_number 99 (.dup) 1 100 := ⟨by decide +kernel, rfl⟩
theorem x_M_number_100 : kt_sG i_M_number 100 5 14 0 103 := ⟨169, RX5, TX5, 18, ⟨by decide +kernel, rfl⟩, rfl, by decide, rfl, by decide, Or.inl (tw_549)⟩
theorem x_M_number_103 : kt_dc i_M_number 103 (.iconst 1) 1 104 ∧ Int32.ofInt (1) = nI 1 := ⟨⟨by decide +kernel, rfl⟩, by decide⟩
theorem x_M_number_104 : kt_dc i_M_number 104 (.iadd) 1 105 := ⟨by decide +kernel, rfl⟩
theorem x_M_number_105 : kt_sP i_M_number 105 5 14 0 108 := ⟨169, RX5, TX5, 18, tyX5 14, ⟨by decide +kernel, rfl⟩, rfl, by decide, rfl, by decide, by decide +kernel, rfl, Or.inl ⟨rfl, Or.inl (tw_549)⟩⟩
theorem x_M_number_108 : kt_dc i_M_number 108 (.iload 4) 2 110 := ⟨by decide +kernel, rfl⟩
theorem x_M_number_110 : kt_dc i_M_number 110 (.ireturn) 1 111 ∧ kt_rt i_M_number = (some .boolean) := ⟨⟨by decide +kernel, rfl⟩, rfl⟩
theorem x_M_isAt_0 : kt_dc i_M_isAt 0 (.aload_n 0) 1 1 := ⟨by decide +kernel, rfl⟩
theorem x_M_isAt_1 : kt_sG i_M_isAt 1 5 14 0 4 := ⟨169, RX5, TX5, 18, ⟨by decide +kernel, rfl⟩, rfl, by decide, rfl, by decide, Or.inl (tw_549)⟩
theorem x_M_isAt_4 : kt_dc i_M_isAt 4 (.aload_n 0) 1 5 := ⟨by decide +kernel, rfl⟩
theorem x_M_isAt_5 : kt_sG i_M_isAt 5 5 7 0 8 := ⟨153, RX5, TX5, 18, ⟨by decide +kernel, rfl⟩, rfl, by decide, rfl, by decide, Or.inl (tw_542)⟩
theorem x_M_isAt_8 : kt_dj i_M_isAt 8 (.if_icmp .ge) 32 11 := ⟨24, by decide +kernel, by decide, rfl⟩
theorem x_M_isAt_11 : kt_dc i_M_isAt 11 (.aload_n 0) 1 12 := ⟨by decide +kernel, rfl⟩
theorem x_M_isAt_12 : kt_sG i_M_isAt 12 5 6 2 15 := ⟨22, RX5, TX5, 18, ⟨by decide +kernel, rfl⟩, rfl, by decide, rfl, by decide, Or.inl (tw_541)⟩
theorem x_M_isAt_15 : kt_dc i_M_isAt 15 (.aload_n 0) 1 16 := ⟨by decide +kernel, rfl⟩
theorem x_M_isAt_16 : kt_sG i_M_isAt 16 5 14 0 19 := ⟨169, RX5, TX5, 18, ⟨by decide +kernel, rfl⟩, rfl, by decide, rfl, by decide, Or.inl (tw_549)⟩
theorem x_M_isAt_19 : kt_dc i_M_isAt 19 (.iaload) 1 20 := ⟨by decide +kernel, rfl⟩
theorem x_M_isAt_20 : kt_dc i_M_isAt 20 (.iload_n 1) 1 21 := ⟨by decide +kernel, rfl⟩
theorem x_M_isAt_21 : kt_dc i_M_isAt 21 (.iload_n 2) 1 22 := ⟨by decide +kernel, rfl⟩
theorem x_M_isAt_22 : kt_sS i_M_isAt 22 i_M_in 3 25 := ⟨107, ⟨by decide +kernel, rfl⟩, Or.inl (tw_651), j_M_in, tw_652, rfl⟩
theorem c_M_isAt_22 {P : kt_P} {NM : Nat} {L : List (Option Value)} {rest : List Value} {N : Nat} {I : kt_I} {J : kt_J} {R : kt_R} {Q : Option Value → kt_I → kt_J → kt_R → Prop} {x0 : Int32} {x1 : Int32} {x2 : Int32} (hrest : (rest.map fun v => v.category).sum ≤ 8) (kk : KW P i_M_in N 0 [some (.int x0), some (.int x1), some (.int x2)] [] N I J R (fun v I' J' R' => KW P i_M_isAt NM 25 L (kt_pu v rest) N I' J' R' Q)) : KW P i_M_isAt NM 22 L (.int x2 :: .int x1 :: .int x0 :: rest) N I J R Q := kw_callS x_M_isAt_22 (As := [.int x0, .int x1, .int x2]) rfl rfl (Nat.le_of_ble_eq_true rfl) hrest (Nat.le_refl N) (fun h => h) kk
theorem x_M_isAt_25 : kt_dj i_M_isAt 25 (.ifCond .eq) 32 28 := ⟨7, by decide +kernel, by decide, rfl⟩
theorem x_M_isAt_28 : kt_dc i_M_isAt 28 (.iconst 1) 1 29 ∧ Int32.ofInt (1) = nI 1 := ⟨⟨by decide +kernel, rfl⟩, by decide⟩
theorem x_M_isAt_29 : kt_dj i_M_isAt 29 .goto 33 32 := ⟨4, by decide +kernel, by decide, rfl⟩
theorem x_M_isAt_32 : kt_dc i_M_isAt 32 (.iconst 0) 1 33 ∧ Int32.ofInt (0) = nI 0 := ⟨⟨by decide +kernel, rfl⟩, by decide⟩
theorem x_M_isAt_33 : kt_dc i_M_isAt 33 (.ireturn) 1 34 ∧ kt_rt i_M_isAt = (some .boolean) := ⟨⟨by decide +kernel, rfl⟩, rfl⟩
theorem x_M_calls_0 : kt_dc i_M_calls 0 (.iload_n 1) 1 1 := ⟨by decide +kernel, rfl⟩
theorem x_M_calls_1 : kt_dt i_M_calls 1 99 [120, 68, 171, 171, 171, 154, 171, 171, 171, 171, 137, 171, 91] 171 := ⟨170, 111, #[119, 67, 170, 170, 170, 153, 170, 170, 170, 170, 136, 170, 90], 67, by decide +kernel, by decide, by decide, by decide⟩
theorem s_M_calls_1 {P : kt_P} {NM : Nat} {L : List (Option Value)} {st : List Value} {N : Nat} {I : kt_I} {J : kt_J} {R : kt_R} {Q : Option Value → kt_I → kt_J → kt_R → Prop} {x : Int32} (h0 : x = nI 99 → KW P i_M_calls NM 120 L st N I J R Q) (h1 : x = nI 100 → KW P i_M_calls NM 68 L st N I J R Q) (h2 : x = nI 101 → KW P i_M_calls NM 171 L st N I J R Q) (h3 : x = nI 102 → KW P i_M_calls NM 171 L st N I J R Q) (h4 : x = nI 103 → KW P i_M_calls NM 171 L st N I J R Q) (h5 : x = nI 104 → KW P i_M_calls NM 154 L st N I J R Q) (h6 : x = nI 105 → KW P i_M_calls NM 171 L st N I J R Q) (h7 : x = nI 106 → KW P i_M_calls NM 171 L st N I J R Q) (h8 : x = nI 107 → KW P i_M_calls NM 171 L st N I J R Q) (h9 : x = nI 108 → KW P i_M_calls NM 171 L st N I J R Q) (h10 : x = nI 109 → KW P i_M_calls NM 137 L st N I J R Q) (h11 : x = nI 110 → KW P i_M_calls NM 171 L st N I J R Q) (h12 : x = nI 111 → KW P i_M_calls NM 91 L st N I J R Q) (hd : ¬ x = nI 99 → ¬ x = nI 100 → ¬ x = nI 101 → ¬ x = nI 102 → ¬ x = nI 103 → ¬ x = nI 104 → ¬ x = nI 105 → ¬ x = nI 106 → ¬ x = nI 107 → ¬ x = nI 108 → ¬ x = nI 109 → ¬ x = nI 110 → ¬ x = nI 111 → KW P i_M_calls NM 171 L st N I J R Q) : KW P i_M_calls NM 1 L (.int x :: st) N I J R Q :=
  kw_tsw x_M_calls_1 (fun j t hj hx => by
    match j, hj, hx with
    | 0, hj, hx => cases hj; exact h0 (Int32.toInt_inj.mp (hx.trans (by decide)))
    | 1, hj, hx => cases hj; exact h1 (Int32.toInt_inj.mp (hx.trans (by decide)))
    | 2, hj, hx => cases hj; exact h2 (Int32.toInt_inj.mp (hx.trans (by decide)))
    | 3, hj, hx => cases hj; exact h3 (Int32.toInt_inj.mp (hx.trans (by decide)))
    | 4, hj, hx => cases hj; exact h4 (Int32.toInt_inj.mp (hx.trans (by decide)))
    | 5, hj, hx => cases hj; exact h5 (Int32.toInt_inj.mp (hx.trans (by decide)))
    | 6, hj, hx => cases hj; exact h6 (Int32.toInt_inj.mp (hx.trans (by decide)))
    | 7, hj, hx => cases hj; exact h7 (Int32.toInt_inj.mp (hx.trans (by decide)))
    | 8, hj, hx => cases hj; exact h8 (Int32.toInt_inj.mp (hx.trans (by decide)))
    | 9, hj, hx => cases hj; exact h9 (Int32.toInt_inj.mp (hx.trans (by decide)))
    | 10, hj, hx => cases hj; exact h10 (Int32.toInt_inj.mp (hx.trans (by decide)))
    | 11, hj, hx => cases hj; exact h11 (Int32.toInt_inj.mp (hx.trans (by decide)))
    | 12, hj, hx => cases hj; exact h12 (Int32.toInt_inj.mp (hx.trans (by decide)))
    | n + 13, hj, hx => simp at hj)
    (fun h => hd (fun e => by subst e; revert h; decide) (fun e => by subst e; revert h; decide) (fun e => by subst e; revert h; decide) (fun e => by subst e; revert h; decide) (fun e => by subst e; revert h; decide) (fun e => by subst e; revert h; decide) (fun e => by subst e; revert h; decide) (fun e => by subst e; revert h; decide) (fun e => by subst e; revert h; decide) (fun e => by subst e; revert h; decide) (fun e => by subst e; revert h; decide) (fun e => by subst e; revert h; decide) (fun e => by subst e; revert h; decide))
theorem x_M_calls_68 : kt_dc i_M_calls 68 (.aload_n 0) 1 69 := ⟨by decide +kernel, rfl⟩
theorem x_M_calls_69 : kt_dc i_M_calls 69 (.aload_n 0) 1 70 := ⟨by decide +kernel, rfl⟩
theorem x_M_calls_70 : kt_sG i_M_calls 70 5 17 2 73 := ⟨41, RX5, TX5, 18, ⟨by decide +kernel, rfl⟩, rfl, by decide, rfl, by decide, Or.inl (tw_552)⟩
theorem x_M_calls_73 : kt_dc i_M_calls 73 (.iconst 0) 1 74 ∧ Int32.ofInt (0) = nI 0 := ⟨⟨by decide +kernel, rfl⟩, by decide⟩
theorem x_M_calls_74 : kt_dc i_M_calls 74 (.iaload) 1 75 := ⟨by decide +kernel, rfl⟩
theorem x_M_calls_75 : kt_dc i_M_calls 75 (.aload_n 0) 1 76 := ⟨by decide +kernel, rfl⟩
theorem x_M_calls_76 : kt_sG i_M_calls 76 5 17 2 79 := ⟨41, RX5, TX5, 18, ⟨by decide +kernel, rfl⟩, rfl, by decide, rfl, by decide, Or.inl (tw_552)⟩
theorem x_M_calls_79 : kt_dc i_M_calls 79 (.iconst 1) 1 80 ∧ Int32.ofInt (1) = nI 1 := ⟨⟨by decide +kernel, rfl⟩, by decide⟩
theorem x_M_calls_80 : kt_dc i_M_calls 80 (.iaload) 1 81 := ⟨by decide +kernel, rfl⟩
theorem x_M_calls_81 : kt_dc i_M_calls 81 (.aload_n 0) 1 82 := ⟨by decide +kernel, rfl⟩
theorem x_M_calls_82 : kt_sG i_M_calls 82 5 17 2 85 := ⟨41, RX5, TX5, 18, ⟨by decide +kernel, rfl⟩, rfl, by decide, rfl, by decide, Or.inl (tw_552)⟩
theorem x_M_calls_85 : kt_dc i_M_calls 85 (.iconst 2) 1 86 ∧ Int32.ofInt (2) = nI 2 := ⟨⟨by decide +kernel, rfl⟩, by decide⟩
theorem x_M_calls_86 : kt_dc i_M_calls 86 (.iaload) 1 87 := ⟨by decide +kernel, rfl⟩
theorem x_M_calls_87 : kt_sV i_M_calls 87 i_M_deliver 5 3 90 := ⟨175, ⟨by decide +kernel, rfl⟩, Or.inl (tw_831), j_M_deliver, ⟨tw_644, tw_645⟩, ⟨TX5, 18, rfl⟩, by decide, rfl⟩
theorem c_M_calls_87 {P : kt_P} {NM : Nat} {L : List (Option Value)} {rest : List Value} {N : Nat} {I : kt_I} {J : kt_J} {R : kt_R} {Q : Option Value → kt_I → kt_J → kt_R → Prop} {b : Nat} {x0 : Int32} {x1 : Int32} {x2 : Int32} (hkd : kt_kd P N b = (5, 0)) (hrest : (rest.map fun v => v.category).sum ≤ 8) (kk : KW P i_M_deliver N 0 [some (.ref b), some (.int x0), some (.int x1), some (.int x2)] [] N I J R (fun v I' J' R' => KW P i_M_calls NM 90 L (kt_pu v rest) N I' J' R' Q)) : KW P i_M_calls NM 87 L (.int x2 :: .int x1 :: .int x0 :: .ref b :: rest) N I J R Q := kw_callV x_M_calls_87 (As := [.int x0, .int x1, .int x2]) rfl rfl (Nat.le_of_ble_eq_true rfl) hrest hkd (Nat.le_refl N) (fun h => h) kk
theorem x_M_calls_90 : kt_dc i_M_calls 90 (.ireturn) 1 91 ∧ kt_rt i_M_calls = (some .int) := ⟨⟨by decide +kernel, rfl⟩, rfl⟩
theorem x_M_calls_91 : kt_dc i_M_calls 91 (.aload_n 0) 1 92 := ⟨by decide +kernel, rfl⟩
theorem x_M_calls_92 : kt_dc i_M_calls 92 (.aload_n 0) 1 93 := ⟨by decide +kernel, rfl⟩
theorem x_M_calls_93 : kt_sG i_M_calls 93 5 17 2 96 := ⟨41, RX5, TX5, 18, ⟨by decide +kernel, rfl⟩, rfl, by decide, rfl, by decide, Or.inl (tw_552)⟩
theorem x_M_calls_96 : kt_dc i_M_calls 96 (.iconst 0) 1 97 ∧ Int32.ofInt (0) = nI 0 := ⟨⟨by decide +kernel, rfl⟩, by decide⟩
theorem x_M_calls_97 : kt_dc i_M_calls 97 (.iaload) 1 98 := ⟨by decide +kernel, rfl⟩
theorem x_M_calls_98 : kt_dc i_M_calls 98 (.aload_n 0) 1 99 := ⟨by decide +kernel, rfl⟩
theorem x_M_calls_99 : kt_sG i_M_calls 99 5 17 2 102 := ⟨41, RX5, TX5, 18, ⟨by decide +kernel, rfl⟩, rfl, by decide, rfl, by decide, Or.inl (tw_552)⟩
theorem x_M_calls_102 : kt_dc i_M_calls 102 (.iconst 1) 1 103 ∧ Int32.ofInt (1) = nI 1 := ⟨⟨by decide +kernel, rfl⟩, by decide⟩
theorem x_M_calls_103 : kt_dc i_M_calls 103 (.iaload) 1 104 := ⟨by decide +kernel, rfl⟩
theorem x_M_calls_104 : kt_dc i_M_calls 104 (.aload_n 0) 1 105 := ⟨by decide +kernel, rfl⟩
theorem x_M_calls_105 : kt_sG i_M_calls 105 5 17 2 108 := ⟨41, RX5, TX5, 18, ⟨by decide +kernel, rfl⟩, rfl, by decide, rfl, by decide, Or.inl (tw_552)⟩
theorem x_M_calls_108 : kt_dc i_M_calls 108 (.iconst 2) 1 109 ∧ Int32.ofInt (2) = nI 2 := ⟨⟨by decide +kernel, rfl⟩, by decide⟩
theorem x_M_calls_109 : kt_dc i_M_calls 109 (.iaload) 1 110 := ⟨by decide +kernel, rfl⟩
theorem x_M_calls_110 : kt_dc i_M_calls 110 (.aload_n 0) 1 111 := ⟨by decide +kernel, rfl⟩
theorem x_M_calls_111 : kt_sG i_M_calls 111 5 17 2 114 := ⟨41, RX5, TX5, 18, ⟨by decide +kernel, rfl⟩, rfl, by decide, rfl, by decide, Or.inl (tw_552)⟩
theorem x_M_calls_114 : kt_dc i_M_calls 114 (.iconst 3) 1 115 ∧ Int32.ofInt (3) = nI 3 := ⟨⟨by decide +kernel, rfl⟩, by decide⟩
theorem x_M_calls_115 : kt_dc i_M_calls 115 (.iaload) 1 116 := ⟨by decide +kernel, rfl⟩
theorem x_M_calls_116 : kt_sV i_M_calls 116 i_M_order 5 4 119 := ⟨179, ⟨by decide +kernel, rfl⟩, Or.inl (tw_832), j_M_order, ⟨tw_667, tw_668⟩, ⟨TX5, 18, rfl⟩, by decide, rfl⟩
theorem c_M_calls_116 {P : kt_P} {NM : Nat} {L : List (Option Value)} {rest : List Value} {N : Nat} {I : kt_I} {J : kt_J} {R : kt_R} {Q : Option Value → kt_I → kt_J → kt_R → Prop} {b : Nat} {x0 : Int32} {x1 : Int32} {x2 : Int32} {x3 : Int32} (hkd : kt_kd P N b = (5, 0)) (hrest : (rest.map fun v => v.category).sum ≤ 8) (kk : KW P i_M_order N 0 [some (.ref b), some (.int x0), some (.int x1), some (.int x2), some (.int x3)] [] N I J R (fun v I' J' R' => KW P i_M_calls NM 119 L (kt_pu v rest) N I' J' R' Q)) : KW P i_M_calls NM 116 L (.int x3 :: .int x2 :: .int x1 :: .int x0 :: .ref b :: rest) N I J R Q := kw_callV x_M_calls_116 (As := [.int x0, .int x1, .int x2, .int x3]) rfl rfl (Nat.le_of_ble_eq_true rfl) hrest hkd (Nat.le_refl N) (fun h => h) kk
theorem x_M_calls_119 : kt_dc i_M_calls 119 (.ireturn) 1 120 ∧ kt_rt i_M_calls = (some .int) := ⟨⟨by decide +kernel, rfl⟩, rfl⟩
theorem x_M_calls_120 : kt_dc i_M_calls 120 (.aload_n 0) 1 121 := ⟨by decide +kernel, rfl⟩
theorem x_M_calls_121 : kt_dc i_M_calls 121 (.aload_n 0) 1 122 := ⟨by decide +kernel, rfl⟩
theorem x_M_calls_122 : kt_sG i_M_calls 122 5 17 2 125 := ⟨41, RX5, TX5, 18, ⟨by decide +kernel, rfl⟩, rfl, by decide, rfl, by decide, Or.inl (tw_552)⟩
theorem x_M_calls_125 : kt_dc i_M_calls 125 (.iconst 0) 1 126 ∧ Int32.ofInt (0) = nI 0 := ⟨⟨by decide +kernel, rfl⟩, by decide⟩
theorem x_M_calls_126 : kt_dc i_M_calls 126 (.iaload) 1 127 := ⟨by decide +kernel, rfl⟩
theorem x_M_calls_127 : kt_dc i_M_calls 127 (.aload_n 0) 1 128 := ⟨by decide +kernel, rfl⟩
theorem x_M_calls_128 : kt_sG i_M_calls 128 5 17 2 131 := ⟨41, RX5, TX5, 18, ⟨by decide +kernel, rfl⟩, rfl, by decide, rfl, by decide, Or.inl (tw_552)⟩
theorem x_M_calls_131 : kt_dc i_M_calls 131 (.iconst 1) 1 132 ∧ Int32.ofInt (1) = nI 1 := ⟨⟨by decide +kernel, rfl⟩, by decide⟩
theorem x_M_calls_132 : kt_dc i_M_calls 132 (.iaload) 1 133 := ⟨by decide +kernel, rfl⟩
theorem x_M_calls_133 : kt_sV i_M_calls 133 i_M_cancel 5 2 136 := ⟨183, ⟨by decide +kernel, rfl⟩, Or.inl (tw_833), j_M_cancel, ⟨tw_671, tw_672⟩, ⟨TX5, 18, rfl⟩, by decide, rfl⟩
theorem c_M_calls_133 {P : kt_P} {NM : Nat} {L : List (Option Value)} {rest : List Value} {N : Nat} {I : kt_I} {J : kt_J} {R : kt_R} {Q : Option Value → kt_I → kt_J → kt_R → Prop} {b : Nat} {x0 : Int32} {x1 : Int32} (hkd : kt_kd P N b = (5, 0)) (hrest : (rest.map fun v => v.category).sum ≤ 8) (kk : KW P i_M_cancel N 0 [some (.ref b), some (.int x0), some (.int x1)] [] N I J R (fun v I' J' R' => KW P i_M_calls NM 136 L (kt_pu v rest) N I' J' R' Q)) : KW P i_M_calls NM 133 L (.int x1 :: .int x0 :: .ref b :: rest) N I J R Q := kw_callV x_M_calls_133 (As := [.int x0, .int x1]) rfl rfl (Nat.le_of_ble_eq_true rfl) hrest hkd (Nat.le_refl N) (fun h => h) kk
theorem x_M_calls_136 : kt_dc i_M_calls 136 (.ireturn) 1 137 ∧ kt_rt i_M_calls = (some .int) := ⟨⟨by decide +kernel, rfl⟩, rfl⟩
theorem x_M_calls_137 : kt_dc i_M_calls 137 (.aload_n 0) 1 138 := ⟨by decide +kernel, rfl⟩
theorem x_M_calls_138 : kt_dc i_M_calls 138 (.aload_n 0) 1 139 := ⟨by decide +kernel, rfl⟩
theorem x_M_calls_139 : kt_sG i_M_calls 139 5 17 2 142 := ⟨41, RX5, TX5, 18, ⟨by decide +kernel, rfl⟩, rfl, by decide, rfl, by decide, Or.inl (tw_552)⟩
theorem x_M_calls_142 : kt_dc i_M_calls 142 (.iconst 0) 1 143 ∧ Int32.ofInt (0) = nI 0 := ⟨⟨by decide +kernel, rfl⟩, by decide⟩
theorem x_M_calls_143 : kt_dc i_M_calls 143 (.iaload) 1 144 := ⟨by decide +kernel, rfl⟩
theorem x_M_calls_144 : kt_dc i_M_calls 144 (.aload_n 0) 1 145 := ⟨by decide +kernel, rfl⟩
theorem x_M_calls_145 : kt_sG i_M_calls 145 5 17 2 148 := ⟨41, RX5, TX5, 18, ⟨by decide +kernel, rfl⟩, rfl, by decide, rfl, by decide, Or.inl (tw_552)⟩
theorem x_M_calls_148 : kt_dc i_M_calls 148 (.iconst 1) 1 149 ∧ Int32.ofInt (1) = nI 1 := ⟨⟨by decide +kernel, rfl⟩, by decide⟩
theorem x_M_calls_149 : kt_dc i_M_calls 149 (.iaload) 1 150 := ⟨by decide +kernel, rfl⟩
theorem x_M_calls_150 : kt_sV i_M_calls 150 i_M_meet 5 2 153 := ⟨186, ⟨by decide +kernel, rfl⟩, Or.inl (tw_834), j_M_meet, ⟨tw_679, tw_680⟩, ⟨TX5, 18, rfl⟩, by decide, rfl⟩
theorem c_M_calls_150 {P : kt_P} {NM : Nat} {L : List (Option Value)} {rest : List Value} {N : Nat} {I : kt_I} {J : kt_J} {R : kt_R} {Q : Option Value → kt_I → kt_J → kt_R → Prop} {b : Nat} {x0 : Int32} {x1 : Int32} (hkd : kt_kd P N b = (5, 0)) (hrest : (rest.map fun v => v.category).sum ≤ 8) (kk : KW P i_M_meet N 0 [some (.ref b), some (.int x0), some (.int x1), none] [] N I J R (fun v I' J' R' => KW P i_M_calls NM 153 L (kt_pu v rest) N I' J' R' Q)) : KW P i_M_calls NM 150 L (.int x1 :: .int x0 :: .ref b :: rest) N I J R Q := kw_callV x_M_calls_150 (As := [.int x0, .int x1]) rfl rfl (Nat.le_of_ble_eq_true rfl) hrest hkd (Nat.le_refl N) (fun h => h) kk
theorem x_M_calls_153 : kt_dc i_M_calls 153 (.ireturn) 1 154 ∧ kt_rt i_M_calls = (some .int) := ⟨⟨by decide +kernel, rfl⟩, rfl⟩
theorem x_M_calls_154 : kt_dc i_M_calls 154 (.aload_n 0) 1 155 := ⟨by decide +kernel, rfl⟩
theorem x_M_calls_155 : kt_dc i_M_calls 155 (.aload_n 0) 1 156 := ⟨by decide +kernel, rfl⟩
theorem x_M_calls_156 : kt_sG i_M_calls 156 5 17 2 159 := ⟨41, RX5, TX5, 18, ⟨by decide +kernel, rfl⟩, rfl, by decide, rfl, by decide, Or.inl (tw_552)⟩
theorem x_M_calls_159 : kt_dc i_M_calls 159 (.iconst 0) 1 160 ∧ Int32.ofInt (0) = nI 0 := ⟨⟨by decide +kernel, rfl⟩, by decide⟩
theorem x_M_calls_160 : kt_dc i_M_calls 160 (.iaload) 1 161 := ⟨by decide +kernel, rfl⟩
theorem x_M_calls_161 : kt_dc i_M_calls 161 (.aload_n 0) 1 162 := ⟨by decide +kernel, rfl⟩
theorem x_M_calls_162 : kt_sG i_M_calls 162 5 17 2 165 := ⟨41, RX5, TX5, 18, ⟨by decide +kernel, rfl⟩, rfl, by decide, rfl, by decide, Or.inl (tw_552)⟩
theorem x_M_calls_165 : kt_dc i_M_calls 165 (.iconst 1) 1 166 ∧ Int32.ofInt (1) = nI 1 := ⟨⟨by decide +kernel, rfl⟩, by decide⟩
theorem x_M_calls_166 : kt_dc i_M_calls 166 (.iaload) 1 167 := ⟨by decide +kernel, rfl⟩
theorem x_M_calls_167 : kt_sV i_M_calls 167 i_M_hear 5 2 170 := ⟨189, ⟨by decide +kernel, rfl⟩, Or.inl (tw_835), j_M_hear, ⟨tw_687, tw_688⟩, ⟨TX5, 18, rfl⟩, by decide, rfl⟩
theorem c_M_calls_167 {P : kt_P} {NM : Nat} {L : List (Option Value)} {rest : List Value} {N : Nat} {I : kt_I} {J : kt_J} {R : kt_R} {Q : Option Value → kt_I → kt_J → kt_R → Prop} {b : Nat} {x0 : Int32} {x1 : Int32} (hkd : kt_kd P N b = (5, 0)) (hrest : (rest.map fun v => v.category).sum ≤ 8) (kk : KW P i_M_hear N 0 [some (.ref b), some (.int x0), some (.int x1), none] [] N I J R (fun v I' J' R' => KW P i_M_calls NM 170 L (kt_pu v rest) N I' J' R' Q)) : KW P i_M_calls NM 167 L (.int x1 :: .int x0 :: .ref b :: rest) N I J R Q := kw_callV x_M_calls_167 (As := [.int x0, .int x1]) rfl rfl (Nat.le_of_ble_eq_true rfl) hrest hkd (Nat.le_refl N) (fun h => h) kk
theorem x_M_calls_170 : kt_dc i_M_calls 170 (.ireturn) 1 171 ∧ kt_rt i_M_calls = (some .int) := ⟨⟨by decide +kernel, rfl⟩, rfl⟩
theorem x_M_calls_171 : kt_dc i_M_calls 171 (.aload_n 0) 1 172 := ⟨by decide +kernel, rfl⟩
theorem x_M_calls_172 : kt_dc i_M_calls 172 (.aload_n 0) 1 173 := ⟨by decide +kernel, rfl⟩
theorem x_M_calls_173 : kt_sG i_M_calls 173 5 17 2 176 := ⟨41, RX5, TX5, 18, ⟨by decide +kernel, rfl⟩, rfl, by decide, rfl, by decide, Or.inl (tw_552)⟩
theorem x_M_calls_176 : kt_dc i_M_calls 176 (.iconst 0) 1 177 ∧ Int32.ofInt (0) = nI 0 := ⟨⟨by decide +kernel, rfl⟩, by decide⟩
theorem x_M_calls_177 : kt_dc i_M_calls 177 (.iaload) 1 178 := ⟨by decide +kernel, rfl⟩
theorem x_M_calls_178 : kt_sV i_M_calls 178 i_M_rule 5 1 181 := ⟨192, ⟨by decide +kernel, rfl⟩, Or.inl (tw_836), j_M_rule, ⟨tw_691, tw_692⟩, ⟨TX5, 18, rfl⟩, by decide, rfl⟩
theorem c_M_calls_178 {P : kt_P} {NM : Nat} {L : List (Option Value)} {rest : List Value} {N : Nat} {I : kt_I} {J : kt_J} {R : kt_R} {Q : Option Value → kt_I → kt_J → kt_R → Prop} {b : Nat} {x0 : Int32} (hkd : kt_kd P N b = (5, 0)) (hrest : (rest.map fun v => v.category).sum ≤ 8) (kk : KW P i_M_rule N 0 [some (.ref b), some (.int x0), none] [] N I J R (fun v I' J' R' => KW P i_M_calls NM 181 L (kt_pu v rest) N I' J' R' Q)) : KW P i_M_calls NM 178 L (.int x0 :: .ref b :: rest) N I J R Q := kw_callV x_M_calls_178 (As := [.int x0]) rfl rfl (Nat.le_of_ble_eq_true rfl) hrest hkd (Nat.le_refl N) (fun h => h) kk
theorem x_M_calls_181 : kt_dc i_M_calls 181 (.ireturn) 1 182 ∧ kt_rt i_M_calls = (some .int) := ⟨⟨by decide +kernel, rfl⟩, rfl⟩
theorem x_M_play_0 : kt_dc i_M_play 0 (.aload_n 0) 1 1 := ⟨by decide +kernel, rfl⟩
theorem x_M_play_1 : kt_sG i_M_play 1 5 0 2 4 := ⟨7, RX5, TX5, 18, ⟨by decide +kernel, rfl⟩, rfl, by decide, rfl, by decide, Or.inl (tw_535)⟩
theorem x_M_play_4 : kt_dc i_M_play 4 (.aload_n 0) 1 5 := ⟨by decide +kernel, rfl⟩
theorem x_M_play_5 : kt_sG i_M_play 5 5 2 2 8 := ⟨16, RX5, TX5, 18, ⟨by decide +kernel, rfl⟩, rfl, by decide, rfl, by decide, Or.inl (tw_537)⟩
theorem x_M_play_8 : kt_sS i_M_play 8 i_M_copies 2 11 := ⟨156, ⟨by decide +kernel, rfl⟩, Or.inl (tw_769), j_M_copies, tw_770, rfl⟩
theorem c_M_play_8 {P : kt_P} {NM : Nat} {L : List (Option Value)} {rest : List Value} {N : Nat} {I : kt_I} {J : kt_J} {R : kt_R} {Q : Option Value → kt_I → kt_J → kt_R → Prop} {x0 : Nat} {x1 : Nat} (hrest : (rest.map fun v => v.category).sum ≤ 8) (kk : KW P i_M_copies N 0 [some (.ref x0), some (.ref x1), none] [] N I J R (fun v I' J' R' => KW P i_M_play NM 11 L (kt_pu v rest) N I' J' R' Q)) : KW P i_M_play NM 8 L (.ref x1 :: .ref x0 :: rest) N I J R Q := kw_callS x_M_play_8 (As := [.ref x0, .ref x1]) rfl rfl (Nat.le_of_ble_eq_true rfl) hrest (Nat.le_refl N) (fun h => h) kk
theorem x_M_play_11 : kt_dc i_M_play 11 (.aload_n 0) 1 12 := ⟨by decide +kernel, rfl⟩
theorem x_M_play_12 : kt_sV i_M_play 12 i_M_plays 5 0 15 := ⟨210, ⟨by decide +kernel, rfl⟩, Or.inl (tw_812), j_M_plays, ⟨tw_814, tp_75⟩, ⟨TX5, 18, rfl⟩, by decide, rfl⟩
theorem c_M_play_12 {P : kt_P} {NM : Nat} {L : List (Option Value)} {rest : List Value} {N : Nat} {I : kt_I} {J : kt_J} {R : kt_R} {Q : Option Value → kt_I → kt_J → kt_R → Prop} {b : Nat} (hkd : kt_kd P N b = (5, 0)) (hrest : (rest.map fun v => v.category).sum ≤ 8) (kk : KW P i_M_plays N 0 [some (.ref b), none, none, none, none, none] [] N I J R (fun v I' J' R' => KW P i_M_play NM 15 L (kt_pu v rest) N I' J' R' Q)) : KW P i_M_play NM 12 L (.ref b :: rest) N I J R Q := kw_callV x_M_play_12 (As := []) rfl rfl (Nat.le_of_ble_eq_true rfl) hrest hkd (Nat.le_refl N) (fun h => h) kk
theorem x_M_play_15 : kt_dc i_M_play 15 (.istore_n 1) 1 16 := ⟨by decide +kernel, rfl⟩
theorem x_M_play_16 : kt_dc i_M_play 16 (.aload_n 0) 1 17 := ⟨by decide +kernel, rfl⟩
theorem x_M_play_17 : kt_sG i_M_play 17 5 2 2 20 := ⟨16, RX5, TX5, 18, ⟨by decide +kernel, rfl⟩, rfl, by decide, rfl, by decide, Or.inl (tw_537)⟩
theorem x_M_play_20 : kt_dc i_M_play 20 (.aload_n 0) 1 21 := ⟨by decide +kernel, rfl⟩
theorem x_M_play_21 : kt_sG i_M_play 21 5 0 2 24 := ⟨7, RX5, TX5, 18, ⟨by decide +kernel, rfl⟩, rfl, by decide, rfl, by decide, Or.inl (tw_535)⟩
theorem x_M_play_24 : kt_sS i_M_play 24 i_M_copies 2 27 := ⟨156, ⟨by decide +kernel, rfl⟩, Or.inl (tw_769), j_M_copies, tw_770, rfl⟩
theorem c_M_play_24 {P : kt_P} {NM : Nat} {L : List (Option Value)} {rest : List Value} {N : Nat} {I : kt_I} {J : kt_J} {R : kt_R} {Q : Option Value → kt_I → kt_J → kt_R → Prop} {x0 : Nat} {x1 : Nat} (hrest : (rest.map fun v => v.category).sum ≤ 8) (kk : KW P i_M_copies N 0 [some (.ref x0), some (.ref x1), none] [] N I J R (fun v I' J' R' => KW P i_M_play NM 27 L (kt_pu v rest) N I' J' R' Q)) : KW P i_M_play NM 24 L (.ref x1 :: .ref x0 :: rest) N I J R Q := kw_callS x_M_play_24 (As := [.ref x0, .ref x1]) rfl rfl (Nat.le_of_ble_eq_true rfl) hrest (Nat.le_refl N) (fun h => h) kk
theorem x_M_play_27 : kt_dc i_M_play 27 (.iload_n 1) 1 28 := ⟨by decide +kernel, rfl⟩
theorem x_M_play_28 : kt_dc i_M_play 28 (.bipush (-4)) 2 30 ∧ (Int8.ofInt (-4)).toInt32 = (-4 : Int32) := ⟨⟨by decide +kernel, rfl⟩, by decide⟩
theorem x_M_play_30 : kt_dj i_M_play 30 (.if_icmp .eq) 36 33 := ⟨6, by decide +kernel, by decide, rfl⟩
theorem x_M_play_33 : kt_dc i_M_play 33 (.bipush (-2)) 2 35 ∧ (Int8.ofInt (-2)).toInt32 = (-2 : Int32) := ⟨⟨by decide +kernel, rfl⟩, by decide⟩
theorem x_M_play_35 : kt_dc i_M_play 35 (.ireturn) 1 36 ∧ kt_rt i_M_play = (some .int) := ⟨⟨by decide +kernel, rfl⟩, rfl⟩
theorem x_M_play_36 : kt_dc i_M_play 36 (.aload_n 0) 1 37 := ⟨by decide +kernel, rfl⟩
theorem x_M_play_37 : kt_sV i_M_play 37 i_M_records 5 0 40 := ⟨90, ⟨by decide +kernel, rfl⟩, Or.inl (tw_599), j_M_records, ⟨tw_601, tp_46⟩, ⟨TX5, 18, rfl⟩, by decide, rfl⟩
theorem c_M_play_37 {P : kt_P} {NM : Nat} {L : List (Option Value)} {rest : List Value} {N : Nat} {I : kt_I} {J : kt_J} {R : kt_R} {Q : Option Value → kt_I → kt_J → kt_R → Prop} {b : Nat} (hkd : kt_kd P N b = (5, 0)) (hrest : (rest.map fun v => v.category).sum ≤ 8) (kk : KW P i_M_records N 0 [some (.ref b), none] [] N I J R (fun v I' J' R' => KW P i_M_play NM 40 L (kt_pu v rest) N I' J' R' Q)) : KW P i_M_play NM 37 L (.ref b :: rest) N I J R Q := kw_callV x_M_play_37 (As := []) rfl rfl (Nat.le_of_ble_eq_true rfl) hrest hkd (Nat.le_refl N) (fun h => h) kk
theorem x_M_play_40 : kt_dc i_M_play 40 (.aload_n 0) 1 41 := ⟨by decide +kernel, rfl⟩
theorem x_M_play_41 : kt_sV i_M_play 41 i_M_plays 5 0 44 := ⟨210, ⟨by decide +kernel, rfl⟩, Or.inl (tw_812), j_M_plays, ⟨tw_814, tp_75⟩, ⟨TX5, 18, rfl⟩, by decide, rfl⟩
theorem c_M_play_41 {P : kt_P} {NM : Nat} {L : List (Option Value)} {rest : List Value} {N : Nat} {I : kt_I} {J : kt_J} {R : kt_R} {Q : Option Value → kt_I → kt_J → kt_R → Prop} {b : Nat} (hkd : kt_kd P N b = (5, 0)) (hrest : (rest.map fun v => v.category).sum ≤ 8) (kk : KW P i_M_plays N 0 [some (.ref b), none, none, none, none, none] [] N I J R (fun v I' J' R' => KW P i_M_play NM 44 L (kt_pu v rest) N I' J' R' Q)) : KW P i_M_play NM 41 L (.ref b :: rest) N I J R Q := kw_callV x_M_play_41 (As := []) rfl rfl (Nat.le_of_ble_eq_true rfl) hrest hkd (Nat.le_refl N) (fun h => h) kk
theorem x_M_play_44 : kt_dc i_M_play 44 (.bipush (-4)) 2 46 ∧ (Int8.ofInt (-4)).toInt32 = (-4 : Int32) := ⟨⟨by decide +kernel, rfl⟩, by decide⟩
theorem x_M_play_46 : kt_dj i_M_play 46 (.if_icmp .ne) 56 49 := ⟨10, by decide +kernel, by decide, rfl⟩
theorem x_M_play_49 : kt_dc i_M_play 49 (.aload_n 0) 1 50 := ⟨by decide +kernel, rfl⟩
theorem x_M_play_50 : kt_sG i_M_play 50 5 16 0 53 := ⟨195, RX5, TX5, 18, ⟨by decide +kernel, rfl⟩, rfl, by decide, rfl, by decide, Or.inl (tw_551)⟩
theorem x_M_play_53 : kt_dj i_M_play 53 .goto 58 56 := ⟨5, by decide +kernel, by decide, rfl⟩
theorem x_M_play_56 : kt_dc i_M_play 56 (.bipush (-4)) 2 58 ∧ (Int8.ofInt (-4)).toInt32 = (-4 : Int32) := ⟨⟨by decide +kernel, rfl⟩, by decide⟩
theorem x_M_play_58 : kt_dc i_M_play 58 (.ireturn) 1 59 ∧ kt_rt i_M_play = (some .int) := ⟨⟨by decide +kernel, rfl⟩, rfl⟩
