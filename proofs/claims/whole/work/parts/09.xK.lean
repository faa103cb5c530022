theorem x_K_init_0 : kt_dc i_K_init 0 (.aload_n 0) 1 1 := ⟨by decide +kernel, rfl⟩
theorem x_K_init_1 : kt_dc i_K_init 1 (.invokespecial 3) 3 4 ∧ Cond.methodLink (kt_ow i_K_init) 3 Lib.objectInit ∈ kt_GW := ⟨⟨by decide +kernel, rfl⟩, tw_16⟩
theorem x_K_init_4 : kt_dc i_K_init 4 (.aload_n 0) 1 5 := ⟨by decide +kernel, rfl⟩
theorem x_K_init_5 : kt_dc i_K_init 5 (.iconst 4) 1 6 ∧ Int32.ofInt (4) = nI 4 := ⟨⟨by decide +kernel, rfl⟩, by decide⟩
theorem x_K_init_6 : kt_dc i_K_init 6 (.anewarray 9) 3 9 ∧ Cond.classLink (kt_ow i_K_init) 9 RX0 ∈ kt_GW := ⟨⟨by decide +kernel, rfl⟩, tw_19⟩
theorem x_K_init_9 : kt_sP i_K_init 9 4 2 2 12 := ⟨11, RX4, TX4, 5, tyX4 2, ⟨by decide +kernel, rfl⟩, rfl, by decide, rfl, by decide, by decide +kernel, rfl, Or.inr ⟨rfl, rfl, rfl, tw_184⟩⟩
theorem x_K_init_12 : kt_dc i_K_init 12 (.aload_n 0) 1 13 := ⟨by decide +kernel, rfl⟩
theorem x_K_init_13 : kt_dc i_K_init 13 (.new 15) 3 16 ∧ ∃ (C : String) (T : u_T) (Nf : Nat), vwCl[3]? = some (C, T, Nf) ∧ Cond.classLink (kt_ow i_K_init) 15 C ∈ kt_GW ∧ Cond.instantiable C Nf ∈ kt_GW ∧ Cond.initialized C ∈ kt_GW := ⟨⟨by decide +kernel, rfl⟩, RX3, TX3, 6, rfl, tw_21, tw_22, tw_2⟩
theorem x_K_init_16 : kt_dc i_K_init 16 (.dup) 1 17 := ⟨by decide +kernel, rfl⟩
theorem x_K_init_17 : kt_sI i_K_init 17 i_S_init 0 20 := ⟨17, ⟨by decide +kernel, rfl⟩, Or.inr ⟨"KinderTowns", tw_23⟩, j_S_init, tw_24, rfl, rfl, rfl⟩
theorem c_K_init_17 {P : kt_P} {NM : Nat} {L : List (Option Value)} {rest : List Value} {N : Nat} {I : kt_I} {J : kt_J} {R : kt_R} {Q : Option Value → kt_I → kt_J → kt_R → Prop} {b : Nat} {N' : Nat} (hN : N ≤ N' ∧ N' ≤ NM) (hrest : (rest.map fun v => v.category).sum ≤ 8) (kk : KW P i_S_init N' 0 [some (.ref b)] [] N I J R (fun v I' J' R' => KW P i_K_init NM 20 L (kt_pu v rest) N' I' J' R' Q)) : KW P i_K_init NM 17 L (.ref b :: rest) N I J R Q := kw_callI x_K_init_17 (As := []) rfl rfl (Nat.le_of_ble_eq_true rfl) hrest hN.1 (fun _ => hN.2) kk
theorem x_K_init_20 : kt_sP i_K_init 20 4 4 2 23 := ⟨18, RX4, TX4, 5, tyX4 4, ⟨by decide +kernel, rfl⟩, rfl, by decide, rfl, by decide, by decide +kernel, rfl, Or.inr ⟨rfl, rfl, rfl, tw_186⟩⟩
theorem x_K_init_23 : kt_dc i_K_init 23 (.aload_n 0) 1 24 := ⟨by decide +kernel, rfl⟩
theorem x_K_init_24 : kt_dc i_K_init 24 (.new 9) 3 27 ∧ ∃ (C : String) (T : u_T) (Nf : Nat), vwCl[0]? = some (C, T, Nf) ∧ Cond.classLink (kt_ow i_K_init) 9 C ∈ kt_GW ∧ Cond.instantiable C Nf ∈ kt_GW ∧ Cond.initialized C ∈ kt_GW := ⟨⟨by decide +kernel, rfl⟩, RX0, TX0, 11, rfl, tw_19, tw_52, tw_3⟩
theorem x_K_init_27 : kt_dc i_K_init 27 (.dup) 1 28 := ⟨by decide +kernel, rfl⟩
theorem x_K_init_28 : kt_sI i_K_init 28 i_C_init 0 31 := ⟨22, ⟨by decide +kernel, rfl⟩, Or.inr ⟨"KinderTowns", tw_53⟩, j_C_init, tw_54, rfl, rfl, rfl⟩
theorem c_K_init_28 {P : kt_P} {NM : Nat} {L : List (Option Value)} {rest : List Value} {N : Nat} {I : kt_I} {J : kt_J} {R : kt_R} {Q : Option Value → kt_I → kt_J → kt_R → Prop} {b : Nat} {N' : Nat} (hN : N ≤ N' ∧ N' ≤ NM) (hrest : (rest.map fun v => v.category).sum ≤ 8) (kk : KW P i_C_init N' 0 [some (.ref b)] [] N I J R (fun v I' J' R' => KW P i_K_init NM 31 L (kt_pu v rest) N' I' J' R' Q)) : KW P i_K_init NM 28 L (.ref b :: rest) N I J R Q := kw_callI x_K_init_28 (As := []) rfl rfl (Nat.le_of_ble_eq_true rfl) hrest hN.1 (fun _ => hN.2) kk
theorem x_K_init_31 : kt_sP i_K_init 31 4 0 2 34 := ⟨23, RX4, TX4, 5, tyX4 0, ⟨by decide +kernel, rfl⟩, rfl, by decide, rfl, by decide, by decide +kernel, rfl, Or.inl ⟨rfl, Or.inl (tw_182)⟩⟩
theorem x_K_init_34 : kt_dc i_K_init 34 (.aload_n 0) 1 35 := ⟨by decide +kernel, rfl⟩
theorem x_K_init_35 : kt_dc i_K_init 35 (.new 9) 3 38 ∧ ∃ (C : String) (T : u_T) (Nf : Nat), vwCl[0]? = some (C, T, Nf) ∧ Cond.classLink (kt_ow i_K_init) 9 C ∈ kt_GW ∧ Cond.instantiable C Nf ∈ kt_GW ∧ Cond.initialized C ∈ kt_GW := ⟨⟨by decide +kernel, rfl⟩, RX0, TX0, 11, rfl, tw_19, tw_52, tw_3⟩
theorem x_K_init_38 : kt_dc i_K_init 38 (.dup) 1 39 := ⟨by decide +kernel, rfl⟩
theorem x_K_init_39 : kt_sI i_K_init 39 i_C_init 0 42 := ⟨22, ⟨by decide +kernel, rfl⟩, Or.inr ⟨"KinderTowns", tw_53⟩, j_C_init, tw_54, rfl, rfl, rfl⟩
theorem c_K_init_39 {P : kt_P} {NM : Nat} {L : List (Option Value)} {rest : List Value} {N : Nat} {I : kt_I} {J : kt_J} {R : kt_R} {Q : Option Value → kt_I → kt_J → kt_R → Prop} {b : Nat} {N' : Nat} (hN : N ≤ N' ∧ N' ≤ NM) (hrest : (rest.map fun v => v.category).sum ≤ 8) (kk : KW P i_C_init N' 0 [some (.ref b)] [] N I J R (fun v I' J' R' => KW P i_K_init NM 42 L (kt_pu v rest) N' I' J' R' Q)) : KW P i_K_init NM 39 L (.ref b :: rest) N I J R Q := kw_callI x_K_init_39 (As := []) rfl rfl (Nat.le_of_ble_eq_true rfl) hrest hN.1 (fun _ => hN.2) kk
theorem x_K_init_42 : kt_sP i_K_init 42 4 1 2 45 := ⟨27, RX4, TX4, 5, tyX4 1, ⟨by decide +kernel, rfl⟩, rfl, by decide, rfl, by decide, by decide +kernel, rfl, Or.inl ⟨rfl, Or.inl (tw_183)⟩⟩
theorem x_K_init_45 : kt_dc i_K_init 45 (.iconst 0) 1 46 ∧ Int32.ofInt (0) = nI 0 := ⟨⟨by decide +kernel, rfl⟩, by decide⟩
theorem x_K_init_46 : kt_dc i_K_init 46 (.istore_n 1) 1 47 := ⟨by decide +kernel, rfl⟩
theorem x_K_init_47 : kt_dc i_K_init 47 (.iload_n 1) 1 48 := ⟨by decide +kernel, rfl⟩
theorem x_K_init_48 : kt_dc i_K_init 48 (.iconst 4) 1 49 ∧ Int32.ofInt (4) = nI 4 := ⟨⟨by decide +kernel, rfl⟩, by decide⟩
theorem x_K_init_49 : kt_dj i_K_init 49 (.if_icmp .ge) 71 52 := ⟨22, by decide +kernel, by decide, rfl⟩
theorem x_K_init_52 : kt_dc i_K_init 52 (.aload_n 0) 1 53 := ⟨by decide +kernel, rfl⟩
theorem x_K_init_53 : kt_sG i_K_init 53 4 2 2 56 := ⟨11, RX4, TX4, 5, ⟨by decide +kernel, rfl⟩, rfl, by decide, rfl, by decide, Or.inl (tw_184)⟩
theorem x_K_init_56 : kt_dc i_K_init 56 (.iload_n 1) 1 57 := ⟨by decide +kernel, rfl⟩
theorem x_K_init_57 : kt_dc i_K_init 57 (.new 9) 3 60 ∧ ∃ (C : String) (T : u_T) (Nf : Nat), vwCl[0]? = some (C, T, Nf) ∧ Cond.classLink (kt_ow i_K_init) 9 C ∈ kt_GW ∧ Cond.instantiable C Nf ∈ kt_GW ∧ Cond.initialized C ∈ kt_GW := ⟨⟨by decide +kernel, rfl⟩, RX0, TX0, 11, rfl, tw_19, tw_52, tw_3⟩
theorem x_K_init_60 : kt_dc i_K_init 60 (.dup) 1 61 := ⟨by decide +kernel, rfl⟩
theorem x_K_init_61 : kt_sI i_K_init 61 i_C_init 0 64 := ⟨22, ⟨by decide +kernel, rfl⟩, Or.inr ⟨"KinderTowns", tw_53⟩, j_C_init, tw_54, rfl, rfl, rfl⟩
theorem c_K_init_61 {P : kt_P} {NM : Nat} {L : List (Option Value)} {rest : List Value} {N : Nat} {I : kt_I} {J : kt_J} {R : kt_R} {Q : Option Value → kt_I → kt_J → kt_R → Prop} {b : Nat} {N' : Nat} (hN : N ≤ N' ∧ N' ≤ NM) (hrest : (rest.map fun v => v.category).sum ≤ 8) (kk : KW P i_C_init N' 0 [some (.ref b)] [] N I J R (fun v I' J' R' => KW P i_K_init NM 64 L (kt_pu v rest) N' I' J' R' Q)) : KW P i_K_init NM 61 L (.ref b :: rest) N I J R Q := kw_callI x_K_init_61 (As := []) rfl rfl (Nat.le_of_ble_eq_true rfl) hrest hN.1 (fun _ => hN.2) kk
theorem x_K_init_64 : kt_dc i_K_init 64 (.aastore) 1 65 := ⟨by decide +kernel, rfl⟩
theorem x_K_init_65 : kt_dc i_K_init 65 (.iinc 1 1) 3 68 ∧ Int32.ofInt (1) = nI 1 := ⟨⟨by decide +kernel, rfl⟩, by decide⟩
theorem x_K_init_68 : kt_dj i_K_init 68 .goto 47 71 := ⟨-21, by decide +kernel, by decide, rfl⟩
theorem x_K_init_71 : kt_dc i_K_init 71 (.return_) 1 72 ∧ kt_rt i_K_init = none := ⟨⟨by decide +kernel, rfl⟩, rfl⟩
theorem x_K_town_0 : kt_dc i_K_town 0 (.aload_n 0) 1 1 := ⟨by decide +kernel, rfl⟩
theorem x_K_town_1 : kt_sG i_K_town 1 4 1 2 4 := ⟨27, RX4, TX4, 5, ⟨by decide +kernel, rfl⟩, rfl, by decide, rfl, by decide, Or.inl (tw_183)⟩
theorem x_K_town_4 : kt_dc i_K_town 4 (.aload_n 0) 1 5 := ⟨by decide +kernel, rfl⟩
theorem x_K_town_5 : kt_sG i_K_town 5 4 0 2 8 := ⟨23, RX4, TX4, 5, ⟨by decide +kernel, rfl⟩, rfl, by decide, rfl, by decide, Or.inl (tw_182)⟩
theorem x_K_town_8 : kt_sV i_K_town 8 i_C_copyFrom 0 1 11 := ⟨30, ⟨by decide +kernel, rfl⟩, Or.inr ⟨"KinderTowns", tw_202⟩, j_C_copyFrom, ⟨tw_204, tp_0⟩, ⟨TX0, 11, rfl⟩, by decide, rfl⟩
theorem c_K_town_8 {P : kt_P} {NM : Nat} {L : List (Option Value)} {rest : List Value} {N : Nat} {I : kt_I} {J : kt_J} {R : kt_R} {Q : Option Value → kt_I → kt_J → kt_R → Prop} {b : Nat} {x0 : Nat} (hkd : kt_kd P N b = (0, 0)) (hrest : (rest.map fun v => v.category).sum ≤ 8) (kk : KW P i_C_copyFrom N 0 [some (.ref b), some (.ref x0)] [] N I J R (fun v I' J' R' => KW P i_K_town NM 11 L (kt_pu v rest) N I' J' R' Q)) : KW P i_K_town NM 8 L (.ref x0 :: .ref b :: rest) N I J R Q := kw_callV x_K_town_8 (As := [.ref x0]) rfl rfl (Nat.le_of_ble_eq_true rfl) hrest hkd (Nat.le_refl N) (fun h => h) kk
theorem x_K_town_11 : kt_dc i_K_town 11 (.aload_n 0) 1 12 := ⟨by decide +kernel, rfl⟩
theorem x_K_town_12 : kt_dc i_K_town 12 (.aload_n 0) 1 13 := ⟨by decide +kernel, rfl⟩
theorem x_K_town_13 : kt_sG i_K_town 13 4 0 2 16 := ⟨23, RX4, TX4, 5, ⟨by decide +kernel, rfl⟩, rfl, by decide, rfl, by decide, Or.inl (tw_182)⟩
theorem x_K_town_16 : kt_sV i_K_town 16 i_C_addTown 0 0 19 := ⟨34, ⟨by decide +kernel, rfl⟩, Or.inr ⟨"KinderTowns", tw_214⟩, j_C_addTown, ⟨tw_216, tp_2⟩, ⟨TX0, 11, rfl⟩, by decide, rfl⟩
theorem c_K_town_16 {P : kt_P} {NM : Nat} {L : List (Option Value)} {rest : List Value} {N : Nat} {I : kt_I} {J : kt_J} {R : kt_R} {Q : Option Value → kt_I → kt_J → kt_R → Prop} {b : Nat} (hkd : kt_kd P N b = (0, 0)) (hrest : (rest.map fun v => v.category).sum ≤ 8) (kk : KW P i_C_addTown N 0 [some (.ref b)] [] N I J R (fun v I' J' R' => KW P i_K_town NM 19 L (kt_pu v rest) N I' J' R' Q)) : KW P i_K_town NM 16 L (.ref b :: rest) N I J R Q := kw_callV x_K_town_16 (As := []) rfl rfl (Nat.le_of_ble_eq_true rfl) hrest hkd (Nat.le_refl N) (fun h => h) kk
theorem x_K_town_19 : kt_sV i_K_town 19 i_K_recorded 4 1 22 := ⟨38, ⟨by decide +kernel, rfl⟩, Or.inl (tw_221), j_K_recorded, ⟨tw_223, tp_3⟩, ⟨TX4, 5, rfl⟩, by decide, rfl⟩
theorem c_K_town_19 {P : kt_P} {NM : Nat} {L : List (Option Value)} {rest : List Value} {N : Nat} {I : kt_I} {J : kt_J} {R : kt_R} {Q : Option Value → kt_I → kt_J → kt_R → Prop} {b : Nat} {x0 : Int32} (hkd : kt_kd P N b = (4, 0)) (hrest : (rest.map fun v => v.category).sum ≤ 8) (kk : KW P i_K_recorded N 0 [some (.ref b), some (.int x0)] [] N I J R (fun v I' J' R' => KW P i_K_town NM 22 L (kt_pu v rest) N I' J' R' Q)) : KW P i_K_town NM 19 L (.int x0 :: .ref b :: rest) N I J R Q := kw_callV x_K_town_19 (As := [.int x0]) rfl rfl (Nat.le_of_ble_eq_true rfl) hrest hkd (Nat.le_refl N) (fun h => h) kk
theorem x_K_town_22 : kt_dc i_K_town 22 (.ireturn) 1 23 ∧ kt_rt i_K_town = (some .int) := ⟨⟨by decide +kernel, rfl⟩, rfl⟩
theorem x_K_isBelow_0 : kt_dc i_K_isBelow 0 (.iload_n 0) 1 1 := ⟨by decide +kernel, rfl⟩
theorem x_K_isBelow_1 : kt_dj i_K_isBelow 1 (.ifCond .lt) 13 4 := ⟨12, by decide +kernel, by decide, rfl⟩
theorem x_K_isBelow_4 : kt_dc i_K_isBelow 4 (.iload_n 0) 1 5 := ⟨by decide +kernel, rfl⟩
theorem x_K_isBelow_5 : kt_dc i_K_isBelow 5 (.iload_n 1) 1 6 := ⟨by decide +kernel, rfl⟩
theorem x_K_isBelow_6 : kt_dj i_K_isBelow 6 (.if_icmp .ge) 13 9 := ⟨7, by decide +kernel, by decide, rfl⟩
theorem x_K_isBelow_9 : kt_dc i_K_isBelow 9 (.iconst 1) 1 10 ∧ Int32.ofInt (1) = nI 1 := ⟨⟨by decide +kernel, rfl⟩, by decide⟩
theorem x_K_isBelow_10 : kt_dj i_K_isBelow 10 .goto 14 13 := ⟨4, by decide +kernel, by decide, rfl⟩
theorem x_K_isBelow_13 : kt_dc i_K_isBelow 13 (.iconst 0) 1 14 ∧ Int32.ofInt (0) = nI 0 := ⟨⟨by decide +kernel, rfl⟩, by decide⟩
theorem x_K_isBelow_14 : kt_dc i_K_isBelow 14 (.ireturn) 1 15 ∧ kt_rt i_K_isBelow = (some .boolean) := ⟨⟨by decide +kernel, rfl⟩, rfl⟩
theorem x_K_recorded_0 : kt_dc i_K_recorded 0 (.iload_n 1) 1 1 := ⟨by decide +kernel, rfl⟩
theorem x_K_recorded_1 : kt_dj i_K_recorded 1 (.ifCond .lt) 15 4 := ⟨14, by decide +kernel, by decide, rfl⟩
theorem x_K_recorded_4 : kt_dc i_K_recorded 4 (.aload_n 0) 1 5 := ⟨by decide +kernel, rfl⟩
theorem x_K_recorded_5 : kt_sG i_K_recorded 5 4 0 2 8 := ⟨23, RX4, TX4, 5, ⟨by decide +kernel, rfl⟩, rfl, by decide, rfl, by decide, Or.inl (tw_182)⟩
theorem x_K_recorded_8 : kt_sV i_K_recorded 8 i_C_thinkAnew 0 0 11 := ⟨191, ⟨by decide +kernel, rfl⟩, Or.inr ⟨"KinderTowns", tw_225⟩, j_C_thinkAnew, ⟨tw_227, tp_4⟩, ⟨TX0, 11, rfl⟩, by decide, rfl⟩
theorem c_K_recorded_8 {P : kt_P} {NM : Nat} {L : List (Option Value)} {rest : List Value} {N : Nat} {I : kt_I} {J : kt_J} {R : kt_R} {Q : Option Value → kt_I → kt_J → kt_R → Prop} {b : Nat} (hkd : kt_kd P N b = (0, 0)) (hrest : (rest.map fun v => v.category).sum ≤ 8) (kk : KW P i_C_thinkAnew N 0 [some (.ref b), none] [] N I J R (fun v I' J' R' => KW P i_K_recorded NM 11 L (kt_pu v rest) N I' J' R' Q)) : KW P i_K_recorded NM 8 L (.ref b :: rest) N I J R Q := kw_callV x_K_recorded_8 (As := []) rfl rfl (Nat.le_of_ble_eq_true rfl) hrest hkd (Nat.le_refl N) (fun h => h) kk
theorem x_K_recorded_11 : kt_dc i_K_recorded 11 (.aload_n 0) 1 12 := ⟨by decide +kernel, rfl⟩
theorem x_K_recorded_12 : kt_sV i_K_recorded 12 i_K_keepSpare 4 0 15 := ⟨232, ⟨by decide +kernel, rfl⟩, Or.inl (tw_270), j_K_keepSpare, ⟨tw_272, tp_13⟩, ⟨TX4, 5, rfl⟩, by decide, rfl⟩
theorem c_K_recorded_12 {P : kt_P} {NM : Nat} {L : List (Option Value)} {rest : List Value} {N : Nat} {I : kt_I} {J : kt_J} {R : kt_R} {Q : Option Value → kt_I → kt_J → kt_R → Prop} {b : Nat} (hkd : kt_kd P N b = (4, 0)) (hrest : (rest.map fun v => v.category).sum ≤ 8) (kk : KW P i_K_keepSpare N 0 [some (.ref b), none, none] [] N I J R (fun v I' J' R' => KW P i_K_recorded NM 15 L (kt_pu v rest) N I' J' R' Q)) : KW P i_K_recorded NM 12 L (.ref b :: rest) N I J R Q := kw_callV x_K_recorded_12 (As := []) rfl rfl (Nat.le_of_ble_eq_true rfl) hrest hkd (Nat.le_refl N) (fun h => h) kk
theorem x_K_recorded_15 : kt_dc i_K_recorded 15 (.iload_n 1) 1 16 := ⟨by decide +kernel, rfl⟩
theorem x_K_recorded_16 : kt_dc i_K_recorded 16 (.ireturn) 1 17 ∧ kt_rt i_K_recorded = (some .int) := ⟨⟨by decide +kernel, rfl⟩, rfl⟩
theorem x_K_has_0 : kt_dc i_K_has 0 (.lload_n 0) 1 1 := ⟨by decide +kernel, rfl⟩
theorem x_K_has_1 : kt_dc i_K_has 1 (.iload_n 2) 1 2 := ⟨by decide +kernel, rfl⟩
theorem x_K_has_2 : kt_dc i_K_has 2 (.lshr) 1 3 := ⟨by decide +kernel, rfl⟩
theorem x_K_has_3 : kt_dc i_K_has 3 (.lconst 1) 1 4 ∧ Int64.ofNat ((1 : Fin 2) : Nat) = (1 : Int64) := ⟨⟨by decide +kernel, rfl⟩, rfl⟩
theorem x_K_has_4 : kt_dc i_K_has 4 (.land) 1 5 := ⟨by decide +kernel, rfl⟩
theorem x_K_has_5 : kt_dc i_K_has 5 (.lconst 0) 1 6 ∧ Int64.ofNat ((0 : Fin 2) : Nat) = (0 : Int64) := ⟨⟨by decide +kernel, rfl⟩, rfl⟩
theorem x_K_has_6 : kt_dc i_K_has 6 (.lcmp) 1 7 := ⟨by decide +kernel, rfl⟩
theorem x_K_has_7 : kt_dj i_K_has 7 (.ifCond .eq) 14 10 := ⟨7, by decide +kernel, by decide, rfl⟩
theorem x_K_has_10 : kt_dc i_K_has 10 (.iconst 1) 1 11 ∧ Int32.ofInt (1) = nI 1 := ⟨⟨by decide +kernel, rfl⟩, by decide⟩
theorem x_K_has_11 : kt_dj i_K_has 11 .goto 15 14 := ⟨4, by decide +kernel, by decide, rfl⟩
theorem x_K_has_14 : kt_dc i_K_has 14 (.iconst 0) 1 15 ∧ Int32.ofInt (0) = nI 0 := ⟨⟨by decide +kernel, rfl⟩, by decide⟩
theorem x_K_has_15 : kt_dc i_K_has 15 (.ireturn) 1 16 ∧ kt_rt i_K_has = (some .boolean) := ⟨⟨by decide +kernel, rfl⟩, rfl⟩
theorem x_K_keepSpare_0 : kt_dc i_K_keepSpare 0 (.aload_n 0) 1 1 := ⟨by decide +kernel, rfl⟩
theorem x_K_keepSpare_1 : kt_sG i_K_keepSpare 1 4 3 0 4 := ⟨187, RX4, TX4, 5, ⟨by decide +kernel, rfl⟩, rfl, by decide, rfl, by decide, Or.inl (tw_185)⟩
theorem x_K_keepSpare_4 : kt_dc i_K_keepSpare 4 (.iconst 4) 1 5 ∧ Int32.ofInt (4) = nI 4 := ⟨⟨by decide +kernel, rfl⟩, by decide⟩
theorem x_K_keepSpare_5 : kt_sS i_K_keepSpare 5 i_K_isBelow 2 8 := ⟨73, ⟨by decide +kernel, rfl⟩, Or.inl (tw_274), j_K_isBelow, tw_219, rfl⟩
theorem c_K_keepSpare_5 {P : kt_P} {NM : Nat} {L : List (Option Value)} {rest : List Value} {N : Nat} {I : kt_I} {J : kt_J} {R : kt_R} {Q : Option Value → kt_I → kt_J → kt_R → Prop} {x0 : Int32} {x1 : Int32} (hrest : (rest.map fun v => v.category).sum ≤ 8) (kk : KW P i_K_isBelow N 0 [some (.int x0), some (.int x1)] [] N I J R (fun v I' J' R' => KW P i_K_keepSpare NM 8 L (kt_pu v rest) N I' J' R' Q)) : KW P i_K_keepSpare NM 5 L (.int x1 :: .int x0 :: rest) N I J R Q := kw_callS x_K_keepSpare_5 (As := [.int x0, .int x1]) rfl rfl (Nat.le_of_ble_eq_true rfl) hrest (Nat.le_refl N) (fun h => h) kk
theorem x_K_keepSpare_8 : kt_dj i_K_keepSpare 8 (.ifCond .eq) 50 11 := ⟨42, by decide +kernel, by decide, rfl⟩
theorem x_K_keepSpare_11 : kt_dc i_K_keepSpare 11 (.aload_n 0) 1 12 := ⟨by decide +kernel, rfl⟩
theorem x_K_keepSpare_12 : kt_sG i_K_keepSpare 12 4 2 2 15 := ⟨11, RX4, TX4, 5, ⟨by decide +kernel, rfl⟩, rfl, by decide, rfl, by decide, Or.inl (tw_184)⟩
theorem x_K_keepSpare_15 : kt_dc i_K_keepSpare 15 (.aload_n 0) 1 16 := ⟨by decide +kernel, rfl⟩
theorem x_K_keepSpare_16 : kt_sG i_K_keepSpare 16 4 3 0 19 := ⟨187, RX4, TX4, 5, ⟨by decide +kernel, rfl⟩, rfl, by decide, rfl, by decide, Or.inl (tw_185)⟩
theorem x_K_keepSpare_19 : kt_dc i_K_keepSpare 19 (.aaload) 1 20 := ⟨by decide +kernel, rfl⟩
theorem x_K_keepSpare_20 : kt_dc i_K_keepSpare 20 (.astore_n 1) 1 21 := ⟨by decide +kernel, rfl⟩
theorem x_K_keepSpare_21 : kt_dc i_K_keepSpare 21 (.aload_n 0) 1 22 := ⟨by decide +kernel, rfl⟩
theorem x_K_keepSpare_22 : kt_sG i_K_keepSpare 22 4 2 2 25 := ⟨11, RX4, TX4, 5, ⟨by decide +kernel, rfl⟩, rfl, by decide, rfl, by decide, Or.inl (tw_184)⟩
theorem x_K_keepSpare_25 : kt_dc i_K_keepSpare 25 (.aload_n 0) 1 26 := ⟨by decide +kernel, rfl⟩
theorem x_K_keepSpare_26 : kt_sG i_K_keepSpare 26 4 3 0 29 := ⟨187, RX4, TX4, 5, ⟨by decide +kernel, rfl⟩, rfl, by decide, rfl, by decide, Or.inl (tw_185)⟩
theorem x_K_keepSpare_29 : kt_dc i_K_keepSpare 29 (.aload_n 0) 1 30 := ⟨by decide +kernel, rfl⟩
theorem x_K_keepSpare_30 : kt_sG i_K_keepSpare 30 4 1 2 33 := ⟨27, RX4, TX4, 5, ⟨by decide +kernel, rfl⟩, rfl, by decide, rfl, by decide, Or.inl (tw_183)⟩
theorem x_K_keepSpare_33 : kt_dc i_K_keepSpare 33 (.aastore) 1 34 := ⟨by decide +kernel, rfl⟩
theorem x_K_keepSpare_34 : kt_dc i_K_keepSpare 34 (.aload_n 0) 1 35 := ⟨by decide +kernel, rfl⟩
theorem x_K_keepSpare_35 : kt_dc i_K_keepSpare 35 (.aload_n 1) 1 36 := ⟨by decide +kernel, rfl⟩
theorem x_K_keepSpare_36 : kt_sP i_K_keepSpare 36 4 1 2 39 := ⟨27, RX4, TX4, 5, tyX4 1, ⟨by decide +kernel, rfl⟩, rfl, by decide, rfl, by decide, by decide +kernel, rfl, Or.inl ⟨rfl, Or.inl (tw_183)⟩⟩
theorem x_K_keepSpare_39 : kt_dc i_K_keepSpare 39 (.aload_n 0) 1 40 := ⟨by decide +kernel, rfl⟩
theorem x_K_keepSpare_40 : kt_dc i_K_keepSpare 40 (.dup) 1 41 := ⟨by decide +kernel, rfl⟩
theorem x_K_keepSpare_41 : kt_sG i_K_keepSpare 41 4 3 0 44 := ⟨187, RX4, TX4, 5, ⟨by decide +kernel, rfl⟩, rfl, by decide, rfl, by decide, Or.inl (tw_185)⟩
theorem x_K_keepSpare_44 : kt_dc i_K_keepSpare 44 (.iconst 1) 1 45 ∧ Int32.ofInt (1) = nI 1 := ⟨⟨by decide +kernel, rfl⟩, by decide⟩
theorem x_K_keepSpare_45 : kt_dc i_K_keepSpare 45 (.iadd) 1 46 := ⟨by decide +kernel, rfl⟩
theorem x_K_keepSpare_46 : kt_sP i_K_keepSpare 46 4 3 0 49 := ⟨187, RX4, TX4, 5, tyX4 3, ⟨by decide +kernel, rfl⟩, rfl, by decide, rfl, by decide, by decide +kernel, rfl, Or.inl ⟨rfl, Or.inl (tw_185)⟩⟩
theorem x_K_keepSpare_49 : kt_dc i_K_keepSpare 49 (.return_) 1 50 ∧ kt_rt i_K_keepSpare = none := ⟨⟨by decide +kernel, rfl⟩, rfl⟩
theorem x_K_keepSpare_50 : kt_dc i_K_keepSpare 50 (.aload_n 0) 1 51 := ⟨by decide +kernel, rfl⟩
theorem x_K_keepSpare_51 : kt_sG i_K_keepSpare 51 4 2 2 54 := ⟨11, RX4, TX4, 5, ⟨by decide +kernel, rfl⟩, rfl, by decide, rfl, by decide, Or.inl (tw_184)⟩
theorem x_K_keepSpare_54 : kt_dc i_K_keepSpare 54 (.iconst 0) 1 55 ∧ Int32.ofInt (0) = nI 0 := ⟨⟨by decide +kernel, rfl⟩, by decide⟩
theorem x_K_keepSpare_55 : kt_dc i_K_keepSpare 55 (.aaload) 1 56 := ⟨by decide +kernel, rfl⟩
theorem x_K_keepSpare_56 : kt_dc i_K_keepSpare 56 (.astore_n 1) 1 57 := ⟨by decide +kernel, rfl⟩
theorem x_K_keepSpare_57 : kt_dc i_K_keepSpare 57 (.iconst 1) 1 58 ∧ Int32.ofInt (1) = nI 1 := ⟨⟨by decide +kernel, rfl⟩, by decide⟩
theorem x_K_keepSpare_58 : kt_dc i_K_keepSpare 58 (.istore_n 2) 1 59 := ⟨by decide +kernel, rfl⟩
theorem x_K_keepSpare_59 : kt_dc i_K_keepSpare 59 (.iload_n 2) 1 60 := ⟨by decide +kernel, rfl⟩
theorem x_K_keepSpare_60 : kt_dc i_K_keepSpare 60 (.iconst 4) 1 61 ∧ Int32.ofInt (4) = nI 4 := ⟨⟨by decide +kernel, rfl⟩, by decide⟩
theorem x_K_keepSpare_61 : kt_dj i_K_keepSpare 61 (.if_icmp .ge) 84 64 := ⟨23, by decide +kernel, by decide, rfl⟩
theorem x_K_keepSpare_64 : kt_dc i_K_keepSpare 64 (.aload_n 0) 1 65 := ⟨by decide +kernel, rfl⟩
theorem x_K_keepSpare_65 : kt_sG i_K_keepSpare 65 4 2 2 68 := ⟨11, RX4, TX4, 5, ⟨by decide +kernel, rfl⟩, rfl, by decide, rfl, by decide, Or.inl (tw_184)⟩
theorem x_K_keepSpare_68 : kt_dc i_K_keepSpare 68 (.iload_n 2) 1 69 := ⟨by decide +kernel, rfl⟩
theorem x_K_keepSpare_69 : kt_dc i_K_keepSpare 69 (.iconst 1) 1 70 ∧ Int32.ofInt (1) = nI 1 := ⟨⟨by decide +kernel, rfl⟩, by decide⟩
theorem x_K_keepSpare_70 : kt_dc i_K_keepSpare 70 (.isub) 1 71 := ⟨by decide +kernel, rfl⟩
theorem x_K_keepSpare_71 : kt_dc i_K_keepSpare 71 (.aload_n 0) 1 72 := ⟨by decide +kernel, rfl⟩
theorem x_K_keepSpare_72 : kt_sG i_K_keepSpare 72 4 2 2 75 := ⟨11, RX4, TX4, 5, ⟨by decide +kernel, rfl⟩, rfl, by decide, rfl, by decide, Or.inl (tw_184)⟩
theorem x_K_keepSpare_75 : kt_dc i_K_keepSpare 75 (.iload_n 2) 1 76 := ⟨by decide +kernel, rfl⟩
theorem x_K_keepSpare_76 : kt_dc i_K_keepSpare 76 (.aaload) 1 77 := ⟨by decide +kernel, rfl⟩
theorem x_K_keepSpare_77 : kt_dc i_K_keepSpare 77 (.aastore) 1 78 := ⟨by decide +kernel, rfl⟩
theorem x_K_keepSpare_78 : kt_dc i_K_keepSpare 78 (.iinc 2 1) 3 81 ∧ Int32.ofInt (1) = nI 1 := ⟨⟨by decide +kernel, rfl⟩, by decide⟩
theorem x_K_keepSpare_81 : kt_dj i_K_keepSpare 81 .goto 59 84 := ⟨-22, by decide +kernel, by decide, rfl⟩
theorem x_K_keepSpare_84 : kt_dc i_K_keepSpare 84 (.aload_n 0) 1 85 := ⟨by decide +kernel, rfl⟩
theorem x_K_keepSpare_85 : kt_sG i_K_keepSpare 85 4 2 2 88 := ⟨11, RX4, TX4, 5, ⟨by decide +kernel, rfl⟩, rfl, by decide, rfl, by decide, Or.inl (tw_184)⟩
theorem x_K_keepSpare_88 : kt_dc i_K_keepSpare 88 (.iconst 3) 1 89 ∧ Int32.ofInt (3) = nI 3 := ⟨⟨by decide +kernel, rfl⟩, by decide⟩
theorem x_K_keepSpare_89 : kt_dc i_K_keepSpare 89 (.aload_n 0) 1 90 := ⟨by decide +kernel, rfl⟩
theorem x_K_keepSpare_90 : kt_sG i_K_keepSpare 90 4 1 2 93 := ⟨27, RX4, TX4, 5, ⟨by decide +kernel, rfl⟩, rfl, by decide, rfl, by decide, Or.inl (tw_183)⟩
theorem x_K_keepSpare_93 : kt_dc i_K_keepSpare 93 (.aastore) 1 94 := ⟨by decide +kernel, rfl⟩
theorem x_K_keepSpare_94 : kt_dc i_K_keepSpare 94 (.aload_n 0) 1 95 := ⟨by decide +kernel, rfl⟩
theorem x_K_keepSpare_95 : kt_dc i_K_keepSpare 95 (.aload_n 1) 1 96 := ⟨by decide +kernel, rfl⟩
theorem x_K_keepSpare_96 : kt_sP i_K_keepSpare 96 4 1 2 99 := ⟨27, RX4, TX4, 5, tyX4 1, ⟨by decide +kernel, rfl⟩, rfl, by decide, rfl, by decide, by decide +kernel, rfl, Or.inl ⟨rfl, Or.inl (tw_183)⟩⟩
theorem x_K_keepSpare_99 : kt_dc i_K_keepSpare 99 (.return_) 1 100 ∧ kt_rt i_K_keepSpare = none := ⟨⟨by decide +kernel, rfl⟩, rfl⟩
theorem x_K_deliver_0 : kt_dc i_K_deliver 0 (.aload_n 0) 1 1 := ⟨by decide +kernel, rfl⟩
theorem x_K_deliver_1 : kt_sG i_K_deliver 1 4 1 2 4 := ⟨27, RX4, TX4, 5, ⟨by decide +kernel, rfl⟩, rfl, by decide, rfl, by decide, Or.inl (tw_183)⟩
theorem x_K_deliver_4 : kt_dc i_K_deliver 4 (.aload_n 0) 1 5 := ⟨by decide +kernel, rfl⟩
theorem x_K_deliver_5 : kt_sG i_K_deliver 5 4 0 2 8 := ⟨23, RX4, TX4, 5, ⟨by decide +kernel, rfl⟩, rfl, by decide, rfl, by decide, Or.inl (tw_182)⟩
theorem x_K_deliver_8 : kt_sV i_K_deliver 8 i_C_copyFrom 0 1 11 := ⟨30, ⟨by decide +kernel, rfl⟩, Or.inr ⟨"KinderTowns", tw_202⟩, j_C_copyFrom, ⟨tw_204, tp_0⟩, ⟨TX0, 11, rfl⟩, by decide, rfl⟩
theorem c_K_deliver_8 {P : kt_P} {NM : Nat} {L : List (Option Value)} {rest : List Value} {N : Nat} {I : kt_I} {J : kt_J} {R : kt_R} {Q : Option Value → kt_I → kt_J → kt_R → Prop} {b : Nat} {x0 : Nat} (hkd : kt_kd P N b = (0, 0)) (hrest : (rest.map fun v => v.category).sum ≤ 8) (kk : KW P i_C_copyFrom N 0 [some (.ref b), some (.ref x0)] [] N I J R (fun v I' J' R' => KW P i_K_deliver NM 11 L (kt_pu v rest) N I' J' R' Q)) : KW P i_K_deliver NM 8 L (.ref x0 :: .ref b :: rest) N I J R Q := kw_callV x_K_deliver_8 (As := [.ref x0]) rfl rfl (Nat.le_of_ble_eq_true rfl) hrest hkd (Nat.le_refl N) (fun h => h) kk
theorem x_K_deliver_11 : kt_dc i_K_deliver 11 (.aload_n 0) 1 12 := ⟨by decide +kernel, rfl⟩
theorem x_K_deliver_12 : kt_dc i_K_deliver 12 (.aload_n 0) 1 13 := ⟨by decide +kernel, rfl⟩
theorem x_K_deliver_13 : kt_sG i_K_deliver 13 4 0 2 16 := ⟨23, RX4, TX4, 5, ⟨by decide +kernel, rfl⟩, rfl, by decide, rfl, by decide, Or.inl (tw_182)⟩
theorem x_K_deliver_16 : kt_dc i_K_deliver 16 (.iload_n 1) 1 17 := ⟨by decide +kernel, rfl⟩
theorem x_K_deliver_17 : kt_dc i_K_deliver 17 (.iload_n 2) 1 18 := ⟨by decide +kernel, rfl⟩
theorem x_K_deliver_18 : kt_dc i_K_deliver 18 (.iload_n 3) 1 19 := ⟨by decide +kernel, rfl⟩
theorem x_K_deliver_19 : kt_sV i_K_deliver 19 i_C_makeDelivery 0 3 22 := ⟨42, ⟨by decide +kernel, rfl⟩, Or.inr ⟨"KinderTowns", tw_279⟩, j_C_makeDelivery, ⟨tw_281, tp_14⟩, ⟨TX0, 11, rfl⟩, by decide, rfl⟩
theorem c_K_deliver_19 {P : kt_P} {NM : Nat} {L : List (Option Value)} {rest : List Value} {N : Nat} {I : kt_I} {J : kt_J} {R : kt_R} {Q : Option Value → kt_I → kt_J → kt_R → Prop} {b : Nat} {x0 : Int32} {x1 : Int32} {x2 : Int32} (hkd : kt_kd P N b = (0, 0)) (hrest : (rest.map fun v => v.category).sum ≤ 8) (kk : KW P i_C_makeDelivery N 0 [some (.ref b), some (.int x0), some (.int x1), some (.int x2)] [] N I J R (fun v I' J' R' => KW P i_K_deliver NM 22 L (kt_pu v rest) N I' J' R' Q)) : KW P i_K_deliver NM 19 L (.int x2 :: .int x1 :: .int x0 :: .ref b :: rest) N I J R Q := kw_callV x_K_deliver_19 (As := [.int x0, .int x1, .int x2]) rfl rfl (Nat.le_of_ble_eq_true rfl) hrest hkd (Nat.le_refl N) (fun h => h) kk
theorem x_K_deliver_22 : kt_sV i_K_deliver 22 i_K_recorded 4 1 25 := ⟨38, ⟨by decide +kernel, rfl⟩, Or.inl (tw_221), j_K_recorded, ⟨tw_223, tp_3⟩, ⟨TX4, 5, rfl⟩, by decide, rfl⟩
theorem c_K_deliver_22 {P : kt_P} {NM : Nat} {L : List (Option Value)} {rest : List Value} {N : Nat} {I : kt_I} {J : kt_J} {R : kt_R} {Q : Option Value → kt_I → kt_J → kt_R → Prop} {b : Nat} {x0 : Int32} (hkd : kt_kd P N b = (4, 0)) (hrest : (rest.map fun v => v.category).sum ≤ 8) (kk : KW P i_K_recorded N 0 [some (.ref b), some (.int x0)] [] N I J R (fun v I' J' R' => KW P i_K_deliver NM 25 L (kt_pu v rest) N I' J' R' Q)) : KW P i_K_deliver NM 22 L (.int x0 :: .ref b :: rest) N I J R Q := kw_callV x_K_deliver_22 (As := [.int x0]) rfl rfl (Nat.le_of_ble_eq_true rfl) hrest hkd (Nat.le_refl N) (fun h => h) kk
theorem x_K_deliver_25 : kt_dc i_K_deliver 25 (.ireturn) 1 26 ∧ kt_rt i_K_deliver = (some .int) := ⟨⟨by decide +kernel, rfl⟩, rfl⟩
theorem x_K_order_0 : kt_dc i_K_order 0 (.aload_n 0) 1 1 := ⟨by decide +kernel, rfl⟩
theorem x_K_order_1 : kt_sG i_K_order 1 4 1 2 4 := ⟨27, RX4, TX4, 5, ⟨by decide +kernel, rfl⟩, rfl, by decide, rfl, by decide, Or.inl (tw_183)⟩
theorem x_K_order_4 : kt_dc i_K_order 4 (.aload_n 0) 1 5 := ⟨by decide +kernel, rfl⟩
theorem x_K_order_5 : kt_sG i_K_order 5 4 0 2 8 := ⟨23, RX4, TX4, 5, ⟨by decide +kernel, rfl⟩, rfl, by decide, rfl, by decide, Or.inl (tw_182)⟩
theorem x_K_order_8 : kt_sV i_K_order 8 i_C_copyFrom 0 1 11 := ⟨30, ⟨by decide +kernel, rfl⟩, Or.inr ⟨"KinderTowns", tw_202⟩, j_C_copyFrom, ⟨tw_204, tp_0⟩, ⟨TX0, 11, rfl⟩, by decide, rfl⟩
theorem c_K_order_8 {P : kt_P} {NM : Nat} {L : List (Option Value)} {rest : List Value} {N : Nat} {I : kt_I} {J : kt_J} {R : kt_R} {Q : Option Value → kt_I → kt_J → kt_R → Prop} {b : Nat} {x0 : Nat} (hkd : kt_kd P N b = (0, 0)) (hrest : (rest.map fun v => v.category).sum ≤ 8) (kk : KW P i_C_copyFrom N 0 [some (.ref b), some (.ref x0)] [] N I J R (fun v I' J' R' => KW P i_K_order NM 11 L (kt_pu v rest) N I' J' R' Q)) : KW P i_K_order NM 8 L (.ref x0 :: .ref b :: rest) N I J R Q := kw_callV x_K_order_8 (As := [.ref x0]) rfl rfl (Nat.le_of_ble_eq_true rfl) hrest hkd (Nat.le_refl N) (fun h => h) kk
theorem x_K_order_11 : kt_dc i_K_order 11 (.aload_n 0) 1 12 := ⟨by decide +kernel, rfl⟩
theorem x_K_order_12 : kt_dc i_K_order 12 (.aload_n 0) 1 13 := ⟨by decide +kernel, rfl⟩
theorem x_K_order_13 : kt_sG i_K_order 13 4 0 2 16 := ⟨23, RX4, TX4, 5, ⟨by decide +kernel, rfl⟩, rfl, by decide, rfl, by decide, Or.inl (tw_182)⟩
theorem x_K_order_16 : kt_dc i_K_order 16 (.iload_n 1) 1 17 := ⟨by decide +kernel, rfl⟩
theorem x_K_order_17 : kt_dc i_K_order 17 (.iload_n 2) 1 18 := ⟨by decide +kernel, rfl⟩
theorem x_K_order_18 : kt_dc i_K_order 18 (.iload_n 3) 1 19 := ⟨by decide +kernel, rfl⟩
theorem x_K_order_19 : kt_dc i_K_order 19 (.iload 4) 2 21 := ⟨by decide +kernel, rfl⟩
theorem x_K_order_21 : kt_sV i_K_order 21 i_C_makeOrder 0 4 24 := ⟨46, ⟨by decide +kernel, rfl⟩, Or.inr ⟨"KinderTowns", tw_300⟩, j_C_makeOrder, ⟨tw_302, tp_18⟩, ⟨TX0, 11, rfl⟩, by decide, rfl⟩
theorem c_K_order_21 {P : kt_P} {NM : Nat} {L : List (Option Value)} {rest : List Value} {N : Nat} {I : kt_I} {J : kt_J} {R : kt_R} {Q : Option Value → kt_I → kt_J → kt_R → Prop} {b : Nat} {x0 : Int32} {x1 : Int32} {x2 : Int32} {x3 : Int32} (hkd : kt_kd P N b = (0, 0)) (hrest : (rest.map fun v => v.category).sum ≤ 8) (kk : KW P i_C_makeOrder N 0 [some (.ref b), some (.int x0), some (.int x1), some (.int x2), some (.int x3), none] [] N I J R (fun v I' J' R' => KW P i_K_order NM 24 L (kt_pu v rest) N I' J' R' Q)) : KW P i_K_order NM 21 L (.int x3 :: .int x2 :: .int x1 :: .int x0 :: .ref b :: rest) N I J R Q := kw_callV x_K_order_21 (As := [.int x0, .int x1, .int x2, .int x3]) rfl rfl (Nat.le_of_ble_eq_true rfl) hrest hkd (Nat.le_refl N) (fun h => h) kk
theorem x_K_order_24 : kt_sV i_K_order 24 i_K_recorded 4 1 27 := ⟨38, ⟨by decide +kernel, rfl⟩, Or.inl (tw_221), j_K_recorded, ⟨tw_223, tp_3⟩, ⟨TX4, 5, rfl⟩, by decide, rfl⟩
theorem c_K_order_24 {P : kt_P} {NM : Nat} {L : List (Option Value)} {rest : List Value} {N : Nat} {I : kt_I} {J : kt_J} {R : kt_R} {Q : Option Value → kt_I → kt_J → kt_R → Prop} {b : Nat} {x0 : Int32} (hkd : kt_kd P N b = (4, 0)) (hrest : (rest.map fun v => v.category).sum ≤ 8) (kk : KW P i_K_recorded N 0 [some (.ref b), some (.int x0)] [] N I J R (fun v I' J' R' => KW P i_K_order NM 27 L (kt_pu v rest) N I' J' R' Q)) : KW P i_K_order NM 24 L (.int x0 :: .ref b :: rest) N I J R Q := kw_callV x_K_order_24 (As := [.int x0]) rfl rfl (Nat.le_of_ble_eq_true rfl) hrest hkd (Nat.le_refl N) (fun h => h) kk
theorem x_K_order_27 : kt_dc i_K_order 27 (.ireturn) 1 28 ∧ kt_rt i_K_order = (some .int) := ⟨⟨by decide +kernel, rfl⟩, rfl⟩
theorem x_K_cancel_0 : kt_dc i_K_cancel 0 (.aload_n 0) 1 1 := ⟨by decide +kernel, rfl⟩
theorem x_K_cancel_1 : kt_sG i_K_cancel 1 4 1 2 4 := ⟨27, RX4, TX4, 5, ⟨by decide +kernel, rfl⟩, rfl, by decide, rfl, by decide, Or.inl (tw_183)⟩
theorem x_K_cancel_4 : kt_dc i_K_cancel 4 (.aload_n 0) 1 5 := ⟨by decide +kernel, rfl⟩
theorem x_K_cancel_5 : kt_sG i_K_cancel 5 4 0 2 8 := ⟨23, RX4, TX4, 5, ⟨by decide +kernel, rfl⟩, rfl, by decide, rfl, by decide, Or.inl (tw_182)⟩
theorem x_K_cancel_8 : kt_sV i_K_cancel 8 i_C_copyFrom 0 1 11 := ⟨30, ⟨by decide +kernel, rfl⟩, Or.inr ⟨"KinderTowns", tw_202⟩, j_C_copyFrom, ⟨tw_204, tp_0⟩, ⟨TX0, 11, rfl⟩, by decide, rfl⟩
theorem c_K_cancel_8 {P : kt_P} {NM : Nat} {L : List (Option Value)} {rest : List Value} {N : Nat} {I : kt_I} {J : kt_J} {R : kt_R} {Q : Option Value → kt_I → kt_J → kt_R → Prop} {b : Nat} {x0 : Nat} (hkd : kt_kd P N b = (0, 0)) (hrest : (rest.map fun v => v.category).sum ≤ 8) (kk : KW P i_C_copyFrom N 0 [some (.ref b), some (.ref x0)] [] N I J R (fun v I' J' R' => KW P i_K_cancel NM 11 L (kt_pu v rest) N I' J' R' Q)) : KW P i_K_cancel NM 8 L (.ref x0 :: .ref b :: rest) N I J R Q := kw_callV x_K_cancel_8 (As := [.ref x0]) rfl rfl (Nat.le_of_ble_eq_true rfl) hrest hkd (Nat.le_refl N) (fun h => h) kk
theorem x_K_cancel_11 : kt_dc i_K_cancel 11 (.aload_n 0) 1 12 := ⟨by decide +kernel, rfl⟩
theorem x_K_cancel_12 : kt_dc i_K_cancel 12 (.aload_n 0) 1 13 := ⟨by decide +kernel, rfl⟩
theorem x_K_cancel_13 : kt_sG i_K_cancel 13 4 0 2 16 := ⟨23, RX4, TX4, 5, ⟨by decide +kernel, rfl⟩, rfl, by decide, rfl, by decide, Or.inl (tw_182)⟩
theorem x_K_cancel_16 : kt_dc i_K_cancel 16 (.iload_n 1) 1 17 := ⟨by decide +kernel, rfl⟩
theorem x_K_cancel_17 : kt_dc i_K_cancel 17 (.iload_n 2) 1 18 := ⟨by decide +kernel, rfl⟩
theorem x_K_cancel_18 : kt_sV i_K_cancel 18 i_C_makeCancellation 0 2 21 := ⟨50, ⟨by decide +kernel, rfl⟩, Or.inr ⟨"KinderTowns", tw_308⟩, j_C_makeCancellation, ⟨tw_310, tp_19⟩, ⟨TX0, 11, rfl⟩, by decide, rfl⟩
theorem c_K_cancel_18 {P : kt_P} {NM : Nat} {L : List (Option Value)} {rest : List Value} {N : Nat} {I : kt_I} {J : kt_J} {R : kt_R} {Q : Option Value → kt_I → kt_J → kt_R → Prop} {b : Nat} {x0 : Int32} {x1 : Int32} (hkd : kt_kd P N b = (0, 0)) (hrest : (rest.map fun v => v.category).sum ≤ 8) (kk : KW P i_C_makeCancellation N 0 [some (.ref b), some (.int x0), some (.int x1), none] [] N I J R (fun v I' J' R' => KW P i_K_cancel NM 21 L (kt_pu v rest) N I' J' R' Q)) : KW P i_K_cancel NM 18 L (.int x1 :: .int x0 :: .ref b :: rest) N I J R Q := kw_callV x_K_cancel_18 (As := [.int x0, .int x1]) rfl rfl (Nat.le_of_ble_eq_true rfl) hrest hkd (Nat.le_refl N) (fun h => h) kk
theorem x_K_cancel_21 : kt_sV i_K_cancel 21 i_K_recorded 4 1 24 := ⟨38, ⟨by decide +kernel, rfl⟩, Or.inl (tw_221), j_K_recorded, ⟨tw_223, tp_3⟩, ⟨TX4, 5, rfl⟩, by decide, rfl⟩
theorem c_K_cancel_21 {P : kt_P} {NM : Nat} {L : List (Option Value)} {rest : List Value} {N : Nat} {I : kt_I} {J : kt_J} {R : kt_R} {Q : Option Value → kt_I → kt_J → kt_R → Prop} {b : Nat} {x0 : Int32} (hkd : kt_kd P N b = (4, 0)) (hrest : (rest.map fun v => v.category).sum ≤ 8) (kk : KW P i_K_recorded N 0 [some (.ref b), some (.int x0)] [] N I J R (fun v I' J' R' => KW P i_K_cancel NM 24 L (kt_pu v rest) N I' J' R' Q)) : KW P i_K_cancel NM 21 L (.int x0 :: .ref b :: rest) N I J R Q := kw_callV x_K_cancel_21 (As := [.int x0]) rfl rfl (Nat.le_of_ble_eq_true rfl) hrest hkd (Nat.le_refl N) (fun h => h) kk
theorem x_K_cancel_24 : kt_dc i_K_cancel 24 (.ireturn) 1 25 ∧ kt_rt i_K_cancel = (some .int) := ⟨⟨by decide +kernel, rfl⟩, rfl⟩
theorem x_K_meet_0 : kt_dc i_K_meet 0 (.aload_n 0) 1 1 := ⟨by decide +kernel, rfl⟩
theorem x_K_meet_1 : kt_sG i_K_meet 1 4 1 2 4 := ⟨27, RX4, TX4, 5, ⟨by decide +kernel, rfl⟩, rfl, by decide, rfl, by decide, Or.inl (tw_183)⟩
theorem x_K_meet_4 : kt_dc i_K_meet 4 (.aload_n 0) 1 5 := ⟨by decide +kernel, rfl⟩
theorem x_K_meet_5 : kt_sG i_K_meet 5 4 0 2 8 := ⟨23, RX4, TX4, 5, ⟨by decide +kernel, rfl⟩, rfl, by decide, rfl, by decide, Or.inl (tw_182)⟩
theorem x_K_meet_8 : kt_sV i_K_meet 8 i_C_copyFrom 0 1 11 := ⟨30, ⟨by decide +kernel, rfl⟩, Or.inr ⟨"KinderTowns", tw_202⟩, j_C_copyFrom, ⟨tw_204, tp_0⟩, ⟨TX0, 11, rfl⟩, by decide, rfl⟩
theorem c_K_meet_8 {P : kt_P} {NM : Nat} {L : List (Option Value)} {rest : List Value} {N : Nat} {I : kt_I} {J : kt_J} {R : kt_R} {Q : Option Value → kt_I → kt_J → kt_R → Prop} {b : Nat} {x0 : Nat} (hkd : kt_kd P N b = (0, 0)) (hrest : (rest.map fun v => v.category).sum ≤ 8) (kk : KW P i_C_copyFrom N 0 [some (.ref b), some (.ref x0)] [] N I J R (fun v I' J' R' => KW P i_K_meet NM 11 L (kt_pu v rest) N I' J' R' Q)) : KW P i_K_meet NM 8 L (.ref x0 :: .ref b :: rest) N I J R Q := kw_callV x_K_meet_8 (As := [.ref x0]) rfl rfl (Nat.le_of_ble_eq_true rfl) hrest hkd (Nat.le_refl N) (fun h => h) kk
theorem x_K_meet_11 : kt_dc i_K_meet 11 (.aload_n 0) 1 12 := ⟨by decide +kernel, rfl⟩
theorem x_K_meet_12 : kt_dc i_K_meet 12 (.aload_n 0) 1 13 := ⟨by decide +kernel, rfl⟩
theorem x_K_meet_13 : kt_sG i_K_meet 13 4 0 2 16 := ⟨23, RX4, TX4, 5, ⟨by decide +kernel, rfl⟩, rfl, by decide, rfl, by decide, Or.inl (tw_182)⟩
theorem x_K_meet_16 : kt_dc i_K_meet 16 (.iload_n 1) 1 17 := ⟨by decide +kernel, rfl⟩
theorem x_K_meet_17 : kt_dc i_K_meet 17 (.iload_n 2) 1 18 := ⟨by decide +kernel, rfl⟩
theorem x_K_meet_18 : kt_sV i_K_meet 18 i_C_letMeet 0 2 21 := ⟨54, ⟨by decide +kernel, rfl⟩, Or.inr ⟨"KinderTowns", tw_322⟩, j_C_letMeet, ⟨tw_324, tp_21⟩, ⟨TX0, 11, rfl⟩, by decide, rfl⟩
theorem c_K_meet_18 {P : kt_P} {NM : Nat} {L : List (Option Value)} {rest : List Value} {N : Nat} {I : kt_I} {J : kt_J} {R : kt_R} {Q : Option Value → kt_I → kt_J → kt_R → Prop} {b : Nat} {x0 : Int32} {x1 : Int32} (hkd : kt_kd P N b = (0, 0)) (hrest : (rest.map fun v => v.category).sum ≤ 8) (kk : KW P i_C_letMeet N 0 [some (.ref b), some (.int x0), some (.int x1), none] [] N I J R (fun v I' J' R' => KW P i_K_meet NM 21 L (kt_pu v rest) N I' J' R' Q)) : KW P i_K_meet NM 18 L (.int x1 :: .int x0 :: .ref b :: rest) N I J R Q := kw_callV x_K_meet_18 (As := [.int x0, .int x1]) rfl rfl (Nat.le_of_ble_eq_true rfl) hrest hkd (Nat.le_refl N) (fun h => h) kk
theorem x_K_meet_21 : kt_sV i_K_meet 21 i_K_recorded 4 1 24 := ⟨38, ⟨by decide +kernel, rfl⟩, Or.inl (tw_221), j_K_recorded, ⟨tw_223, tp_3⟩, ⟨TX4, 5, rfl⟩, by decide, rfl⟩
theorem c_K_meet_21 {P : kt_P} {NM : Nat} {L : List (Option Value)} {rest : List Value} {N : Nat} {I : kt_I} {J : kt_J} {R : kt_R} {Q : Option Value → kt_I → kt_J → kt_R → Prop} {b : Nat} {x0 : Int32} (hkd : kt_kd P N b = (4, 0)) (hrest : (rest.map fun v => v.category).sum ≤ 8) (kk : KW P i_K_recorded N 0 [some (.ref b), some (.int x0)] [] N I J R (fun v I' J' R' => KW P i_K_meet NM 24 L (kt_pu v rest) N I' J' R' Q)) : KW P i_K_meet NM 21 L (.int x0 :: .ref b :: rest) N I J R Q := kw_callV x_K_meet_21 (As := [.int x0]) rfl rfl (Nat.le_of_ble_eq_true rfl) hrest hkd (Nat.le_refl N) (fun h => h) kk
theorem x_K_meet_24 : kt_dc i_K_meet 24 (.ireturn) 1 25 ∧ kt_rt i_K_meet = (some .int) := ⟨⟨by decide +kernel, rfl⟩, rfl⟩
theorem x_K_hear_0 : kt_dc i_K_hear 0 (.aload_n 0) 1 1 := ⟨by decide +kernel, rfl⟩
theorem x_K_hear_1 : kt_sG i_K_hear 1 4 1 2 4 := ⟨27, RX4, TX4, 5, ⟨by decide +kernel, rfl⟩, rfl, by decide, rfl, by decide, Or.inl (tw_183)⟩
theorem x_K_hear_4 : kt_dc i_K_hear 4 (.aload_n 0) 1 5 := ⟨by decide +kernel, rfl⟩
theorem x_K_hear_5 : kt_sG i_K_hear 5 4 0 2 8 := ⟨23, RX4, TX4, 5, ⟨by decide +kernel, rfl⟩, rfl, by decide, rfl, by decide, Or.inl (tw_182)⟩
theorem x_K_hear_8 : kt_sV i_K_hear 8 i_C_copyFrom 0 1 11 := ⟨30, ⟨by decide +kernel, rfl⟩, Or.inr ⟨"KinderTowns", tw_202⟩, j_C_copyFrom, ⟨tw_204, tp_0⟩, ⟨TX0, 11, rfl⟩, by decide, rfl⟩
theorem c_K_hear_8 {P : kt_P} {NM : Nat} {L : List (Option Value)} {rest : List Value} {N : Nat} {I : kt_I} {J : kt_J} {R : kt_R} {Q : Option Value → kt_I → kt_J → kt_R → Prop} {b : Nat} {x0 : Nat} (hkd : kt_kd P N b = (0, 0)) (hrest : (rest.map fun v => v.category).sum ≤ 8) (kk : KW P i_C_copyFrom N 0 [some (.ref b), some (.ref x0)] [] N I J R (fun v I' J' R' => KW P i_K_hear NM 11 L (kt_pu v rest) N I' J' R' Q)) : KW P i_K_hear NM 8 L (.ref x0 :: .ref b :: rest) N I J R Q := kw_callV x_K_hear_8 (As := [.ref x0]) rfl rfl (Nat.le_of_ble_eq_true rfl) hrest hkd (Nat.le_refl N) (fun h => h) kk
theorem x_K_hear_11 : kt_dc i_K_hear 11 (.aload_n 0) 1 12 := ⟨by decide +kernel, rfl⟩
theorem x_K_hear_12 : kt_dc i_K_hear 12 (.aload_n 0) 1 13 := ⟨by decide +kernel, rfl⟩
theorem x_K_hear_13 : kt_sG i_K_hear 13 4 0 2 16 := ⟨23, RX4, TX4, 5, ⟨by decide +kernel, rfl⟩, rfl, by decide, rfl, by decide, Or.inl (tw_182)⟩
theorem x_K_hear_16 : kt_dc i_K_hear 16 (.iload_n 1) 1 17 := ⟨by decide +kernel, rfl⟩
theorem x_K_hear_17 : kt_dc i_K_hear 17 (.iload_n 2) 1 18 := ⟨by decide +kernel, rfl⟩
theorem x_K_hear_18 : kt_sV i_K_hear 18 i_C_letHear 0 2 21 := ⟨57, ⟨by decide +kernel, rfl⟩, Or.inr ⟨"KinderTowns", tw_348⟩, j_C_letHear, ⟨tw_328, tp_22⟩, ⟨TX0, 11, rfl⟩, by decide, rfl⟩
theorem c_K_hear_18 {P : kt_P} {NM : Nat} {L : List (Option Value)} {rest : List Value} {N : Nat} {I : kt_I} {J : kt_J} {R : kt_R} {Q : Option Value → kt_I → kt_J → kt_R → Prop} {b : Nat} {x0 : Int32} {x1 : Int32} (hkd : kt_kd P N b = (0, 0)) (hrest : (rest.map fun v => v.category).sum ≤ 8) (kk : KW P i_C_letHear N 0 [some (.ref b), some (.int x0), some (.int x1), none] [] N I J R (fun v I' J' R' => KW P i_K_hear NM 21 L (kt_pu v rest) N I' J' R' Q)) : KW P i_K_hear NM 18 L (.int x1 :: .int x0 :: .ref b :: rest) N I J R Q := kw_callV x_K_hear_18 (As := [.int x0, .int x1]) rfl rfl (Nat.le_of_ble_eq_true rfl) hrest hkd (Nat.le_refl N) (fun h => h) kk
theorem x_K_hear_21 : kt_sV i_K_hear 21 i_K_recorded 4 1 24 := ⟨38, ⟨by decide +kernel, rfl⟩, Or.inl (tw_221), j_K_recorded, ⟨tw_223, tp_3⟩, ⟨TX4, 5, rfl⟩, by decide, rfl⟩
theorem c_K_hear_21 {P : kt_P} {NM : Nat} {L : List (Option Value)} {rest : List Value} {N : Nat} {I : kt_I} {J : kt_J} {R : kt_R} {Q : Option Value → kt_I → kt_J → kt_R → Prop} {b : Nat} {x0 : Int32} (hkd : kt_kd P N b = (4, 0)) (hrest : (rest.map fun v => v.category).sum ≤ 8) (kk : KW P i_K_recorded N 0 [some (.ref b), some (.int x0)] [] N I J R (fun v I' J' R' => KW P i_K_hear NM 24 L (kt_pu v rest) N I' J' R' Q)) : KW P i_K_hear NM 21 L (.int x0 :: .ref b :: rest) N I J R Q := kw_callV x_K_hear_21 (As := [.int x0]) rfl rfl (Nat.le_of_ble_eq_true rfl) hrest hkd (Nat.le_refl N) (fun h => h) kk
theorem x_K_hear_24 : kt_dc i_K_hear 24 (.ireturn) 1 25 ∧ kt_rt i_K_hear = (some .int) := ⟨⟨by decide +kernel, rfl⟩, rfl⟩
theorem x_K_rule_0 : kt_dc i_K_rule 0 (.aload_n 0) 1 1 := ⟨by decide +kernel, rfl⟩
theorem x_K_rule_1 : kt_sG i_K_rule 1 4 1 2 4 := ⟨27, RX4, TX4, 5, ⟨by decide +kernel, rfl⟩, rfl, by decide, rfl, by decide, Or.inl (tw_183)⟩
theorem x_K_rule_4 : kt_dc i_K_rule 4 (.aload_n 0) 1 5 := ⟨by decide +kernel, rfl⟩
theorem x_K_rule_5 : kt_sG i_K_rule 5 4 0 2 8 := ⟨23, RX4, TX4, 5, ⟨by decide +kernel, rfl⟩, rfl, by decide, rfl, by decide, Or.inl (tw_182)⟩
theorem x_K_rule_8 : kt_sV i_K_rule 8 i_C_copyFrom 0 1 11 := ⟨30, ⟨by decide +kernel, rfl⟩, Or.inr ⟨"KinderTowns", tw_202⟩, j_C_copyFrom, ⟨tw_204, tp_0⟩, ⟨TX0, 11, rfl⟩, by decide, rfl⟩
theorem c_K_rule_8 {P : kt_P} {NM : Nat} {L : List (Option Value)} {rest : List Value} {N : Nat} {I : kt_I} {J : kt_J} {R : kt_R} {Q : Option Value → kt_I → kt_J → kt_R → Prop} {b : Nat} {x0 : Nat} (hkd : kt_kd P N b = (0, 0)) (hrest : (rest.map fun v => v.category).sum ≤ 8) (kk : KW P i_C_copyFrom N 0 [some (.ref b), some (.ref x0)] [] N I J R (fun v I' J' R' => KW P i_K_rule NM 11 L (kt_pu v rest) N I' J' R' Q)) : KW P i_K_rule NM 8 L (.ref x0 :: .ref b :: rest) N I J R Q := kw_callV x_K_rule_8 (As := [.ref x0]) rfl rfl (Nat.le_of_ble_eq_true rfl) hrest hkd (Nat.le_refl N) (fun h => h) kk
theorem x_K_rule_11 : kt_dc i_K_rule 11 (.aload_n 0) 1 12 := ⟨by decide +kernel, rfl⟩
theorem x_K_rule_12 : kt_dc i_K_rule 12 (.aload_n 0) 1 13 := ⟨by decide +kernel, rfl⟩
theorem x_K_rule_13 : kt_sG i_K_rule 13 4 0 2 16 := ⟨23, RX4, TX4, 5, ⟨by decide +kernel, rfl⟩, rfl, by decide, rfl, by decide, Or.inl (tw_182)⟩
theorem x_K_rule_16 : kt_dc i_K_rule 16 (.iload_n 1) 1 17 := ⟨by decide +kernel, rfl⟩
theorem x_K_rule_17 : kt_sV i_K_rule 17 i_C_setRule 0 1 20 := ⟨60, ⟨by decide +kernel, rfl⟩, Or.inr ⟨"KinderTowns", tw_353⟩, j_C_setRule, ⟨tw_355, tp_24⟩, ⟨TX0, 11, rfl⟩, by decide, rfl⟩
theorem c_K_rule_17 {P : kt_P} {NM : Nat} {L : List (Option Value)} {rest : List Value} {N : Nat} {I : kt_I} {J : kt_J} {R : kt_R} {Q : Option Value → kt_I → kt_J → kt_R → Prop} {b : Nat} {x0 : Int32} (hkd : kt_kd P N b = (0, 0)) (hrest : (rest.map fun v => v.category).sum ≤ 8) (kk : KW P i_C_setRule N 0 [some (.ref b), some (.int x0), none] [] N I J R (fun v I' J' R' => KW P i_K_rule NM 20 L (kt_pu v rest) N I' J' R' Q)) : KW P i_K_rule NM 17 L (.int x0 :: .ref b :: rest) N I J R Q := kw_callV x_K_rule_17 (As := [.int x0]) rfl rfl (Nat.le_of_ble_eq_true rfl) hrest hkd (Nat.le_refl N) (fun h => h) kk
theorem x_K_rule_20 : kt_sV i_K_rule 20 i_K_recorded 4 1 23 := ⟨38, ⟨by decide +kernel, rfl⟩, Or.inl (tw_221), j_K_recorded, ⟨tw_223, tp_3⟩, ⟨TX4, 5, rfl⟩, by decide, rfl⟩
theorem c_K_rule_20 {P : kt_P} {NM : Nat} {L : List (Option Value)} {rest : List Value} {N : Nat} {I : kt_I} {J : kt_J} {R : kt_R} {Q : Option Value → kt_I → kt_J → kt_R → Prop} {b : Nat} {x0 : Int32} (hkd : kt_kd P N b = (4, 0)) (hrest : (rest.map fun v => v.category).sum ≤ 8) (kk : KW P i_K_recorded N 0 [some (.ref b), some (.int x0)] [] N I J R (fun v I' J' R' => KW P i_K_rule NM 23 L (kt_pu v rest) N I' J' R' Q)) : KW P i_K_rule NM 20 L (.int x0 :: .ref b :: rest) N I J R Q := kw_callV x_K_rule_20 (As := [.int x0]) rfl rfl (Nat.le_of_ble_eq_true rfl) hrest hkd (Nat.le_refl N) (fun h => h) kk
theorem x_K_rule_23 : kt_dc i_K_rule 23 (.ireturn) 1 24 ∧ kt_rt i_K_rule = (some .int) := ⟨⟨by decide +kernel, rfl⟩, rfl⟩
theorem x_K_eventOf_0 : kt_dc i_K_eventOf 0 (.aload_n 0) 1 1 := ⟨by decide +kernel, rfl⟩
theorem x_K_eventOf_1 : kt_sG i_K_eventOf 1 4 0 2 4 := ⟨23, RX4, TX4, 5, ⟨by decide +kernel, rfl⟩, rfl, by decide, rfl, by decide, Or.inl (tw_182)⟩
theorem x_K_eventOf_4 : kt_sG i_K_eventOf 4 0 1 2 7 := ⟨63, RX0, TX0, 11, ⟨by decide +kernel, rfl⟩, rfl, by decide, rfl, by decide, Or.inr ⟨"KinderTowns", tw_141⟩⟩
theorem x_K_eventOf_7 : kt_dc i_K_eventOf 7 (.astore_n 3) 1 8 := ⟨by decide +kernel, rfl⟩
theorem x_K_eventOf_8 : kt_dc i_K_eventOf 8 (.iload_n 1) 1 9 := ⟨by decide +kernel, rfl⟩
theorem x_K_eventOf_9 : kt_dc i_K_eventOf 9 (.aload_n 3) 1 10 := ⟨by decide +kernel, rfl⟩
theorem x_K_eventOf_10 : kt_sG i_K_eventOf 10 1 0 0 13 := ⟨67, RX1, TX1, 8, ⟨by decide +kernel, rfl⟩, rfl, by decide, rfl, by decide, Or.inr ⟨"KinderTowns", tw_96⟩⟩
theorem x_K_eventOf_13 : kt_sS i_K_eventOf 13 i_K_isBelow 2 16 := ⟨73, ⟨by decide +kernel, rfl⟩, Or.inl (tw_274), j_K_isBelow, tw_219, rfl⟩
theorem c_K_eventOf_13 {P : kt_P} {NM : Nat} {L : List (Option Value)} {rest : List Value} {N : Nat} {I : kt_I} {J : kt_J} {R : kt_R} {Q : Option Value → kt_I → kt_J → kt_R → Prop} {x0 : Int32} {x1 : Int32} (hrest : (rest.map fun v => v.category).sum ≤ 8) (kk : KW P i_K_isBelow N 0 [some (.int x0), some (.int x1)] [] N I J R (fun v I' J' R' => KW P i_K_eventOf NM 16 L (kt_pu v rest) N I' J' R' Q)) : KW P i_K_eventOf NM 13 L (.int x1 :: .int x0 :: rest) N I J R Q := kw_callS x_K_eventOf_13 (As := [.int x0, .int x1]) rfl rfl (Nat.le_of_ble_eq_true rfl) hrest (Nat.le_refl N) (fun h => h) kk
theorem x_K_eventOf_16 : kt_dj i_K_eventOf 16 (.ifCond .eq) 28 19 := ⟨12, by decide +kernel, by decide, rfl⟩
theorem x_K_eventOf_19 : kt_dc i_K_eventOf 19 (.iload_n 2) 1 20 := ⟨by decide +kernel, rfl⟩
theorem x_K_eventOf_20 : kt_dc i_K_eventOf 20 (.bipush 9) 2 22 ∧ (Int8.ofInt (9)).toInt32 = nI 9 := ⟨⟨by decide +kernel, rfl⟩, by decide⟩
theorem x_K_eventOf_22 : kt_sS i_K_eventOf 22 i_K_isBelow 2 25 := ⟨73, ⟨by decide +kernel, rfl⟩, Or.inl (tw_274), j_K_isBelow, tw_219, rfl⟩
theorem c_K_eventOf_22 {P : kt_P} {NM : Nat} {L : List (Option Value)} {rest : List Value} {N : Nat} {I : kt_I} {J : kt_J} {R : kt_R} {Q : Option Value → kt_I → kt_J → kt_R → Prop} {x0 : Int32} {x1 : Int32} (hrest : (rest.map fun v => v.category).sum ≤ 8) (kk : KW P i_K_isBelow N 0 [some (.int x0), some (.int x1)] [] N I J R (fun v I' J' R' => KW P i_K_eventOf NM 25 L (kt_pu v rest) N I' J' R' Q)) : KW P i_K_eventOf NM 22 L (.int x1 :: .int x0 :: rest) N I J R Q := kw_callS x_K_eventOf_22 (As := [.int x0, .int x1]) rfl rfl (Nat.le_of_ble_eq_true rfl) hrest (Nat.le_refl N) (fun h => h) kk
theorem x_K_eventOf_25 : kt_dj i_K_eventOf 25 (.ifCond .ne) 30 28 := ⟨5, by decide +kernel, by decide, rfl⟩
theorem x_K_eventOf_28 : kt_dc i_K_eventOf 28 (.iconst (-1)) 1 29 ∧ Int32.ofInt (-1) = (-1 : Int32) := ⟨⟨by decide +kernel, rfl⟩, by decide⟩
theorem x_K_eventOf_29 : kt_dc i_K_eventOf 29 (.ireturn) 1 30 ∧ kt_rt i_K_eventOf = (some .int) := ⟨⟨by decide +kernel, rfl⟩, rfl⟩
theorem x_K_eventOf_30 : kt_dc i_K_eventOf 30 (.iload_n 2) 1 31 := ⟨by decide +kernel, rfl⟩
theorem x_K_eventOf_31 : kt_dt i_K_eventOf 31 0 [76, 83, 90, 97, 104, 111, 118, 125] 141 := ⟨110, 7, #[45, 52, 59, 66, 73, 80, 87, 94], 45, by decide +kernel, by decide, by decide, by decide⟩
theorem s_K_eventOf_31 {P : kt_P} {NM : Nat} {L : List (Option Value)} {st : List Value} {N : Nat} {I : kt_I} {J : kt_J} {R : kt_R} {Q : Option Value → kt_I → kt_J → kt_R → Prop} {x : Int32} (h0 : x = nI 0 → KW P i_K_eventOf NM 76 L st N I J R Q) (h1 : x = nI 1 → KW P i_K_eventOf NM 83 L st N I J R Q) (h2 : x = nI 2 → KW P i_K_eventOf NM 90 L st N I J R Q) (h3 : x = nI 3 → KW P i_K_eventOf NM 97 L st N I J R Q) (h4 : x = nI 4 → KW P i_K_eventOf NM 104 L st N I J R Q) (h5 : x = nI 5 → KW P i_K_eventOf NM 111 L st N I J R Q) (h6 : x = nI 6 → KW P i_K_eventOf NM 118 L st N I J R Q) (h7 : x = nI 7 → KW P i_K_eventOf NM 125 L st N I J R Q) (hd : ¬ x = nI 0 → ¬ x = nI 1 → ¬ x = nI 2 → ¬ x = nI 3 → ¬ x = nI 4 → ¬ x = nI 5 → ¬ x = nI 6 → ¬ x = nI 7 → KW P i_K_eventOf NM 141 L st N I J R Q) : KW P i_K_eventOf NM 31 L (.int x :: st) N I J R Q :=
  kw_tsw x_K_eventOf_31 (fun j t hj hx => by
    match j, hj, hx with
    | 0, hj, hx => cases hj; exact h0 (Int32.toInt_inj.mp (hx.trans (by decide)))
    | 1, hj, hx => cases hj; exact h1 (Int32.toInt_inj.mp (hx.trans (by decide)))
    | 2, hj, hx => cases hj; exact h2 (Int32.toInt_inj.mp (hx.trans (by decide)))
    | 3, hj, hx => cases hj; exact h3 (Int32.toInt_inj.mp (hx.trans (by decide)))
    | 4, hj, hx => cases hj; exact h4 (Int32.toInt_inj.mp (hx.trans (by decide)))
    | 5, hj, hx => cases hj; exact h5 (Int32.toInt_inj.mp (hx.trans (by decide)))
    | 6, hj, hx => cases hj; exact h6 (Int32.toInt_inj.mp (hx.trans (by decide)))
    | 7, hj, hx => cases hj; exact h7 (Int32.toInt_inj.mp (hx.trans (by decide)))
    | n + 8, hj, hx => simp at hj)
    (fun h => hd (fun e => by subst e; revert h; decide) (fun e => by subst e; revert h; decide) (fun e => by subst e; revert h; decide) (fun e => by subst e; revert h; decide) (fun e => by subst e; revert h; decide) (fun e => by subst e; revert h; decide) (fun e => by subst e; revert h; decide) (fun e => by subst e; revert h; decide))
theorem x_K_eventOf_76 : kt_dc i_K_eventOf 76 (.aload_n 3) 1 77 := ⟨by decide +kernel, rfl⟩
theorem x_K_eventOf_77 : kt_sG i_K_eventOf 77 1 1 2 80 := ⟨77, RX1, TX1, 8, ⟨by decide +kernel, rfl⟩, rfl, by decide, rfl, by decide, Or.inr ⟨"KinderTowns", tw_99⟩⟩
theorem x_K_eventOf_80 : kt_dc i_K_eventOf 80 (.iload_n 1) 1 81 := ⟨by decide +kernel, rfl⟩
theorem x_K_eventOf_81 : kt_dc i_K_eventOf 81 (.iaload) 1 82 := ⟨by decide +kernel, rfl⟩
theorem x_K_eventOf_82 : kt_dc i_K_eventOf 82 (.ireturn) 1 83 ∧ kt_rt i_K_eventOf = (some .int) := ⟨⟨by decide +kernel, rfl⟩, rfl⟩
theorem x_K_eventOf_83 : kt_dc i_K_eventOf 83 (.aload_n 3) 1 84 := ⟨by decide +kernel, rfl⟩
theorem x_K_eventOf_84 : kt_sG i_K_eventOf 84 1 2 2 87 := ⟨81, RX1, TX1, 8, ⟨by decide +kernel, rfl⟩, rfl, by decide, rfl, by decide, Or.inr ⟨"KinderTowns", tw_102⟩⟩
theorem x_K_eventOf_87 : kt_dc i_K_eventOf 87 (.iload_n 1) 1 88 := ⟨by decide +kernel, rfl⟩
theorem x_K_eventOf_88 : kt_dc i_K_eventOf 88 (.iaload) 1 89 := ⟨by decide +kernel, rfl⟩
theorem x_K_eventOf_89 : kt_dc i_K_eventOf 89 (.ireturn) 1 90 ∧ kt_rt i_K_eventOf = (some .int) := ⟨⟨by decide +kernel, rfl⟩, rfl⟩
theorem x_K_eventOf_90 : kt_dc i_K_eventOf 90 (.aload_n 3) 1 91 := ⟨by decide +kernel, rfl⟩
theorem x_K_eventOf_91 : kt_sG i_K_eventOf 91 1 3 2 94 := ⟨84, RX1, TX1, 8, ⟨by decide +kernel, rfl⟩, rfl, by decide, rfl, by decide, Or.inr ⟨"KinderTowns", tw_105⟩⟩
theorem x_K_eventOf_94 : kt_dc i_K_eventOf 94 (.iload_n 1) 1 95 := ⟨by decide +kernel, rfl⟩
theorem x_K_eventOf_95 : kt_dc i_K_eventOf 95 (.iaload) 1 96 := ⟨by decide +kernel, rfl⟩
theorem x_K_eventOf_96 : kt_dc i_K_eventOf 96 (.ireturn) 1 97 ∧ kt_rt i_K_eventOf = (some .int) := ⟨⟨by decide +kernel, rfl⟩, rfl⟩
theorem x_K_eventOf_97 : kt_dc i_K_eventOf 97 (.aload_n 3) 1 98 := ⟨by decide +kernel, rfl⟩
theorem x_K_eventOf_98 : kt_sG i_K_eventOf 98 1 4 2 101 := ⟨87, RX1, TX1, 8, ⟨by decide +kernel, rfl⟩, rfl, by decide, rfl, by decide, Or.inr ⟨"KinderTowns", tw_109⟩⟩
theorem x_K_eventOf_101 : kt_dc i_K_eventOf 101 (.iload_n 1) 1 102 := ⟨by decide +kernel, rfl⟩
theorem x_K_eventOf_102 : kt_dc i_K_eventOf 102 (.iaload) 1 103 := ⟨by decide +kernel, rfl⟩
theorem x_K_eventOf_103 : kt_dc i_K_eventOf 103 (.ireturn) 1 104 ∧ kt_rt i_K_eventOf = (some .int) := ⟨⟨by decide +kernel, rfl⟩, rfl⟩
theorem x_K_eventOf_104 : kt_dc i_K_eventOf 104 (.aload_n 3) 1 105 := ⟨by decide +kernel, rfl⟩
theorem x_K_eventOf_105 : kt_sG i_K_eventOf 105 1 5 2 108 := ⟨90, RX1, TX1, 8, ⟨by decide +kernel, rfl⟩, rfl, by decide, rfl, by decide, Or.inr ⟨"KinderTowns", tw_113⟩⟩
theorem x_K_eventOf_108 : kt_dc i_K_eventOf 108 (.iload_n 1) 1 109 := ⟨by decide +kernel, rfl⟩
theorem x_K_eventOf_109 : kt_dc i_K_eventOf 109 (.iaload) 1 110 := ⟨by decide +kernel, rfl⟩
theorem x_K_eventOf_110 : kt_dc i_K_eventOf 110 (.ireturn) 1 111 ∧ kt_rt i_K_eventOf = (some .int) := ⟨⟨by decide +kernel, rfl⟩, rfl⟩
theorem x_K_eventOf_111 : kt_dc i_K_eventOf 111 (.aload_n 3) 1 112 := ⟨by decide +kernel, rfl⟩
theorem x_K_eventOf_112 : kt_sG i_K_eventOf 112 1 6 2 115 := ⟨93, RX1, TX1, 8, ⟨by decide +kernel, rfl⟩, rfl, by decide, rfl, by decide, Or.inr ⟨"KinderTowns", tw_117⟩⟩
theorem x_K_eventOf_115 : kt_dc i_K_eventOf 115 (.iload_n 1) 1 116 := ⟨by decide +kernel, rfl⟩
theorem x_K_eventOf_116 : kt_dc i_K_eventOf 116 (.iaload) 1 117 := ⟨by decide +kernel, rfl⟩
theorem x_K_eventOf_117 : kt_dc i_K_eventOf 117 (.ireturn) 1 118 ∧ kt_rt i_K_eventOf = (some .int) := ⟨⟨by decide +kernel, rfl⟩, rfl⟩
theorem x_K_eventOf_118 : kt_dc i_K_eventOf 118 (.aload_n 3) 1 119 := ⟨by decide +kernel, rfl⟩
theorem x_K_eventOf_119 : kt_sG i_K_eventOf 119 1 7 2 122 := ⟨96, RX1, TX1, 8, ⟨by decide +kernel, rfl⟩, rfl, by decide, rfl, by decide, Or.inr ⟨"KinderTowns", tw_120⟩⟩
theorem x_K_eventOf_122 : kt_dc i_K_eventOf 122 (.iload_n 1) 1 123 := ⟨by decide +kernel, rfl⟩
theorem x_K_eventOf_123 : kt_dc i_K_eventOf 123 (.iaload) 1 124 := ⟨by decide +kernel, rfl⟩
theorem x_K_eventOf_124 : kt_dc i_K_eventOf 124 (.ireturn) 1 125 ∧ kt_rt i_K_eventOf = (some .int) := ⟨⟨by decide +kernel, rfl⟩, rfl⟩
theorem x_K_eventOf_125 : kt_dc i_K_eventOf 125 (.aload_n 0) 1 126 := ⟨by decide +kernel, rfl⟩
theorem x_K_eventOf_126 : kt_sG i_K_eventOf 126 4 0 2 129 := ⟨23, RX4, TX4, 5, ⟨by decide +kernel, rfl⟩, rfl, by decide, rfl, by decide, Or.inl (tw_182)⟩
theorem x_K_eventOf_129 : kt_dc i_K_eventOf 129 (.aload_n 0) 1 130 := ⟨by decide +kernel, rfl⟩
theorem x_K_eventOf_130 : kt_sG i_K_eventOf 130 4 0 2 133 := ⟨23, RX4, TX4, 5, ⟨by decide +kernel, rfl⟩, rfl, by decide, rfl, by decide, Or.inl (tw_182)⟩
theorem x_K_eventOf_133 : kt_sG i_K_eventOf 133 0 5 2 136 := ⟨99, RX0, TX0, 11, ⟨by decide +kernel, rfl⟩, rfl, by decide, rfl, by decide, Or.inr ⟨"KinderTowns", tw_149⟩⟩
theorem x_K_eventOf_136 : kt_dc i_K_eventOf 136 (.iload_n 1) 1 137 := ⟨by decide +kernel, rfl⟩
theorem x_K_eventOf_137 : kt_sV i_K_eventOf 137 i_C_townsWith 0 2 140 := ⟨103, ⟨by decide +kernel, rfl⟩, Or.inr ⟨"KinderTowns", tw_361⟩, j_C_townsWith, ⟨tw_363, tp_25⟩, ⟨TX0, 11, rfl⟩, by decide, rfl⟩
theorem c_K_eventOf_137 {P : kt_P} {NM : Nat} {L : List (Option Value)} {rest : List Value} {N : Nat} {I : kt_I} {J : kt_J} {R : kt_R} {Q : Option Value → kt_I → kt_J → kt_R → Prop} {b : Nat} {x0 : Nat} {x1 : Int32} (hkd : kt_kd P N b = (0, 0)) (hrest : (rest.map fun v => v.category).sum ≤ 8) (kk : KW P i_C_townsWith N 0 [some (.ref b), some (.ref x0), some (.int x1), none, none] [] N I J R (fun v I' J' R' => KW P i_K_eventOf NM 140 L (kt_pu v rest) N I' J' R' Q)) : KW P i_K_eventOf NM 137 L (.int x1 :: .ref x0 :: .ref b :: rest) N I J R Q := kw_callV x_K_eventOf_137 (As := [.ref x0, .int x1]) rfl rfl (Nat.le_of_ble_eq_true rfl) hrest hkd (Nat.le_refl N) (fun h => h) kk
theorem x_K_eventOf_140 : kt_dc i_K_eventOf 140 (.ireturn) 1 141 ∧ kt_rt i_K_eventOf = (some .int) := ⟨⟨by decide +kernel, rfl⟩, rfl⟩
theorem x_K_eventOf_141 : kt_dc i_K_eventOf 141 (.aload_n 0) 1 142 := ⟨by decide +kernel, rfl⟩
theorem x_K_eventOf_142 : kt_sG i_K_eventOf 142 4 0 2 145 := ⟨23, RX4, TX4, 5, ⟨by decide +kernel, rfl⟩, rfl, by decide, rfl, by decide, Or.inl (tw_182)⟩
theorem x_K_eventOf_145 : kt_dc i_K_eventOf 145 (.aload_n 0) 1 146 := ⟨by decide +kernel, rfl⟩
theorem x_K_eventOf_146 : kt_sG i_K_eventOf 146 4 0 2 149 := ⟨23, RX4, TX4, 5, ⟨by decide +kernel, rfl⟩, rfl, by decide, rfl, by decide, Or.inl (tw_182)⟩
theorem x_K_eventOf_149 : kt_sG i_K_eventOf 149 0 8 2 152 := ⟨107, RX0, TX0, 11, ⟨by decide +kernel, rfl⟩, rfl, by decide, rfl, by decide, Or.inr ⟨"KinderTowns", tw_155⟩⟩
theorem x_K_eventOf_152 : kt_dc i_K_eventOf 152 (.iload_n 1) 1 153 := ⟨by decide +kernel, rfl⟩
theorem x_K_eventOf_153 : kt_sV i_K_eventOf 153 i_C_townsWith 0 2 156 := ⟨103, ⟨by decide +kernel, rfl⟩, Or.inr ⟨"KinderTowns", tw_361⟩, j_C_townsWith, ⟨tw_363, tp_25⟩, ⟨TX0, 11, rfl⟩, by decide, rfl⟩
theorem c_K_eventOf_153 {P : kt_P} {NM : Nat} {L : List (Option Value)} {rest : List Value} {N : Nat} {I : kt_I} {J : kt_J} {R : kt_R} {Q : Option Value → kt_I → kt_J → kt_R → Prop} {b : Nat} {x0 : Nat} {x1 : Int32} (hkd : kt_kd P N b = (0, 0)) (hrest : (rest.map fun v => v.category).sum ≤ 8) (kk : KW P i_C_townsWith N 0 [some (.ref b), some (.ref x0), some (.int x1), none, none] [] N I J R (fun v I' J' R' => KW P i_K_eventOf NM 156 L (kt_pu v rest) N I' J' R' Q)) : KW P i_K_eventOf NM 153 L (.int x1 :: .ref x0 :: .ref b :: rest) N I J R Q := kw_callV x_K_eventOf_153 (As := [.ref x0, .int x1]) rfl rfl (Nat.le_of_ble_eq_true rfl) hrest hkd (Nat.le_refl N) (fun h => h) kk
theorem x_K_eventOf_156 : kt_dc i_K_eventOf 156 (.ireturn) 1 157 ∧ kt_rt i_K_eventOf = (some .int) := ⟨⟨by decide +kernel, rfl⟩, rfl⟩
theorem x_K_thinks_0 : kt_dc i_K_thinks 0 (.aload_n 0) 1 1 := ⟨by decide +kernel, rfl⟩
theorem x_K_thinks_1 : kt_sG i_K_thinks 1 4 0 2 4 := ⟨23, RX4, TX4, 5, ⟨by decide +kernel, rfl⟩, rfl, by decide, rfl, by decide, Or.inl (tw_182)⟩
theorem x_K_thinks_4 : kt_dc i_K_thinks 4 (.iload_n 1) 1 5 := ⟨by decide +kernel, rfl⟩
theorem x_K_thinks_5 : kt_sV i_K_thinks 5 i_C_isTown 0 1 8 := ⟨110, ⟨by decide +kernel, rfl⟩, Or.inr ⟨"KinderTowns", tw_369⟩, j_C_isTown, ⟨tw_285, tp_15⟩, ⟨TX0, 11, rfl⟩, by decide, rfl⟩
theorem c_K_thinks_5 {P : kt_P} {NM : Nat} {L : List (Option Value)} {rest : List Value} {N : Nat} {I : kt_I} {J : kt_J} {R : kt_R} {Q : Option Value → kt_I → kt_J → kt_R → Prop} {b : Nat} {x0 : Int32} (hkd : kt_kd P N b = (0, 0)) (hrest : (rest.map fun v => v.category).sum ≤ 8) (kk : KW P i_C_isTown N 0 [some (.ref b), some (.int x0)] [] N I J R (fun v I' J' R' => KW P i_K_thinks NM 8 L (kt_pu v rest) N I' J' R' Q)) : KW P i_K_thinks NM 5 L (.int x0 :: .ref b :: rest) N I J R Q := kw_callV x_K_thinks_5 (As := [.int x0]) rfl rfl (Nat.le_of_ble_eq_true rfl) hrest hkd (Nat.le_refl N) (fun h => h) kk
theorem x_K_thinks_8 : kt_dj i_K_thinks 8 (.ifCond .eq) 28 11 := ⟨20, by decide +kernel, by decide, rfl⟩
theorem x_K_thinks_11 : kt_dc i_K_thinks 11 (.iload_n 2) 1 12 := ⟨by decide +kernel, rfl⟩
theorem x_K_thinks_12 : kt_dc i_K_thinks 12 (.aload_n 0) 1 13 := ⟨by decide +kernel, rfl⟩
theorem x_K_thinks_13 : kt_sG i_K_thinks 13 4 0 2 16 := ⟨23, RX4, TX4, 5, ⟨by decide +kernel, rfl⟩, rfl, by decide, rfl, by decide, Or.inl (tw_182)⟩
theorem x_K_thinks_16 : kt_sG i_K_thinks 16 0 1 2 19 := ⟨63, RX0, TX0, 11, ⟨by decide +kernel, rfl⟩, rfl, by decide, rfl, by decide, Or.inr ⟨"KinderTowns", tw_141⟩⟩
theorem x_K_thinks_19 : kt_sG i_K_thinks 19 1 0 0 22 := ⟨67, RX1, TX1, 8, ⟨by decide +kernel, rfl⟩, rfl, by decide, rfl, by decide, Or.inr ⟨"KinderTowns", tw_96⟩⟩
theorem x_K_thinks_22 : kt_sS i_K_thinks 22 i_K_isBelow 2 25 := ⟨73, ⟨by decide +kernel, rfl⟩, Or.inl (tw_274), j_K_isBelow, tw_219, rfl⟩
theorem c_K_thinks_22 {P : kt_P} {NM : Nat} {L : List (Option Value)} {rest : List Value} {N : Nat} {I : kt_I} {J : kt_J} {R : kt_R} {Q : Option Value → kt_I → kt_J → kt_R → Prop} {x0 : Int32} {x1 : Int32} (hrest : (rest.map fun v => v.category).sum ≤ 8) (kk : KW P i_K_isBelow N 0 [some (.int x0), some (.int x1)] [] N I J R (fun v I' J' R' => KW P i_K_thinks NM 25 L (kt_pu v rest) N I' J' R' Q)) : KW P i_K_thinks NM 22 L (.int x1 :: .int x0 :: rest) N I J R Q := kw_callS x_K_thinks_22 (As := [.int x0, .int x1]) rfl rfl (Nat.le_of_ble_eq_true rfl) hrest (Nat.le_refl N) (fun h => h) kk
theorem x_K_thinks_25 : kt_dj i_K_thinks 25 (.ifCond .ne) 30 28 := ⟨5, by decide +kernel, by decide, rfl⟩
theorem x_K_thinks_28 : kt_dc i_K_thinks 28 (.iconst (-1)) 1 29 ∧ Int32.ofInt (-1) = (-1 : Int32) := ⟨⟨by decide +kernel, rfl⟩, by decide⟩
theorem x_K_thinks_29 : kt_dc i_K_thinks 29 (.ireturn) 1 30 ∧ kt_rt i_K_thinks = (some .int) := ⟨⟨by decide +kernel, rfl⟩, rfl⟩
theorem x_K_thinks_30 : kt_dc i_K_thinks 30 (.aload_n 0) 1 31 := ⟨by decide +kernel, rfl⟩
theorem x_K_thinks_31 : kt_sG i_K_thinks 31 4 0 2 34 := ⟨23, RX4, TX4, 5, ⟨by decide +kernel, rfl⟩, rfl, by decide, rfl, by decide, Or.inl (tw_182)⟩
theorem x_K_thinks_34 : kt_sG i_K_thinks 34 0 1 2 37 := ⟨63, RX0, TX0, 11, ⟨by decide +kernel, rfl⟩, rfl, by decide, rfl, by decide, Or.inr ⟨"KinderTowns", tw_141⟩⟩
theorem x_K_thinks_37 : kt_sG i_K_thinks 37 1 1 2 40 := ⟨77, RX1, TX1, 8, ⟨by decide +kernel, rfl⟩, rfl, by decide, rfl, by decide, Or.inr ⟨"KinderTowns", tw_99⟩⟩
theorem x_K_thinks_40 : kt_dc i_K_thinks 40 (.iload_n 2) 1 41 := ⟨by decide +kernel, rfl⟩
theorem x_K_thinks_41 : kt_dc i_K_thinks 41 (.iaload) 1 42 := ⟨by decide +kernel, rfl⟩
theorem x_K_thinks_42 : kt_dc i_K_thinks 42 (.iconst 1) 1 43 ∧ Int32.ofInt (1) = nI 1 := ⟨⟨by decide +kernel, rfl⟩, by decide⟩
theorem x_K_thinks_43 : kt_dj i_K_thinks 43 (.if_icmp .eq) 49 46 := ⟨6, by decide +kernel, by decide, rfl⟩
theorem x_K_thinks_46 : kt_dc i_K_thinks 46 (.bipush (-2)) 2 48 ∧ (Int8.ofInt (-2)).toInt32 = (-2 : Int32) := ⟨⟨by decide +kernel, rfl⟩, by decide⟩
theorem x_K_thinks_48 : kt_dc i_K_thinks 48 (.ireturn) 1 49 ∧ kt_rt i_K_thinks = (some .int) := ⟨⟨by decide +kernel, rfl⟩, rfl⟩
theorem x_K_thinks_49 : kt_dc i_K_thinks 49 (.aload_n 0) 1 50 := ⟨by decide +kernel, rfl⟩
theorem x_K_thinks_50 : kt_sG i_K_thinks 50 4 0 2 53 := ⟨23, RX4, TX4, 5, ⟨by decide +kernel, rfl⟩, rfl, by decide, rfl, by decide, Or.inl (tw_182)⟩
theorem x_K_thinks_53 : kt_sG i_K_thinks 53 0 5 2 56 := ⟨99, RX0, TX0, 11, ⟨by decide +kernel, rfl⟩, rfl, by decide, rfl, by decide, Or.inr ⟨"KinderTowns", tw_149⟩⟩
theorem x_K_thinks_56 : kt_dc i_K_thinks 56 (.iload_n 1) 1 57 := ⟨by decide +kernel, rfl⟩
theorem x_K_thinks_57 : kt_dc i_K_thinks 57 (.laload) 1 58 := ⟨by decide +kernel, rfl⟩
theorem x_K_thinks_58 : kt_dc i_K_thinks 58 (.iload_n 2) 1 59 := ⟨by decide +kernel, rfl⟩
theorem x_K_thinks_59 : kt_sS i_K_thinks 59 i_K_has 2 62 := ⟨114, ⟨by decide +kernel, rfl⟩, Or.inl (tw_370), j_K_has, tw_242, rfl⟩
theorem c_K_thinks_59 {P : kt_P} {NM : Nat} {L : List (Option Value)} {rest : List Value} {N : Nat} {I : kt_I} {J : kt_J} {R : kt_R} {Q : Option Value → kt_I → kt_J → kt_R → Prop} {x0 : Int64} {x1 : Int32} (hrest : (rest.map fun v => v.category).sum ≤ 8) (kk : KW P i_K_has N 0 [some (.long x0), none, some (.int x1)] [] N I J R (fun v I' J' R' => KW P i_K_thinks NM 62 L (kt_pu v rest) N I' J' R' Q)) : KW P i_K_thinks NM 59 L (.int x1 :: .long x0 :: rest) N I J R Q := kw_callS x_K_thinks_59 (As := [.long x0, .int x1]) rfl rfl (Nat.le_of_ble_eq_true rfl) hrest (Nat.le_refl N) (fun h => h) kk
theorem x_K_thinks_62 : kt_dj i_K_thinks 62 (.ifCond .ne) 68 65 := ⟨6, by decide +kernel, by decide, rfl⟩
theorem x_K_thinks_65 : kt_dc i_K_thinks 65 (.bipush (-4)) 2 67 ∧ (Int8.ofInt (-4)).toInt32 = (-4 : Int32) := ⟨⟨by decide +kernel, rfl⟩, by decide⟩
theorem x_K_thinks_67 : kt_dc i_K_thinks 67 (.ireturn) 1 68 ∧ kt_rt i_K_thinks = (some .int) := ⟨⟨by decide +kernel, rfl⟩, rfl⟩
theorem x_K_thinks_68 : kt_dc i_K_thinks 68 (.aload_n 0) 1 69 := ⟨by decide +kernel, rfl⟩
theorem x_K_thinks_69 : kt_sG i_K_thinks 69 4 0 2 72 := ⟨23, RX4, TX4, 5, ⟨by decide +kernel, rfl⟩, rfl, by decide, rfl, by decide, Or.inl (tw_182)⟩
theorem x_K_thinks_72 : kt_sG i_K_thinks 72 0 6 2 75 := ⟨118, RX0, TX0, 11, ⟨by decide +kernel, rfl⟩, rfl, by decide, rfl, by decide, Or.inr ⟨"KinderTowns", tw_151⟩⟩
theorem x_K_thinks_75 : kt_dc i_K_thinks 75 (.iload_n 1) 1 76 := ⟨by decide +kernel, rfl⟩
theorem x_K_thinks_76 : kt_dc i_K_thinks 76 (.laload) 1 77 := ⟨by decide +kernel, rfl⟩
theorem x_K_thinks_77 : kt_dc i_K_thinks 77 (.iload_n 2) 1 78 := ⟨by decide +kernel, rfl⟩
theorem x_K_thinks_78 : kt_sS i_K_thinks 78 i_K_has 2 81 := ⟨114, ⟨by decide +kernel, rfl⟩, Or.inl (tw_370), j_K_has, tw_242, rfl⟩
theorem c_K_thinks_78 {P : kt_P} {NM : Nat} {L : List (Option Value)} {rest : List Value} {N : Nat} {I : kt_I} {J : kt_J} {R : kt_R} {Q : Option Value → kt_I → kt_J → kt_R → Prop} {x0 : Int64} {x1 : Int32} (hrest : (rest.map fun v => v.category).sum ≤ 8) (kk : KW P i_K_has N 0 [some (.long x0), none, some (.int x1)] [] N I J R (fun v I' J' R' => KW P i_K_thinks NM 81 L (kt_pu v rest) N I' J' R' Q)) : KW P i_K_thinks NM 78 L (.int x1 :: .long x0 :: rest) N I J R Q := kw_callS x_K_thinks_78 (As := [.long x0, .int x1]) rfl rfl (Nat.le_of_ble_eq_true rfl) hrest (Nat.le_refl N) (fun h => h) kk
theorem x_K_thinks_81 : kt_dj i_K_thinks 81 (.ifCond .eq) 86 84 := ⟨5, by decide +kernel, by decide, rfl⟩
theorem x_K_thinks_84 : kt_dc i_K_thinks 84 (.iconst 0) 1 85 ∧ Int32.ofInt (0) = nI 0 := ⟨⟨by decide +kernel, rfl⟩, by decide⟩
theorem x_K_thinks_85 : kt_dc i_K_thinks 85 (.ireturn) 1 86 ∧ kt_rt i_K_thinks = (some .int) := ⟨⟨by decide +kernel, rfl⟩, rfl⟩
theorem x_K_thinks_86 : kt_dc i_K_thinks 86 (.aload_n 0) 1 87 := ⟨by decide +kernel, rfl⟩
theorem x_K_thinks_87 : kt_sG i_K_thinks 87 4 0 2 90 := ⟨23, RX4, TX4, 5, ⟨by decide +kernel, rfl⟩, rfl, by decide, rfl, by decide, Or.inl (tw_182)⟩
theorem x_K_thinks_90 : kt_sG i_K_thinks 90 0 7 2 93 := ⟨121, RX0, TX0, 11, ⟨by decide +kernel, rfl⟩, rfl, by decide, rfl, by decide, Or.inr ⟨"KinderTowns", tw_153⟩⟩
theorem x_K_thinks_93 : kt_dc i_K_thinks 93 (.iload_n 1) 1 94 := ⟨by decide +kernel, rfl⟩
theorem x_K_thinks_94 : kt_dc i_K_thinks 94 (.laload) 1 95 := ⟨by decide +kernel, rfl⟩
theorem x_K_thinks_95 : kt_dc i_K_thinks 95 (.iload_n 2) 1 96 := ⟨by decide +kernel, rfl⟩
theorem x_K_thinks_96 : kt_sS i_K_thinks 96 i_K_has 2 99 := ⟨114, ⟨by decide +kernel, rfl⟩, Or.inl (tw_370), j_K_has, tw_242, rfl⟩
theorem c_K_thinks_96 {P : kt_P} {NM : Nat} {L : List (Option Value)} {rest : List Value} {N : Nat} {I : kt_I} {J : kt_J} {R : kt_R} {Q : Option Value → kt_I → kt_J → kt_R → Prop} {x0 : Int64} {x1 : Int32} (hrest : (rest.map fun v => v.category).sum ≤ 8) (kk : KW P i_K_has N 0 [some (.long x0), none, some (.int x1)] [] N I J R (fun v I' J' R' => KW P i_K_thinks NM 99 L (kt_pu v rest) N I' J' R' Q)) : KW P i_K_thinks NM 96 L (.int x1 :: .long x0 :: rest) N I J R Q := kw_callS x_K_thinks_96 (As := [.long x0, .int x1]) rfl rfl (Nat.le_of_ble_eq_true rfl) hrest (Nat.le_refl N) (fun h => h) kk
theorem x_K_thinks_99 : kt_dj i_K_thinks 99 (.ifCond .eq) 106 102 := ⟨7, by decide +kernel, by decide, rfl⟩
theorem x_K_thinks_102 : kt_dc i_K_thinks 102 (.iconst 1) 1 103 ∧ Int32.ofInt (1) = nI 1 := ⟨⟨by decide +kernel, rfl⟩, by decide⟩
theorem x_K_thinks_103 : kt_dj i_K_thinks 103 .goto 107 106 := ⟨4, by decide +kernel, by decide, rfl⟩
theorem x_K_thinks_106 : kt_dc i_K_thinks 106 (.iconst 2) 1 107 ∧ Int32.ofInt (2) = nI 2 := ⟨⟨by decide +kernel, rfl⟩, by decide⟩
theorem x_K_thinks_107 : kt_dc i_K_thinks 107 (.ireturn) 1 108 ∧ kt_rt i_K_thinks = (some .int) := ⟨⟨by decide +kernel, rfl⟩, rfl⟩
theorem x_K_townOf_0 : kt_dc i_K_townOf 0 (.aload_n 0) 1 1 := ⟨by decide +kernel, rfl⟩
theorem x_K_townOf_1 : kt_sG i_K_townOf 1 4 0 2 4 := ⟨23, RX4, TX4, 5, ⟨by decide +kernel, rfl⟩, rfl, by decide, rfl, by decide, Or.inl (tw_182)⟩
theorem x_K_townOf_4 : kt_dc i_K_townOf 4 (.iload_n 1) 1 5 := ⟨by decide +kernel, rfl⟩
theorem x_K_townOf_5 : kt_sV i_K_townOf 5 i_C_isTown 0 1 8 := ⟨110, ⟨by decide +kernel, rfl⟩, Or.inr ⟨"KinderTowns", tw_369⟩, j_C_isTown, ⟨tw_285, tp_15⟩, ⟨TX0, 11, rfl⟩, by decide, rfl⟩
theorem c_K_townOf_5 {P : kt_P} {NM : Nat} {L : List (Option Value)} {rest : List Value} {N : Nat} {I : kt_I} {J : kt_J} {R : kt_R} {Q : Option Value → kt_I → kt_J → kt_R → Prop} {b : Nat} {x0 : Int32} (hkd : kt_kd P N b = (0, 0)) (hrest : (rest.map fun v => v.category).sum ≤ 8) (kk : KW P i_C_isTown N 0 [some (.ref b), some (.int x0)] [] N I J R (fun v I' J' R' => KW P i_K_townOf NM 8 L (kt_pu v rest) N I' J' R' Q)) : KW P i_K_townOf NM 5 L (.int x0 :: .ref b :: rest) N I J R Q := kw_callV x_K_townOf_5 (As := [.int x0]) rfl rfl (Nat.le_of_ble_eq_true rfl) hrest hkd (Nat.le_refl N) (fun h => h) kk
theorem x_K_townOf_8 : kt_dj i_K_townOf 8 (.ifCond .eq) 20 11 := ⟨12, by decide +kernel, by decide, rfl⟩
theorem x_K_townOf_11 : kt_dc i_K_townOf 11 (.iload_n 2) 1 12 := ⟨by decide +kernel, rfl⟩
theorem x_K_townOf_12 : kt_dc i_K_townOf 12 (.bipush 8) 2 14 ∧ (Int8.ofInt (8)).toInt32 = nI 8 := ⟨⟨by decide +kernel, rfl⟩, by decide⟩
theorem x_K_townOf_14 : kt_sS i_K_townOf 14 i_K_isBelow 2 17 := ⟨73, ⟨by decide +kernel, rfl⟩, Or.inl (tw_274), j_K_isBelow, tw_219, rfl⟩
theorem c_K_townOf_14 {P : kt_P} {NM : Nat} {L : List (Option Value)} {rest : List Value} {N : Nat} {I : kt_I} {J : kt_J} {R : kt_R} {Q : Option Value → kt_I → kt_J → kt_R → Prop} {x0 : Int32} {x1 : Int32} (hrest : (rest.map fun v => v.category).sum ≤ 8) (kk : KW P i_K_isBelow N 0 [some (.int x0), some (.int x1)] [] N I J R (fun v I' J' R' => KW P i_K_townOf NM 17 L (kt_pu v rest) N I' J' R' Q)) : KW P i_K_townOf NM 14 L (.int x1 :: .int x0 :: rest) N I J R Q := kw_callS x_K_townOf_14 (As := [.int x0, .int x1]) rfl rfl (Nat.le_of_ble_eq_true rfl) hrest (Nat.le_refl N) (fun h => h) kk
theorem x_K_townOf_17 : kt_dj i_K_townOf 17 (.ifCond .ne) 22 20 := ⟨5, by decide +kernel, by decide, rfl⟩
theorem x_K_townOf_20 : kt_dc i_K_townOf 20 (.iconst (-1)) 1 21 ∧ Int32.ofInt (-1) = (-1 : Int32) := ⟨⟨by decide +kernel, rfl⟩, by decide⟩
theorem x_K_townOf_21 : kt_dc i_K_townOf 21 (.ireturn) 1 22 ∧ kt_rt i_K_townOf = (some .int) := ⟨⟨by decide +kernel, rfl⟩, rfl⟩
theorem x_K_townOf_22 : kt_dc i_K_townOf 22 (.iload_n 2) 1 23 := ⟨by decide +kernel, rfl⟩
theorem x_K_townOf_23 : kt_dt i_K_townOf 23 0 [64, 74, 87, 100, 113, 136, 149] 174 := ⟨151, 6, #[41, 51, 64, 77, 90, 113, 126], 41, by decide +kernel, by decide, by decide, by decide⟩
theorem s_K_townOf_23 {P : kt_P} {NM : Nat} {L : List (Option Value)} {st : List Value} {N : Nat} {I : kt_I} {J : kt_J} {R : kt_R} {Q : Option Value → kt_I → kt_J → kt_R → Prop} {x : Int32} (h0 : x = nI 0 → KW P i_K_townOf NM 64 L st N I J R Q) (h1 : x = nI 1 → KW P i_K_townOf NM 74 L st N I J R Q) (h2 : x = nI 2 → KW P i_K_townOf NM 87 L st N I J R Q) (h3 : x = nI 3 → KW P i_K_townOf NM 100 L st N I J R Q) (h4 : x = nI 4 → KW P i_K_townOf NM 113 L st N I J R Q) (h5 : x = nI 5 → KW P i_K_townOf NM 136 L st N I J R Q) (h6 : x = nI 6 → KW P i_K_townOf NM 149 L st N I J R Q) (hd : ¬ x = nI 0 → ¬ x = nI 1 → ¬ x = nI 2 → ¬ x = nI 3 → ¬ x = nI 4 → ¬ x = nI 5 → ¬ x = nI 6 → KW P i_K_townOf NM 174 L st N I J R Q) : KW P i_K_townOf NM 23 L (.int x :: st) N I J R Q :=
  kw_tsw x_K_townOf_23 (fun j t hj hx => by
    match j, hj, hx with
    | 0, hj, hx => cases hj; exact h0 (Int32.toInt_inj.mp (hx.trans (by decide)))
    | 1, hj, hx => cases hj; exact h1 (Int32.toInt_inj.mp (hx.trans (by decide)))
    | 2, hj, hx => cases hj; exact h2 (Int32.toInt_inj.mp (hx.trans (by decide)))
    | 3, hj, hx => cases hj; exact h3 (Int32.toInt_inj.mp (hx.trans (by decide)))
    | 4, hj, hx => cases hj; exact h4 (Int32.toInt_inj.mp (hx.trans (by decide)))
    | 5, hj, hx => cases hj; exact h5 (Int32.toInt_inj.mp (hx.trans (by decide)))
    | 6, hj, hx => cases hj; exact h6 (Int32.toInt_inj.mp (hx.trans (by decide)))
    | n + 7, hj, hx => simp at hj)
    (fun h => hd (fun e => by subst e; revert h; decide) (fun e => by subst e; revert h; decide) (fun e => by subst e; revert h; decide) (fun e => by subst e; revert h; decide) (fun e => by subst e; revert h; decide) (fun e => by subst e; revert h; decide) (fun e => by subst e; revert h; decide))
theorem x_K_townOf_64 : kt_dc i_K_townOf 64 (.aload_n 0) 1 65 := ⟨by decide +kernel, rfl⟩
theorem x_K_townOf_65 : kt_sG i_K_townOf 65 4 0 2 68 := ⟨23, RX4, TX4, 5, ⟨by decide +kernel, rfl⟩, rfl, by decide, rfl, by decide, Or.inl (tw_182)⟩
theorem x_K_townOf_68 : kt_sG i_K_townOf 68 0 4 2 71 := ⟨124, RX0, TX0, 11, ⟨by decide +kernel, rfl⟩, rfl, by decide, rfl, by decide, Or.inr ⟨"KinderTowns", tw_147⟩⟩
theorem x_K_townOf_71 : kt_dc i_K_townOf 71 (.iload_n 1) 1 72 := ⟨by decide +kernel, rfl⟩
theorem x_K_townOf_72 : kt_dc i_K_townOf 72 (.iaload) 1 73 := ⟨by decide +kernel, rfl⟩
theorem x_K_townOf_73 : kt_dc i_K_townOf 73 (.ireturn) 1 74 ∧ kt_rt i_K_townOf = (some .int) := ⟨⟨by decide +kernel, rfl⟩, rfl⟩
theorem x_K_townOf_74 : kt_dc i_K_townOf 74 (.aload_n 0) 1 75 := ⟨by decide +kernel, rfl⟩
theorem x_K_townOf_75 : kt_sG i_K_townOf 75 4 0 2 78 := ⟨23, RX4, TX4, 5, ⟨by decide +kernel, rfl⟩, rfl, by decide, rfl, by decide, Or.inl (tw_182)⟩
theorem x_K_townOf_78 : kt_sG i_K_townOf 78 0 5 2 81 := ⟨99, RX0, TX0, 11, ⟨by decide +kernel, rfl⟩, rfl, by decide, rfl, by decide, Or.inr ⟨"KinderTowns", tw_149⟩⟩
theorem x_K_townOf_81 : kt_dc i_K_townOf 81 (.iload_n 1) 1 82 := ⟨by decide +kernel, rfl⟩
theorem x_K_townOf_82 : kt_dc i_K_townOf 82 (.laload) 1 83 := ⟨by decide +kernel, rfl⟩
theorem x_K_townOf_83 : kt_sS i_K_townOf 83 i_J_bitCount 1 86 := ⟨125, ⟨by decide +kernel, rfl⟩, Or.inl (tw_375), j_J_bitCount, tw_336, rfl⟩
theorem c_K_townOf_83 {P : kt_P} {NM : Nat} {L : List (Option Value)} {rest : List Value} {N : Nat} {I : kt_I} {J : kt_J} {R : kt_R} {Q : Option Value → kt_I → kt_J → kt_R → Prop} {x0 : Int64} (hrest : (rest.map fun v => v.category).sum ≤ 8) (kk : KW P i_J_bitCount N 0 [some (.long x0), none] [] N I J R (fun v I' J' R' => KW P i_K_townOf NM 86 L (kt_pu v rest) N I' J' R' Q)) : KW P i_K_townOf NM 83 L (.long x0 :: rest) N I J R Q := kw_callS x_K_townOf_83 (As := [.long x0]) rfl rfl (Nat.le_of_ble_eq_true rfl) hrest (Nat.le_refl N) (fun h => h) kk
theorem x_K_townOf_86 : kt_dc i_K_townOf 86 (.ireturn) 1 87 ∧ kt_rt i_K_townOf = (some .int) := ⟨⟨by decide +kernel, rfl⟩, rfl⟩
theorem x_K_townOf_87 : kt_dc i_K_townOf 87 (.aload_n 0) 1 88 := ⟨by decide +kernel, rfl⟩
theorem x_K_townOf_88 : kt_sG i_K_townOf 88 4 0 2 91 := ⟨23, RX4, TX4, 5, ⟨by decide +kernel, rfl⟩, rfl, by decide, rfl, by decide, Or.inl (tw_182)⟩
theorem x_K_townOf_91 : kt_sG i_K_townOf 91 0 6 2 94 := ⟨118, RX0, TX0, 11, ⟨by decide +kernel, rfl⟩, rfl, by decide, rfl, by decide, Or.inr ⟨"KinderTowns", tw_151⟩⟩
theorem x_K_townOf_94 : kt_dc i_K_townOf 94 (.iload_n 1) 1 95 := ⟨by decide +kernel, rfl⟩
theorem x_K_townOf_95 : kt_dc i_K_townOf 95 (.laload) 1 96 := ⟨by decide +kernel, rfl⟩
theorem x_K_townOf_96 : kt_sS i_K_townOf 96 i_J_bitCount 1 99 := ⟨125, ⟨by decide +kernel, rfl⟩, Or.inl (tw_375), j_J_bitCount, tw_336, rfl⟩
theorem c_K_townOf_96 {P : kt_P} {NM : Nat} {L : List (Option Value)} {rest : List Value} {N : Nat} {I : kt_I} {J : kt_J} {R : kt_R} {Q : Option Value → kt_I → kt_J → kt_R → Prop} {x0 : Int64} (hrest : (rest.map fun v => v.category).sum ≤ 8) (kk : KW P i_J_bitCount N 0 [some (.long x0), none] [] N I J R (fun v I' J' R' => KW P i_K_townOf NM 99 L (kt_pu v rest) N I' J' R' Q)) : KW P i_K_townOf NM 96 L (.long x0 :: rest) N I J R Q := kw_callS x_K_townOf_96 (As := [.long x0]) rfl rfl (Nat.le_of_ble_eq_true rfl) hrest (Nat.le_refl N) (fun h => h) kk
theorem x_K_townOf_99 : kt_dc i_K_townOf 99 (.ireturn) 1 100 ∧ kt_rt i_K_townOf = (some .int) := ⟨⟨by decide +kernel, rfl⟩, rfl⟩
theorem x_K_townOf_100 : kt_dc i_K_townOf 100 (.aload_n 0) 1 101 := ⟨by decide +kernel, rfl⟩
theorem x_K_townOf_101 : kt_sG i_K_townOf 101 4 0 2 104 := ⟨23, RX4, TX4, 5, ⟨by decide +kernel, rfl⟩, rfl, by decide, rfl, by decide, Or.inl (tw_182)⟩
theorem x_K_townOf_104 : kt_sG i_K_townOf 104 0 7 2 107 := ⟨121, RX0, TX0, 11, ⟨by decide +kernel, rfl⟩, rfl, by decide, rfl, by decide, Or.inr ⟨"KinderTowns", tw_153⟩⟩
theorem x_K_townOf_107 : kt_dc i_K_townOf 107 (.iload_n 1) 1 108 := ⟨by decide +kernel, rfl⟩
theorem x_K_townOf_108 : kt_dc i_K_townOf 108 (.laload) 1 109 := ⟨by decide +kernel, rfl⟩
theorem x_K_townOf_109 : kt_sS i_K_townOf 109 i_J_bitCount 1 112 := ⟨125, ⟨by decide +kernel, rfl⟩, Or.inl (tw_375), j_J_bitCount, tw_336, rfl⟩
theorem c_K_townOf_109 {P : kt_P} {NM : Nat} {L : List (Option Value)} {rest : List Value} {N : Nat} {I : kt_I} {J : kt_J} {R : kt_R} {Q : Option Value → kt_I → kt_J → kt_R → Prop} {x0 : Int64} (hrest : (rest.map fun v => v.category).sum ≤ 8) (kk : KW P i_J_bitCount N 0 [some (.long x0), none] [] N I J R (fun v I' J' R' => KW P i_K_townOf NM 112 L (kt_pu v rest) N I' J' R' Q)) : KW P i_K_townOf NM 109 L (.long x0 :: rest) N I J R Q := kw_callS x_K_townOf_109 (As := [.long x0]) rfl rfl (Nat.le_of_ble_eq_true rfl) hrest (Nat.le_refl N) (fun h => h) kk
theorem x_K_townOf_112 : kt_dc i_K_townOf 112 (.ireturn) 1 113 ∧ kt_rt i_K_townOf = (some .int) := ⟨⟨by decide +kernel, rfl⟩, rfl⟩
theorem x_K_townOf_113 : kt_dc i_K_townOf 113 (.aload_n 0) 1 114 := ⟨by decide +kernel, rfl⟩
theorem x_K_townOf_114 : kt_sG i_K_townOf 114 4 0 2 117 := ⟨23, RX4, TX4, 5, ⟨by decide +kernel, rfl⟩, rfl, by decide, rfl, by decide, Or.inl (tw_182)⟩
theorem x_K_townOf_117 : kt_sG i_K_townOf 117 0 1 2 120 := ⟨63, RX0, TX0, 11, ⟨by decide +kernel, rfl⟩, rfl, by decide, rfl, by decide, Or.inr ⟨"KinderTowns", tw_141⟩⟩
theorem x_K_townOf_120 : kt_dc i_K_townOf 120 (.aload_n 0) 1 121 := ⟨by decide +kernel, rfl⟩
theorem x_K_townOf_121 : kt_sG i_K_townOf 121 4 0 2 124 := ⟨23, RX4, TX4, 5, ⟨by decide +kernel, rfl⟩, rfl, by decide, rfl, by decide, Or.inl (tw_182)⟩
theorem x_K_townOf_124 : kt_sG i_K_townOf 124 0 5 2 127 := ⟨99, RX0, TX0, 11, ⟨by decide +kernel, rfl⟩, rfl, by decide, rfl, by decide, Or.inr ⟨"KinderTowns", tw_149⟩⟩
theorem x_K_townOf_127 : kt_dc i_K_townOf 127 (.iload_n 1) 1 128 := ⟨by decide +kernel, rfl⟩
theorem x_K_townOf_128 : kt_dc i_K_townOf 128 (.laload) 1 129 := ⟨by decide +kernel, rfl⟩
theorem x_K_townOf_129 : kt_sV i_K_townOf 129 i_E_cancelledIn 1 1 132 := ⟨131, ⟨by decide +kernel, rfl⟩, Or.inr ⟨"KinderTowns", tw_376⟩, j_E_cancelledIn, ⟨tw_239, tp_7⟩, ⟨TX1, 8, rfl⟩, by decide, rfl⟩
theorem c_K_townOf_129 {P : kt_P} {NM : Nat} {L : List (Option Value)} {rest : List Value} {N : Nat} {I : kt_I} {J : kt_J} {R : kt_R} {Q : Option Value → kt_I → kt_J → kt_R → Prop} {b : Nat} {x0 : Int64} (hkd : kt_kd P N b = (1, 0)) (hrest : (rest.map fun v => v.category).sum ≤ 8) (kk : KW P i_E_cancelledIn N 0 [some (.ref b), some (.long x0), none, none, none, none] [] N I J R (fun v I' J' R' => KW P i_K_townOf NM 132 L (kt_pu v rest) N I' J' R' Q)) : KW P i_K_townOf NM 129 L (.long x0 :: .ref b :: rest) N I J R Q := kw_callV x_K_townOf_129 (As := [.long x0]) rfl rfl (Nat.le_of_ble_eq_true rfl) hrest hkd (Nat.le_refl N) (fun h => h) kk
theorem x_K_townOf_132 : kt_sS i_K_townOf 132 i_J_bitCount 1 135 := ⟨125, ⟨by decide +kernel, rfl⟩, Or.inl (tw_375), j_J_bitCount, tw_336, rfl⟩
theorem c_K_townOf_132 {P : kt_P} {NM : Nat} {L : List (Option Value)} {rest : List Value} {N : Nat} {I : kt_I} {J : kt_J} {R : kt_R} {Q : Option Value → kt_I → kt_J → kt_R → Prop} {x0 : Int64} (hrest : (rest.map fun v => v.category).sum ≤ 8) (kk : KW P i_J_bitCount N 0 [some (.long x0), none] [] N I J R (fun v I' J' R' => KW P i_K_townOf NM 135 L (kt_pu v rest) N I' J' R' Q)) : KW P i_K_townOf NM 132 L (.long x0 :: rest) N I J R Q := kw_callS x_K_townOf_132 (As := [.long x0]) rfl rfl (Nat.le_of_ble_eq_true rfl) hrest (Nat.le_refl N) (fun h => h) kk
theorem x_K_townOf_135 : kt_dc i_K_townOf 135 (.ireturn) 1 136 ∧ kt_rt i_K_townOf = (some .int) := ⟨⟨by decide +kernel, rfl⟩, rfl⟩
theorem x_K_townOf_136 : kt_dc i_K_townOf 136 (.aload_n 0) 1 137 := ⟨by decide +kernel, rfl⟩
theorem x_K_townOf_137 : kt_sG i_K_townOf 137 4 0 2 140 := ⟨23, RX4, TX4, 5, ⟨by decide +kernel, rfl⟩, rfl, by decide, rfl, by decide, Or.inl (tw_182)⟩
theorem x_K_townOf_140 : kt_sG i_K_townOf 140 0 8 2 143 := ⟨107, RX0, TX0, 11, ⟨by decide +kernel, rfl⟩, rfl, by decide, rfl, by decide, Or.inr ⟨"KinderTowns", tw_155⟩⟩
theorem x_K_townOf_143 : kt_dc i_K_townOf 143 (.iload_n 1) 1 144 := ⟨by decide +kernel, rfl⟩
theorem x_K_townOf_144 : kt_dc i_K_townOf 144 (.laload) 1 145 := ⟨by decide +kernel, rfl⟩
theorem x_K_townOf_145 : kt_sS i_K_townOf 145 i_J_bitCount 1 148 := ⟨125, ⟨by decide +kernel, rfl⟩, Or.inl (tw_375), j_J_bitCount, tw_336, rfl⟩
theorem c_K_townOf_145 {P : kt_P} {NM : Nat} {L : List (Option Value)} {rest : List Value} {N : Nat} {I : kt_I} {J : kt_J} {R : kt_R} {Q : Option Value → kt_I → kt_J → kt_R → Prop} {x0 : Int64} (hrest : (rest.map fun v => v.category).sum ≤ 8) (kk : KW P i_J_bitCount N 0 [some (.long x0), none] [] N I J R (fun v I' J' R' => KW P i_K_townOf NM 148 L (kt_pu v rest) N I' J' R' Q)) : KW P i_K_townOf NM 145 L (.long x0 :: rest) N I J R Q := kw_callS x_K_townOf_145 (As := [.long x0]) rfl rfl (Nat.le_of_ble_eq_true rfl) hrest (Nat.le_refl N) (fun h => h) kk
theorem x_K_townOf_148 : kt_dc i_K_townOf 148 (.ireturn) 1 149 ∧ kt_rt i_K_townOf = (some .int) := ⟨⟨by decide +kernel, rfl⟩, rfl⟩
theorem x_K_townOf_149 : kt_dc i_K_townOf 149 (.aload_n 0) 1 150 := ⟨by decide +kernel, rfl⟩
theorem x_K_townOf_150 : kt_sG i_K_townOf 150 4 0 2 153 := ⟨23, RX4, TX4, 5, ⟨by decide +kernel, rfl⟩, rfl, by decide, rfl, by decide, Or.inl (tw_182)⟩
theorem x_K_townOf_153 : kt_sG i_K_townOf 153 0 1 2 156 := ⟨63, RX0, TX0, 11, ⟨by decide +kernel, rfl⟩, rfl, by decide, rfl, by decide, Or.inr ⟨"KinderTowns", tw_141⟩⟩
theorem x_K_townOf_156 : kt_dc i_K_townOf 156 (.aload_n 0) 1 157 := ⟨by decide +kernel, rfl⟩
theorem x_K_townOf_157 : kt_sG i_K_townOf 157 4 0 2 160 := ⟨23, RX4, TX4, 5, ⟨by decide +kernel, rfl⟩, rfl, by decide, rfl, by decide, Or.inl (tw_182)⟩
theorem x_K_townOf_160 : kt_sG i_K_townOf 160 0 1 2 163 := ⟨63, RX0, TX0, 11, ⟨by decide +kernel, rfl⟩, rfl, by decide, rfl, by decide, Or.inr ⟨"KinderTowns", tw_141⟩⟩
theorem x_K_townOf_163 : kt_sG i_K_townOf 163 1 2 2 166 := ⟨81, RX1, TX1, 8, ⟨by decide +kernel, rfl⟩, rfl, by decide, rfl, by decide, Or.inr ⟨"KinderTowns", tw_102⟩⟩
theorem x_K_townOf_166 : kt_dc i_K_townOf 166 (.iload_n 1) 1 167 := ⟨by decide +kernel, rfl⟩
theorem x_K_townOf_167 : kt_sV i_K_townOf 167 i_E_having 1 2 170 := ⟨135, ⟨by decide +kernel, rfl⟩, Or.inr ⟨"KinderTowns", tw_377⟩, j_E_having, ⟨tw_379, tp_26⟩, ⟨TX1, 8, rfl⟩, by decide, rfl⟩
theorem c_K_townOf_167 {P : kt_P} {NM : Nat} {L : List (Option Value)} {rest : List Value} {N : Nat} {I : kt_I} {J : kt_J} {R : kt_R} {Q : Option Value → kt_I → kt_J → kt_R → Prop} {b : Nat} {x0 : Nat} {x1 : Int32} (hkd : kt_kd P N b = (1, 0)) (hrest : (rest.map fun v => v.category).sum ≤ 8) (kk : KW P i_E_having N 0 [some (.ref b), some (.ref x0), some (.int x1), none, none, none] [] N I J R (fun v I' J' R' => KW P i_K_townOf NM 170 L (kt_pu v rest) N I' J' R' Q)) : KW P i_K_townOf NM 167 L (.int x1 :: .ref x0 :: .ref b :: rest) N I J R Q := kw_callV x_K_townOf_167 (As := [.ref x0, .int x1]) rfl rfl (Nat.le_of_ble_eq_true rfl) hrest hkd (Nat.le_refl N) (fun h => h) kk
theorem x_K_townOf_170 : kt_sS i_K_townOf 170 i_J_bitCount 1 173 := ⟨125, ⟨by decide +kernel, rfl⟩, Or.inl (tw_375), j_J_bitCount, tw_336, rfl⟩
theorem c_K_townOf_170 {P : kt_P} {NM : Nat} {L : List (Option Value)} {rest : List Value} {N : Nat} {I : kt_I} {J : kt_J} {R : kt_R} {Q : Option Value → kt_I → kt_J → kt_R → Prop} {x0 : Int64} (hrest : (rest.map fun v => v.category).sum ≤ 8) (kk : KW P i_J_bitCount N 0 [some (.long x0), none] [] N I J R (fun v I' J' R' => KW P i_K_townOf NM 173 L (kt_pu v rest) N I' J' R' Q)) : KW P i_K_townOf NM 170 L (.long x0 :: rest) N I J R Q := kw_callS x_K_townOf_170 (As := [.long x0]) rfl rfl (Nat.le_of_ble_eq_true rfl) hrest (Nat.le_refl N) (fun h => h) kk
theorem x_K_townOf_173 : kt_dc i_K_townOf 173 (.ireturn) 1 174 ∧ kt_rt i_K_townOf = (some .int) := ⟨⟨by decide +kernel, rfl⟩, rfl⟩
theorem x_K_townOf_174 : kt_dc i_K_townOf 174 (.aload_n 0) 1 175 := ⟨by decide +kernel, rfl⟩
theorem x_K_townOf_175 : kt_sG i_K_townOf 175 4 0 2 178 := ⟨23, RX4, TX4, 5, ⟨by decide +kernel, rfl⟩, rfl, by decide, rfl, by decide, Or.inl (tw_182)⟩
theorem x_K_townOf_178 : kt_dc i_K_townOf 178 (.aload_n 0) 1 179 := ⟨by decide +kernel, rfl⟩
theorem x_K_townOf_179 : kt_sG i_K_townOf 179 4 0 2 182 := ⟨23, RX4, TX4, 5, ⟨by decide +kernel, rfl⟩, rfl, by decide, rfl, by decide, Or.inl (tw_182)⟩
theorem x_K_townOf_182 : kt_sG i_K_townOf 182 0 5 2 185 := ⟨99, RX0, TX0, 11, ⟨by decide +kernel, rfl⟩, rfl, by decide, rfl, by decide, Or.inr ⟨"KinderTowns", tw_149⟩⟩
theorem x_K_townOf_185 : kt_dc i_K_townOf 185 (.iload_n 1) 1 186 := ⟨by decide +kernel, rfl⟩
theorem x_K_townOf_186 : kt_dc i_K_townOf 186 (.laload) 1 187 := ⟨by decide +kernel, rfl⟩
theorem x_K_townOf_187 : kt_sV i_K_townOf 187 i_C_townsThatKnow 0 1 190 := ⟨139, ⟨by decide +kernel, rfl⟩, Or.inr ⟨"KinderTowns", tw_381⟩, j_C_townsThatKnow, ⟨tw_383, tp_27⟩, ⟨TX0, 11, rfl⟩, by decide, rfl⟩
theorem c_K_townOf_187 {P : kt_P} {NM : Nat} {L : List (Option Value)} {rest : List Value} {N : Nat} {I : kt_I} {J : kt_J} {R : kt_R} {Q : Option Value → kt_I → kt_J → kt_R → Prop} {b : Nat} {x0 : Int64} (hkd : kt_kd P N b = (0, 0)) (hrest : (rest.map fun v => v.category).sum ≤ 8) (kk : KW P i_C_townsThatKnow N 0 [some (.ref b), some (.long x0), none, none, none] [] N I J R (fun v I' J' R' => KW P i_K_townOf NM 190 L (kt_pu v rest) N I' J' R' Q)) : KW P i_K_townOf NM 187 L (.long x0 :: .ref b :: rest) N I J R Q := kw_callV x_K_townOf_187 (As := [.long x0]) rfl rfl (Nat.le_of_ble_eq_true rfl) hrest hkd (Nat.le_refl N) (fun h => h) kk
theorem x_K_townOf_190 : kt_dc i_K_townOf 190 (.ireturn) 1 191 ∧ kt_rt i_K_townOf = (some .int) := ⟨⟨by decide +kernel, rfl⟩, rfl⟩
theorem x_K_goodOf_0 : kt_dc i_K_goodOf 0 (.aload_n 0) 1 1 := ⟨by decide +kernel, rfl⟩
theorem x_K_goodOf_1 : kt_sG i_K_goodOf 1 4 0 2 4 := ⟨23, RX4, TX4, 5, ⟨by decide +kernel, rfl⟩, rfl, by decide, rfl, by decide, Or.inl (tw_182)⟩
theorem x_K_goodOf_4 : kt_dc i_K_goodOf 4 (.iload_n 1) 1 5 := ⟨by decide +kernel, rfl⟩
theorem x_K_goodOf_5 : kt_sV i_K_goodOf 5 i_C_isTown 0 1 8 := ⟨110, ⟨by decide +kernel, rfl⟩, Or.inr ⟨"KinderTowns", tw_369⟩, j_C_isTown, ⟨tw_285, tp_15⟩, ⟨TX0, 11, rfl⟩, by decide, rfl⟩
theorem c_K_goodOf_5 {P : kt_P} {NM : Nat} {L : List (Option Value)} {rest : List Value} {N : Nat} {I : kt_I} {J : kt_J} {R : kt_R} {Q : Option Value → kt_I → kt_J → kt_R → Prop} {b : Nat} {x0 : Int32} (hkd : kt_kd P N b = (0, 0)) (hrest : (rest.map fun v => v.category).sum ≤ 8) (kk : KW P i_C_isTown N 0 [some (.ref b), some (.int x0)] [] N I J R (fun v I' J' R' => KW P i_K_goodOf NM 8 L (kt_pu v rest) N I' J' R' Q)) : KW P i_K_goodOf NM 5 L (.int x0 :: .ref b :: rest) N I J R Q := kw_callV x_K_goodOf_5 (As := [.int x0]) rfl rfl (Nat.le_of_ble_eq_true rfl) hrest hkd (Nat.le_refl N) (fun h => h) kk
theorem x_K_goodOf_8 : kt_dj i_K_goodOf 8 (.ifCond .eq) 28 11 := ⟨20, by decide +kernel, by decide, rfl⟩
theorem x_K_goodOf_11 : kt_dc i_K_goodOf 11 (.iload_n 2) 1 12 := ⟨by decide +kernel, rfl⟩
theorem x_K_goodOf_12 : kt_dc i_K_goodOf 12 (.bipush 6) 2 14 ∧ (Int8.ofInt (6)).toInt32 = nI 6 := ⟨⟨by decide +kernel, rfl⟩, by decide⟩
theorem x_K_goodOf_14 : kt_sS i_K_goodOf 14 i_K_isBelow 2 17 := ⟨73, ⟨by decide +kernel, rfl⟩, Or.inl (tw_274), j_K_isBelow, tw_219, rfl⟩
theorem c_K_goodOf_14 {P : kt_P} {NM : Nat} {L : List (Option Value)} {rest : List Value} {N : Nat} {I : kt_I} {J : kt_J} {R : kt_R} {Q : Option Value → kt_I → kt_J → kt_R → Prop} {x0 : Int32} {x1 : Int32} (hrest : (rest.map fun v => v.category).sum ≤ 8) (kk : KW P i_K_isBelow N 0 [some (.int x0), some (.int x1)] [] N I J R (fun v I' J' R' => KW P i_K_goodOf NM 17 L (kt_pu v rest) N I' J' R' Q)) : KW P i_K_goodOf NM 14 L (.int x1 :: .int x0 :: rest) N I J R Q := kw_callS x_K_goodOf_14 (As := [.int x0, .int x1]) rfl rfl (Nat.le_of_ble_eq_true rfl) hrest (Nat.le_refl N) (fun h => h) kk
theorem x_K_goodOf_17 : kt_dj i_K_goodOf 17 (.ifCond .eq) 28 20 := ⟨11, by decide +kernel, by decide, rfl⟩
theorem x_K_goodOf_20 : kt_dc i_K_goodOf 20 (.iload_n 3) 1 21 := ⟨by decide +kernel, rfl⟩
theorem x_K_goodOf_21 : kt_dc i_K_goodOf 21 (.iconst 4) 1 22 ∧ Int32.ofInt (4) = nI 4 := ⟨⟨by decide +kernel, rfl⟩, by decide⟩
theorem x_K_goodOf_22 : kt_sS i_K_goodOf 22 i_K_isBelow 2 25 := ⟨73, ⟨by decide +kernel, rfl⟩, Or.inl (tw_274), j_K_isBelow, tw_219, rfl⟩
theorem c_K_goodOf_22 {P : kt_P} {NM : Nat} {L : List (Option Value)} {rest : List Value} {N : Nat} {I : kt_I} {J : kt_J} {R : kt_R} {Q : Option Value → kt_I → kt_J → kt_R → Prop} {x0 : Int32} {x1 : Int32} (hrest : (rest.map fun v => v.category).sum ≤ 8) (kk : KW P i_K_isBelow N 0 [some (.int x0), some (.int x1)] [] N I J R (fun v I' J' R' => KW P i_K_goodOf NM 25 L (kt_pu v rest) N I' J' R' Q)) : KW P i_K_goodOf NM 22 L (.int x1 :: .int x0 :: rest) N I J R Q := kw_callS x_K_goodOf_22 (As := [.int x0, .int x1]) rfl rfl (Nat.le_of_ble_eq_true rfl) hrest (Nat.le_refl N) (fun h => h) kk
theorem x_K_goodOf_25 : kt_dj i_K_goodOf 25 (.ifCond .ne) 30 28 := ⟨5, by decide +kernel, by decide, rfl⟩
theorem x_K_goodOf_28 : kt_dc i_K_goodOf 28 (.iconst (-1)) 1 29 ∧ Int32.ofInt (-1) = (-1 : Int32) := ⟨⟨by decide +kernel, rfl⟩, by decide⟩
theorem x_K_goodOf_29 : kt_dc i_K_goodOf 29 (.ireturn) 1 30 ∧ kt_rt i_K_goodOf = (some .int) := ⟨⟨by decide +kernel, rfl⟩, rfl⟩
theorem x_K_goodOf_30 : kt_dc i_K_goodOf 30 (.aload_n 0) 1 31 := ⟨by decide +kernel, rfl⟩
theorem x_K_goodOf_31 : kt_sG i_K_goodOf 31 4 0 2 34 := ⟨23, RX4, TX4, 5, ⟨by decide +kernel, rfl⟩, rfl, by decide, rfl, by decide, Or.inl (tw_182)⟩
theorem x_K_goodOf_34 : kt_sG i_K_goodOf 34 0 1 2 37 := ⟨63, RX0, TX0, 11, ⟨by decide +kernel, rfl⟩, rfl, by decide, rfl, by decide, Or.inr ⟨"KinderTowns", tw_141⟩⟩
theorem x_K_goodOf_37 : kt_dc i_K_goodOf 37 (.astore 4) 2 39 := ⟨by decide +kernel, rfl⟩
theorem x_K_goodOf_39 : kt_dc i_K_goodOf 39 (.aload 4) 2 41 := ⟨by decide +kernel, rfl⟩
theorem x_K_goodOf_41 : kt_dc i_K_goodOf 41 (.aload 4) 2 43 := ⟨by decide +kernel, rfl⟩
theorem x_K_goodOf_43 : kt_sG i_K_goodOf 43 1 4 2 46 := ⟨87, RX1, TX1, 8, ⟨by decide +kernel, rfl⟩, rfl, by decide, rfl, by decide, Or.inr ⟨"KinderTowns", tw_109⟩⟩
theorem x_K_goodOf_46 : kt_dc i_K_goodOf 46 (.iload_n 2) 1 47 := ⟨by decide +kernel, rfl⟩
theorem x_K_goodOf_47 : kt_sV i_K_goodOf 47 i_E_having 1 2 50 := ⟨135, ⟨by decide +kernel, rfl⟩, Or.inr ⟨"KinderTowns", tw_377⟩, j_E_having, ⟨tw_379, tp_26⟩, ⟨TX1, 8, rfl⟩, by decide, rfl⟩
theorem c_K_goodOf_47 {P : kt_P} {NM : Nat} {L : List (Option Value)} {rest : List Value} {N : Nat} {I : kt_I} {J : kt_J} {R : kt_R} {Q : Option Value → kt_I → kt_J → kt_R → Prop} {b : Nat} {x0 : Nat} {x1 : Int32} (hkd : kt_kd P N b = (1, 0)) (hrest : (rest.map fun v => v.category).sum ≤ 8) (kk : KW P i_E_having N 0 [some (.ref b), some (.ref x0), some (.int x1), none, none, none] [] N I J R (fun v I' J' R' => KW P i_K_goodOf NM 50 L (kt_pu v rest) N I' J' R' Q)) : KW P i_K_goodOf NM 47 L (.int x1 :: .ref x0 :: .ref b :: rest) N I J R Q := kw_callV x_K_goodOf_47 (As := [.ref x0, .int x1]) rfl rfl (Nat.le_of_ble_eq_true rfl) hrest hkd (Nat.le_refl N) (fun h => h) kk
theorem x_K_goodOf_50 : kt_dc i_K_goodOf 50 (.lstore 5) 2 52 := ⟨by decide +kernel, rfl⟩
theorem x_K_goodOf_52 : kt_dc i_K_goodOf 52 (.aload 4) 2 54 := ⟨by decide +kernel, rfl⟩
theorem x_K_goodOf_54 : kt_dc i_K_goodOf 54 (.aload_n 0) 1 55 := ⟨by decide +kernel, rfl⟩
theorem x_K_goodOf_55 : kt_sG i_K_goodOf 55 4 0 2 58 := ⟨23, RX4, TX4, 5, ⟨by decide +kernel, rfl⟩, rfl, by decide, rfl, by decide, Or.inl (tw_182)⟩
theorem x_K_goodOf_58 : kt_sG i_K_goodOf 58 0 5 2 61 := ⟨99, RX0, TX0, 11, ⟨by decide +kernel, rfl⟩, rfl, by decide, rfl, by decide, Or.inr ⟨"KinderTowns", tw_149⟩⟩
theorem x_K_goodOf_61 : kt_dc i_K_goodOf 61 (.iload_n 1) 1 62 := ⟨by decide +kernel, rfl⟩
theorem x_K_goodOf_62 : kt_dc i_K_goodOf 62 (.laload) 1 63 := ⟨by decide +kernel, rfl⟩
theorem x_K_goodOf_63 : kt_dc i_K_goodOf 63 (.lload 5) 2 65 := ⟨by decide +kernel, rfl⟩
theorem x_K_goodOf_65 : kt_dc i_K_goodOf 65 (.land) 1 66 := ⟨by decide +kernel, rfl⟩
theorem x_K_goodOf_66 : kt_dc i_K_goodOf 66 (.aload 4) 2 68 := ⟨by decide +kernel, rfl⟩
theorem x_K_goodOf_68 : kt_dc i_K_goodOf 68 (.aload 4) 2 70 := ⟨by decide +kernel, rfl⟩
theorem x_K_goodOf_70 : kt_sG i_K_goodOf 70 1 1 2 73 := ⟨77, RX1, TX1, 8, ⟨by decide +kernel, rfl⟩, rfl, by decide, rfl, by decide, Or.inr ⟨"KinderTowns", tw_99⟩⟩
theorem x_K_goodOf_73 : kt_dc i_K_goodOf 73 (.iconst 0) 1 74 ∧ Int32.ofInt (0) = nI 0 := ⟨⟨by decide +kernel, rfl⟩, by decide⟩
theorem x_K_goodOf_74 : kt_sV i_K_goodOf 74 i_E_having 1 2 77 := ⟨135, ⟨by decide +kernel, rfl⟩, Or.inr ⟨"KinderTowns", tw_377⟩, j_E_having, ⟨tw_379, tp_26⟩, ⟨TX1, 8, rfl⟩, by decide, rfl⟩
theorem c_K_goodOf_74 {P : kt_P} {NM : Nat} {L : List (Option Value)} {rest : List Value} {N : Nat} {I : kt_I} {J : kt_J} {R : kt_R} {Q : Option Value → kt_I → kt_J → kt_R → Prop} {b : Nat} {x0 : Nat} {x1 : Int32} (hkd : kt_kd P N b = (1, 0)) (hrest : (rest.map fun v => v.category).sum ≤ 8) (kk : KW P i_E_having N 0 [some (.ref b), some (.ref x0), some (.int x1), none, none, none] [] N I J R (fun v I' J' R' => KW P i_K_goodOf NM 77 L (kt_pu v rest) N I' J' R' Q)) : KW P i_K_goodOf NM 74 L (.int x1 :: .ref x0 :: .ref b :: rest) N I J R Q := kw_callV x_K_goodOf_74 (As := [.ref x0, .int x1]) rfl rfl (Nat.le_of_ble_eq_true rfl) hrest hkd (Nat.le_refl N) (fun h => h) kk
theorem x_K_goodOf_77 : kt_dc i_K_goodOf 77 (.land) 1 78 := ⟨by decide +kernel, rfl⟩
theorem x_K_goodOf_78 : kt_sV i_K_goodOf 78 i_E_piecesOf 1 1 81 := ⟨142, ⟨by decide +kernel, rfl⟩, Or.inr ⟨"KinderTowns", tw_389⟩, j_E_piecesOf, ⟨tw_391, tp_28⟩, ⟨TX1, 8, rfl⟩, by decide, rfl⟩
theorem c_K_goodOf_78 {P : kt_P} {NM : Nat} {L : List (Option Value)} {rest : List Value} {N : Nat} {I : kt_I} {J : kt_J} {R : kt_R} {Q : Option Value → kt_I → kt_J → kt_R → Prop} {b : Nat} {x0 : Int64} (hkd : kt_kd P N b = (1, 0)) (hrest : (rest.map fun v => v.category).sum ≤ 8) (kk : KW P i_E_piecesOf N 0 [some (.ref b), some (.long x0), none, none, none] [] N I J R (fun v I' J' R' => KW P i_K_goodOf NM 81 L (kt_pu v rest) N I' J' R' Q)) : KW P i_K_goodOf NM 78 L (.long x0 :: .ref b :: rest) N I J R Q := kw_callV x_K_goodOf_78 (As := [.long x0]) rfl rfl (Nat.le_of_ble_eq_true rfl) hrest hkd (Nat.le_refl N) (fun h => h) kk
theorem x_K_goodOf_81 : kt_dc i_K_goodOf 81 (.istore 7) 2 83 := ⟨by decide +kernel, rfl⟩
theorem x_K_goodOf_83 : kt_dc i_K_goodOf 83 (.aload 4) 2 85 := ⟨by decide +kernel, rfl⟩
theorem x_K_goodOf_85 : kt_dc i_K_goodOf 85 (.aload_n 0) 1 86 := ⟨by decide +kernel, rfl⟩
theorem x_K_goodOf_86 : kt_sG i_K_goodOf 86 4 0 2 89 := ⟨23, RX4, TX4, 5, ⟨by decide +kernel, rfl⟩, rfl, by decide, rfl, by decide, Or.inl (tw_182)⟩
theorem x_K_goodOf_89 : kt_sG i_K_goodOf 89 0 6 2 92 := ⟨118, RX0, TX0, 11, ⟨by decide +kernel, rfl⟩, rfl, by decide, rfl, by decide, Or.inr ⟨"KinderTowns", tw_151⟩⟩
theorem x_K_goodOf_92 : kt_dc i_K_goodOf 92 (.iload_n 1) 1 93 := ⟨by decide +kernel, rfl⟩
theorem x_K_goodOf_93 : kt_dc i_K_goodOf 93 (.laload) 1 94 := ⟨by decide +kernel, rfl⟩
theorem x_K_goodOf_94 : kt_dc i_K_goodOf 94 (.lload 5) 2 96 := ⟨by decide +kernel, rfl⟩
theorem x_K_goodOf_96 : kt_dc i_K_goodOf 96 (.land) 1 97 := ⟨by decide +kernel, rfl⟩
theorem x_K_goodOf_97 : kt_sV i_K_goodOf 97 i_E_piecesOf 1 1 100 := ⟨142, ⟨by decide +kernel, rfl⟩, Or.inr ⟨"KinderTowns", tw_389⟩, j_E_piecesOf, ⟨tw_391, tp_28⟩, ⟨TX1, 8, rfl⟩, by decide, rfl⟩
theorem c_K_goodOf_97 {P : kt_P} {NM : Nat} {L : List (Option Value)} {rest : List Value} {N : Nat} {I : kt_I} {J : kt_J} {R : kt_R} {Q : Option Value → kt_I → kt_J → kt_R → Prop} {b : Nat} {x0 : Int64} (hkd : kt_kd P N b = (1, 0)) (hrest : (rest.map fun v => v.category).sum ≤ 8) (kk : KW P i_E_piecesOf N 0 [some (.ref b), some (.long x0), none, none, none] [] N I J R (fun v I' J' R' => KW P i_K_goodOf NM 100 L (kt_pu v rest) N I' J' R' Q)) : KW P i_K_goodOf NM 97 L (.long x0 :: .ref b :: rest) N I J R Q := kw_callV x_K_goodOf_97 (As := [.long x0]) rfl rfl (Nat.le_of_ble_eq_true rfl) hrest hkd (Nat.le_refl N) (fun h => h) kk
theorem x_K_goodOf_100 : kt_dc i_K_goodOf 100 (.istore 8) 2 102 := ⟨by decide +kernel, rfl⟩
theorem x_K_goodOf_102 : kt_dc i_K_goodOf 102 (.iload_n 3) 1 103 := ⟨by decide +kernel, rfl⟩
theorem x_K_goodOf_103 : kt_dt i_K_goodOf 103 0 [128, 131, 134] 140 := ⟨37, 2, #[25, 28, 31], 25, by decide +kernel, by decide, by decide, by decide⟩
theorem s_K_goodOf_103 {P : kt_P} {NM : Nat} {L : List (Option Value)} {st : List Value} {N : Nat} {I : kt_I} {J : kt_J} {R : kt_R} {Q : Option Value → kt_I → kt_J → kt_R → Prop} {x : Int32} (h0 : x = nI 0 → KW P i_K_goodOf NM 128 L st N I J R Q) (h1 : x = nI 1 → KW P i_K_goodOf NM 131 L st N I J R Q) (h2 : x = nI 2 → KW P i_K_goodOf NM 134 L st N I J R Q) (hd : ¬ x = nI 0 → ¬ x = nI 1 → ¬ x = nI 2 → KW P i_K_goodOf NM 140 L st N I J R Q) : KW P i_K_goodOf NM 103 L (.int x :: st) N I J R Q :=
  kw_tsw x_K_goodOf_103 (fun j t hj hx => by
    match j, hj, hx with
    | 0, hj, hx => cases hj; exact h0 (Int32.toInt_inj.mp (hx.trans (by decide)))
    | 1, hj, hx => cases hj; exact h1 (Int32.toInt_inj.mp (hx.trans (by decide)))
    | 2, hj, hx => cases hj; exact h2 (Int32.toInt_inj.mp (hx.trans (by decide)))
    | n + 3, hj, hx => simp at hj)
    (fun h => hd (fun e => by subst e; revert h; decide) (fun e => by subst e; revert h; decide) (fun e => by subst e; revert h; decide))
theorem x_K_goodOf_128 : kt_dc i_K_goodOf 128 (.iload 7) 2 130 := ⟨by decide +kernel, rfl⟩
theorem x_K_goodOf_130 : kt_dc i_K_goodOf 130 (.ireturn) 1 131 ∧ kt_rt i_K_goodOf = (some .int) := ⟨⟨by decide +kernel, rfl⟩, rfl⟩
theorem x_K_goodOf_131 : kt_dc i_K_goodOf 131 (.iload 8) 2 133 := ⟨by decide +kernel, rfl⟩
theorem x_K_goodOf_133 : kt_dc i_K_goodOf 133 (.ireturn) 1 134 ∧ kt_rt i_K_goodOf = (some .int) := ⟨⟨by decide +kernel, rfl⟩, rfl⟩
theorem x_K_goodOf_134 : kt_dc i_K_goodOf 134 (.iload 7) 2 136 := ⟨by decide +kernel, rfl⟩
theorem x_K_goodOf_136 : kt_dc i_K_goodOf 136 (.iload 8) 2 138 := ⟨by decide +kernel, rfl⟩
theorem x_K_goodOf_138 : kt_dc i_K_goodOf 138 (.isub) 1 139 := ⟨by decide +kernel, rfl⟩
theorem x_K_goodOf_139 : kt_dc i_K_goodOf 139 (.ireturn) 1 140 ∧ kt_rt i_K_goodOf = (some .int) := ⟨⟨by decide +kernel, rfl⟩, rfl⟩
theorem x_K_goodOf_140 : kt_dc i_K_goodOf 140 (.aload 4) 2 142 := ⟨by decide +kernel, rfl⟩
theorem x_K_goodOf_142 : kt_dc i_K_goodOf 142 (.aload_n 0) 1 143 := ⟨by decide +kernel, rfl⟩
theorem x_K_goodOf_143 : kt_sG i_K_goodOf 143 4 0 2 146 := ⟨23, RX4, TX4, 5, ⟨by decide +kernel, rfl⟩, rfl, by decide, rfl, by decide, Or.inl (tw_182)⟩
theorem x_K_goodOf_146 : kt_sG i_K_goodOf 146 0 7 2 149 := ⟨121, RX0, TX0, 11, ⟨by decide +kernel, rfl⟩, rfl, by decide, rfl, by decide, Or.inr ⟨"KinderTowns", tw_153⟩⟩
theorem x_K_goodOf_149 : kt_dc i_K_goodOf 149 (.iload_n 1) 1 150 := ⟨by decide +kernel, rfl⟩
theorem x_K_goodOf_150 : kt_dc i_K_goodOf 150 (.laload) 1 151 := ⟨by decide +kernel, rfl⟩
theorem x_K_goodOf_151 : kt_dc i_K_goodOf 151 (.lload 5) 2 153 := ⟨by decide +kernel, rfl⟩
theorem x_K_goodOf_153 : kt_dc i_K_goodOf 153 (.land) 1 154 := ⟨by decide +kernel, rfl⟩
theorem x_K_goodOf_154 : kt_sV i_K_goodOf 154 i_E_piecesOf 1 1 157 := ⟨142, ⟨by decide +kernel, rfl⟩, Or.inr ⟨"KinderTowns", tw_389⟩, j_E_piecesOf, ⟨tw_391, tp_28⟩, ⟨TX1, 8, rfl⟩, by decide, rfl⟩
theorem c_K_goodOf_154 {P : kt_P} {NM : Nat} {L : List (Option Value)} {rest : List Value} {N : Nat} {I : kt_I} {J : kt_J} {R : kt_R} {Q : Option Value → kt_I → kt_J → kt_R → Prop} {b : Nat} {x0 : Int64} (hkd : kt_kd P N b = (1, 0)) (hrest : (rest.map fun v => v.category).sum ≤ 8) (kk : KW P i_E_piecesOf N 0 [some (.ref b), some (.long x0), none, none, none] [] N I J R (fun v I' J' R' => KW P i_K_goodOf NM 157 L (kt_pu v rest) N I' J' R' Q)) : KW P i_K_goodOf NM 154 L (.long x0 :: .ref b :: rest) N I J R Q := kw_callV x_K_goodOf_154 (As := [.long x0]) rfl rfl (Nat.le_of_ble_eq_true rfl) hrest hkd (Nat.le_refl N) (fun h => h) kk
theorem x_K_goodOf_157 : kt_dc i_K_goodOf 157 (.ireturn) 1 158 ∧ kt_rt i_K_goodOf = (some .int) := ⟨⟨by decide +kernel, rfl⟩, rfl⟩
theorem x_K_lookedAt_0 : kt_dc i_K_lookedAt 0 (.aload_n 0) 1 1 := ⟨by decide +kernel, rfl⟩
theorem x_K_lookedAt_1 : kt_sG i_K_lookedAt 1 4 0 2 4 := ⟨23, RX4, TX4, 5, ⟨by decide +kernel, rfl⟩, rfl, by decide, rfl, by decide, Or.inl (tw_182)⟩
theorem x_K_lookedAt_4 : kt_dc i_K_lookedAt 4 (.iload_n 1) 1 5 := ⟨by decide +kernel, rfl⟩
theorem x_K_lookedAt_5 : kt_sV i_K_lookedAt 5 i_C_isTown 0 1 8 := ⟨110, ⟨by decide +kernel, rfl⟩, Or.inr ⟨"KinderTowns", tw_369⟩, j_C_isTown, ⟨tw_285, tp_15⟩, ⟨TX0, 11, rfl⟩, by decide, rfl⟩
theorem c_K_lookedAt_5 {P : kt_P} {NM : Nat} {L : List (Option Value)} {rest : List Value} {N : Nat} {I : kt_I} {J : kt_J} {R : kt_R} {Q : Option Value → kt_I → kt_J → kt_R → Prop} {b : Nat} {x0 : Int32} (hkd : kt_kd P N b = (0, 0)) (hrest : (rest.map fun v => v.category).sum ≤ 8) (kk : KW P i_C_isTown N 0 [some (.ref b), some (.int x0)] [] N I J R (fun v I' J' R' => KW P i_K_lookedAt NM 8 L (kt_pu v rest) N I' J' R' Q)) : KW P i_K_lookedAt NM 5 L (.int x0 :: .ref b :: rest) N I J R Q := kw_callV x_K_lookedAt_5 (As := [.int x0]) rfl rfl (Nat.le_of_ble_eq_true rfl) hrest hkd (Nat.le_refl N) (fun h => h) kk
theorem x_K_lookedAt_8 : kt_dj i_K_lookedAt 8 (.ifCond .eq) 24 11 := ⟨16, by decide +kernel, by decide, rfl⟩
theorem x_K_lookedAt_11 : kt_dc i_K_lookedAt 11 (.iload_n 2) 1 12 := ⟨by decide +kernel, rfl⟩
theorem x_K_lookedAt_12 : kt_dc i_K_lookedAt 12 (.bipush 6) 2 14 ∧ (Int8.ofInt (6)).toInt32 = nI 6 := ⟨⟨by decide +kernel, rfl⟩, by decide⟩
theorem x_K_lookedAt_14 : kt_sS i_K_lookedAt 14 i_K_isBelow 2 17 := ⟨73, ⟨by decide +kernel, rfl⟩, Or.inl (tw_274), j_K_isBelow, tw_219, rfl⟩
theorem c_K_lookedAt_14 {P : kt_P} {NM : Nat} {L : List (Option Value)} {rest : List Value} {N : Nat} {I : kt_I} {J : kt_J} {R : kt_R} {Q : Option Value → kt_I → kt_J → kt_R → Prop} {x0 : Int32} {x1 : Int32} (hrest : (rest.map fun v => v.category).sum ≤ 8) (kk : KW P i_K_isBelow N 0 [some (.int x0), some (.int x1)] [] N I J R (fun v I' J' R' => KW P i_K_lookedAt NM 17 L (kt_pu v rest) N I' J' R' Q)) : KW P i_K_lookedAt NM 14 L (.int x1 :: .int x0 :: rest) N I J R Q := kw_callS x_K_lookedAt_14 (As := [.int x0, .int x1]) rfl rfl (Nat.le_of_ble_eq_true rfl) hrest (Nat.le_refl N) (fun h => h) kk
theorem x_K_lookedAt_17 : kt_dj i_K_lookedAt 17 (.ifCond .eq) 24 20 := ⟨7, by decide +kernel, by decide, rfl⟩
theorem x_K_lookedAt_20 : kt_dc i_K_lookedAt 20 (.iload_n 3) 1 21 := ⟨by decide +kernel, rfl⟩
theorem x_K_lookedAt_21 : kt_dj i_K_lookedAt 21 (.ifCond .ge) 26 24 := ⟨5, by decide +kernel, by decide, rfl⟩
theorem x_K_lookedAt_24 : kt_dc i_K_lookedAt 24 (.iconst (-1)) 1 25 ∧ Int32.ofInt (-1) = (-1 : Int32) := ⟨⟨by decide +kernel, rfl⟩, by decide⟩
theorem x_K_lookedAt_25 : kt_dc i_K_lookedAt 25 (.ireturn) 1 26 ∧ kt_rt i_K_lookedAt = (some .int) := ⟨⟨by decide +kernel, rfl⟩, rfl⟩
theorem x_K_lookedAt_26 : kt_dc i_K_lookedAt 26 (.aload_n 0) 1 27 := ⟨by decide +kernel, rfl⟩
theorem x_K_lookedAt_27 : kt_sG i_K_lookedAt 27 4 0 2 30 := ⟨23, RX4, TX4, 5, ⟨by decide +kernel, rfl⟩, rfl, by decide, rfl, by decide, Or.inl (tw_182)⟩
theorem x_K_lookedAt_30 : kt_sG i_K_lookedAt 30 0 0 2 33 := ⟨145, RX0, TX0, 11, ⟨by decide +kernel, rfl⟩, rfl, by decide, rfl, by decide, Or.inr ⟨"KinderTowns", tw_139⟩⟩
theorem x_K_lookedAt_33 : kt_dc i_K_lookedAt 33 (.astore 4) 2 35 := ⟨by decide +kernel, rfl⟩
theorem x_K_lookedAt_35 : kt_dc i_K_lookedAt 35 (.aload 4) 2 37 := ⟨by decide +kernel, rfl⟩
theorem x_K_lookedAt_37 : kt_dc i_K_lookedAt 37 (.aload_n 0) 1 38 := ⟨by decide +kernel, rfl⟩
theorem x_K_lookedAt_38 : kt_sG i_K_lookedAt 38 4 0 2 41 := ⟨23, RX4, TX4, 5, ⟨by decide +kernel, rfl⟩, rfl, by decide, rfl, by decide, Or.inl (tw_182)⟩
theorem x_K_lookedAt_41 : kt_sG i_K_lookedAt 41 0 1 2 44 := ⟨63, RX0, TX0, 11, ⟨by decide +kernel, rfl⟩, rfl, by decide, rfl, by decide, Or.inr ⟨"KinderTowns", tw_141⟩⟩
theorem x_K_lookedAt_44 : kt_dc i_K_lookedAt 44 (.aload_n 0) 1 45 := ⟨by decide +kernel, rfl⟩
theorem x_K_lookedAt_45 : kt_sG i_K_lookedAt 45 4 0 2 48 := ⟨23, RX4, TX4, 5, ⟨by decide +kernel, rfl⟩, rfl, by decide, rfl, by decide, Or.inl (tw_182)⟩
theorem x_K_lookedAt_48 : kt_sG i_K_lookedAt 48 0 1 2 51 := ⟨63, RX0, TX0, 11, ⟨by decide +kernel, rfl⟩, rfl, by decide, rfl, by decide, Or.inr ⟨"KinderTowns", tw_141⟩⟩
theorem x_K_lookedAt_51 : kt_dc i_K_lookedAt 51 (.aload_n 0) 1 52 := ⟨by decide +kernel, rfl⟩
theorem x_K_lookedAt_52 : kt_sG i_K_lookedAt 52 4 0 2 55 := ⟨23, RX4, TX4, 5, ⟨by decide +kernel, rfl⟩, rfl, by decide, rfl, by decide, Or.inl (tw_182)⟩
theorem x_K_lookedAt_55 : kt_sG i_K_lookedAt 55 0 5 2 58 := ⟨99, RX0, TX0, 11, ⟨by decide +kernel, rfl⟩, rfl, by decide, rfl, by decide, Or.inr ⟨"KinderTowns", tw_149⟩⟩
theorem x_K_lookedAt_58 : kt_dc i_K_lookedAt 58 (.iload_n 1) 1 59 := ⟨by decide +kernel, rfl⟩
theorem x_K_lookedAt_59 : kt_dc i_K_lookedAt 59 (.laload) 1 60 := ⟨by decide +kernel, rfl⟩
theorem x_K_lookedAt_60 : kt_sV i_K_lookedAt 60 i_E_standingIn 1 1 63 := ⟨149, ⟨by decide +kernel, rfl⟩, Or.inr ⟨"KinderTowns", tw_397⟩, j_E_standingIn, ⟨tw_235, tp_6⟩, ⟨TX1, 8, rfl⟩, by decide, rfl⟩
theorem c_K_lookedAt_60 {P : kt_P} {NM : Nat} {L : List (Option Value)} {rest : List Value} {N : Nat} {I : kt_I} {J : kt_J} {R : kt_R} {Q : Option Value → kt_I → kt_J → kt_R → Prop} {b : Nat} {x0 : Int64} (hkd : kt_kd P N b = (1, 0)) (hrest : (rest.map fun v => v.category).sum ≤ 8) (kk : KW P i_E_standingIn N 0 [some (.ref b), some (.long x0), none] [] N I J R (fun v I' J' R' => KW P i_K_lookedAt NM 63 L (kt_pu v rest) N I' J' R' Q)) : KW P i_K_lookedAt NM 60 L (.long x0 :: .ref b :: rest) N I J R Q := kw_callV x_K_lookedAt_60 (As := [.long x0]) rfl rfl (Nat.le_of_ble_eq_true rfl) hrest hkd (Nat.le_refl N) (fun h => h) kk
theorem x_K_lookedAt_63 : kt_dc i_K_lookedAt 63 (.aload_n 0) 1 64 := ⟨by decide +kernel, rfl⟩
theorem x_K_lookedAt_64 : kt_sG i_K_lookedAt 64 4 0 2 67 := ⟨23, RX4, TX4, 5, ⟨by decide +kernel, rfl⟩, rfl, by decide, rfl, by decide, Or.inl (tw_182)⟩
theorem x_K_lookedAt_67 : kt_sG i_K_lookedAt 67 0 3 0 70 := ⟨152, RX0, TX0, 11, ⟨by decide +kernel, rfl⟩, rfl, by decide, rfl, by decide, Or.inr ⟨"KinderTowns", tw_145⟩⟩
theorem x_K_lookedAt_70 : kt_dc i_K_lookedAt 70 (.iload_n 2) 1 71 := ⟨by decide +kernel, rfl⟩
theorem x_K_lookedAt_71 : kt_sV i_K_lookedAt 71 i_L_lookAtGood 2 4 74 := ⟨155, ⟨by decide +kernel, rfl⟩, Or.inr ⟨"KinderTowns", tw_398⟩, j_L_lookAtGood, ⟨tw_247, tp_8⟩, ⟨TX2, 6, rfl⟩, by decide, rfl⟩
theorem c_K_lookedAt_71 {P : kt_P} {NM : Nat} {L : List (Option Value)} {rest : List Value} {N : Nat} {I : kt_I} {J : kt_J} {R : kt_R} {Q : Option Value → kt_I → kt_J → kt_R → Prop} {b : Nat} {x0 : Nat} {x1 : Int64} {x2 : Int32} {x3 : Int32} (hkd : kt_kd P N b = (2, 0)) (hrest : (rest.map fun v => v.category).sum ≤ 8) (kk : KW P i_L_lookAtGood N 0 [some (.ref b), some (.ref x0), some (.long x1), none, some (.int x2), some (.int x3), none, none, none] [] N I J R (fun v I' J' R' => KW P i_K_lookedAt NM 74 L (kt_pu v rest) N I' J' R' Q)) : KW P i_K_lookedAt NM 71 L (.int x3 :: .int x2 :: .long x1 :: .ref x0 :: .ref b :: rest) N I J R Q := kw_callV x_K_lookedAt_71 (As := [.ref x0, .long x1, .int x2, .int x3]) rfl rfl (Nat.le_of_ble_eq_true rfl) hrest hkd (Nat.le_refl N) (fun h => h) kk
theorem x_K_lookedAt_74 : kt_dc i_K_lookedAt 74 (.iload_n 3) 1 75 := ⟨by decide +kernel, rfl⟩
theorem x_K_lookedAt_75 : kt_dc i_K_lookedAt 75 (.aload 4) 2 77 := ⟨by decide +kernel, rfl⟩
theorem x_K_lookedAt_77 : kt_sG i_K_lookedAt 77 2 1 0 80 := ⟨161, RX2, TX2, 6, ⟨by decide +kernel, rfl⟩, rfl, by decide, rfl, by decide, Or.inr ⟨"KinderTowns", tw_66⟩⟩
theorem x_K_lookedAt_80 : kt_sS i_K_lookedAt 80 i_K_isBelow 2 83 := ⟨73, ⟨by decide +kernel, rfl⟩, Or.inl (tw_274), j_K_isBelow, tw_219, rfl⟩
theorem c_K_lookedAt_80 {P : kt_P} {NM : Nat} {L : List (Option Value)} {rest : List Value} {N : Nat} {I : kt_I} {J : kt_J} {R : kt_R} {Q : Option Value → kt_I → kt_J → kt_R → Prop} {x0 : Int32} {x1 : Int32} (hrest : (rest.map fun v => v.category).sum ≤ 8) (kk : KW P i_K_isBelow N 0 [some (.int x0), some (.int x1)] [] N I J R (fun v I' J' R' => KW P i_K_lookedAt NM 83 L (kt_pu v rest) N I' J' R' Q)) : KW P i_K_lookedAt NM 80 L (.int x1 :: .int x0 :: rest) N I J R Q := kw_callS x_K_lookedAt_80 (As := [.int x0, .int x1]) rfl rfl (Nat.le_of_ble_eq_true rfl) hrest (Nat.le_refl N) (fun h => h) kk
theorem x_K_lookedAt_83 : kt_dj i_K_lookedAt 83 (.ifCond .eq) 96 86 := ⟨13, by decide +kernel, by decide, rfl⟩
theorem x_K_lookedAt_86 : kt_dc i_K_lookedAt 86 (.aload 4) 2 88 := ⟨by decide +kernel, rfl⟩
theorem x_K_lookedAt_88 : kt_sG i_K_lookedAt 88 2 0 2 91 := ⟨164, RX2, TX2, 6, ⟨by decide +kernel, rfl⟩, rfl, by decide, rfl, by decide, Or.inr ⟨"KinderTowns", tw_64⟩⟩
theorem x_K_lookedAt_91 : kt_dc i_K_lookedAt 91 (.iload_n 3) 1 92 := ⟨by decide +kernel, rfl⟩
theorem x_K_lookedAt_92 : kt_dc i_K_lookedAt 92 (.iaload) 1 93 := ⟨by decide +kernel, rfl⟩
theorem x_K_lookedAt_93 : kt_dj i_K_lookedAt 93 .goto 98 96 := ⟨5, by decide +kernel, by decide, rfl⟩
theorem x_K_lookedAt_96 : kt_dc i_K_lookedAt 96 (.bipush (-4)) 2 98 ∧ (Int8.ofInt (-4)).toInt32 = (-4 : Int32) := ⟨⟨by decide +kernel, rfl⟩, by decide⟩
theorem x_K_lookedAt_98 : kt_dc i_K_lookedAt 98 (.ireturn) 1 99 ∧ kt_rt i_K_lookedAt = (some .int) := ⟨⟨by decide +kernel, rfl⟩, rfl⟩
theorem x_K_personOf_0 : kt_dc i_K_personOf 0 (.aload_n 0) 1 1 := ⟨by decide +kernel, rfl⟩
theorem x_K_personOf_1 : kt_sG i_K_personOf 1 4 0 2 4 := ⟨23, RX4, TX4, 5, ⟨by decide +kernel, rfl⟩, rfl, by decide, rfl, by decide, Or.inl (tw_182)⟩
theorem x_K_personOf_4 : kt_dc i_K_personOf 4 (.iload_n 1) 1 5 := ⟨by decide +kernel, rfl⟩
theorem x_K_personOf_5 : kt_sV i_K_personOf 5 i_C_isTown 0 1 8 := ⟨110, ⟨by decide +kernel, rfl⟩, Or.inr ⟨"KinderTowns", tw_369⟩, j_C_isTown, ⟨tw_285, tp_15⟩, ⟨TX0, 11, rfl⟩, by decide, rfl⟩
theorem c_K_personOf_5 {P : kt_P} {NM : Nat} {L : List (Option Value)} {rest : List Value} {N : Nat} {I : kt_I} {J : kt_J} {R : kt_R} {Q : Option Value → kt_I → kt_J → kt_R → Prop} {b : Nat} {x0 : Int32} (hkd : kt_kd P N b = (0, 0)) (hrest : (rest.map fun v => v.category).sum ≤ 8) (kk : KW P i_C_isTown N 0 [some (.ref b), some (.int x0)] [] N I J R (fun v I' J' R' => KW P i_K_personOf NM 8 L (kt_pu v rest) N I' J' R' Q)) : KW P i_K_personOf NM 5 L (.int x0 :: .ref b :: rest) N I J R Q := kw_callV x_K_personOf_5 (As := [.int x0]) rfl rfl (Nat.le_of_ble_eq_true rfl) hrest hkd (Nat.le_refl N) (fun h => h) kk
theorem x_K_personOf_8 : kt_dj i_K_personOf 8 (.ifCond .eq) 28 11 := ⟨20, by decide +kernel, by decide, rfl⟩
theorem x_K_personOf_11 : kt_dc i_K_personOf 11 (.iload_n 2) 1 12 := ⟨by decide +kernel, rfl⟩
theorem x_K_personOf_12 : kt_dc i_K_personOf 12 (.bipush 10) 2 14 ∧ (Int8.ofInt (10)).toInt32 = nI 10 := ⟨⟨by decide +kernel, rfl⟩, by decide⟩
theorem x_K_personOf_14 : kt_sS i_K_personOf 14 i_K_isBelow 2 17 := ⟨73, ⟨by decide +kernel, rfl⟩, Or.inl (tw_274), j_K_isBelow, tw_219, rfl⟩
theorem c_K_personOf_14 {P : kt_P} {NM : Nat} {L : List (Option Value)} {rest : List Value} {N : Nat} {I : kt_I} {J : kt_J} {R : kt_R} {Q : Option Value → kt_I → kt_J → kt_R → Prop} {x0 : Int32} {x1 : Int32} (hrest : (rest.map fun v => v.category).sum ≤ 8) (kk : KW P i_K_isBelow N 0 [some (.int x0), some (.int x1)] [] N I J R (fun v I' J' R' => KW P i_K_personOf NM 17 L (kt_pu v rest) N I' J' R' Q)) : KW P i_K_personOf NM 14 L (.int x1 :: .int x0 :: rest) N I J R Q := kw_callS x_K_personOf_14 (As := [.int x0, .int x1]) rfl rfl (Nat.le_of_ble_eq_true rfl) hrest (Nat.le_refl N) (fun h => h) kk
theorem x_K_personOf_17 : kt_dj i_K_personOf 17 (.ifCond .eq) 28 20 := ⟨11, by decide +kernel, by decide, rfl⟩
theorem x_K_personOf_20 : kt_dc i_K_personOf 20 (.iload_n 3) 1 21 := ⟨by decide +kernel, rfl⟩
theorem x_K_personOf_21 : kt_dc i_K_personOf 21 (.iconst 4) 1 22 ∧ Int32.ofInt (4) = nI 4 := ⟨⟨by decide +kernel, rfl⟩, by decide⟩
theorem x_K_personOf_22 : kt_sS i_K_personOf 22 i_K_isBelow 2 25 := ⟨73, ⟨by decide +kernel, rfl⟩, Or.inl (tw_274), j_K_isBelow, tw_219, rfl⟩
theorem c_K_personOf_22 {P : kt_P} {NM : Nat} {L : List (Option Value)} {rest : List Value} {N : Nat} {I : kt_I} {J : kt_J} {R : kt_R} {Q : Option Value → kt_I → kt_J → kt_R → Prop} {x0 : Int32} {x1 : Int32} (hrest : (rest.map fun v => v.category).sum ≤ 8) (kk : KW P i_K_isBelow N 0 [some (.int x0), some (.int x1)] [] N I J R (fun v I' J' R' => KW P i_K_personOf NM 25 L (kt_pu v rest) N I' J' R' Q)) : KW P i_K_personOf NM 22 L (.int x1 :: .int x0 :: rest) N I J R Q := kw_callS x_K_personOf_22 (As := [.int x0, .int x1]) rfl rfl (Nat.le_of_ble_eq_true rfl) hrest (Nat.le_refl N) (fun h => h) kk
theorem x_K_personOf_25 : kt_dj i_K_personOf 25 (.ifCond .ne) 30 28 := ⟨5, by decide +kernel, by decide, rfl⟩
theorem x_K_personOf_28 : kt_dc i_K_personOf 28 (.iconst (-1)) 1 29 ∧ Int32.ofInt (-1) = (-1 : Int32) := ⟨⟨by decide +kernel, rfl⟩, by decide⟩
theorem x_K_personOf_29 : kt_dc i_K_personOf 29 (.ireturn) 1 30 ∧ kt_rt i_K_personOf = (some .int) := ⟨⟨by decide +kernel, rfl⟩, rfl⟩
theorem x_K_personOf_30 : kt_dc i_K_personOf 30 (.aload_n 0) 1 31 := ⟨by decide +kernel, rfl⟩
theorem x_K_personOf_31 : kt_sG i_K_personOf 31 4 0 2 34 := ⟨23, RX4, TX4, 5, ⟨by decide +kernel, rfl⟩, rfl, by decide, rfl, by decide, Or.inl (tw_182)⟩
theorem x_K_personOf_34 : kt_sG i_K_personOf 34 0 1 2 37 := ⟨63, RX0, TX0, 11, ⟨by decide +kernel, rfl⟩, rfl, by decide, rfl, by decide, Or.inr ⟨"KinderTowns", tw_141⟩⟩
theorem x_K_personOf_37 : kt_dc i_K_personOf 37 (.astore 4) 2 39 := ⟨by decide +kernel, rfl⟩
theorem x_K_personOf_39 : kt_dc i_K_personOf 39 (.aload 4) 2 41 := ⟨by decide +kernel, rfl⟩
theorem x_K_personOf_41 : kt_dc i_K_personOf 41 (.aload 4) 2 43 := ⟨by decide +kernel, rfl⟩
theorem x_K_personOf_43 : kt_sG i_K_personOf 43 1 6 2 46 := ⟨93, RX1, TX1, 8, ⟨by decide +kernel, rfl⟩, rfl, by decide, rfl, by decide, Or.inr ⟨"KinderTowns", tw_117⟩⟩
theorem x_K_personOf_46 : kt_dc i_K_personOf 46 (.iload_n 2) 1 47 := ⟨by decide +kernel, rfl⟩
theorem x_K_personOf_47 : kt_sV i_K_personOf 47 i_E_having 1 2 50 := ⟨135, ⟨by decide +kernel, rfl⟩, Or.inr ⟨"KinderTowns", tw_377⟩, j_E_having, ⟨tw_379, tp_26⟩, ⟨TX1, 8, rfl⟩, by decide, rfl⟩
theorem c_K_personOf_47 {P : kt_P} {NM : Nat} {L : List (Option Value)} {rest : List Value} {N : Nat} {I : kt_I} {J : kt_J} {R : kt_R} {Q : Option Value → kt_I → kt_J → kt_R → Prop} {b : Nat} {x0 : Nat} {x1 : Int32} (hkd : kt_kd P N b = (1, 0)) (hrest : (rest.map fun v => v.category).sum ≤ 8) (kk : KW P i_E_having N 0 [some (.ref b), some (.ref x0), some (.int x1), none, none, none] [] N I J R (fun v I' J' R' => KW P i_K_personOf NM 50 L (kt_pu v rest) N I' J' R' Q)) : KW P i_K_personOf NM 47 L (.int x1 :: .ref x0 :: .ref b :: rest) N I J R Q := kw_callV x_K_personOf_47 (As := [.ref x0, .int x1]) rfl rfl (Nat.le_of_ble_eq_true rfl) hrest hkd (Nat.le_refl N) (fun h => h) kk
theorem x_K_personOf_50 : kt_dc i_K_personOf 50 (.aload 4) 2 52 := ⟨by decide +kernel, rfl⟩
theorem x_K_personOf_52 : kt_dc i_K_personOf 52 (.aload 4) 2 54 := ⟨by decide +kernel, rfl⟩
theorem x_K_personOf_54 : kt_sG i_K_personOf 54 1 1 2 57 := ⟨77, RX1, TX1, 8, ⟨by decide +kernel, rfl⟩, rfl, by decide, rfl, by decide, Or.inr ⟨"KinderTowns", tw_99⟩⟩
theorem x_K_personOf_57 : kt_dc i_K_personOf 57 (.iconst 1) 1 58 ∧ Int32.ofInt (1) = nI 1 := ⟨⟨by decide +kernel, rfl⟩, by decide⟩
theorem x_K_personOf_58 : kt_sV i_K_personOf 58 i_E_having 1 2 61 := ⟨135, ⟨by decide +kernel, rfl⟩, Or.inr ⟨"KinderTowns", tw_377⟩, j_E_having, ⟨tw_379, tp_26⟩, ⟨TX1, 8, rfl⟩, by decide, rfl⟩
theorem c_K_personOf_58 {P : kt_P} {NM : Nat} {L : List (Option Value)} {rest : List Value} {N : Nat} {I : kt_I} {J : kt_J} {R : kt_R} {Q : Option Value → kt_I → kt_J → kt_R → Prop} {b : Nat} {x0 : Nat} {x1 : Int32} (hkd : kt_kd P N b = (1, 0)) (hrest : (rest.map fun v => v.category).sum ≤ 8) (kk : KW P i_E_having N 0 [some (.ref b), some (.ref x0), some (.int x1), none, none, none] [] N I J R (fun v I' J' R' => KW P i_K_personOf NM 61 L (kt_pu v rest) N I' J' R' Q)) : KW P i_K_personOf NM 58 L (.int x1 :: .ref x0 :: .ref b :: rest) N I J R Q := kw_callV x_K_personOf_58 (As := [.ref x0, .int x1]) rfl rfl (Nat.le_of_ble_eq_true rfl) hrest hkd (Nat.le_refl N) (fun h => h) kk
theorem x_K_personOf_61 : kt_dc i_K_personOf 61 (.land) 1 62 := ⟨by decide +kernel, rfl⟩
theorem x_K_personOf_62 : kt_dc i_K_personOf 62 (.lstore 5) 2 64 := ⟨by decide +kernel, rfl⟩
theorem x_K_personOf_64 : kt_dc i_K_personOf 64 (.iload_n 3) 1 65 := ⟨by decide +kernel, rfl⟩
theorem x_K_personOf_65 : kt_dt i_K_personOf 65 0 [92, 108, 124] 142 := ⟨77, 2, #[27, 43, 59], 27, by decide +kernel, by decide, by decide, by decide⟩
theorem s_K_personOf_65 {P : kt_P} {NM : Nat} {L : List (Option Value)} {st : List Value} {N : Nat} {I : kt_I} {J : kt_J} {R : kt_R} {Q : Option Value → kt_I → kt_J → kt_R → Prop} {x : Int32} (h0 : x = nI 0 → KW P i_K_personOf NM 92 L st N I J R Q) (h1 : x = nI 1 → KW P i_K_personOf NM 108 L st N I J R Q) (h2 : x = nI 2 → KW P i_K_personOf NM 124 L st N I J R Q) (hd : ¬ x = nI 0 → ¬ x = nI 1 → ¬ x = nI 2 → KW P i_K_personOf NM 142 L st N I J R Q) : KW P i_K_personOf NM 65 L (.int x :: st) N I J R Q :=
  kw_tsw x_K_personOf_65 (fun j t hj hx => by
    match j, hj, hx with
    | 0, hj, hx => cases hj; exact h0 (Int32.toInt_inj.mp (hx.trans (by decide)))
    | 1, hj, hx => cases hj; exact h1 (Int32.toInt_inj.mp (hx.trans (by decide)))
    | 2, hj, hx => cases hj; exact h2 (Int32.toInt_inj.mp (hx.trans (by decide)))
    | n + 3, hj, hx => simp at hj)
    (fun h => hd (fun e => by subst e; revert h; decide) (fun e => by subst e; revert h; decide) (fun e => by subst e; revert h; decide))
theorem x_K_personOf_92 : kt_dc i_K_personOf 92 (.aload_n 0) 1 93 := ⟨by decide +kernel, rfl⟩
theorem x_K_personOf_93 : kt_sG i_K_personOf 93 4 0 2 96 := ⟨23, RX4, TX4, 5, ⟨by decide +kernel, rfl⟩, rfl, by decide, rfl, by decide, Or.inl (tw_182)⟩
theorem x_K_personOf_96 : kt_sG i_K_personOf 96 0 5 2 99 := ⟨99, RX0, TX0, 11, ⟨by decide +kernel, rfl⟩, rfl, by decide, rfl, by decide, Or.inr ⟨"KinderTowns", tw_149⟩⟩
theorem x_K_personOf_99 : kt_dc i_K_personOf 99 (.iload_n 1) 1 100 := ⟨by decide +kernel, rfl⟩
theorem x_K_personOf_100 : kt_dc i_K_personOf 100 (.laload) 1 101 := ⟨by decide +kernel, rfl⟩
theorem x_K_personOf_101 : kt_dc i_K_personOf 101 (.lload 5) 2 103 := ⟨by decide +kernel, rfl⟩
theorem x_K_personOf_103 : kt_dc i_K_personOf 103 (.land) 1 104 := ⟨by decide +kernel, rfl⟩
theorem x_K_personOf_104 : kt_sS i_K_personOf 104 i_J_bitCount 1 107 := ⟨125, ⟨by decide +kernel, rfl⟩, Or.inl (tw_375), j_J_bitCount, tw_336, rfl⟩
theorem c_K_personOf_104 {P : kt_P} {NM : Nat} {L : List (Option Value)} {rest : List Value} {N : Nat} {I : kt_I} {J : kt_J} {R : kt_R} {Q : Option Value → kt_I → kt_J → kt_R → Prop} {x0 : Int64} (hrest : (rest.map fun v => v.category).sum ≤ 8) (kk : KW P i_J_bitCount N 0 [some (.long x0), none] [] N I J R (fun v I' J' R' => KW P i_K_personOf NM 107 L (kt_pu v rest) N I' J' R' Q)) : KW P i_K_personOf NM 104 L (.long x0 :: rest) N I J R Q := kw_callS x_K_personOf_104 (As := [.long x0]) rfl rfl (Nat.le_of_ble_eq_true rfl) hrest (Nat.le_refl N) (fun h => h) kk
theorem x_K_personOf_107 : kt_dc i_K_personOf 107 (.ireturn) 1 108 ∧ kt_rt i_K_personOf = (some .int) := ⟨⟨by decide +kernel, rfl⟩, rfl⟩
theorem x_K_personOf_108 : kt_dc i_K_personOf 108 (.aload_n 0) 1 109 := ⟨by decide +kernel, rfl⟩
theorem x_K_personOf_109 : kt_sG i_K_personOf 109 4 0 2 112 := ⟨23, RX4, TX4, 5, ⟨by decide +kernel, rfl⟩, rfl, by decide, rfl, by decide, Or.inl (tw_182)⟩
theorem x_K_personOf_112 : kt_sG i_K_personOf 112 0 6 2 115 := ⟨118, RX0, TX0, 11, ⟨by decide +kernel, rfl⟩, rfl, by decide, rfl, by decide, Or.inr ⟨"KinderTowns", tw_151⟩⟩
theorem x_K_personOf_115 : kt_dc i_K_personOf 115 (.iload_n 1) 1 116 := ⟨by decide +kernel, rfl⟩
theorem x_K_personOf_116 : kt_dc i_K_personOf 116 (.laload) 1 117 := ⟨by decide +kernel, rfl⟩
theorem x_K_personOf_117 : kt_dc i_K_personOf 117 (.lload 5) 2 119 := ⟨by decide +kernel, rfl⟩
theorem x_K_personOf_119 : kt_dc i_K_personOf 119 (.land) 1 120 := ⟨by decide +kernel, rfl⟩
theorem x_K_personOf_120 : kt_sS i_K_personOf 120 i_J_bitCount 1 123 := ⟨125, ⟨by decide +kernel, rfl⟩, Or.inl (tw_375), j_J_bitCount, tw_336, rfl⟩
theorem c_K_personOf_120 {P : kt_P} {NM : Nat} {L : List (Option Value)} {rest : List Value} {N : Nat} {I : kt_I} {J : kt_J} {R : kt_R} {Q : Option Value → kt_I → kt_J → kt_R → Prop} {x0 : Int64} (hrest : (rest.map fun v => v.category).sum ≤ 8) (kk : KW P i_J_bitCount N 0 [some (.long x0), none] [] N I J R (fun v I' J' R' => KW P i_K_personOf NM 123 L (kt_pu v rest) N I' J' R' Q)) : KW P i_K_personOf NM 120 L (.long x0 :: rest) N I J R Q := kw_callS x_K_personOf_120 (As := [.long x0]) rfl rfl (Nat.le_of_ble_eq_true rfl) hrest (Nat.le_refl N) (fun h => h) kk
theorem x_K_personOf_123 : kt_dc i_K_personOf 123 (.ireturn) 1 124 ∧ kt_rt i_K_personOf = (some .int) := ⟨⟨by decide +kernel, rfl⟩, rfl⟩
theorem x_K_personOf_124 : kt_dc i_K_personOf 124 (.aload 4) 2 126 := ⟨by decide +kernel, rfl⟩
theorem x_K_personOf_126 : kt_dc i_K_personOf 126 (.aload_n 0) 1 127 := ⟨by decide +kernel, rfl⟩
theorem x_K_personOf_127 : kt_sG i_K_personOf 127 4 0 2 130 := ⟨23, RX4, TX4, 5, ⟨by decide +kernel, rfl⟩, rfl, by decide, rfl, by decide, Or.inl (tw_182)⟩
theorem x_K_personOf_130 : kt_sG i_K_personOf 130 0 6 2 133 := ⟨118, RX0, TX0, 11, ⟨by decide +kernel, rfl⟩, rfl, by decide, rfl, by decide, Or.inr ⟨"KinderTowns", tw_151⟩⟩
theorem x_K_personOf_133 : kt_dc i_K_personOf 133 (.iload_n 1) 1 134 := ⟨by decide +kernel, rfl⟩
theorem x_K_personOf_134 : kt_dc i_K_personOf 134 (.laload) 1 135 := ⟨by decide +kernel, rfl⟩
theorem x_K_personOf_135 : kt_dc i_K_personOf 135 (.lload 5) 2 137 := ⟨by decide +kernel, rfl⟩
theorem x_K_personOf_137 : kt_dc i_K_personOf 137 (.land) 1 138 := ⟨by decide +kernel, rfl⟩
theorem x_K_personOf_138 : kt_sV i_K_personOf 138 i_E_piecesOf 1 1 141 := ⟨142, ⟨by decide +kernel, rfl⟩, Or.inr ⟨"KinderTowns", tw_389⟩, j_E_piecesOf, ⟨tw_391, tp_28⟩, ⟨TX1, 8, rfl⟩, by decide, rfl⟩
theorem c_K_personOf_138 {P : kt_P} {NM : Nat} {L : List (Option Value)} {rest : List Value} {N : Nat} {I : kt_I} {J : kt_J} {R : kt_R} {Q : Option Value → kt_I → kt_J → kt_R → Prop} {b : Nat} {x0 : Int64} (hkd : kt_kd P N b = (1, 0)) (hrest : (rest.map fun v => v.category).sum ≤ 8) (kk : KW P i_E_piecesOf N 0 [some (.ref b), some (.long x0), none, none, none] [] N I J R (fun v I' J' R' => KW P i_K_personOf NM 141 L (kt_pu v rest) N I' J' R' Q)) : KW P i_K_personOf NM 138 L (.long x0 :: .ref b :: rest) N I J R Q := kw_callV x_K_personOf_138 (As := [.long x0]) rfl rfl (Nat.le_of_ble_eq_true rfl) hrest hkd (Nat.le_refl N) (fun h => h) kk
theorem x_K_personOf_141 : kt_dc i_K_personOf 141 (.ireturn) 1 142 ∧ kt_rt i_K_personOf = (some .int) := ⟨⟨by decide +kernel, rfl⟩, rfl⟩
theorem x_K_personOf_142 : kt_dc i_K_personOf 142 (.aload_n 0) 1 143 := ⟨by decide +kernel, rfl⟩
theorem x_K_personOf_143 : kt_sG i_K_personOf 143 4 0 2 146 := ⟨23, RX4, TX4, 5, ⟨by decide +kernel, rfl⟩, rfl, by decide, rfl, by decide, Or.inl (tw_182)⟩
theorem x_K_personOf_146 : kt_dc i_K_personOf 146 (.lload 5) 2 148 := ⟨by decide +kernel, rfl⟩
theorem x_K_personOf_148 : kt_sV i_K_personOf 148 i_C_apologiesFor 0 1 151 := ⟨167, ⟨by decide +kernel, rfl⟩, Or.inr ⟨"KinderTowns", tw_403⟩, j_C_apologiesFor, ⟨tw_405, tp_29⟩, ⟨TX0, 11, rfl⟩, by decide, rfl⟩
theorem c_K_personOf_148 {P : kt_P} {NM : Nat} {L : List (Option Value)} {rest : List Value} {N : Nat} {I : kt_I} {J : kt_J} {R : kt_R} {Q : Option Value → kt_I → kt_J → kt_R → Prop} {b : Nat} {x0 : Int64} (hkd : kt_kd P N b = (0, 0)) (hrest : (rest.map fun v => v.category).sum ≤ 8) (kk : KW P i_C_apologiesFor N 0 [some (.ref b), some (.long x0), none, none, none] [] N I J R (fun v I' J' R' => KW P i_K_personOf NM 151 L (kt_pu v rest) N I' J' R' Q)) : KW P i_K_personOf NM 148 L (.long x0 :: .ref b :: rest) N I J R Q := kw_callV x_K_personOf_148 (As := [.long x0]) rfl rfl (Nat.le_of_ble_eq_true rfl) hrest hkd (Nat.le_refl N) (fun h => h) kk
theorem x_K_personOf_151 : kt_dc i_K_personOf 151 (.ireturn) 1 152 ∧ kt_rt i_K_personOf = (some .int) := ⟨⟨by decide +kernel, rfl⟩, rfl⟩
theorem x_K_unheard_0 : kt_dc i_K_unheard 0 (.aload_n 0) 1 1 := ⟨by decide +kernel, rfl⟩
theorem x_K_unheard_1 : kt_sG i_K_unheard 1 4 0 2 4 := ⟨23, RX4, TX4, 5, ⟨by decide +kernel, rfl⟩, rfl, by decide, rfl, by decide, Or.inl (tw_182)⟩
theorem x_K_unheard_4 : kt_dc i_K_unheard 4 (.iload_n 1) 1 5 := ⟨by decide +kernel, rfl⟩
theorem x_K_unheard_5 : kt_sV i_K_unheard 5 i_C_isTown 0 1 8 := ⟨110, ⟨by decide +kernel, rfl⟩, Or.inr ⟨"KinderTowns", tw_369⟩, j_C_isTown, ⟨tw_285, tp_15⟩, ⟨TX0, 11, rfl⟩, by decide, rfl⟩
theorem c_K_unheard_5 {P : kt_P} {NM : Nat} {L : List (Option Value)} {rest : List Value} {N : Nat} {I : kt_I} {J : kt_J} {R : kt_R} {Q : Option Value → kt_I → kt_J → kt_R → Prop} {b : Nat} {x0 : Int32} (hkd : kt_kd P N b = (0, 0)) (hrest : (rest.map fun v => v.category).sum ≤ 8) (kk : KW P i_C_isTown N 0 [some (.ref b), some (.int x0)] [] N I J R (fun v I' J' R' => KW P i_K_unheard NM 8 L (kt_pu v rest) N I' J' R' Q)) : KW P i_K_unheard NM 5 L (.int x0 :: .ref b :: rest) N I J R Q := kw_callV x_K_unheard_5 (As := [.int x0]) rfl rfl (Nat.le_of_ble_eq_true rfl) hrest hkd (Nat.le_refl N) (fun h => h) kk
theorem x_K_unheard_8 : kt_dj i_K_unheard 8 (.ifCond .eq) 22 11 := ⟨14, by decide +kernel, by decide, rfl⟩
theorem x_K_unheard_11 : kt_dc i_K_unheard 11 (.aload_n 0) 1 12 := ⟨by decide +kernel, rfl⟩
theorem x_K_unheard_12 : kt_sG i_K_unheard 12 4 0 2 15 := ⟨23, RX4, TX4, 5, ⟨by decide +kernel, rfl⟩, rfl, by decide, rfl, by decide, Or.inl (tw_182)⟩
theorem x_K_unheard_15 : kt_dc i_K_unheard 15 (.iload_n 2) 1 16 := ⟨by decide +kernel, rfl⟩
theorem x_K_unheard_16 : kt_sV i_K_unheard 16 i_C_isTown 0 1 19 := ⟨110, ⟨by decide +kernel, rfl⟩, Or.inr ⟨"KinderTowns", tw_369⟩, j_C_isTown, ⟨tw_285, tp_15⟩, ⟨TX0, 11, rfl⟩, by decide, rfl⟩
theorem c_K_unheard_16 {P : kt_P} {NM : Nat} {L : List (Option Value)} {rest : List Value} {N : Nat} {I : kt_I} {J : kt_J} {R : kt_R} {Q : Option Value → kt_I → kt_J → kt_R → Prop} {b : Nat} {x0 : Int32} (hkd : kt_kd P N b = (0, 0)) (hrest : (rest.map fun v => v.category).sum ≤ 8) (kk : KW P i_C_isTown N 0 [some (.ref b), some (.int x0)] [] N I J R (fun v I' J' R' => KW P i_K_unheard NM 19 L (kt_pu v rest) N I' J' R' Q)) : KW P i_K_unheard NM 16 L (.int x0 :: .ref b :: rest) N I J R Q := kw_callV x_K_unheard_16 (As := [.int x0]) rfl rfl (Nat.le_of_ble_eq_true rfl) hrest hkd (Nat.le_refl N) (fun h => h) kk
theorem x_K_unheard_19 : kt_dj i_K_unheard 19 (.ifCond .ne) 24 22 := ⟨5, by decide +kernel, by decide, rfl⟩
theorem x_K_unheard_22 : kt_dc i_K_unheard 22 (.iconst (-1)) 1 23 ∧ Int32.ofInt (-1) = (-1 : Int32) := ⟨⟨by decide +kernel, rfl⟩, by decide⟩
theorem x_K_unheard_23 : kt_dc i_K_unheard 23 (.ireturn) 1 24 ∧ kt_rt i_K_unheard = (some .int) := ⟨⟨by decide +kernel, rfl⟩, rfl⟩
theorem x_K_unheard_24 : kt_dc i_K_unheard 24 (.aload_n 0) 1 25 := ⟨by decide +kernel, rfl⟩
theorem x_K_unheard_25 : kt_sG i_K_unheard 25 4 0 2 28 := ⟨23, RX4, TX4, 5, ⟨by decide +kernel, rfl⟩, rfl, by decide, rfl, by decide, Or.inl (tw_182)⟩
theorem x_K_unheard_28 : kt_dc i_K_unheard 28 (.iload_n 2) 1 29 := ⟨by decide +kernel, rfl⟩
theorem x_K_unheard_29 : kt_dc i_K_unheard 29 (.aload_n 0) 1 30 := ⟨by decide +kernel, rfl⟩
theorem x_K_unheard_30 : kt_sG i_K_unheard 30 4 0 2 33 := ⟨23, RX4, TX4, 5, ⟨by decide +kernel, rfl⟩, rfl, by decide, rfl, by decide, Or.inl (tw_182)⟩
theorem x_K_unheard_33 : kt_sG i_K_unheard 33 0 5 2 36 := ⟨99, RX0, TX0, 11, ⟨by decide +kernel, rfl⟩, rfl, by decide, rfl, by decide, Or.inr ⟨"KinderTowns", tw_149⟩⟩
theorem x_K_unheard_36 : kt_dc i_K_unheard 36 (.iload_n 1) 1 37 := ⟨by decide +kernel, rfl⟩
theorem x_K_unheard_37 : kt_dc i_K_unheard 37 (.laload) 1 38 := ⟨by decide +kernel, rfl⟩
theorem x_K_unheard_38 : kt_sV i_K_unheard 38 i_C_newsFor 0 2 41 := ⟨170, ⟨by decide +kernel, rfl⟩, Or.inr ⟨"KinderTowns", tw_411⟩, j_C_newsFor, ⟨tw_332, tp_23⟩, ⟨TX0, 11, rfl⟩, by decide, rfl⟩
theorem c_K_unheard_38 {P : kt_P} {NM : Nat} {L : List (Option Value)} {rest : List Value} {N : Nat} {I : kt_I} {J : kt_J} {R : kt_R} {Q : Option Value → kt_I → kt_J → kt_R → Prop} {b : Nat} {x0 : Int32} {x1 : Int64} (hkd : kt_kd P N b = (0, 0)) (hrest : (rest.map fun v => v.category).sum ≤ 8) (kk : KW P i_C_newsFor N 0 [some (.ref b), some (.int x0), some (.long x1), none] [] N I J R (fun v I' J' R' => KW P i_K_unheard NM 41 L (kt_pu v rest) N I' J' R' Q)) : KW P i_K_unheard NM 38 L (.long x1 :: .int x0 :: .ref b :: rest) N I J R Q := kw_callV x_K_unheard_38 (As := [.int x0, .long x1]) rfl rfl (Nat.le_of_ble_eq_true rfl) hrest hkd (Nat.le_refl N) (fun h => h) kk
theorem x_K_unheard_41 : kt_dc i_K_unheard 41 (.ireturn) 1 42 ∧ kt_rt i_K_unheard = (some .int) := ⟨⟨by decide +kernel, rfl⟩, rfl⟩
theorem x_K_count_0 : kt_dc i_K_count 0 (.aload_n 0) 1 1 := ⟨by decide +kernel, rfl⟩
theorem x_K_count_1 : kt_sG i_K_count 1 4 0 2 4 := ⟨23, RX4, TX4, 5, ⟨by decide +kernel, rfl⟩, rfl, by decide, rfl, by decide, Or.inl (tw_182)⟩
theorem x_K_count_4 : kt_sG i_K_count 4 0 1 2 7 := ⟨63, RX0, TX0, 11, ⟨by decide +kernel, rfl⟩, rfl, by decide, rfl, by decide, Or.inr ⟨"KinderTowns", tw_141⟩⟩
theorem x_K_count_7 : kt_dc i_K_count 7 (.astore_n 2) 1 8 := ⟨by decide +kernel, rfl⟩
theorem x_K_count_8 : kt_dc i_K_count 8 (.iload_n 1) 1 9 := ⟨by decide +kernel, rfl⟩
theorem x_K_count_9 : kt_dt i_K_count 9 0 [68, 76, 81, 94, 107, 120, 128, 140, 151, 167, 172] 180 := ⟨171, 10, #[59, 67, 72, 85, 98, 111, 119, 131, 142, 158, 163], 59, by decide +kernel, by decide, by decide, by decide⟩
theorem s_K_count_9 {P : kt_P} {NM : Nat} {L : List (Option Value)} {st : List Value} {N : Nat} {I : kt_I} {J : kt_J} {R : kt_R} {Q : Option Value → kt_I → kt_J → kt_R → Prop} {x : Int32} (h0 : x = nI 0 → KW P i_K_count NM 68 L st N I J R Q) (h1 : x = nI 1 → KW P i_K_count NM 76 L st N I J R Q) (h2 : x = nI 2 → KW P i_K_count NM 81 L st N I J R Q) (h3 : x = nI 3 → KW P i_K_count NM 94 L st N I J R Q) (h4 : x = nI 4 → KW P i_K_count NM 107 L st N I J R Q) (h5 : x = nI 5 → KW P i_K_count NM 120 L st N I J R Q) (h6 : x = nI 6 → KW P i_K_count NM 128 L st N I J R Q) (h7 : x = nI 7 → KW P i_K_count NM 140 L st N I J R Q) (h8 : x = nI 8 → KW P i_K_count NM 151 L st N I J R Q) (h9 : x = nI 9 → KW P i_K_count NM 167 L st N I J R Q) (h10 : x = nI 10 → KW P i_K_count NM 172 L st N I J R Q) (hd : ¬ x = nI 0 → ¬ x = nI 1 → ¬ x = nI 2 → ¬ x = nI 3 → ¬ x = nI 4 → ¬ x = nI 5 → ¬ x = nI 6 → ¬ x = nI 7 → ¬ x = nI 8 → ¬ x = nI 9 → ¬ x = nI 10 → KW P i_K_count NM 180 L st N I J R Q) : KW P i_K_count NM 9 L (.int x :: st) N I J R Q :=
  kw_tsw x_K_count_9 (fun j t hj hx => by
    match j, hj, hx with
    | 0, hj, hx => cases hj; exact h0 (Int32.toInt_inj.mp (hx.trans (by decide)))
    | 1, hj, hx => cases hj; exact h1 (Int32.toInt_inj.mp (hx.trans (by decide)))
    | 2, hj, hx => cases hj; exact h2 (Int32.toInt_inj.mp (hx.trans (by decide)))
    | 3, hj, hx => cases hj; exact h3 (Int32.toInt_inj.mp (hx.trans (by decide)))
    | 4, hj, hx => cases hj; exact h4 (Int32.toInt_inj.mp (hx.trans (by decide)))
    | 5, hj, hx => cases hj; exact h5 (Int32.toInt_inj.mp (hx.trans (by decide)))
    | 6, hj, hx => cases hj; exact h6 (Int32.toInt_inj.mp (hx.trans (by decide)))
    | 7, hj, hx => cases hj; exact h7 (Int32.toInt_inj.mp (hx.trans (by decide)))
    | 8, hj, hx => cases hj; exact h8 (Int32.toInt_inj.mp (hx.trans (by decide)))
    | 9, hj, hx => cases hj; exact h9 (Int32.toInt_inj.mp (hx.trans (by decide)))
    | 10, hj, hx => cases hj; exact h10 (Int32.toInt_inj.mp (hx.trans (by decide)))
    | n + 11, hj, hx => simp at hj)
    (fun h => hd (fun e => by subst e; revert h; decide) (fun e => by subst e; revert h; decide) (fun e => by subst e; revert h; decide) (fun e => by subst e; revert h; decide) (fun e => by subst e; revert h; decide) (fun e => by subst e; revert h; decide) (fun e => by subst e; revert h; decide) (fun e => by subst e; revert h; decide) (fun e => by subst e; revert h; decide) (fun e => by subst e; revert h; decide) (fun e => by subst e; revert h; decide))
theorem x_K_count_68 : kt_dc i_K_count 68 (.aload_n 0) 1 69 := ⟨by decide +kernel, rfl⟩
theorem x_K_count_69 : kt_sG i_K_count 69 4 0 2 72 := ⟨23, RX4, TX4, 5, ⟨by decide +kernel, rfl⟩, rfl, by decide, rfl, by decide, Or.inl (tw_182)⟩
theorem x_K_count_72 : kt_sG i_K_count 72 0 2 0 75 := ⟨174, RX0, TX0, 11, ⟨by decide +kernel, rfl⟩, rfl, by decide, rfl, by decide, Or.inr ⟨"KinderTowns", tw_143⟩⟩
theorem x_K_count_75 : kt_dc i_K_count 75 (.ireturn) 1 76 ∧ kt_rt i_K_count = (some .int) := ⟨⟨by decide +kernel, rfl⟩, rfl⟩
theorem x_K_count_76 : kt_dc i_K_count 76 (.aload_n 2) 1 77 := ⟨by decide +kernel, rfl⟩
theorem x_K_count_77 : kt_sG i_K_count 77 1 0 0 80 := ⟨67, RX1, TX1, 8, ⟨by decide +kernel, rfl⟩, rfl, by decide, rfl, by decide, Or.inr ⟨"KinderTowns", tw_96⟩⟩
theorem x_K_count_80 : kt_dc i_K_count 80 (.ireturn) 1 81 ∧ kt_rt i_K_count = (some .int) := ⟨⟨by decide +kernel, rfl⟩, rfl⟩
theorem x_K_count_81 : kt_dc i_K_count 81 (.aload_n 2) 1 82 := ⟨by decide +kernel, rfl⟩
theorem x_K_count_82 : kt_dc i_K_count 82 (.aload_n 2) 1 83 := ⟨by decide +kernel, rfl⟩
theorem x_K_count_83 : kt_sG i_K_count 83 1 1 2 86 := ⟨77, RX1, TX1, 8, ⟨by decide +kernel, rfl⟩, rfl, by decide, rfl, by decide, Or.inr ⟨"KinderTowns", tw_99⟩⟩
theorem x_K_count_86 : kt_dc i_K_count 86 (.iconst 0) 1 87 ∧ Int32.ofInt (0) = nI 0 := ⟨⟨by decide +kernel, rfl⟩, by decide⟩
theorem x_K_count_87 : kt_sV i_K_count 87 i_E_having 1 2 90 := ⟨135, ⟨by decide +kernel, rfl⟩, Or.inr ⟨"KinderTowns", tw_377⟩, j_E_having, ⟨tw_379, tp_26⟩, ⟨TX1, 8, rfl⟩, by decide, rfl⟩
theorem c_K_count_87 {P : kt_P} {NM : Nat} {L : List (Option Value)} {rest : List Value} {N : Nat} {I : kt_I} {J : kt_J} {R : kt_R} {Q : Option Value → kt_I → kt_J → kt_R → Prop} {b : Nat} {x0 : Nat} {x1 : Int32} (hkd : kt_kd P N b = (1, 0)) (hrest : (rest.map fun v => v.category).sum ≤ 8) (kk : KW P i_E_having N 0 [some (.ref b), some (.ref x0), some (.int x1), none, none, none] [] N I J R (fun v I' J' R' => KW P i_K_count NM 90 L (kt_pu v rest) N I' J' R' Q)) : KW P i_K_count NM 87 L (.int x1 :: .ref x0 :: .ref b :: rest) N I J R Q := kw_callV x_K_count_87 (As := [.ref x0, .int x1]) rfl rfl (Nat.le_of_ble_eq_true rfl) hrest hkd (Nat.le_refl N) (fun h => h) kk
theorem x_K_count_90 : kt_sS i_K_count 90 i_J_bitCount 1 93 := ⟨125, ⟨by decide +kernel, rfl⟩, Or.inl (tw_375), j_J_bitCount, tw_336, rfl⟩
theorem c_K_count_90 {P : kt_P} {NM : Nat} {L : List (Option Value)} {rest : List Value} {N : Nat} {I : kt_I} {J : kt_J} {R : kt_R} {Q : Option Value → kt_I → kt_J → kt_R → Prop} {x0 : Int64} (hrest : (rest.map fun v => v.category).sum ≤ 8) (kk : KW P i_J_bitCount N 0 [some (.long x0), none] [] N I J R (fun v I' J' R' => KW P i_K_count NM 93 L (kt_pu v rest) N I' J' R' Q)) : KW P i_K_count NM 90 L (.long x0 :: rest) N I J R Q := kw_callS x_K_count_90 (As := [.long x0]) rfl rfl (Nat.le_of_ble_eq_true rfl) hrest (Nat.le_refl N) (fun h => h) kk
theorem x_K_count_93 : kt_dc i_K_count 93 (.ireturn) 1 94 ∧ kt_rt i_K_count = (some .int) := ⟨⟨by decide +kernel, rfl⟩, rfl⟩
theorem x_K_count_94 : kt_dc i_K_count 94 (.aload_n 2) 1 95 := ⟨by decide +kernel, rfl⟩
theorem x_K_count_95 : kt_dc i_K_count 95 (.aload_n 2) 1 96 := ⟨by decide +kernel, rfl⟩
theorem x_K_count_96 : kt_sG i_K_count 96 1 1 2 99 := ⟨77, RX1, TX1, 8, ⟨by decide +kernel, rfl⟩, rfl, by decide, rfl, by decide, Or.inr ⟨"KinderTowns", tw_99⟩⟩
theorem x_K_count_99 : kt_dc i_K_count 99 (.iconst 1) 1 100 ∧ Int32.ofInt (1) = nI 1 := ⟨⟨by decide +kernel, rfl⟩, by decide⟩
theorem x_K_count_100 : kt_sV i_K_count 100 i_E_having 1 2 103 := ⟨135, ⟨by decide +kernel, rfl⟩, Or.inr ⟨"KinderTowns", tw_377⟩, j_E_having, ⟨tw_379, tp_26⟩, ⟨TX1, 8, rfl⟩, by decide, rfl⟩
theorem c_K_count_100 {P : kt_P} {NM : Nat} {L : List (Option Value)} {rest : List Value} {N : Nat} {I : kt_I} {J : kt_J} {R : kt_R} {Q : Option Value → kt_I → kt_J → kt_R → Prop} {b : Nat} {x0 : Nat} {x1 : Int32} (hkd : kt_kd P N b = (1, 0)) (hrest : (rest.map fun v => v.category).sum ≤ 8) (kk : KW P i_E_having N 0 [some (.ref b), some (.ref x0), some (.int x1), none, none, none] [] N I J R (fun v I' J' R' => KW P i_K_count NM 103 L (kt_pu v rest) N I' J' R' Q)) : KW P i_K_count NM 100 L (.int x1 :: .ref x0 :: .ref b :: rest) N I J R Q := kw_callV x_K_count_100 (As := [.ref x0, .int x1]) rfl rfl (Nat.le_of_ble_eq_true rfl) hrest hkd (Nat.le_refl N) (fun h => h) kk
theorem x_K_count_103 : kt_sS i_K_count 103 i_J_bitCount 1 106 := ⟨125, ⟨by decide +kernel, rfl⟩, Or.inl (tw_375), j_J_bitCount, tw_336, rfl⟩
theorem c_K_count_103 {P : kt_P} {NM : Nat} {L : List (Option Value)} {rest : List Value} {N : Nat} {I : kt_I} {J : kt_J} {R : kt_R} {Q : Option Value → kt_I → kt_J → kt_R → Prop} {x0 : Int64} (hrest : (rest.map fun v => v.category).sum ≤ 8) (kk : KW P i_J_bitCount N 0 [some (.long x0), none] [] N I J R (fun v I' J' R' => KW P i_K_count NM 106 L (kt_pu v rest) N I' J' R' Q)) : KW P i_K_count NM 103 L (.long x0 :: rest) N I J R Q := kw_callS x_K_count_103 (As := [.long x0]) rfl rfl (Nat.le_of_ble_eq_true rfl) hrest (Nat.le_refl N) (fun h => h) kk
theorem x_K_count_106 : kt_dc i_K_count 106 (.ireturn) 1 107 ∧ kt_rt i_K_count = (some .int) := ⟨⟨by decide +kernel, rfl⟩, rfl⟩
theorem x_K_count_107 : kt_dc i_K_count 107 (.aload_n 2) 1 108 := ⟨by decide +kernel, rfl⟩
theorem x_K_count_108 : kt_dc i_K_count 108 (.aload_n 2) 1 109 := ⟨by decide +kernel, rfl⟩
theorem x_K_count_109 : kt_sG i_K_count 109 1 1 2 112 := ⟨77, RX1, TX1, 8, ⟨by decide +kernel, rfl⟩, rfl, by decide, rfl, by decide, Or.inr ⟨"KinderTowns", tw_99⟩⟩
theorem x_K_count_112 : kt_dc i_K_count 112 (.iconst 2) 1 113 ∧ Int32.ofInt (2) = nI 2 := ⟨⟨by decide +kernel, rfl⟩, by decide⟩
theorem x_K_count_113 : kt_sV i_K_count 113 i_E_having 1 2 116 := ⟨135, ⟨by decide +kernel, rfl⟩, Or.inr ⟨"KinderTowns", tw_377⟩, j_E_having, ⟨tw_379, tp_26⟩, ⟨TX1, 8, rfl⟩, by decide, rfl⟩
theorem c_K_count_113 {P : kt_P} {NM : Nat} {L : List (Option Value)} {rest : List Value} {N : Nat} {I : kt_I} {J : kt_J} {R : kt_R} {Q : Option Value → kt_I → kt_J → kt_R → Prop} {b : Nat} {x0 : Nat} {x1 : Int32} (hkd : kt_kd P N b = (1, 0)) (hrest : (rest.map fun v => v.category).sum ≤ 8) (kk : KW P i_E_having N 0 [some (.ref b), some (.ref x0), some (.int x1), none, none, none] [] N I J R (fun v I' J' R' => KW P i_K_count NM 116 L (kt_pu v rest) N I' J' R' Q)) : KW P i_K_count NM 113 L (.int x1 :: .ref x0 :: .ref b :: rest) N I J R Q := kw_callV x_K_count_113 (As := [.ref x0, .int x1]) rfl rfl (Nat.le_of_ble_eq_true rfl) hrest hkd (Nat.le_refl N) (fun h => h) kk
theorem x_K_count_116 : kt_sS i_K_count 116 i_J_bitCount 1 119 := ⟨125, ⟨by decide +kernel, rfl⟩, Or.inl (tw_375), j_J_bitCount, tw_336, rfl⟩
theorem c_K_count_116 {P : kt_P} {NM : Nat} {L : List (Option Value)} {rest : List Value} {N : Nat} {I : kt_I} {J : kt_J} {R : kt_R} {Q : Option Value → kt_I → kt_J → kt_R → Prop} {x0 : Int64} (hrest : (rest.map fun v => v.category).sum ≤ 8) (kk : KW P i_J_bitCount N 0 [some (.long x0), none] [] N I J R (fun v I' J' R' => KW P i_K_count NM 119 L (kt_pu v rest) N I' J' R' Q)) : KW P i_K_count NM 116 L (.long x0 :: rest) N I J R Q := kw_callS x_K_count_116 (As := [.long x0]) rfl rfl (Nat.le_of_ble_eq_true rfl) hrest (Nat.le_refl N) (fun h => h) kk
theorem x_K_count_119 : kt_dc i_K_count 119 (.ireturn) 1 120 ∧ kt_rt i_K_count = (some .int) := ⟨⟨by decide +kernel, rfl⟩, rfl⟩
theorem x_K_count_120 : kt_dc i_K_count 120 (.aload_n 0) 1 121 := ⟨by decide +kernel, rfl⟩
theorem x_K_count_121 : kt_sG i_K_count 121 4 0 2 124 := ⟨23, RX4, TX4, 5, ⟨by decide +kernel, rfl⟩, rfl, by decide, rfl, by decide, Or.inl (tw_182)⟩
theorem x_K_count_124 : kt_sG i_K_count 124 0 3 0 127 := ⟨152, RX0, TX0, 11, ⟨by decide +kernel, rfl⟩, rfl, by decide, rfl, by decide, Or.inr ⟨"KinderTowns", tw_145⟩⟩
theorem x_K_count_127 : kt_dc i_K_count 127 (.ireturn) 1 128 ∧ kt_rt i_K_count = (some .int) := ⟨⟨by decide +kernel, rfl⟩, rfl⟩
theorem x_K_count_128 : kt_dc i_K_count 128 (.aload_n 0) 1 129 := ⟨by decide +kernel, rfl⟩
theorem x_K_count_129 : kt_sG i_K_count 129 4 0 2 132 := ⟨23, RX4, TX4, 5, ⟨by decide +kernel, rfl⟩, rfl, by decide, rfl, by decide, Or.inl (tw_182)⟩
theorem x_K_count_132 : kt_dc i_K_count 132 (.aload_n 2) 1 133 := ⟨by decide +kernel, rfl⟩
theorem x_K_count_133 : kt_sV i_K_count 133 i_E_all 1 0 136 := ⟨176, ⟨by decide +kernel, rfl⟩, Or.inr ⟨"KinderTowns", tw_416⟩, j_E_all, ⟨tw_418, tp_30⟩, ⟨TX1, 8, rfl⟩, by decide, rfl⟩
theorem c_K_count_133 {P : kt_P} {NM : Nat} {L : List (Option Value)} {rest : List Value} {N : Nat} {I : kt_I} {J : kt_J} {R : kt_R} {Q : Option Value → kt_I → kt_J → kt_R → Prop} {b : Nat} (hkd : kt_kd P N b = (1, 0)) (hrest : (rest.map fun v => v.category).sum ≤ 8) (kk : KW P i_E_all N 0 [some (.ref b)] [] N I J R (fun v I' J' R' => KW P i_K_count NM 136 L (kt_pu v rest) N I' J' R' Q)) : KW P i_K_count NM 133 L (.ref b :: rest) N I J R Q := kw_callV x_K_count_133 (As := []) rfl rfl (Nat.le_of_ble_eq_true rfl) hrest hkd (Nat.le_refl N) (fun h => h) kk
theorem x_K_count_136 : kt_sV i_K_count 136 i_C_apologiesFor 0 1 139 := ⟨167, ⟨by decide +kernel, rfl⟩, Or.inr ⟨"KinderTowns", tw_403⟩, j_C_apologiesFor, ⟨tw_405, tp_29⟩, ⟨TX0, 11, rfl⟩, by decide, rfl⟩
theorem c_K_count_136 {P : kt_P} {NM : Nat} {L : List (Option Value)} {rest : List Value} {N : Nat} {I : kt_I} {J : kt_J} {R : kt_R} {Q : Option Value → kt_I → kt_J → kt_R → Prop} {b : Nat} {x0 : Int64} (hkd : kt_kd P N b = (0, 0)) (hrest : (rest.map fun v => v.category).sum ≤ 8) (kk : KW P i_C_apologiesFor N 0 [some (.ref b), some (.long x0), none, none, none] [] N I J R (fun v I' J' R' => KW P i_K_count NM 139 L (kt_pu v rest) N I' J' R' Q)) : KW P i_K_count NM 136 L (.long x0 :: .ref b :: rest) N I J R Q := kw_callV x_K_count_136 (As := [.long x0]) rfl rfl (Nat.le_of_ble_eq_true rfl) hrest hkd (Nat.le_refl N) (fun h => h) kk
theorem x_K_count_139 : kt_dc i_K_count 139 (.ireturn) 1 140 ∧ kt_rt i_K_count = (some .int) := ⟨⟨by decide +kernel, rfl⟩, rfl⟩
theorem x_K_count_140 : kt_dc i_K_count 140 (.aload_n 0) 1 141 := ⟨by decide +kernel, rfl⟩
theorem x_K_count_141 : kt_sG i_K_count 141 4 0 2 144 := ⟨23, RX4, TX4, 5, ⟨by decide +kernel, rfl⟩, rfl, by decide, rfl, by decide, Or.inl (tw_182)⟩
theorem x_K_count_144 : kt_sV i_K_count 144 i_C_knownByAll 0 0 147 := ⟨180, ⟨by decide +kernel, rfl⟩, Or.inr ⟨"KinderTowns", tw_420⟩, j_C_knownByAll, ⟨tw_422, tp_31⟩, ⟨TX0, 11, rfl⟩, by decide, rfl⟩
theorem c_K_count_144 {P : kt_P} {NM : Nat} {L : List (Option Value)} {rest : List Value} {N : Nat} {I : kt_I} {J : kt_J} {R : kt_R} {Q : Option Value → kt_I → kt_J → kt_R → Prop} {b : Nat} (hkd : kt_kd P N b = (0, 0)) (hrest : (rest.map fun v => v.category).sum ≤ 8) (kk : KW P i_C_knownByAll N 0 [some (.ref b), none, none, none] [] N I J R (fun v I' J' R' => KW P i_K_count NM 147 L (kt_pu v rest) N I' J' R' Q)) : KW P i_K_count NM 144 L (.ref b :: rest) N I J R Q := kw_callV x_K_count_144 (As := []) rfl rfl (Nat.le_of_ble_eq_true rfl) hrest hkd (Nat.le_refl N) (fun h => h) kk
theorem x_K_count_147 : kt_sS i_K_count 147 i_J_bitCount 1 150 := ⟨125, ⟨by decide +kernel, rfl⟩, Or.inl (tw_375), j_J_bitCount, tw_336, rfl⟩
theorem c_K_count_147 {P : kt_P} {NM : Nat} {L : List (Option Value)} {rest : List Value} {N : Nat} {I : kt_I} {J : kt_J} {R : kt_R} {Q : Option Value → kt_I → kt_J → kt_R → Prop} {x0 : Int64} (hrest : (rest.map fun v => v.category).sum ≤ 8) (kk : KW P i_J_bitCount N 0 [some (.long x0), none] [] N I J R (fun v I' J' R' => KW P i_K_count NM 150 L (kt_pu v rest) N I' J' R' Q)) : KW P i_K_count NM 147 L (.long x0 :: rest) N I J R Q := kw_callS x_K_count_147 (As := [.long x0]) rfl rfl (Nat.le_of_ble_eq_true rfl) hrest (Nat.le_refl N) (fun h => h) kk
theorem x_K_count_150 : kt_dc i_K_count 150 (.ireturn) 1 151 ∧ kt_rt i_K_count = (some .int) := ⟨⟨by decide +kernel, rfl⟩, rfl⟩
theorem x_K_count_151 : kt_dc i_K_count 151 (.aload_n 0) 1 152 := ⟨by decide +kernel, rfl⟩
theorem x_K_count_152 : kt_sG i_K_count 152 4 0 2 155 := ⟨23, RX4, TX4, 5, ⟨by decide +kernel, rfl⟩, rfl, by decide, rfl, by decide, Or.inl (tw_182)⟩
theorem x_K_count_155 : kt_sV i_K_count 155 i_C_allKnowTheSame 0 0 158 := ⟨183, ⟨by decide +kernel, rfl⟩, Or.inr ⟨"KinderTowns", tw_425⟩, j_C_allKnowTheSame, ⟨tw_427, tp_32⟩, ⟨TX0, 11, rfl⟩, by decide, rfl⟩
theorem c_K_count_155 {P : kt_P} {NM : Nat} {L : List (Option Value)} {rest : List Value} {N : Nat} {I : kt_I} {J : kt_J} {R : kt_R} {Q : Option Value → kt_I → kt_J → kt_R → Prop} {b : Nat} (hkd : kt_kd P N b = (0, 0)) (hrest : (rest.map fun v => v.category).sum ≤ 8) (kk : KW P i_C_allKnowTheSame N 0 [some (.ref b), none] [] N I J R (fun v I' J' R' => KW P i_K_count NM 158 L (kt_pu v rest) N I' J' R' Q)) : KW P i_K_count NM 155 L (.ref b :: rest) N I J R Q := kw_callV x_K_count_155 (As := []) rfl rfl (Nat.le_of_ble_eq_true rfl) hrest hkd (Nat.le_refl N) (fun h => h) kk
theorem x_K_count_158 : kt_dj i_K_count 158 (.ifCond .eq) 165 161 := ⟨7, by decide +kernel, by decide, rfl⟩
theorem x_K_count_161 : kt_dc i_K_count 161 (.iconst 1) 1 162 ∧ Int32.ofInt (1) = nI 1 := ⟨⟨by decide +kernel, rfl⟩, by decide⟩
theorem x_K_count_162 : kt_dj i_K_count 162 .goto 166 165 := ⟨4, by decide +kernel, by decide, rfl⟩
theorem x_K_count_165 : kt_dc i_K_count 165 (.iconst 0) 1 166 ∧ Int32.ofInt (0) = nI 0 := ⟨⟨by decide +kernel, rfl⟩, by decide⟩
theorem x_K_count_166 : kt_dc i_K_count 166 (.ireturn) 1 167 ∧ kt_rt i_K_count = (some .int) := ⟨⟨by decide +kernel, rfl⟩, rfl⟩
theorem x_K_count_167 : kt_dc i_K_count 167 (.aload_n 0) 1 168 := ⟨by decide +kernel, rfl⟩
theorem x_K_count_168 : kt_sG i_K_count 168 4 3 0 171 := ⟨187, RX4, TX4, 5, ⟨by decide +kernel, rfl⟩, rfl, by decide, rfl, by decide, Or.inl (tw_185)⟩
theorem x_K_count_171 : kt_dc i_K_count 171 (.ireturn) 1 172 ∧ kt_rt i_K_count = (some .int) := ⟨⟨by decide +kernel, rfl⟩, rfl⟩
theorem x_K_count_172 : kt_dc i_K_count 172 (.aload_n 0) 1 173 := ⟨by decide +kernel, rfl⟩
theorem x_K_count_173 : kt_sG i_K_count 173 4 4 2 176 := ⟨18, RX4, TX4, 5, ⟨by decide +kernel, rfl⟩, rfl, by decide, rfl, by decide, Or.inl (tw_186)⟩
theorem x_K_count_176 : kt_sG i_K_count 176 3 1 0 179 := ⟨190, RX3, TX3, 6, ⟨by decide +kernel, rfl⟩, rfl, by decide, rfl, by decide, Or.inr ⟨"KinderTowns", tw_30⟩⟩
theorem x_K_count_179 : kt_dc i_K_count 179 (.ireturn) 1 180 ∧ kt_rt i_K_count = (some .int) := ⟨⟨by decide +kernel, rfl⟩, rfl⟩
theorem x_K_count_180 : kt_dc i_K_count 180 (.iconst (-1)) 1 181 ∧ Int32.ofInt (-1) = (-1 : Int32) := ⟨⟨by decide +kernel, rfl⟩, by decide⟩
theorem x_K_count_181 : kt_dc i_K_count 181 (.ireturn) 1 182 ∧ kt_rt i_K_count = (some .int) := ⟨⟨by decide +kernel, rfl⟩, rfl⟩
theorem x_K_would_0 : kt_dc i_K_would 0 (.aload_n 0) 1 1 := ⟨by decide +kernel, rfl⟩
theorem x_K_would_1 : kt_sG i_K_would 1 4 1 2 4 := ⟨27, RX4, TX4, 5, ⟨by decide +kernel, rfl⟩, rfl, by decide, rfl, by decide, Or.inl (tw_183)⟩
theorem x_K_would_4 : kt_dc i_K_would 4 (.aload_n 0) 1 5 := ⟨by decide +kernel, rfl⟩
theorem x_K_would_5 : kt_sG i_K_would 5 4 0 2 8 := ⟨23, RX4, TX4, 5, ⟨by decide +kernel, rfl⟩, rfl, by decide, rfl, by decide, Or.inl (tw_182)⟩
theorem x_K_would_8 : kt_sV i_K_would 8 i_C_copyFrom 0 1 11 := ⟨30, ⟨by decide +kernel, rfl⟩, Or.inr ⟨"KinderTowns", tw_202⟩, j_C_copyFrom, ⟨tw_204, tp_0⟩, ⟨TX0, 11, rfl⟩, by decide, rfl⟩
theorem c_K_would_8 {P : kt_P} {NM : Nat} {L : List (Option Value)} {rest : List Value} {N : Nat} {I : kt_I} {J : kt_J} {R : kt_R} {Q : Option Value → kt_I → kt_J → kt_R → Prop} {b : Nat} {x0 : Nat} (hkd : kt_kd P N b = (0, 0)) (hrest : (rest.map fun v => v.category).sum ≤ 8) (kk : KW P i_C_copyFrom N 0 [some (.ref b), some (.ref x0)] [] N I J R (fun v I' J' R' => KW P i_K_would NM 11 L (kt_pu v rest) N I' J' R' Q)) : KW P i_K_would NM 8 L (.ref x0 :: .ref b :: rest) N I J R Q := kw_callV x_K_would_8 (As := [.ref x0]) rfl rfl (Nat.le_of_ble_eq_true rfl) hrest hkd (Nat.le_refl N) (fun h => h) kk
theorem x_K_would_11 : kt_dc i_K_would 11 (.aload_n 0) 1 12 := ⟨by decide +kernel, rfl⟩
theorem x_K_would_12 : kt_sG i_K_would 12 4 1 2 15 := ⟨27, RX4, TX4, 5, ⟨by decide +kernel, rfl⟩, rfl, by decide, rfl, by decide, Or.inl (tw_183)⟩
theorem x_K_would_15 : kt_dc i_K_would 15 (.iload_n 1) 1 16 := ⟨by decide +kernel, rfl⟩
theorem x_K_would_16 : kt_dc i_K_would 16 (.iload_n 2) 1 17 := ⟨by decide +kernel, rfl⟩
theorem x_K_would_17 : kt_sV i_K_would 17 i_C_letMeet 0 2 20 := ⟨54, ⟨by decide +kernel, rfl⟩, Or.inr ⟨"KinderTowns", tw_322⟩, j_C_letMeet, ⟨tw_324, tp_21⟩, ⟨TX0, 11, rfl⟩, by decide, rfl⟩
theorem c_K_would_17 {P : kt_P} {NM : Nat} {L : List (Option Value)} {rest : List Value} {N : Nat} {I : kt_I} {J : kt_J} {R : kt_R} {Q : Option Value → kt_I → kt_J → kt_R → Prop} {b : Nat} {x0 : Int32} {x1 : Int32} (hkd : kt_kd P N b = (0, 0)) (hrest : (rest.map fun v => v.category).sum ≤ 8) (kk : KW P i_C_letMeet N 0 [some (.ref b), some (.int x0), some (.int x1), none] [] N I J R (fun v I' J' R' => KW P i_K_would NM 20 L (kt_pu v rest) N I' J' R' Q)) : KW P i_K_would NM 17 L (.int x1 :: .int x0 :: .ref b :: rest) N I J R Q := kw_callV x_K_would_17 (As := [.int x0, .int x1]) rfl rfl (Nat.le_of_ble_eq_true rfl) hrest hkd (Nat.le_refl N) (fun h => h) kk
theorem x_K_would_20 : kt_dc i_K_would 20 (.istore 4) 2 22 := ⟨by decide +kernel, rfl⟩
theorem x_K_would_22 : kt_dc i_K_would 22 (.iload 4) 2 24 := ⟨by decide +kernel, rfl⟩
theorem x_K_would_24 : kt_dj i_K_would 24 (.ifCond .lt) 35 27 := ⟨11, by decide +kernel, by decide, rfl⟩
theorem x_K_would_27 : kt_dc i_K_would 27 (.iload_n 3) 1 28 := ⟨by decide +kernel, rfl⟩
theorem x_K_would_28 : kt_dc i_K_would 28 (.iconst 3) 1 29 ∧ Int32.ofInt (3) = nI 3 := ⟨⟨by decide +kernel, rfl⟩, by decide⟩
theorem x_K_would_29 : kt_sS i_K_would 29 i_K_isBelow 2 32 := ⟨73, ⟨by decide +kernel, rfl⟩, Or.inl (tw_274), j_K_isBelow, tw_219, rfl⟩
theorem c_K_would_29 {P : kt_P} {NM : Nat} {L : List (Option Value)} {rest : List Value} {N : Nat} {I : kt_I} {J : kt_J} {R : kt_R} {Q : Option Value → kt_I → kt_J → kt_R → Prop} {x0 : Int32} {x1 : Int32} (hrest : (rest.map fun v => v.category).sum ≤ 8) (kk : KW P i_K_isBelow N 0 [some (.int x0), some (.int x1)] [] N I J R (fun v I' J' R' => KW P i_K_would NM 32 L (kt_pu v rest) N I' J' R' Q)) : KW P i_K_would NM 29 L (.int x1 :: .int x0 :: rest) N I J R Q := kw_callS x_K_would_29 (As := [.int x0, .int x1]) rfl rfl (Nat.le_of_ble_eq_true rfl) hrest (Nat.le_refl N) (fun h => h) kk
theorem x_K_would_32 : kt_dj i_K_would 32 (.ifCond .ne) 37 35 := ⟨5, by decide +kernel, by decide, rfl⟩
theorem x_K_would_35 : kt_dc i_K_would 35 (.iconst (-1)) 1 36 ∧ Int32.ofInt (-1) = (-1 : Int32) := ⟨⟨by decide +kernel, rfl⟩, by decide⟩
theorem x_K_would_36 : kt_dc i_K_would 36 (.ireturn) 1 37 ∧ kt_rt i_K_would = (some .int) := ⟨⟨by decide +kernel, rfl⟩, rfl⟩
theorem x_K_would_37 : kt_dc i_K_would 37 (.aload_n 0) 1 38 := ⟨by decide +kernel, rfl⟩
theorem x_K_would_38 : kt_sG i_K_would 38 4 1 2 41 := ⟨27, RX4, TX4, 5, ⟨by decide +kernel, rfl⟩, rfl, by decide, rfl, by decide, Or.inl (tw_183)⟩
theorem x_K_would_41 : kt_sV i_K_would 41 i_C_thinkAnew 0 0 44 := ⟨191, ⟨by decide +kernel, rfl⟩, Or.inr ⟨"KinderTowns", tw_225⟩, j_C_thinkAnew, ⟨tw_227, tp_4⟩, ⟨TX0, 11, rfl⟩, by decide, rfl⟩
theorem c_K_would_41 {P : kt_P} {NM : Nat} {L : List (Option Value)} {rest : List Value} {N : Nat} {I : kt_I} {J : kt_J} {R : kt_R} {Q : Option Value → kt_I → kt_J → kt_R → Prop} {b : Nat} (hkd : kt_kd P N b = (0, 0)) (hrest : (rest.map fun v => v.category).sum ≤ 8) (kk : KW P i_C_thinkAnew N 0 [some (.ref b), none] [] N I J R (fun v I' J' R' => KW P i_K_would NM 44 L (kt_pu v rest) N I' J' R' Q)) : KW P i_K_would NM 41 L (.ref b :: rest) N I J R Q := kw_callV x_K_would_41 (As := []) rfl rfl (Nat.le_of_ble_eq_true rfl) hrest hkd (Nat.le_refl N) (fun h => h) kk
theorem x_K_would_44 : kt_dc i_K_would 44 (.iload_n 3) 1 45 := ⟨by decide +kernel, rfl⟩
theorem x_K_would_45 : decode (kt_by i_K_would) 45 = .ok (.lookupswitch 35 #[(0, 27), (1, 32)], 27) := by decide +kernel
theorem x_K_would_72 : kt_dc i_K_would 72 (.aload_n 0) 1 73 := ⟨by decide +kernel, rfl⟩
theorem x_K_would_73 : kt_sV i_K_would 73 i_K_newApologies 4 0 76 := ⟨194, ⟨by decide +kernel, rfl⟩, Or.inl (tw_433), j_K_newApologies, ⟨tw_435, tp_33⟩, ⟨TX4, 5, rfl⟩, by decide, rfl⟩
theorem c_K_would_73 {P : kt_P} {NM : Nat} {L : List (Option Value)} {rest : List Value} {N : Nat} {I : kt_I} {J : kt_J} {R : kt_R} {Q : Option Value → kt_I → kt_J → kt_R → Prop} {b : Nat} (hkd : kt_kd P N b = (4, 0)) (hrest : (rest.map fun v => v.category).sum ≤ 8) (kk : KW P i_K_newApologies N 0 [some (.ref b)] [] N I J R (fun v I' J' R' => KW P i_K_would NM 76 L (kt_pu v rest) N I' J' R' Q)) : KW P i_K_would NM 73 L (.ref b :: rest) N I J R Q := kw_callV x_K_would_73 (As := []) rfl rfl (Nat.le_of_ble_eq_true rfl) hrest hkd (Nat.le_refl N) (fun h => h) kk
theorem x_K_would_76 : kt_dc i_K_would 76 (.ireturn) 1 77 ∧ kt_rt i_K_would = (some .int) := ⟨⟨by decide +kernel, rfl⟩, rfl⟩
theorem x_K_would_77 : kt_dc i_K_would 77 (.iload 4) 2 79 := ⟨by decide +kernel, rfl⟩
theorem x_K_would_79 : kt_dc i_K_would 79 (.ireturn) 1 80 ∧ kt_rt i_K_would = (some .int) := ⟨⟨by decide +kernel, rfl⟩, rfl⟩
theorem x_K_would_80 : kt_dc i_K_would 80 (.aload_n 0) 1 81 := ⟨by decide +kernel, rfl⟩
theorem x_K_would_81 : kt_sG i_K_would 81 4 0 2 84 := ⟨23, RX4, TX4, 5, ⟨by decide +kernel, rfl⟩, rfl, by decide, rfl, by decide, Or.inl (tw_182)⟩
theorem x_K_would_84 : kt_sG i_K_would 84 0 1 2 87 := ⟨63, RX0, TX0, 11, ⟨by decide +kernel, rfl⟩, rfl, by decide, rfl, by decide, Or.inr ⟨"KinderTowns", tw_141⟩⟩
theorem x_K_would_87 : kt_dc i_K_would 87 (.aload_n 0) 1 88 := ⟨by decide +kernel, rfl⟩
theorem x_K_would_88 : kt_dc i_K_would 88 (.iload_n 1) 1 89 := ⟨by decide +kernel, rfl⟩
theorem x_K_would_89 : kt_sV i_K_would 89 i_K_otherThoughts 4 1 92 := ⟨197, ⟨by decide +kernel, rfl⟩, Or.inl (tw_437), j_K_otherThoughts, ⟨tw_439, tp_34⟩, ⟨TX4, 5, rfl⟩, by decide, rfl⟩
theorem c_K_would_89 {P : kt_P} {NM : Nat} {L : List (Option Value)} {rest : List Value} {N : Nat} {I : kt_I} {J : kt_J} {R : kt_R} {Q : Option Value → kt_I → kt_J → kt_R → Prop} {b : Nat} {x0 : Int32} (hkd : kt_kd P N b = (4, 0)) (hrest : (rest.map fun v => v.category).sum ≤ 8) (kk : KW P i_K_otherThoughts N 0 [some (.ref b), some (.int x0)] [] N I J R (fun v I' J' R' => KW P i_K_would NM 92 L (kt_pu v rest) N I' J' R' Q)) : KW P i_K_would NM 89 L (.int x0 :: .ref b :: rest) N I J R Q := kw_callV x_K_would_89 (As := [.int x0]) rfl rfl (Nat.le_of_ble_eq_true rfl) hrest hkd (Nat.le_refl N) (fun h => h) kk
theorem x_K_would_92 : kt_dc i_K_would 92 (.aload_n 0) 1 93 := ⟨by decide +kernel, rfl⟩
theorem x_K_would_93 : kt_dc i_K_would 93 (.iload_n 2) 1 94 := ⟨by decide +kernel, rfl⟩
theorem x_K_would_94 : kt_sV i_K_would 94 i_K_otherThoughts 4 1 97 := ⟨197, ⟨by decide +kernel, rfl⟩, Or.inl (tw_437), j_K_otherThoughts, ⟨tw_439, tp_34⟩, ⟨TX4, 5, rfl⟩, by decide, rfl⟩
theorem c_K_would_94 {P : kt_P} {NM : Nat} {L : List (Option Value)} {rest : List Value} {N : Nat} {I : kt_I} {J : kt_J} {R : kt_R} {Q : Option Value → kt_I → kt_J → kt_R → Prop} {b : Nat} {x0 : Int32} (hkd : kt_kd P N b = (4, 0)) (hrest : (rest.map fun v => v.category).sum ≤ 8) (kk : KW P i_K_otherThoughts N 0 [some (.ref b), some (.int x0)] [] N I J R (fun v I' J' R' => KW P i_K_would NM 97 L (kt_pu v rest) N I' J' R' Q)) : KW P i_K_would NM 94 L (.int x0 :: .ref b :: rest) N I J R Q := kw_callV x_K_would_94 (As := [.int x0]) rfl rfl (Nat.le_of_ble_eq_true rfl) hrest hkd (Nat.le_refl N) (fun h => h) kk
theorem x_K_would_97 : kt_dc i_K_would 97 (.lor) 1 98 := ⟨by decide +kernel, rfl⟩
theorem x_K_would_98 : kt_sV i_K_would 98 i_E_goodsOf 1 1 101 := ⟨201, ⟨by decide +kernel, rfl⟩, Or.inr ⟨"KinderTowns", tw_441⟩, j_E_goodsOf, ⟨tw_443, tp_35⟩, ⟨TX1, 8, rfl⟩, by decide, rfl⟩
theorem c_K_would_98 {P : kt_P} {NM : Nat} {L : List (Option Value)} {rest : List Value} {N : Nat} {I : kt_I} {J : kt_J} {R : kt_R} {Q : Option Value → kt_I → kt_J → kt_R → Prop} {b : Nat} {x0 : Int64} (hkd : kt_kd P N b = (1, 0)) (hrest : (rest.map fun v => v.category).sum ≤ 8) (kk : KW P i_E_goodsOf N 0 [some (.ref b), some (.long x0), none, none, none] [] N I J R (fun v I' J' R' => KW P i_K_would NM 101 L (kt_pu v rest) N I' J' R' Q)) : KW P i_K_would NM 98 L (.long x0 :: .ref b :: rest) N I J R Q := kw_callV x_K_would_98 (As := [.long x0]) rfl rfl (Nat.le_of_ble_eq_true rfl) hrest hkd (Nat.le_refl N) (fun h => h) kk
theorem x_K_would_101 : kt_dc i_K_would 101 (.ireturn) 1 102 ∧ kt_rt i_K_would = (some .int) := ⟨⟨by decide +kernel, rfl⟩, rfl⟩
theorem x_K_newApologies_0 : kt_dc i_K_newApologies 0 (.aload_n 0) 1 1 := ⟨by decide +kernel, rfl⟩
theorem x_K_newApologies_1 : kt_sG i_K_newApologies 1 4 1 2 4 := ⟨27, RX4, TX4, 5, ⟨by decide +kernel, rfl⟩, rfl, by decide, rfl, by decide, Or.inl (tw_183)⟩
theorem x_K_newApologies_4 : kt_dc i_K_newApologies 4 (.aload_n 0) 1 5 := ⟨by decide +kernel, rfl⟩
theorem x_K_newApologies_5 : kt_sG i_K_newApologies 5 4 1 2 8 := ⟨27, RX4, TX4, 5, ⟨by decide +kernel, rfl⟩, rfl, by decide, rfl, by decide, Or.inl (tw_183)⟩
theorem x_K_newApologies_8 : kt_sG i_K_newApologies 8 0 1 2 11 := ⟨63, RX0, TX0, 11, ⟨by decide +kernel, rfl⟩, rfl, by decide, rfl, by decide, Or.inr ⟨"KinderTowns", tw_141⟩⟩
theorem x_K_newApologies_11 : kt_sV i_K_newApologies 11 i_E_all 1 0 14 := ⟨176, ⟨by decide +kernel, rfl⟩, Or.inr ⟨"KinderTowns", tw_416⟩, j_E_all, ⟨tw_418, tp_30⟩, ⟨TX1, 8, rfl⟩, by decide, rfl⟩
theorem c_K_newApologies_11 {P : kt_P} {NM : Nat} {L : List (Option Value)} {rest : List Value} {N : Nat} {I : kt_I} {J : kt_J} {R : kt_R} {Q : Option Value → kt_I → kt_J → kt_R → Prop} {b : Nat} (hkd : kt_kd P N b = (1, 0)) (hrest : (rest.map fun v => v.category).sum ≤ 8) (kk : KW P i_E_all N 0 [some (.ref b)] [] N I J R (fun v I' J' R' => KW P i_K_newApologies NM 14 L (kt_pu v rest) N I' J' R' Q)) : KW P i_K_newApologies NM 11 L (.ref b :: rest) N I J R Q := kw_callV x_K_newApologies_11 (As := []) rfl rfl (Nat.le_of_ble_eq_true rfl) hrest hkd (Nat.le_refl N) (fun h => h) kk
theorem x_K_newApologies_14 : kt_sV i_K_newApologies 14 i_C_apologiesFor 0 1 17 := ⟨167, ⟨by decide +kernel, rfl⟩, Or.inr ⟨"KinderTowns", tw_403⟩, j_C_apologiesFor, ⟨tw_405, tp_29⟩, ⟨TX0, 11, rfl⟩, by decide, rfl⟩
theorem c_K_newApologies_14 {P : kt_P} {NM : Nat} {L : List (Option Value)} {rest : List Value} {N : Nat} {I : kt_I} {J : kt_J} {R : kt_R} {Q : Option Value → kt_I → kt_J → kt_R → Prop} {b : Nat} {x0 : Int64} (hkd : kt_kd P N b = (0, 0)) (hrest : (rest.map fun v => v.category).sum ≤ 8) (kk : KW P i_C_apologiesFor N 0 [some (.ref b), some (.long x0), none, none, none] [] N I J R (fun v I' J' R' => KW P i_K_newApologies NM 17 L (kt_pu v rest) N I' J' R' Q)) : KW P i_K_newApologies NM 14 L (.long x0 :: .ref b :: rest) N I J R Q := kw_callV x_K_newApologies_14 (As := [.long x0]) rfl rfl (Nat.le_of_ble_eq_true rfl) hrest hkd (Nat.le_refl N) (fun h => h) kk
theorem x_K_newApologies_17 : kt_dc i_K_newApologies 17 (.aload_n 0) 1 18 := ⟨by decide +kernel, rfl⟩
theorem x_K_newApologies_18 : kt_sG i_K_newApologies 18 4 0 2 21 := ⟨23, RX4, TX4, 5, ⟨by decide +kernel, rfl⟩, rfl, by decide, rfl, by decide, Or.inl (tw_182)⟩
theorem x_K_newApologies_21 : kt_dc i_K_newApologies 21 (.aload_n 0) 1 22 := ⟨by decide +kernel, rfl⟩
theorem x_K_newApologies_22 : kt_sG i_K_newApologies 22 4 0 2 25 := ⟨23, RX4, TX4, 5, ⟨by decide +kernel, rfl⟩, rfl, by decide, rfl, by decide, Or.inl (tw_182)⟩
theorem x_K_newApologies_25 : kt_sG i_K_newApologies 25 0 1 2 28 := ⟨63, RX0, TX0, 11, ⟨by decide +kernel, rfl⟩, rfl, by decide, rfl, by decide, Or.inr ⟨"KinderTowns", tw_141⟩⟩
theorem x_K_newApologies_28 : kt_sV i_K_newApologies 28 i_E_all 1 0 31 := ⟨176, ⟨by decide +kernel, rfl⟩, Or.inr ⟨"KinderTowns", tw_416⟩, j_E_all, ⟨tw_418, tp_30⟩, ⟨TX1, 8, rfl⟩, by decide, rfl⟩
theorem c_K_newApologies_28 {P : kt_P} {NM : Nat} {L : List (Option Value)} {rest : List Value} {N : Nat} {I : kt_I} {J : kt_J} {R : kt_R} {Q : Option Value → kt_I → kt_J → kt_R → Prop} {b : Nat} (hkd : kt_kd P N b = (1, 0)) (hrest : (rest.map fun v => v.category).sum ≤ 8) (kk : KW P i_E_all N 0 [some (.ref b)] [] N I J R (fun v I' J' R' => KW P i_K_newApologies NM 31 L (kt_pu v rest) N I' J' R' Q)) : KW P i_K_newApologies NM 28 L (.ref b :: rest) N I J R Q := kw_callV x_K_newApologies_28 (As := []) rfl rfl (Nat.le_of_ble_eq_true rfl) hrest hkd (Nat.le_refl N) (fun h => h) kk
theorem x_K_newApologies_31 : kt_sV i_K_newApologies 31 i_C_apologiesFor 0 1 34 := ⟨167, ⟨by decide +kernel, rfl⟩, Or.inr ⟨"KinderTowns", tw_403⟩, j_C_apologiesFor, ⟨tw_405, tp_29⟩, ⟨TX0, 11, rfl⟩, by decide, rfl⟩
theorem c_K_newApologies_31 {P : kt_P} {NM : Nat} {L : List (Option Value)} {rest : List Value} {N : Nat} {I : kt_I} {J : kt_J} {R : kt_R} {Q : Option Value → kt_I → kt_J → kt_R → Prop} {b : Nat} {x0 : Int64} (hkd : kt_kd P N b = (0, 0)) (hrest : (rest.map fun v => v.category).sum ≤ 8) (kk : KW P i_C_apologiesFor N 0 [some (.ref b), some (.long x0), none, none, none] [] N I J R (fun v I' J' R' => KW P i_K_newApologies NM 34 L (kt_pu v rest) N I' J' R' Q)) : KW P i_K_newApologies NM 31 L (.long x0 :: .ref b :: rest) N I J R Q := kw_callV x_K_newApologies_31 (As := [.long x0]) rfl rfl (Nat.le_of_ble_eq_true rfl) hrest hkd (Nat.le_refl N) (fun h => h) kk
theorem x_K_newApologies_34 : kt_dc i_K_newApologies 34 (.isub) 1 35 := ⟨by decide +kernel, rfl⟩
theorem x_K_newApologies_35 : kt_dc i_K_newApologies 35 (.ireturn) 1 36 ∧ kt_rt i_K_newApologies = (some .int) := ⟨⟨by decide +kernel, rfl⟩, rfl⟩
theorem x_K_otherThoughts_0 : kt_dc i_K_otherThoughts 0 (.aload_n 0) 1 1 := ⟨by decide +kernel, rfl⟩
theorem x_K_otherThoughts_1 : kt_sG i_K_otherThoughts 1 4 0 2 4 := ⟨23, RX4, TX4, 5, ⟨by decide +kernel, rfl⟩, rfl, by decide, rfl, by decide, Or.inl (tw_182)⟩
theorem x_K_otherThoughts_4 : kt_dc i_K_otherThoughts 4 (.iload_n 1) 1 5 := ⟨by decide +kernel, rfl⟩
theorem x_K_otherThoughts_5 : kt_sV i_K_otherThoughts 5 i_C_isTown 0 1 8 := ⟨110, ⟨by decide +kernel, rfl⟩, Or.inr ⟨"KinderTowns", tw_369⟩, j_C_isTown, ⟨tw_285, tp_15⟩, ⟨TX0, 11, rfl⟩, by decide, rfl⟩
theorem c_K_otherThoughts_5 {P : kt_P} {NM : Nat} {L : List (Option Value)} {rest : List Value} {N : Nat} {I : kt_I} {J : kt_J} {R : kt_R} {Q : Option Value → kt_I → kt_J → kt_R → Prop} {b : Nat} {x0 : Int32} (hkd : kt_kd P N b = (0, 0)) (hrest : (rest.map fun v => v.category).sum ≤ 8) (kk : KW P i_C_isTown N 0 [some (.ref b), some (.int x0)] [] N I J R (fun v I' J' R' => KW P i_K_otherThoughts NM 8 L (kt_pu v rest) N I' J' R' Q)) : KW P i_K_otherThoughts NM 5 L (.int x0 :: .ref b :: rest) N I J R Q := kw_callV x_K_otherThoughts_5 (As := [.int x0]) rfl rfl (Nat.le_of_ble_eq_true rfl) hrest hkd (Nat.le_refl N) (fun h => h) kk
theorem x_K_otherThoughts_8 : kt_dj i_K_otherThoughts 8 (.ifCond .ne) 13 11 := ⟨5, by decide +kernel, by decide, rfl⟩
theorem x_K_otherThoughts_11 : kt_dc i_K_otherThoughts 11 (.lconst 0) 1 12 ∧ Int64.ofNat ((0 : Fin 2) : Nat) = (0 : Int64) := ⟨⟨by decide +kernel, rfl⟩, rfl⟩
theorem x_K_otherThoughts_12 : kt_dc i_K_otherThoughts 12 (.lreturn) 1 13 ∧ kt_rt i_K_otherThoughts = (some .long) := ⟨⟨by decide +kernel, rfl⟩, rfl⟩
theorem x_K_otherThoughts_13 : kt_dc i_K_otherThoughts 13 (.aload_n 0) 1 14 := ⟨by decide +kernel, rfl⟩
theorem x_K_otherThoughts_14 : kt_sG i_K_otherThoughts 14 4 0 2 17 := ⟨23, RX4, TX4, 5, ⟨by decide +kernel, rfl⟩, rfl, by decide, rfl, by decide, Or.inl (tw_182)⟩
theorem x_K_otherThoughts_17 : kt_sG i_K_otherThoughts 17 0 6 2 20 := ⟨118, RX0, TX0, 11, ⟨by decide +kernel, rfl⟩, rfl, by decide, rfl, by decide, Or.inr ⟨"KinderTowns", tw_151⟩⟩
theorem x_K_otherThoughts_20 : kt_dc i_K_otherThoughts 20 (.iload_n 1) 1 21 := ⟨by decide +kernel, rfl⟩
theorem x_K_otherThoughts_21 : kt_dc i_K_otherThoughts 21 (.laload) 1 22 := ⟨by decide +kernel, rfl⟩
theorem x_K_otherThoughts_22 : kt_dc i_K_otherThoughts 22 (.aload_n 0) 1 23 := ⟨by decide +kernel, rfl⟩
theorem x_K_otherThoughts_23 : kt_sG i_K_otherThoughts 23 4 1 2 26 := ⟨27, RX4, TX4, 5, ⟨by decide +kernel, rfl⟩, rfl, by decide, rfl, by decide, Or.inl (tw_183)⟩
theorem x_K_otherThoughts_26 : kt_sG i_K_otherThoughts 26 0 6 2 29 := ⟨118, RX0, TX0, 11, ⟨by decide +kernel, rfl⟩, rfl, by decide, rfl, by decide, Or.inr ⟨"KinderTowns", tw_151⟩⟩
theorem x_K_otherThoughts_29 : kt_dc i_K_otherThoughts 29 (.iload_n 1) 1 30 := ⟨by decide +kernel, rfl⟩
theorem x_K_otherThoughts_30 : kt_dc i_K_otherThoughts 30 (.laload) 1 31 := ⟨by decide +kernel, rfl⟩
theorem x_K_otherThoughts_31 : kt_dc i_K_otherThoughts 31 (.lxor) 1 32 := ⟨by decide +kernel, rfl⟩
theorem x_K_otherThoughts_32 : kt_dc i_K_otherThoughts 32 (.aload_n 0) 1 33 := ⟨by decide +kernel, rfl⟩
theorem x_K_otherThoughts_33 : kt_sG i_K_otherThoughts 33 4 0 2 36 := ⟨23, RX4, TX4, 5, ⟨by decide +kernel, rfl⟩, rfl, by decide, rfl, by decide, Or.inl (tw_182)⟩
theorem x_K_otherThoughts_36 : kt_sG i_K_otherThoughts 36 0 7 2 39 := ⟨121, RX0, TX0, 11, ⟨by decide +kernel, rfl⟩, rfl, by decide, rfl, by decide, Or.inr ⟨"KinderTowns", tw_153⟩⟩
theorem x_K_otherThoughts_39 : kt_dc i_K_otherThoughts 39 (.iload_n 1) 1 40 := ⟨by decide +kernel, rfl⟩
theorem x_K_otherThoughts_40 : kt_dc i_K_otherThoughts 40 (.laload) 1 41 := ⟨by decide +kernel, rfl⟩
theorem x_K_otherThoughts_41 : kt_dc i_K_otherThoughts 41 (.aload_n 0) 1 42 := ⟨by decide +kernel, rfl⟩
theorem x_K_otherThoughts_42 : kt_sG i_K_otherThoughts 42 4 1 2 45 := ⟨27, RX4, TX4, 5, ⟨by decide +kernel, rfl⟩, rfl, by decide, rfl, by decide, Or.inl (tw_183)⟩
theorem x_K_otherThoughts_45 : kt_sG i_K_otherThoughts 45 0 7 2 48 := ⟨121, RX0, TX0, 11, ⟨by decide +kernel, rfl⟩, rfl, by decide, rfl, by decide, Or.inr ⟨"KinderTowns", tw_153⟩⟩
theorem x_K_otherThoughts_48 : kt_dc i_K_otherThoughts 48 (.iload_n 1) 1 49 := ⟨by decide +kernel, rfl⟩
theorem x_K_otherThoughts_49 : kt_dc i_K_otherThoughts 49 (.laload) 1 50 := ⟨by decide +kernel, rfl⟩
theorem x_K_otherThoughts_50 : kt_dc i_K_otherThoughts 50 (.lxor) 1 51 := ⟨by decide +kernel, rfl⟩
theorem x_K_otherThoughts_51 : kt_dc i_K_otherThoughts 51 (.lor) 1 52 := ⟨by decide +kernel, rfl⟩
theorem x_K_otherThoughts_52 : kt_dc i_K_otherThoughts 52 (.lreturn) 1 53 ∧ kt_rt i_K_otherThoughts = (some .long) := ⟨⟨by decide +kernel, rfl⟩, rfl⟩
theorem x_K_wouldRule_0 : kt_dc i_K_wouldRule 0 (.aload_n 0) 1 1 := ⟨by decide +kernel, rfl⟩
theorem x_K_wouldRule_1 : kt_sG i_K_wouldRule 1 4 1 2 4 := ⟨27, RX4, TX4, 5, ⟨by decide +kernel, rfl⟩, rfl, by decide, rfl, by decide, Or.inl (tw_183)⟩
theorem x_K_wouldRule_4 : kt_dc i_K_wouldRule 4 (.aload_n 0) 1 5 := ⟨by decide +kernel, rfl⟩
theorem x_K_wouldRule_5 : kt_sG i_K_wouldRule 5 4 0 2 8 := ⟨23, RX4, TX4, 5, ⟨by decide +kernel, rfl⟩, rfl, by decide, rfl, by decide, Or.inl (tw_182)⟩
theorem x_K_wouldRule_8 : kt_sV i_K_wouldRule 8 i_C_copyFrom 0 1 11 := ⟨30, ⟨by decide +kernel, rfl⟩, Or.inr ⟨"KinderTowns", tw_202⟩, j_C_copyFrom, ⟨tw_204, tp_0⟩, ⟨TX0, 11, rfl⟩, by decide, rfl⟩
theorem c_K_wouldRule_8 {P : kt_P} {NM : Nat} {L : List (Option Value)} {rest : List Value} {N : Nat} {I : kt_I} {J : kt_J} {R : kt_R} {Q : Option Value → kt_I → kt_J → kt_R → Prop} {b : Nat} {x0 : Nat} (hkd : kt_kd P N b = (0, 0)) (hrest : (rest.map fun v => v.category).sum ≤ 8) (kk : KW P i_C_copyFrom N 0 [some (.ref b), some (.ref x0)] [] N I J R (fun v I' J' R' => KW P i_K_wouldRule NM 11 L (kt_pu v rest) N I' J' R' Q)) : KW P i_K_wouldRule NM 8 L (.ref x0 :: .ref b :: rest) N I J R Q := kw_callV x_K_wouldRule_8 (As := [.ref x0]) rfl rfl (Nat.le_of_ble_eq_true rfl) hrest hkd (Nat.le_refl N) (fun h => h) kk
theorem x_K_wouldRule_11 : kt_dc i_K_wouldRule 11 (.aload_n 0) 1 12 := ⟨by decide +kernel, rfl⟩
theorem x_K_wouldRule_12 : kt_sG i_K_wouldRule 12 4 1 2 15 := ⟨27, RX4, TX4, 5, ⟨by decide +kernel, rfl⟩, rfl, by decide, rfl, by decide, Or.inl (tw_183)⟩
theorem x_K_wouldRule_15 : kt_dc i_K_wouldRule 15 (.iload_n 1) 1 16 := ⟨by decide +kernel, rfl⟩
theorem x_K_wouldRule_16 : kt_sV i_K_wouldRule 16 i_C_setRule 0 1 19 := ⟨60, ⟨by decide +kernel, rfl⟩, Or.inr ⟨"KinderTowns", tw_353⟩, j_C_setRule, ⟨tw_355, tp_24⟩, ⟨TX0, 11, rfl⟩, by decide, rfl⟩
theorem c_K_wouldRule_16 {P : kt_P} {NM : Nat} {L : List (Option Value)} {rest : List Value} {N : Nat} {I : kt_I} {J : kt_J} {R : kt_R} {Q : Option Value → kt_I → kt_J → kt_R → Prop} {b : Nat} {x0 : Int32} (hkd : kt_kd P N b = (0, 0)) (hrest : (rest.map fun v => v.category).sum ≤ 8) (kk : KW P i_C_setRule N 0 [some (.ref b), some (.int x0), none] [] N I J R (fun v I' J' R' => KW P i_K_wouldRule NM 19 L (kt_pu v rest) N I' J' R' Q)) : KW P i_K_wouldRule NM 16 L (.int x0 :: .ref b :: rest) N I J R Q := kw_callV x_K_wouldRule_16 (As := [.int x0]) rfl rfl (Nat.le_of_ble_eq_true rfl) hrest hkd (Nat.le_refl N) (fun h => h) kk
theorem x_K_wouldRule_19 : kt_dj i_K_wouldRule 19 (.ifCond .ge) 24 22 := ⟨5, by decide +kernel, by decide, rfl⟩
theorem x_K_wouldRule_22 : kt_dc i_K_wouldRule 22 (.iconst (-1)) 1 23 ∧ Int32.ofInt (-1) = (-1 : Int32) := ⟨⟨by decide +kernel, rfl⟩, by decide⟩
theorem x_K_wouldRule_23 : kt_dc i_K_wouldRule 23 (.ireturn) 1 24 ∧ kt_rt i_K_wouldRule = (some .int) := ⟨⟨by decide +kernel, rfl⟩, rfl⟩
theorem x_K_wouldRule_24 : kt_dc i_K_wouldRule 24 (.aload_n 0) 1 25 := ⟨by decide +kernel, rfl⟩
theorem x_K_wouldRule_25 : kt_sG i_K_wouldRule 25 4 1 2 28 := ⟨27, RX4, TX4, 5, ⟨by decide +kernel, rfl⟩, rfl, by decide, rfl, by decide, Or.inl (tw_183)⟩
theorem x_K_wouldRule_28 : kt_sV i_K_wouldRule 28 i_C_thinkAnew 0 0 31 := ⟨191, ⟨by decide +kernel, rfl⟩, Or.inr ⟨"KinderTowns", tw_225⟩, j_C_thinkAnew, ⟨tw_227, tp_4⟩, ⟨TX0, 11, rfl⟩, by decide, rfl⟩
theorem c_K_wouldRule_28 {P : kt_P} {NM : Nat} {L : List (Option Value)} {rest : List Value} {N : Nat} {I : kt_I} {J : kt_J} {R : kt_R} {Q : Option Value → kt_I → kt_J → kt_R → Prop} {b : Nat} (hkd : kt_kd P N b = (0, 0)) (hrest : (rest.map fun v => v.category).sum ≤ 8) (kk : KW P i_C_thinkAnew N 0 [some (.ref b), none] [] N I J R (fun v I' J' R' => KW P i_K_wouldRule NM 31 L (kt_pu v rest) N I' J' R' Q)) : KW P i_K_wouldRule NM 28 L (.ref b :: rest) N I J R Q := kw_callV x_K_wouldRule_28 (As := []) rfl rfl (Nat.le_of_ble_eq_true rfl) hrest hkd (Nat.le_refl N) (fun h => h) kk
theorem x_K_wouldRule_31 : kt_dc i_K_wouldRule 31 (.aload_n 0) 1 32 := ⟨by decide +kernel, rfl⟩
theorem x_K_wouldRule_32 : kt_sV i_K_wouldRule 32 i_K_newApologies 4 0 35 := ⟨194, ⟨by decide +kernel, rfl⟩, Or.inl (tw_433), j_K_newApologies, ⟨tw_435, tp_33⟩, ⟨TX4, 5, rfl⟩, by decide, rfl⟩
theorem c_K_wouldRule_32 {P : kt_P} {NM : Nat} {L : List (Option Value)} {rest : List Value} {N : Nat} {I : kt_I} {J : kt_J} {R : kt_R} {Q : Option Value → kt_I → kt_J → kt_R → Prop} {b : Nat} (hkd : kt_kd P N b = (4, 0)) (hrest : (rest.map fun v => v.category).sum ≤ 8) (kk : KW P i_K_newApologies N 0 [some (.ref b)] [] N I J R (fun v I' J' R' => KW P i_K_wouldRule NM 35 L (kt_pu v rest) N I' J' R' Q)) : KW P i_K_wouldRule NM 32 L (.ref b :: rest) N I J R Q := kw_callV x_K_wouldRule_32 (As := []) rfl rfl (Nat.le_of_ble_eq_true rfl) hrest hkd (Nat.le_refl N) (fun h => h) kk
theorem x_K_wouldRule_35 : kt_dc i_K_wouldRule 35 (.ireturn) 1 36 ∧ kt_rt i_K_wouldRule = (some .int) := ⟨⟨by decide +kernel, rfl⟩, rfl⟩
theorem x_K_kindest_0 : kt_dc i_K_kindest 0 (.iload_n 1) 1 1 := ⟨by decide +kernel, rfl⟩
theorem x_K_kindest_1 : kt_dc i_K_kindest 1 (.iconst 2) 1 2 ∧ Int32.ofInt (2) = nI 2 := ⟨⟨by decide +kernel, rfl⟩, by decide⟩
theorem x_K_kindest_2 : kt_sS i_K_kindest 2 i_K_isBelow 2 5 := ⟨73, ⟨by decide +kernel, rfl⟩, Or.inl (tw_274), j_K_isBelow, tw_219, rfl⟩
theorem c_K_kindest_2 {P : kt_P} {NM : Nat} {L : List (Option Value)} {rest : List Value} {N : Nat} {I : kt_I} {J : kt_J} {R : kt_R} {Q : Option Value → kt_I → kt_J → kt_R → Prop} {x0 : Int32} {x1 : Int32} (hrest : (rest.map fun v => v.category).sum ≤ 8) (kk : KW P i_K_isBelow N 0 [some (.int x0), some (.int x1)] [] N I J R (fun v I' J' R' => KW P i_K_kindest NM 5 L (kt_pu v rest) N I' J' R' Q)) : KW P i_K_kindest NM 2 L (.int x1 :: .int x0 :: rest) N I J R Q := kw_callS x_K_kindest_2 (As := [.int x0, .int x1]) rfl rfl (Nat.le_of_ble_eq_true rfl) hrest (Nat.le_refl N) (fun h => h) kk
theorem x_K_kindest_5 : kt_dj i_K_kindest 5 (.ifCond .ne) 10 8 := ⟨5, by decide +kernel, by decide, rfl⟩
theorem x_K_kindest_8 : kt_dc i_K_kindest 8 (.iconst (-1)) 1 9 ∧ Int32.ofInt (-1) = (-1 : Int32) := ⟨⟨by decide +kernel, rfl⟩, by decide⟩
theorem x_K_kindest_9 : kt_dc i_K_kindest 9 (.ireturn) 1 10 ∧ kt_rt i_K_kindest = (some .int) := ⟨⟨by decide +kernel, rfl⟩, rfl⟩
theorem x_K_kindest_10 : kt_dc i_K_kindest 10 (.aload_n 0) 1 11 := ⟨by decide +kernel, rfl⟩
theorem x_K_kindest_11 : kt_sG i_K_kindest 11 4 0 2 14 := ⟨23, RX4, TX4, 5, ⟨by decide +kernel, rfl⟩, rfl, by decide, rfl, by decide, Or.inl (tw_182)⟩
theorem x_K_kindest_14 : kt_sG i_K_kindest 14 0 0 2 17 := ⟨145, RX0, TX0, 11, ⟨by decide +kernel, rfl⟩, rfl, by decide, rfl, by decide, Or.inr ⟨"KinderTowns", tw_139⟩⟩
theorem x_K_kindest_17 : kt_dc i_K_kindest 17 (.astore_n 2) 1 18 := ⟨by decide +kernel, rfl⟩
theorem x_K_kindest_18 : kt_dc i_K_kindest 18 (.iconst 0) 1 19 ∧ Int32.ofInt (0) = nI 0 := ⟨⟨by decide +kernel, rfl⟩, by decide⟩
theorem x_K_kindest_19 : kt_dc i_K_kindest 19 (.istore_n 3) 1 20 := ⟨by decide +kernel, rfl⟩
theorem x_K_kindest_20 : kt_dc i_K_kindest 20 (.iconst (-1)) 1 21 ∧ Int32.ofInt (-1) = (-1 : Int32) := ⟨⟨by decide +kernel, rfl⟩, by decide⟩
theorem x_K_kindest_21 : kt_dc i_K_kindest 21 (.istore 4) 2 23 := ⟨by decide +kernel, rfl⟩
theorem x_K_kindest_23 : kt_dc i_K_kindest 23 (.iconst 0) 1 24 ∧ Int32.ofInt (0) = nI 0 := ⟨⟨by decide +kernel, rfl⟩, by decide⟩
theorem x_K_kindest_24 : kt_dc i_K_kindest 24 (.istore 5) 2 26 := ⟨by decide +kernel, rfl⟩
theorem x_K_kindest_26 : kt_dc i_K_kindest 26 (.iload 5) 2 28 := ⟨by decide +kernel, rfl⟩
theorem x_K_kindest_28 : kt_dc i_K_kindest 28 (.iconst 3) 1 29 ∧ Int32.ofInt (3) = nI 3 := ⟨⟨by decide +kernel, rfl⟩, by decide⟩
theorem x_K_kindest_29 : kt_dj i_K_kindest 29 (.if_icmp .ge) 91 32 := ⟨62, by decide +kernel, by decide, rfl⟩
theorem x_K_kindest_32 : kt_dc i_K_kindest 32 (.aload_n 2) 1 33 := ⟨by decide +kernel, rfl⟩
theorem x_K_kindest_33 : kt_dc i_K_kindest 33 (.aload_n 0) 1 34 := ⟨by decide +kernel, rfl⟩
theorem x_K_kindest_34 : kt_sG i_K_kindest 34 4 0 2 37 := ⟨23, RX4, TX4, 5, ⟨by decide +kernel, rfl⟩, rfl, by decide, rfl, by decide, Or.inl (tw_182)⟩
theorem x_K_kindest_37 : kt_sG i_K_kindest 37 0 1 2 40 := ⟨63, RX0, TX0, 11, ⟨by decide +kernel, rfl⟩, rfl, by decide, rfl, by decide, Or.inr ⟨"KinderTowns", tw_141⟩⟩
theorem x_K_kindest_40 : kt_dc i_K_kindest 40 (.aload_n 0) 1 41 := ⟨by decide +kernel, rfl⟩
theorem x_K_kindest_41 : kt_sG i_K_kindest 41 4 0 2 44 := ⟨23, RX4, TX4, 5, ⟨by decide +kernel, rfl⟩, rfl, by decide, rfl, by decide, Or.inl (tw_182)⟩
theorem x_K_kindest_44 : kt_sG i_K_kindest 44 0 1 2 47 := ⟨63, RX0, TX0, 11, ⟨by decide +kernel, rfl⟩, rfl, by decide, rfl, by decide, Or.inr ⟨"KinderTowns", tw_141⟩⟩
theorem x_K_kindest_47 : kt_sV i_K_kindest 47 i_E_all 1 0 50 := ⟨176, ⟨by decide +kernel, rfl⟩, Or.inr ⟨"KinderTowns", tw_416⟩, j_E_all, ⟨tw_418, tp_30⟩, ⟨TX1, 8, rfl⟩, by decide, rfl⟩
theorem c_K_kindest_47 {P : kt_P} {NM : Nat} {L : List (Option Value)} {rest : List Value} {N : Nat} {I : kt_I} {J : kt_J} {R : kt_R} {Q : Option Value → kt_I → kt_J → kt_R → Prop} {b : Nat} (hkd : kt_kd P N b = (1, 0)) (hrest : (rest.map fun v => v.category).sum ≤ 8) (kk : KW P i_E_all N 0 [some (.ref b)] [] N I J R (fun v I' J' R' => KW P i_K_kindest NM 50 L (kt_pu v rest) N I' J' R' Q)) : KW P i_K_kindest NM 47 L (.ref b :: rest) N I J R Q := kw_callV x_K_kindest_47 (As := []) rfl rfl (Nat.le_of_ble_eq_true rfl) hrest hkd (Nat.le_refl N) (fun h => h) kk
theorem x_K_kindest_50 : kt_dc i_K_kindest 50 (.iload 5) 2 52 := ⟨by decide +kernel, rfl⟩
theorem x_K_kindest_52 : kt_sV i_K_kindest 52 i_L_lookAtAll 2 3 55 := ⟨204, ⟨by decide +kernel, rfl⟩, Or.inr ⟨"KinderTowns", tw_453⟩, j_L_lookAtAll, ⟨tw_231, tp_5⟩, ⟨TX2, 6, rfl⟩, by decide, rfl⟩
theorem c_K_kindest_52 {P : kt_P} {NM : Nat} {L : List (Option Value)} {rest : List Value} {N : Nat} {I : kt_I} {J : kt_J} {R : kt_R} {Q : Option Value → kt_I → kt_J → kt_R → Prop} {b : Nat} {x0 : Nat} {x1 : Int64} {x2 : Int32} (hkd : kt_kd P N b = (2, 0)) (hrest : (rest.map fun v => v.category).sum ≤ 8) (kk : KW P i_L_lookAtAll N 0 [some (.ref b), some (.ref x0), some (.long x1), none, some (.int x2), none, none, none] [] N I J R (fun v I' J' R' => KW P i_K_kindest NM 55 L (kt_pu v rest) N I' J' R' Q)) : KW P i_K_kindest NM 52 L (.int x2 :: .long x1 :: .ref x0 :: .ref b :: rest) N I J R Q := kw_callV x_K_kindest_52 (As := [.ref x0, .long x1, .int x2]) rfl rfl (Nat.le_of_ble_eq_true rfl) hrest hkd (Nat.le_refl N) (fun h => h) kk
theorem x_K_kindest_55 : kt_dc i_K_kindest 55 (.aload_n 0) 1 56 := ⟨by decide +kernel, rfl⟩
theorem x_K_kindest_56 : kt_sG i_K_kindest 56 4 0 2 59 := ⟨23, RX4, TX4, 5, ⟨by decide +kernel, rfl⟩, rfl, by decide, rfl, by decide, Or.inl (tw_182)⟩
theorem x_K_kindest_59 : kt_sG i_K_kindest 59 0 1 2 62 := ⟨63, RX0, TX0, 11, ⟨by decide +kernel, rfl⟩, rfl, by decide, rfl, by decide, Or.inr ⟨"KinderTowns", tw_141⟩⟩
theorem x_K_kindest_62 : kt_dc i_K_kindest 62 (.aload_n 2) 1 63 := ⟨by decide +kernel, rfl⟩
theorem x_K_kindest_63 : kt_sG i_K_kindest 63 2 4 1 66 := ⟨208, RX2, TX2, 6, ⟨by decide +kernel, rfl⟩, rfl, by decide, rfl, by decide, Or.inr ⟨"KinderTowns", tw_71⟩⟩
theorem x_K_kindest_66 : kt_sV i_K_kindest 66 i_E_personsIn 1 1 69 := ⟨211, ⟨by decide +kernel, rfl⟩, Or.inr ⟨"KinderTowns", tw_454⟩, j_E_personsIn, ⟨tw_456, tp_36⟩, ⟨TX1, 8, rfl⟩, by decide, rfl⟩
theorem c_K_kindest_66 {P : kt_P} {NM : Nat} {L : List (Option Value)} {rest : List Value} {N : Nat} {I : kt_I} {J : kt_J} {R : kt_R} {Q : Option Value → kt_I → kt_J → kt_R → Prop} {b : Nat} {x0 : Int64} (hkd : kt_kd P N b = (1, 0)) (hrest : (rest.map fun v => v.category).sum ≤ 8) (kk : KW P i_E_personsIn N 0 [some (.ref b), some (.long x0), none, none, none] [] N I J R (fun v I' J' R' => KW P i_K_kindest NM 69 L (kt_pu v rest) N I' J' R' Q)) : KW P i_K_kindest NM 66 L (.long x0 :: .ref b :: rest) N I J R Q := kw_callV x_K_kindest_66 (As := [.long x0]) rfl rfl (Nat.le_of_ble_eq_true rfl) hrest hkd (Nat.le_refl N) (fun h => h) kk
theorem x_K_kindest_69 : kt_dc i_K_kindest 69 (.istore 6) 2 71 := ⟨by decide +kernel, rfl⟩
theorem x_K_kindest_71 : kt_dc i_K_kindest 71 (.iload 6) 2 73 := ⟨by decide +kernel, rfl⟩
theorem x_K_kindest_73 : kt_dc i_K_kindest 73 (.iload 4) 2 75 := ⟨by decide +kernel, rfl⟩
theorem x_K_kindest_75 : kt_dj i_K_kindest 75 (.if_icmp .le) 85 78 := ⟨10, by decide +kernel, by decide, rfl⟩
theorem x_K_kindest_78 : kt_dc i_K_kindest 78 (.iload 6) 2 80 := ⟨by decide +kernel, rfl⟩
theorem x_K_kindest_80 : kt_dc i_K_kindest 80 (.istore 4) 2 82 := ⟨by decide +kernel, rfl⟩
theorem x_K_kindest_82 : kt_dc i_K_kindest 82 (.iload 5) 2 84 := ⟨by decide +kernel, rfl⟩
theorem x_K_kindest_84 : kt_dc i_K_kindest 84 (.istore_n 3) 1 85 := ⟨by decide +kernel, rfl⟩
theorem x_K_kindest_85 : kt_dc i_K_kindest 85 (.iinc 5 1) 3 88 ∧ Int32.ofInt (1) = nI 1 := ⟨⟨by decide +kernel, rfl⟩, by decide⟩
theorem x_K_kindest_88 : kt_dj i_K_kindest 88 .goto 26 91 := ⟨-62, by decide +kernel, by decide, rfl⟩
theorem x_K_kindest_91 : kt_dc i_K_kindest 91 (.iload_n 1) 1 92 := ⟨by decide +kernel, rfl⟩
theorem x_K_kindest_92 : kt_dj i_K_kindest 92 (.ifCond .ne) 99 95 := ⟨7, by decide +kernel, by decide, rfl⟩
theorem x_K_kindest_95 : kt_dc i_K_kindest 95 (.iload_n 3) 1 96 := ⟨by decide +kernel, rfl⟩
theorem x_K_kindest_96 : kt_dj i_K_kindest 96 .goto 101 99 := ⟨5, by decide +kernel, by decide, rfl⟩
theorem x_K_kindest_99 : kt_dc i_K_kindest 99 (.iload 4) 2 101 := ⟨by decide +kernel, rfl⟩
theorem x_K_kindest_101 : kt_dc i_K_kindest 101 (.ireturn) 1 102 ∧ kt_rt i_K_kindest = (some .int) := ⟨⟨by decide +kernel, rfl⟩, rfl⟩
theorem x_K_rounds_0 : kt_dc i_K_rounds 0 (.aload_n 0) 1 1 := ⟨by decide +kernel, rfl⟩
theorem x_K_rounds_1 : kt_sG i_K_rounds 1 4 1 2 4 := ⟨27, RX4, TX4, 5, ⟨by decide +kernel, rfl⟩, rfl, by decide, rfl, by decide, Or.inl (tw_183)⟩
theorem x_K_rounds_4 : kt_dc i_K_rounds 4 (.aload_n 0) 1 5 := ⟨by decide +kernel, rfl⟩
theorem x_K_rounds_5 : kt_sG i_K_rounds 5 4 0 2 8 := ⟨23, RX4, TX4, 5, ⟨by decide +kernel, rfl⟩, rfl, by decide, rfl, by decide, Or.inl (tw_182)⟩
theorem x_K_rounds_8 : kt_sV i_K_rounds 8 i_C_copyFrom 0 1 11 := ⟨30, ⟨by decide +kernel, rfl⟩, Or.inr ⟨"KinderTowns", tw_202⟩, j_C_copyFrom, ⟨tw_204, tp_0⟩, ⟨TX0, 11, rfl⟩, by decide, rfl⟩
theorem c_K_rounds_8 {P : kt_P} {NM : Nat} {L : List (Option Value)} {rest : List Value} {N : Nat} {I : kt_I} {J : kt_J} {R : kt_R} {Q : Option Value → kt_I → kt_J → kt_R → Prop} {b : Nat} {x0 : Nat} (hkd : kt_kd P N b = (0, 0)) (hrest : (rest.map fun v => v.category).sum ≤ 8) (kk : KW P i_C_copyFrom N 0 [some (.ref b), some (.ref x0)] [] N I J R (fun v I' J' R' => KW P i_K_rounds NM 11 L (kt_pu v rest) N I' J' R' Q)) : KW P i_K_rounds NM 8 L (.ref x0 :: .ref b :: rest) N I J R Q := kw_callV x_K_rounds_8 (As := [.ref x0]) rfl rfl (Nat.le_of_ble_eq_true rfl) hrest hkd (Nat.le_refl N) (fun h => h) kk
theorem x_K_rounds_11 : kt_dc i_K_rounds 11 (.iconst 0) 1 12 ∧ Int32.ofInt (0) = nI 0 := ⟨⟨by decide +kernel, rfl⟩, by decide⟩
theorem x_K_rounds_12 : kt_dc i_K_rounds 12 (.istore_n 1) 1 13 := ⟨by decide +kernel, rfl⟩
theorem x_K_rounds_13 : kt_dc i_K_rounds 13 (.iload_n 1) 1 14 := ⟨by decide +kernel, rfl⟩
theorem x_K_rounds_14 : kt_dc i_K_rounds 14 (.iconst 5) 1 15 ∧ Int32.ofInt (5) = nI 5 := ⟨⟨by decide +kernel, rfl⟩, by decide⟩
theorem x_K_rounds_15 : kt_dj i_K_rounds 15 (.if_icmp .ge) 41 18 := ⟨26, by decide +kernel, by decide, rfl⟩
theorem x_K_rounds_18 : kt_dc i_K_rounds 18 (.aload_n 0) 1 19 := ⟨by decide +kernel, rfl⟩
theorem x_K_rounds_19 : kt_sG i_K_rounds 19 4 1 2 22 := ⟨27, RX4, TX4, 5, ⟨by decide +kernel, rfl⟩, rfl, by decide, rfl, by decide, Or.inl (tw_183)⟩
theorem x_K_rounds_22 : kt_sV i_K_rounds 22 i_C_allKnowTheSame 0 0 25 := ⟨183, ⟨by decide +kernel, rfl⟩, Or.inr ⟨"KinderTowns", tw_425⟩, j_C_allKnowTheSame, ⟨tw_427, tp_32⟩, ⟨TX0, 11, rfl⟩, by decide, rfl⟩
theorem c_K_rounds_22 {P : kt_P} {NM : Nat} {L : List (Option Value)} {rest : List Value} {N : Nat} {I : kt_I} {J : kt_J} {R : kt_R} {Q : Option Value → kt_I → kt_J → kt_R → Prop} {b : Nat} (hkd : kt_kd P N b = (0, 0)) (hrest : (rest.map fun v => v.category).sum ≤ 8) (kk : KW P i_C_allKnowTheSame N 0 [some (.ref b), none] [] N I J R (fun v I' J' R' => KW P i_K_rounds NM 25 L (kt_pu v rest) N I' J' R' Q)) : KW P i_K_rounds NM 22 L (.ref b :: rest) N I J R Q := kw_callV x_K_rounds_22 (As := []) rfl rfl (Nat.le_of_ble_eq_true rfl) hrest hkd (Nat.le_refl N) (fun h => h) kk
theorem x_K_rounds_25 : kt_dj i_K_rounds 25 (.ifCond .ne) 41 28 := ⟨16, by decide +kernel, by decide, rfl⟩
theorem x_K_rounds_28 : kt_dc i_K_rounds 28 (.aload_n 0) 1 29 := ⟨by decide +kernel, rfl⟩
theorem x_K_rounds_29 : kt_sG i_K_rounds 29 4 1 2 32 := ⟨27, RX4, TX4, 5, ⟨by decide +kernel, rfl⟩, rfl, by decide, rfl, by decide, Or.inl (tw_183)⟩
theorem x_K_rounds_32 : kt_sV i_K_rounds 32 i_C_meetInTurn 0 0 35 := ⟨214, ⟨by decide +kernel, rfl⟩, Or.inr ⟨"KinderTowns", tw_463⟩, j_C_meetInTurn, ⟨tw_465, tp_37⟩, ⟨TX0, 11, rfl⟩, by decide, rfl⟩
theorem c_K_rounds_32 {P : kt_P} {NM : Nat} {L : List (Option Value)} {rest : List Value} {N : Nat} {I : kt_I} {J : kt_J} {R : kt_R} {Q : Option Value → kt_I → kt_J → kt_R → Prop} {b : Nat} (hkd : kt_kd P N b = (0, 0)) (hrest : (rest.map fun v => v.category).sum ≤ 8) (kk : KW P i_C_meetInTurn N 0 [some (.ref b), none, none, none] [] N I J R (fun v I' J' R' => KW P i_K_rounds NM 35 L (kt_pu v rest) N I' J' R' Q)) : KW P i_K_rounds NM 32 L (.ref b :: rest) N I J R Q := kw_callV x_K_rounds_32 (As := []) rfl rfl (Nat.le_of_ble_eq_true rfl) hrest hkd (Nat.le_refl N) (fun h => h) kk
theorem x_K_rounds_35 : kt_dc i_K_rounds 35 (.iinc 1 1) 3 38 ∧ Int32.ofInt (1) = nI 1 := ⟨⟨by decide +kernel, rfl⟩, by decide⟩
theorem x_K_rounds_38 : kt_dj i_K_rounds 38 .goto 13 41 := ⟨-25, by decide +kernel, by decide, rfl⟩
theorem x_K_rounds_41 : kt_dc i_K_rounds 41 (.iload_n 1) 1 42 := ⟨by decide +kernel, rfl⟩
theorem x_K_rounds_42 : kt_dc i_K_rounds 42 (.ireturn) 1 43 ∧ kt_rt i_K_rounds = (some .int) := ⟨⟨by decide +kernel, rfl⟩, rfl⟩
theorem x_K_undo_0 : kt_dc i_K_undo 0 (.aload_n 0) 1 1 := ⟨by decide +kernel, rfl⟩
theorem x_K_undo_1 : kt_sG i_K_undo 1 4 3 0 4 := ⟨187, RX4, TX4, 5, ⟨by decide +kernel, rfl⟩, rfl, by decide, rfl, by decide, Or.inl (tw_185)⟩
theorem x_K_undo_4 : kt_dc i_K_undo 4 (.iconst 1) 1 5 ∧ Int32.ofInt (1) = nI 1 := ⟨⟨by decide +kernel, rfl⟩, by decide⟩
theorem x_K_undo_5 : kt_dc i_K_undo 5 (.isub) 1 6 := ⟨by decide +kernel, rfl⟩
theorem x_K_undo_6 : kt_dc i_K_undo 6 (.iconst 4) 1 7 ∧ Int32.ofInt (4) = nI 4 := ⟨⟨by decide +kernel, rfl⟩, by decide⟩
theorem x_K_undo_7 : kt_sS i_K_undo 7 i_K_isBelow 2 10 := ⟨73, ⟨by decide +kernel, rfl⟩, Or.inl (tw_274), j_K_isBelow, tw_219, rfl⟩
theorem c_K_undo_7 {P : kt_P} {NM : Nat} {L : List (Option Value)} {rest : List Value} {N : Nat} {I : kt_I} {J : kt_J} {R : kt_R} {Q : Option Value → kt_I → kt_J → kt_R → Prop} {x0 : Int32} {x1 : Int32} (hrest : (rest.map fun v => v.category).sum ≤ 8) (kk : KW P i_K_isBelow N 0 [some (.int x0), some (.int x1)] [] N I J R (fun v I' J' R' => KW P i_K_undo NM 10 L (kt_pu v rest) N I' J' R' Q)) : KW P i_K_undo NM 7 L (.int x1 :: .int x0 :: rest) N I J R Q := kw_callS x_K_undo_7 (As := [.int x0, .int x1]) rfl rfl (Nat.le_of_ble_eq_true rfl) hrest (Nat.le_refl N) (fun h => h) kk
theorem x_K_undo_10 : kt_dj i_K_undo 10 (.ifCond .ne) 16 13 := ⟨6, by decide +kernel, by decide, rfl⟩
theorem x_K_undo_13 : kt_dc i_K_undo 13 (.bipush (-2)) 2 15 ∧ (Int8.ofInt (-2)).toInt32 = (-2 : Int32) := ⟨⟨by decide +kernel, rfl⟩, by decide⟩
theorem x_K_undo_15 : kt_dc i_K_undo 15 (.ireturn) 1 16 ∧ kt_rt i_K_undo = (some .int) := ⟨⟨by decide +kernel, rfl⟩, rfl⟩
theorem x_K_undo_16 : kt_dc i_K_undo 16 (.aload_n 0) 1 17 := ⟨by decide +kernel, rfl⟩
theorem x_K_undo_17 : kt_dc i_K_undo 17 (.dup) 1 18 := ⟨by decide +kernel, rfl⟩
theorem x_K_undo_18 : kt_sG i_K_undo 18 4 3 0 21 := ⟨187, RX4, TX4, 5, ⟨by decide +kernel, rfl⟩, rfl, by decide, rfl, by decide, Or.inl (tw_185)⟩
theorem x_K_undo_21 : kt_dc i_K_undo 21 (.iconst 1) 1 22 ∧ Int32.ofInt (1) = nI 1 := ⟨⟨by decide +kernel, rfl⟩, by decide⟩
theorem x_K_undo_22 : kt_dc i_K_undo 22 (.isub) 1 23 := ⟨by decide +kernel, rfl⟩
theorem x_K_undo_23 : kt_sP i_K_undo 23 4 3 0 26 := ⟨187, RX4, TX4, 5, tyX4 3, ⟨by decide +kernel, rfl⟩, rfl, by decide, rfl, by decide, by decide +kernel, rfl, Or.inl ⟨rfl, Or.inl (tw_185)⟩⟩
theorem x_K_undo_26 : kt_dc i_K_undo 26 (.aload_n 0) 1 27 := ⟨by decide +kernel, rfl⟩
theorem x_K_undo_27 : kt_sG i_K_undo 27 4 2 2 30 := ⟨11, RX4, TX4, 5, ⟨by decide +kernel, rfl⟩, rfl, by decide, rfl, by decide, Or.inl (tw_184)⟩
theorem x_K_undo_30 : kt_dc i_K_undo 30 (.aload_n 0) 1 31 := ⟨by decide +kernel, rfl⟩
theorem x_K_undo_31 : kt_sG i_K_undo 31 4 3 0 34 := ⟨187, RX4, TX4, 5, ⟨by decide +kernel, rfl⟩, rfl, by decide, rfl, by decide, Or.inl (tw_185)⟩
theorem x_K_undo_34 : kt_dc i_K_undo 34 (.aaload) 1 35 := ⟨by decide +kernel, rfl⟩
theorem x_K_undo_35 : kt_dc i_K_undo 35 (.astore_n 1) 1 36 := ⟨by decide +kernel, rfl⟩
theorem x_K_undo_36 : kt_dc i_K_undo 36 (.aload_n 0) 1 37 := ⟨by decide +kernel, rfl⟩
theorem x_K_undo_37 : kt_sG i_K_undo 37 4 2 2 40 := ⟨11, RX4, TX4, 5, ⟨by decide +kernel, rfl⟩, rfl, by decide, rfl, by decide, Or.inl (tw_184)⟩
theorem x_K_undo_40 : kt_dc i_K_undo 40 (.aload_n 0) 1 41 := ⟨by decide +kernel, rfl⟩
theorem x_K_undo_41 : kt_sG i_K_undo 41 4 3 0 44 := ⟨187, RX4, TX4, 5, ⟨by decide +kernel, rfl⟩, rfl, by decide, rfl, by decide, Or.inl (tw_185)⟩
theorem x_K_undo_44 : kt_dc i_K_undo 44 (.aload_n 0) 1 45 := ⟨by decide +kernel, rfl⟩
theorem x_K_undo_45 : kt_sG i_K_undo 45 4 0 2 48 := ⟨23, RX4, TX4, 5, ⟨by decide +kernel, rfl⟩, rfl, by decide, rfl, by decide, Or.inl (tw_182)⟩
theorem x_K_undo_48 : kt_dc i_K_undo 48 (.aastore) 1 49 := ⟨by decide +kernel, rfl⟩
theorem x_K_undo_49 : kt_dc i_K_undo 49 (.aload_n 0) 1 50 := ⟨by decide +kernel, rfl⟩
theorem x_K_undo_50 : kt_dc i_K_undo 50 (.aload_n 1) 1 51 := ⟨by decide +kernel, rfl⟩
theorem x_K_undo_51 : kt_sP i_K_undo 51 4 0 2 54 := ⟨23, RX4, TX4, 5, tyX4 0, ⟨by decide +kernel, rfl⟩, rfl, by decide, rfl, by decide, by decide +kernel, rfl, Or.inl ⟨rfl, Or.inl (tw_182)⟩⟩
theorem x_K_undo_54 : kt_dc i_K_undo 54 (.aload_n 0) 1 55 := ⟨by decide +kernel, rfl⟩
theorem x_K_undo_55 : kt_sG i_K_undo 55 4 3 0 58 := ⟨187, RX4, TX4, 5, ⟨by decide +kernel, rfl⟩, rfl, by decide, rfl, by decide, Or.inl (tw_185)⟩
theorem x_K_undo_58 : kt_dc i_K_undo 58 (.ireturn) 1 59 ∧ kt_rt i_K_undo = (some .int) := ⟨⟨by decide +kernel, rfl⟩, rfl⟩
theorem x_K_type_0 : kt_dc i_K_type 0 (.iload_n 1) 1 1 := ⟨by decide +kernel, rfl⟩
theorem x_K_type_1 : kt_dc i_K_type 1 (.bipush 32) 2 3 ∧ (Int8.ofInt (32)).toInt32 = nI 32 := ⟨⟨by decide +kernel, rfl⟩, by decide⟩
theorem x_K_type_3 : kt_dj i_K_type 3 (.if_icmp .lt) 12 6 := ⟨9, by decide +kernel, by decide, rfl⟩
theorem x_K_type_6 : kt_dc i_K_type 6 (.iload_n 1) 1 7 := ⟨by decide +kernel, rfl⟩
theorem x_K_type_7 : kt_dc i_K_type 7 (.bipush 126) 2 9 ∧ (Int8.ofInt (126)).toInt32 = nI 126 := ⟨⟨by decide +kernel, rfl⟩, by decide⟩
theorem x_K_type_9 : kt_dj i_K_type 9 (.if_icmp .le) 14 12 := ⟨5, by decide +kernel, by decide, rfl⟩
theorem x_K_type_12 : kt_dc i_K_type 12 (.iconst (-1)) 1 13 ∧ Int32.ofInt (-1) = (-1 : Int32) := ⟨⟨by decide +kernel, rfl⟩, by decide⟩
theorem x_K_type_13 : kt_dc i_K_type 13 (.ireturn) 1 14 ∧ kt_rt i_K_type = (some .int) := ⟨⟨by decide +kernel, rfl⟩, rfl⟩
theorem x_K_type_14 : kt_dc i_K_type 14 (.aload_n 0) 1 15 := ⟨by decide +kernel, rfl⟩
theorem x_K_type_15 : kt_sG i_K_type 15 4 4 2 18 := ⟨18, RX4, TX4, 5, ⟨by decide +kernel, rfl⟩, rfl, by decide, rfl, by decide, Or.inl (tw_186)⟩
theorem x_K_type_18 : kt_sG i_K_type 18 3 1 0 21 := ⟨190, RX3, TX3, 6, ⟨by decide +kernel, rfl⟩, rfl, by decide, rfl, by decide, Or.inr ⟨"KinderTowns", tw_30⟩⟩
theorem x_K_type_21 : kt_dc i_K_type 21 (.bipush 80) 2 23 ∧ (Int8.ofInt (80)).toInt32 = nI 80 := ⟨⟨by decide +kernel, rfl⟩, by decide⟩
theorem x_K_type_23 : kt_sS i_K_type 23 i_K_isBelow 2 26 := ⟨73, ⟨by decide +kernel, rfl⟩, Or.inl (tw_274), j_K_isBelow, tw_219, rfl⟩
theorem c_K_type_23 {P : kt_P} {NM : Nat} {L : List (Option Value)} {rest : List Value} {N : Nat} {I : kt_I} {J : kt_J} {R : kt_R} {Q : Option Value → kt_I → kt_J → kt_R → Prop} {x0 : Int32} {x1 : Int32} (hrest : (rest.map fun v => v.category).sum ≤ 8) (kk : KW P i_K_isBelow N 0 [some (.int x0), some (.int x1)] [] N I J R (fun v I' J' R' => KW P i_K_type NM 26 L (kt_pu v rest) N I' J' R' Q)) : KW P i_K_type NM 23 L (.int x1 :: .int x0 :: rest) N I J R Q := kw_callS x_K_type_23 (As := [.int x0, .int x1]) rfl rfl (Nat.le_of_ble_eq_true rfl) hrest (Nat.le_refl N) (fun h => h) kk
theorem x_K_type_26 : kt_dj i_K_type 26 (.ifCond .ne) 32 29 := ⟨6, by decide +kernel, by decide, rfl⟩
theorem x_K_type_29 : kt_dc i_K_type 29 (.bipush (-3)) 2 31 ∧ (Int8.ofInt (-3)).toInt32 = (-3 : Int32) := ⟨⟨by decide +kernel, rfl⟩, by decide⟩
theorem x_K_type_31 : kt_dc i_K_type 31 (.ireturn) 1 32 ∧ kt_rt i_K_type = (some .int) := ⟨⟨by decide +kernel, rfl⟩, rfl⟩
theorem x_K_type_32 : kt_dc i_K_type 32 (.aload_n 0) 1 33 := ⟨by decide +kernel, rfl⟩
theorem x_K_type_33 : kt_sG i_K_type 33 4 4 2 36 := ⟨18, RX4, TX4, 5, ⟨by decide +kernel, rfl⟩, rfl, by decide, rfl, by decide, Or.inl (tw_186)⟩
theorem x_K_type_36 : kt_sG i_K_type 36 3 0 2 39 := ⟨217, RX3, TX3, 6, ⟨by decide +kernel, rfl⟩, rfl, by decide, rfl, by decide, Or.inr ⟨"KinderTowns", tw_28⟩⟩
theorem x_K_type_39 : kt_dc i_K_type 39 (.aload_n 0) 1 40 := ⟨by decide +kernel, rfl⟩
theorem x_K_type_40 : kt_sG i_K_type 40 4 4 2 43 := ⟨18, RX4, TX4, 5, ⟨by decide +kernel, rfl⟩, rfl, by decide, rfl, by decide, Or.inl (tw_186)⟩
theorem x_K_type_43 : kt_sG i_K_type 43 3 1 0 46 := ⟨190, RX3, TX3, 6, ⟨by decide +kernel, rfl⟩, rfl, by decide, rfl, by decide, Or.inr ⟨"KinderTowns", tw_30⟩⟩
theorem x_K_type_46 : kt_dc i_K_type 46 (.iload_n 1) 1 47 := ⟨by decide +kernel, rfl⟩
theorem x_K_type_47 : kt_dc i_K_type 47 (.iastore) 1 48 := ⟨by decide +kernel, rfl⟩
theorem x_K_type_48 : kt_dc i_K_type 48 (.aload_n 0) 1 49 := ⟨by decide +kernel, rfl⟩
theorem x_K_type_49 : kt_sG i_K_type 49 4 4 2 52 := ⟨18, RX4, TX4, 5, ⟨by decide +kernel, rfl⟩, rfl, by decide, rfl, by decide, Or.inl (tw_186)⟩
theorem x_K_type_52 : kt_dc i_K_type 52 (.dup) 1 53 := ⟨by decide +kernel, rfl⟩
theorem x_K_type_53 : kt_sG i_K_type 53 3 1 0 56 := ⟨190, RX3, TX3, 6, ⟨by decide +kernel, rfl⟩, rfl, by decide, rfl, by decide, Or.inr ⟨"KinderTowns", tw_30⟩⟩
theorem x_K_type_56 : kt_dc i_K_type 56 (.iconst 1) 1 57 ∧ Int32.ofInt (1) = nI 1 := ⟨⟨by decide +kernel, rfl⟩, by decide⟩
theorem x_K_type_57 : kt_dc i_K_type 57 (.iadd) 1 58 := ⟨by decide +kernel, rfl⟩
theorem x_K_type_58 : kt_sP i_K_type 58 3 1 0 61 := ⟨190, RX3, TX3, 6, tyX3 1, ⟨by decide +kernel, rfl⟩, rfl, by decide, rfl, by decide, by decide +kernel, rfl, Or.inl ⟨rfl, Or.inr ⟨"KinderTowns", tw_30⟩⟩⟩
theorem x_K_type_61 : kt_dc i_K_type 61 (.aload_n 0) 1 62 := ⟨by decide +kernel, rfl⟩
theorem x_K_type_62 : kt_sG i_K_type 62 4 4 2 65 := ⟨18, RX4, TX4, 5, ⟨by decide +kernel, rfl⟩, rfl, by decide, rfl, by decide, Or.inl (tw_186)⟩
theorem x_K_type_65 : kt_sG i_K_type 65 3 1 0 68 := ⟨190, RX3, TX3, 6, ⟨by decide +kernel, rfl⟩, rfl, by decide, rfl, by decide, Or.inr ⟨"KinderTowns", tw_30⟩⟩
theorem x_K_type_68 : kt_dc i_K_type 68 (.ireturn) 1 69 ∧ kt_rt i_K_type = (some .int) := ⟨⟨by decide +kernel, rfl⟩, rfl⟩
theorem x_K_clearText_0 : kt_dc i_K_clearText 0 (.aload_n 0) 1 1 := ⟨by decide +kernel, rfl⟩
theorem x_K_clearText_1 : kt_sG i_K_clearText 1 4 4 2 4 := ⟨18, RX4, TX4, 5, ⟨by decide +kernel, rfl⟩, rfl, by decide, rfl, by decide, Or.inl (tw_186)⟩
theorem x_K_clearText_4 : kt_sG i_K_clearText 4 3 1 0 7 := ⟨190, RX3, TX3, 6, ⟨by decide +kernel, rfl⟩, rfl, by decide, rfl, by decide, Or.inr ⟨"KinderTowns", tw_30⟩⟩
theorem x_K_clearText_7 : kt_dc i_K_clearText 7 (.istore_n 1) 1 8 := ⟨by decide +kernel, rfl⟩
theorem x_K_clearText_8 : kt_dc i_K_clearText 8 (.aload_n 0) 1 9 := ⟨by decide +kernel, rfl⟩
theorem x_K_clearText_9 : kt_sG i_K_clearText 9 4 4 2 12 := ⟨18, RX4, TX4, 5, ⟨by decide +kernel, rfl⟩, rfl, by decide, rfl, by decide, Or.inl (tw_186)⟩
theorem x_K_clearText_12 : kt_dc i_K_clearText 12 (.iconst 0) 1 13 ∧ Int32.ofInt (0) = nI 0 := ⟨⟨by decide +kernel, rfl⟩, by decide⟩
theorem x_K_clearText_13 : kt_sP i_K_clearText 13 3 1 0 16 := ⟨190, RX3, TX3, 6, tyX3 1, ⟨by decide +kernel, rfl⟩, rfl, by decide, rfl, by decide, by decide +kernel, rfl, Or.inl ⟨rfl, Or.inr ⟨"KinderTowns", tw_30⟩⟩⟩
theorem x_K_clearText_16 : kt_dc i_K_clearText 16 (.iload_n 1) 1 17 := ⟨by decide +kernel, rfl⟩
theorem x_K_clearText_17 : kt_dc i_K_clearText 17 (.ireturn) 1 18 ∧ kt_rt i_K_clearText = (some .int) := ⟨⟨by decide +kernel, rfl⟩, rfl⟩
theorem x_K_fault_0 : kt_dc i_K_fault 0 (.iload_n 1) 1 1 := ⟨by decide +kernel, rfl⟩
theorem x_K_fault_1 : kt_dc i_K_fault 1 (.iconst 2) 1 2 ∧ Int32.ofInt (2) = nI 2 := ⟨⟨by decide +kernel, rfl⟩, by decide⟩
theorem x_K_fault_2 : kt_sS i_K_fault 2 i_K_isBelow 2 5 := ⟨73, ⟨by decide +kernel, rfl⟩, Or.inl (tw_274), j_K_isBelow, tw_219, rfl⟩
theorem c_K_fault_2 {P : kt_P} {NM : Nat} {L : List (Option Value)} {rest : List Value} {N : Nat} {I : kt_I} {J : kt_J} {R : kt_R} {Q : Option Value → kt_I → kt_J → kt_R → Prop} {x0 : Int32} {x1 : Int32} (hrest : (rest.map fun v => v.category).sum ≤ 8) (kk : KW P i_K_isBelow N 0 [some (.int x0), some (.int x1)] [] N I J R (fun v I' J' R' => KW P i_K_fault NM 5 L (kt_pu v rest) N I' J' R' Q)) : KW P i_K_fault NM 2 L (.int x1 :: .int x0 :: rest) N I J R Q := kw_callS x_K_fault_2 (As := [.int x0, .int x1]) rfl rfl (Nat.le_of_ble_eq_true rfl) hrest (Nat.le_refl N) (fun h => h) kk
theorem x_K_fault_5 : kt_dj i_K_fault 5 (.ifCond .ne) 10 8 := ⟨5, by decide +kernel, by decide, rfl⟩
theorem x_K_fault_8 : kt_dc i_K_fault 8 (.iconst (-1)) 1 9 ∧ Int32.ofInt (-1) = (-1 : Int32) := ⟨⟨by decide +kernel, rfl⟩, by decide⟩
theorem x_K_fault_9 : kt_dc i_K_fault 9 (.ireturn) 1 10 ∧ kt_rt i_K_fault = (some .int) := ⟨⟨by decide +kernel, rfl⟩, rfl⟩
theorem x_K_fault_10 : kt_dc i_K_fault 10 (.aload_n 0) 1 11 := ⟨by decide +kernel, rfl⟩
theorem x_K_fault_11 : kt_sG i_K_fault 11 4 1 2 14 := ⟨27, RX4, TX4, 5, ⟨by decide +kernel, rfl⟩, rfl, by decide, rfl, by decide, Or.inl (tw_183)⟩
theorem x_K_fault_14 : kt_dc i_K_fault 14 (.aload_n 0) 1 15 := ⟨by decide +kernel, rfl⟩
theorem x_K_fault_15 : kt_sG i_K_fault 15 4 0 2 18 := ⟨23, RX4, TX4, 5, ⟨by decide +kernel, rfl⟩, rfl, by decide, rfl, by decide, Or.inl (tw_182)⟩
theorem x_K_fault_18 : kt_sV i_K_fault 18 i_C_copyFrom 0 1 21 := ⟨30, ⟨by decide +kernel, rfl⟩, Or.inr ⟨"KinderTowns", tw_202⟩, j_C_copyFrom, ⟨tw_204, tp_0⟩, ⟨TX0, 11, rfl⟩, by decide, rfl⟩
theorem c_K_fault_18 {P : kt_P} {NM : Nat} {L : List (Option Value)} {rest : List Value} {N : Nat} {I : kt_I} {J : kt_J} {R : kt_R} {Q : Option Value → kt_I → kt_J → kt_R → Prop} {b : Nat} {x0 : Nat} (hkd : kt_kd P N b = (0, 0)) (hrest : (rest.map fun v => v.category).sum ≤ 8) (kk : KW P i_C_copyFrom N 0 [some (.ref b), some (.ref x0)] [] N I J R (fun v I' J' R' => KW P i_K_fault NM 21 L (kt_pu v rest) N I' J' R' Q)) : KW P i_K_fault NM 18 L (.ref x0 :: .ref b :: rest) N I J R Q := kw_callV x_K_fault_18 (As := [.ref x0]) rfl rfl (Nat.le_of_ble_eq_true rfl) hrest hkd (Nat.le_refl N) (fun h => h) kk
theorem x_K_fault_21 : kt_dc i_K_fault 21 (.aload_n 0) 1 22 := ⟨by decide +kernel, rfl⟩
theorem x_K_fault_22 : kt_sG i_K_fault 22 4 4 2 25 := ⟨18, RX4, TX4, 5, ⟨by decide +kernel, rfl⟩, rfl, by decide, rfl, by decide, Or.inl (tw_186)⟩
theorem x_K_fault_25 : kt_dc i_K_fault 25 (.aload_n 0) 1 26 := ⟨by decide +kernel, rfl⟩
theorem x_K_fault_26 : kt_sG i_K_fault 26 4 1 2 29 := ⟨27, RX4, TX4, 5, ⟨by decide +kernel, rfl⟩, rfl, by decide, rfl, by decide, Or.inl (tw_183)⟩
theorem x_K_fault_29 : kt_sV i_K_fault 29 i_S_runOn 3 1 32 := ⟨220, ⟨by decide +kernel, rfl⟩, Or.inr ⟨"KinderTowns", tw_483⟩, j_S_runOn, ⟨tw_485, tp_38⟩, ⟨TX3, 6, rfl⟩, by decide, rfl⟩
theorem c_K_fault_29 {P : kt_P} {NM : Nat} {L : List (Option Value)} {rest : List Value} {N : Nat} {I : kt_I} {J : kt_J} {R : kt_R} {Q : Option Value → kt_I → kt_J → kt_R → Prop} {b : Nat} {x0 : Nat} (hkd : kt_kd P N b = (3, 0)) (hrest : (rest.map fun v => v.category).sum ≤ 8) (kk : KW P i_S_runOn N 0 [some (.ref b), some (.ref x0), none] [] N I J R (fun v I' J' R' => KW P i_K_fault NM 32 L (kt_pu v rest) N I' J' R' Q)) : KW P i_K_fault NM 29 L (.ref x0 :: .ref b :: rest) N I J R Q := kw_callV x_K_fault_29 (As := [.ref x0]) rfl rfl (Nat.le_of_ble_eq_true rfl) hrest hkd (Nat.le_refl N) (fun h => h) kk
theorem x_K_fault_32 : kt_dc i_K_fault 32 (.aload_n 0) 1 33 := ⟨by decide +kernel, rfl⟩
theorem x_K_fault_33 : kt_sG i_K_fault 33 4 4 2 36 := ⟨18, RX4, TX4, 5, ⟨by decide +kernel, rfl⟩, rfl, by decide, rfl, by decide, Or.inl (tw_186)⟩
theorem x_K_fault_36 : kt_sG i_K_fault 36 3 5 0 39 := ⟨223, RX3, TX3, 6, ⟨by decide +kernel, rfl⟩, rfl, by decide, rfl, by decide, Or.inr ⟨"KinderTowns", tw_37⟩⟩
theorem x_K_fault_39 : kt_dj i_K_fault 39 (.ifCond .ne) 45 42 := ⟨6, by decide +kernel, by decide, rfl⟩
theorem x_K_fault_42 : kt_dc i_K_fault 42 (.bipush (-4)) 2 44 ∧ (Int8.ofInt (-4)).toInt32 = (-4 : Int32) := ⟨⟨by decide +kernel, rfl⟩, by decide⟩
theorem x_K_fault_44 : kt_dc i_K_fault 44 (.ireturn) 1 45 ∧ kt_rt i_K_fault = (some .int) := ⟨⟨by decide +kernel, rfl⟩, rfl⟩
theorem x_K_fault_45 : kt_dc i_K_fault 45 (.iload_n 1) 1 46 := ⟨by decide +kernel, rfl⟩
theorem x_K_fault_46 : kt_dj i_K_fault 46 (.ifCond .ne) 59 49 := ⟨13, by decide +kernel, by decide, rfl⟩
theorem x_K_fault_49 : kt_dc i_K_fault 49 (.aload_n 0) 1 50 := ⟨by decide +kernel, rfl⟩
theorem x_K_fault_50 : kt_sG i_K_fault 50 4 4 2 53 := ⟨18, RX4, TX4, 5, ⟨by decide +kernel, rfl⟩, rfl, by decide, rfl, by decide, Or.inl (tw_186)⟩
theorem x_K_fault_53 : kt_sG i_K_fault 53 3 4 0 56 := ⟨226, RX3, TX3, 6, ⟨by decide +kernel, rfl⟩, rfl, by decide, rfl, by decide, Or.inr ⟨"KinderTowns", tw_35⟩⟩
theorem x_K_fault_56 : kt_dj i_K_fault 56 .goto 66 59 := ⟨10, by decide +kernel, by decide, rfl⟩
theorem x_K_fault_59 : kt_dc i_K_fault 59 (.aload_n 0) 1 60 := ⟨by decide +kernel, rfl⟩
theorem x_K_fault_60 : kt_sG i_K_fault 60 4 4 2 63 := ⟨18, RX4, TX4, 5, ⟨by decide +kernel, rfl⟩, rfl, by decide, rfl, by decide, Or.inl (tw_186)⟩
theorem x_K_fault_63 : kt_sG i_K_fault 63 3 5 0 66 := ⟨223, RX3, TX3, 6, ⟨by decide +kernel, rfl⟩, rfl, by decide, rfl, by decide, Or.inr ⟨"KinderTowns", tw_37⟩⟩
theorem x_K_fault_66 : kt_dc i_K_fault 66 (.ireturn) 1 67 ∧ kt_rt i_K_fault = (some .int) := ⟨⟨by decide +kernel, rfl⟩, rfl⟩
theorem x_K_play_0 : kt_dc i_K_play 0 (.aload_n 0) 1 1 := ⟨by decide +kernel, rfl⟩
theorem x_K_play_1 : kt_sG i_K_play 1 4 1 2 4 := ⟨27, RX4, TX4, 5, ⟨by decide +kernel, rfl⟩, rfl, by decide, rfl, by decide, Or.inl (tw_183)⟩
theorem x_K_play_4 : kt_dc i_K_play 4 (.aload_n 0) 1 5 := ⟨by decide +kernel, rfl⟩
theorem x_K_play_5 : kt_sG i_K_play 5 4 0 2 8 := ⟨23, RX4, TX4, 5, ⟨by decide +kernel, rfl⟩, rfl, by decide, rfl, by decide, Or.inl (tw_182)⟩
theorem x_K_play_8 : kt_sV i_K_play 8 i_C_copyFrom 0 1 11 := ⟨30, ⟨by decide +kernel, rfl⟩, Or.inr ⟨"KinderTowns", tw_202⟩, j_C_copyFrom, ⟨tw_204, tp_0⟩, ⟨TX0, 11, rfl⟩, by decide, rfl⟩
theorem c_K_play_8 {P : kt_P} {NM : Nat} {L : List (Option Value)} {rest : List Value} {N : Nat} {I : kt_I} {J : kt_J} {R : kt_R} {Q : Option Value → kt_I → kt_J → kt_R → Prop} {b : Nat} {x0 : Nat} (hkd : kt_kd P N b = (0, 0)) (hrest : (rest.map fun v => v.category).sum ≤ 8) (kk : KW P i_C_copyFrom N 0 [some (.ref b), some (.ref x0)] [] N I J R (fun v I' J' R' => KW P i_K_play NM 11 L (kt_pu v rest) N I' J' R' Q)) : KW P i_K_play NM 8 L (.ref x0 :: .ref b :: rest) N I J R Q := kw_callV x_K_play_8 (As := [.ref x0]) rfl rfl (Nat.le_of_ble_eq_true rfl) hrest hkd (Nat.le_refl N) (fun h => h) kk
theorem x_K_play_11 : kt_dc i_K_play 11 (.aload_n 0) 1 12 := ⟨by decide +kernel, rfl⟩
theorem x_K_play_12 : kt_sG i_K_play 12 4 4 2 15 := ⟨18, RX4, TX4, 5, ⟨by decide +kernel, rfl⟩, rfl, by decide, rfl, by decide, Or.inl (tw_186)⟩
theorem x_K_play_15 : kt_dc i_K_play 15 (.aload_n 0) 1 16 := ⟨by decide +kernel, rfl⟩
theorem x_K_play_16 : kt_sG i_K_play 16 4 1 2 19 := ⟨27, RX4, TX4, 5, ⟨by decide +kernel, rfl⟩, rfl, by decide, rfl, by decide, Or.inl (tw_183)⟩
theorem x_K_play_19 : kt_sV i_K_play 19 i_S_runOn 3 1 22 := ⟨220, ⟨by decide +kernel, rfl⟩, Or.inr ⟨"KinderTowns", tw_483⟩, j_S_runOn, ⟨tw_485, tp_38⟩, ⟨TX3, 6, rfl⟩, by decide, rfl⟩
theorem c_K_play_19 {P : kt_P} {NM : Nat} {L : List (Option Value)} {rest : List Value} {N : Nat} {I : kt_I} {J : kt_J} {R : kt_R} {Q : Option Value → kt_I → kt_J → kt_R → Prop} {b : Nat} {x0 : Nat} (hkd : kt_kd P N b = (3, 0)) (hrest : (rest.map fun v => v.category).sum ≤ 8) (kk : KW P i_S_runOn N 0 [some (.ref b), some (.ref x0), none] [] N I J R (fun v I' J' R' => KW P i_K_play NM 22 L (kt_pu v rest) N I' J' R' Q)) : KW P i_K_play NM 19 L (.ref x0 :: .ref b :: rest) N I J R Q := kw_callV x_K_play_19 (As := [.ref x0]) rfl rfl (Nat.le_of_ble_eq_true rfl) hrest hkd (Nat.le_refl N) (fun h => h) kk
theorem x_K_play_22 : kt_dc i_K_play 22 (.aload_n 0) 1 23 := ⟨by decide +kernel, rfl⟩
theorem x_K_play_23 : kt_sG i_K_play 23 4 4 2 26 := ⟨18, RX4, TX4, 5, ⟨by decide +kernel, rfl⟩, rfl, by decide, rfl, by decide, Or.inl (tw_186)⟩
theorem x_K_play_26 : kt_sG i_K_play 26 3 5 0 29 := ⟨223, RX3, TX3, 6, ⟨by decide +kernel, rfl⟩, rfl, by decide, rfl, by decide, Or.inr ⟨"KinderTowns", tw_37⟩⟩
theorem x_K_play_29 : kt_dj i_K_play 29 (.ifCond .eq) 35 32 := ⟨6, by decide +kernel, by decide, rfl⟩
theorem x_K_play_32 : kt_dc i_K_play 32 (.bipush (-2)) 2 34 ∧ (Int8.ofInt (-2)).toInt32 = (-2 : Int32) := ⟨⟨by decide +kernel, rfl⟩, by decide⟩
theorem x_K_play_34 : kt_dc i_K_play 34 (.ireturn) 1 35 ∧ kt_rt i_K_play = (some .int) := ⟨⟨by decide +kernel, rfl⟩, rfl⟩
theorem x_K_play_35 : kt_dc i_K_play 35 (.aload_n 0) 1 36 := ⟨by decide +kernel, rfl⟩
theorem x_K_play_36 : kt_sG i_K_play 36 4 0 2 39 := ⟨23, RX4, TX4, 5, ⟨by decide +kernel, rfl⟩, rfl, by decide, rfl, by decide, Or.inl (tw_182)⟩
theorem x_K_play_39 : kt_dc i_K_play 39 (.astore_n 1) 1 40 := ⟨by decide +kernel, rfl⟩
theorem x_K_play_40 : kt_dc i_K_play 40 (.aload_n 0) 1 41 := ⟨by decide +kernel, rfl⟩
theorem x_K_play_41 : kt_dc i_K_play 41 (.aload_n 0) 1 42 := ⟨by decide +kernel, rfl⟩
theorem x_K_play_42 : kt_sG i_K_play 42 4 1 2 45 := ⟨27, RX4, TX4, 5, ⟨by decide +kernel, rfl⟩, rfl, by decide, rfl, by decide, Or.inl (tw_183)⟩
theorem x_K_play_45 : kt_sP i_K_play 45 4 0 2 48 := ⟨23, RX4, TX4, 5, tyX4 0, ⟨by decide +kernel, rfl⟩, rfl, by decide, rfl, by decide, by decide +kernel, rfl, Or.inl ⟨rfl, Or.inl (tw_182)⟩⟩
theorem x_K_play_48 : kt_dc i_K_play 48 (.aload_n 0) 1 49 := ⟨by decide +kernel, rfl⟩
theorem x_K_play_49 : kt_dc i_K_play 49 (.aload_n 1) 1 50 := ⟨by decide +kernel, rfl⟩
theorem x_K_play_50 : kt_sP i_K_play 50 4 1 2 53 := ⟨27, RX4, TX4, 5, tyX4 1, ⟨by decide +kernel, rfl⟩, rfl, by decide, rfl, by decide, by decide +kernel, rfl, Or.inl ⟨rfl, Or.inl (tw_183)⟩⟩
theorem x_K_play_53 : kt_dc i_K_play 53 (.aload_n 0) 1 54 := ⟨by decide +kernel, rfl⟩
theorem x_K_play_54 : kt_dc i_K_play 54 (.aload_n 0) 1 55 := ⟨by decide +kernel, rfl⟩
theorem x_K_play_55 : kt_sG i_K_play 55 4 4 2 58 := ⟨18, RX4, TX4, 5, ⟨by decide +kernel, rfl⟩, rfl, by decide, rfl, by decide, Or.inl (tw_186)⟩
theorem x_K_play_58 : kt_sG i_K_play 58 3 3 0 61 := ⟨229, RX3, TX3, 6, ⟨by decide +kernel, rfl⟩, rfl, by decide, rfl, by decide, Or.inr ⟨"KinderTowns", tw_33⟩⟩
theorem x_K_play_61 : kt_sV i_K_play 61 i_K_recorded 4 1 64 := ⟨38, ⟨by decide +kernel, rfl⟩, Or.inl (tw_221), j_K_recorded, ⟨tw_223, tp_3⟩, ⟨TX4, 5, rfl⟩, by decide, rfl⟩
theorem c_K_play_61 {P : kt_P} {NM : Nat} {L : List (Option Value)} {rest : List Value} {N : Nat} {I : kt_I} {J : kt_J} {R : kt_R} {Q : Option Value → kt_I → kt_J → kt_R → Prop} {b : Nat} {x0 : Int32} (hkd : kt_kd P N b = (4, 0)) (hrest : (rest.map fun v => v.category).sum ≤ 8) (kk : KW P i_K_recorded N 0 [some (.ref b), some (.int x0)] [] N I J R (fun v I' J' R' => KW P i_K_play NM 64 L (kt_pu v rest) N I' J' R' Q)) : KW P i_K_play NM 61 L (.int x0 :: .ref b :: rest) N I J R Q := kw_callV x_K_play_61 (As := [.int x0]) rfl rfl (Nat.le_of_ble_eq_true rfl) hrest hkd (Nat.le_refl N) (fun h => h) kk
theorem x_K_play_64 : kt_dc i_K_play 64 (.ireturn) 1 65 ∧ kt_rt i_K_play = (some .int) := ⟨⟨by decide +kernel, rfl⟩, rfl⟩
