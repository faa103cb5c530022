theorem x_S_init_0 : kt_dc i_S_init 0 (.aload_n 0) 1 1 := ⟨by decide +kernel, rfl⟩
theorem x_S_init_1 : kt_dc i_S_init 1 (.invokespecial 3) 3 4 ∧ Cond.methodLink (kt_ow i_S_init) 3 Lib.objectInit ∈ kt_GW := ⟨⟨by decide +kernel, rfl⟩, tw_26⟩
theorem x_S_init_4 : kt_dc i_S_init 4 (.aload_n 0) 1 5 := ⟨by decide +kernel, rfl⟩
theorem x_S_init_5 : kt_dc i_S_init 5 (.bipush 80) 2 7 ∧ (Int8.ofInt (80)).toInt32 = nI 80 := ⟨⟨by decide +kernel, rfl⟩, by decide⟩
theorem x_S_init_7 : kt_dc i_S_init 7 (.newarray .int) 2 9 ∧ Cond.arrayClass .int ∈ kt_GW := ⟨⟨by decide +kernel, rfl⟩, tw_51⟩
theorem x_S_init_9 : kt_sP i_S_init 9 3 0 2 12 := ⟨9, RX3, TX3, 6, tyX3 0, ⟨by decide +kernel, rfl⟩, rfl, by decide, rfl, by decide, by decide +kernel, rfl, Or.inr ⟨rfl, rfl, rfl, tw_27⟩⟩
theorem x_S_init_12 : kt_dc i_S_init 12 (.aload_n 0) 1 13 := ⟨by decide +kernel, rfl⟩
theorem x_S_init_13 : kt_dc i_S_init 13 (.iconst 4) 1 14 ∧ Int32.ofInt (4) = nI 4 := ⟨⟨by decide +kernel, rfl⟩, by decide⟩
theorem x_S_init_14 : kt_dc i_S_init 14 (.newarray .int) 2 16 ∧ Cond.arrayClass .int ∈ kt_GW := ⟨⟨by decide +kernel, rfl⟩, tw_51⟩
theorem x_S_init_16 : kt_sP i_S_init 16 3 2 2 19 := ⟨15, RX3, TX3, 6, tyX3 2, ⟨by decide +kernel, rfl⟩, rfl, by decide, rfl, by decide, by decide +kernel, rfl, Or.inr ⟨rfl, rfl, rfl, tw_31⟩⟩
theorem x_S_init_19 : kt_dc i_S_init 19 (.return_) 1 20 ∧ kt_rt i_S_init = none := ⟨⟨by decide +kernel, rfl⟩, rfl⟩
theorem x_C_init_0 : kt_dc i_C_init 0 (.aload_n 0) 1 1 := ⟨by decide +kernel, rfl⟩
theorem x_C_init_1 : kt_dc i_C_init 1 (.invokespecial 3) 3 4 ∧ Cond.methodLink (kt_ow i_C_init) 3 Lib.objectInit ∈ kt_GW := ⟨⟨by decide +kernel, rfl⟩, tw_56⟩
theorem x_C_init_4 : kt_dc i_C_init 4 (.aload_n 0) 1 5 := ⟨by decide +kernel, rfl⟩
theorem x_C_init_5 : kt_dc i_C_init 5 (.new 9) 3 8 ∧ ∃ (C : String) (T : u_T) (Nf : Nat), vwCl[2]? = some (C, T, Nf) ∧ Cond.classLink (kt_ow i_C_init) 9 C ∈ kt_GW ∧ Cond.instantiable C Nf ∈ kt_GW ∧ Cond.initialized C ∈ kt_GW := ⟨⟨by decide +kernel, rfl⟩, RX2, TX2, 6, rfl, tw_57, tw_58, tw_4⟩
theorem x_C_init_8 : kt_dc i_C_init 8 (.dup) 1 9 := ⟨by decide +kernel, rfl⟩
theorem x_C_init_9 : kt_sI i_C_init 9 i_L_init 0 12 := ⟨11, ⟨by decide +kernel, rfl⟩, Or.inr ⟨"KinderTowns", tw_59⟩, j_L_init, tw_60, rfl, rfl, rfl⟩
theorem c_C_init_9 {P : kt_P} {NM : Nat} {L : List (Option Value)} {rest : List Value} {N : Nat} {I : kt_I} {J : kt_J} {R : kt_R} {Q : Option Value → kt_I → kt_J → kt_R → Prop} {b : Nat} {N' : Nat} (hN : N ≤ N' ∧ N' ≤ NM) (hrest : (rest.map fun v => v.category).sum ≤ 8) (kk : KW P i_L_init N' 0 [some (.ref b)] [] N I J R (fun v I' J' R' => KW P i_C_init NM 12 L (kt_pu v rest) N' I' J' R' Q)) : KW P i_C_init NM 9 L (.ref b :: rest) N I J R Q := kw_callI x_C_init_9 (As := []) rfl rfl (Nat.le_of_ble_eq_true rfl) hrest hN.1 (fun _ => hN.2) kk
theorem x_C_init_12 : kt_sP i_C_init 12 0 0 2 15 := ⟨12, RX0, TX0, 11, tyX0 0, ⟨by decide +kernel, rfl⟩, rfl, by decide, rfl, by decide, by decide +kernel, rfl, Or.inr ⟨rfl, rfl, rfl, tw_138⟩⟩
theorem x_C_init_15 : kt_dc i_C_init 15 (.aload_n 0) 1 16 := ⟨by decide +kernel, rfl⟩
theorem x_C_init_16 : kt_dc i_C_init 16 (.new 18) 3 19 ∧ ∃ (C : String) (T : u_T) (Nf : Nat), vwCl[1]? = some (C, T, Nf) ∧ Cond.classLink (kt_ow i_C_init) 18 C ∈ kt_GW ∧ Cond.instantiable C Nf ∈ kt_GW ∧ Cond.initialized C ∈ kt_GW := ⟨⟨by decide +kernel, rfl⟩, RX1, TX1, 8, rfl, tw_87, tw_88, tw_5⟩
theorem x_C_init_19 : kt_dc i_C_init 19 (.dup) 1 20 := ⟨by decide +kernel, rfl⟩
theorem x_C_init_20 : kt_sI i_C_init 20 i_E_init 0 23 := ⟨20, ⟨by decide +kernel, rfl⟩, Or.inr ⟨"KinderTowns", tw_89⟩, j_E_init, tw_90, rfl, rfl, rfl⟩
theorem c_C_init_20 {P : kt_P} {NM : Nat} {L : List (Option Value)} {rest : List Value} {N : Nat} {I : kt_I} {J : kt_J} {R : kt_R} {Q : Option Value → kt_I → kt_J → kt_R → Prop} {b : Nat} {N' : Nat} (hN : N ≤ N' ∧ N' ≤ NM) (hrest : (rest.map fun v => v.category).sum ≤ 8) (kk : KW P i_E_init N' 0 [some (.ref b)] [] N I J R (fun v I' J' R' => KW P i_C_init NM 23 L (kt_pu v rest) N' I' J' R' Q)) : KW P i_C_init NM 20 L (.ref b :: rest) N I J R Q := kw_callI x_C_init_20 (As := []) rfl rfl (Nat.le_of_ble_eq_true rfl) hrest hN.1 (fun _ => hN.2) kk
theorem x_C_init_23 : kt_sP i_C_init 23 0 1 2 26 := ⟨21, RX0, TX0, 11, tyX0 1, ⟨by decide +kernel, rfl⟩, rfl, by decide, rfl, by decide, by decide +kernel, rfl, Or.inr ⟨rfl, rfl, rfl, tw_140⟩⟩
theorem x_C_init_26 : kt_dc i_C_init 26 (.aload_n 0) 1 27 := ⟨by decide +kernel, rfl⟩
theorem x_C_init_27 : kt_dc i_C_init 27 (.iconst 5) 1 28 ∧ Int32.ofInt (5) = nI 5 := ⟨⟨by decide +kernel, rfl⟩, by decide⟩
theorem x_C_init_28 : kt_dc i_C_init 28 (.newarray .int) 2 30 ∧ Cond.arrayClass .int ∈ kt_GW := ⟨⟨by decide +kernel, rfl⟩, tw_51⟩
theorem x_C_init_30 : kt_sP i_C_init 30 0 4 2 33 := ⟨25, RX0, TX0, 11, tyX0 4, ⟨by decide +kernel, rfl⟩, rfl, by decide, rfl, by decide, by decide +kernel, rfl, Or.inr ⟨rfl, rfl, rfl, tw_146⟩⟩
theorem x_C_init_33 : kt_dc i_C_init 33 (.aload_n 0) 1 34 := ⟨by decide +kernel, rfl⟩
theorem x_C_init_34 : kt_dc i_C_init 34 (.iconst 5) 1 35 ∧ Int32.ofInt (5) = nI 5 := ⟨⟨by decide +kernel, rfl⟩, by decide⟩
theorem x_C_init_35 : kt_dc i_C_init 35 (.newarray .long) 2 37 ∧ Cond.arrayClass .long ∈ kt_GW := ⟨⟨by decide +kernel, rfl⟩, tw_181⟩
theorem x_C_init_37 : kt_sP i_C_init 37 0 5 2 40 := ⟨29, RX0, TX0, 11, tyX0 5, ⟨by decide +kernel, rfl⟩, rfl, by decide, rfl, by decide, by decide +kernel, rfl, Or.inr ⟨rfl, rfl, rfl, tw_148⟩⟩
theorem x_C_init_40 : kt_dc i_C_init 40 (.aload_n 0) 1 41 := ⟨by decide +kernel, rfl⟩
theorem x_C_init_41 : kt_dc i_C_init 41 (.iconst 5) 1 42 ∧ Int32.ofInt (5) = nI 5 := ⟨⟨by decide +kernel, rfl⟩, by decide⟩
theorem x_C_init_42 : kt_dc i_C_init 42 (.newarray .long) 2 44 ∧ Cond.arrayClass .long ∈ kt_GW := ⟨⟨by decide +kernel, rfl⟩, tw_181⟩
theorem x_C_init_44 : kt_sP i_C_init 44 0 6 2 47 := ⟨33, RX0, TX0, 11, tyX0 6, ⟨by decide +kernel, rfl⟩, rfl, by decide, rfl, by decide, by decide +kernel, rfl, Or.inr ⟨rfl, rfl, rfl, tw_150⟩⟩
theorem x_C_init_47 : kt_dc i_C_init 47 (.aload_n 0) 1 48 := ⟨by decide +kernel, rfl⟩
theorem x_C_init_48 : kt_dc i_C_init 48 (.iconst 5) 1 49 ∧ Int32.ofInt (5) = nI 5 := ⟨⟨by decide +kernel, rfl⟩, by decide⟩
theorem x_C_init_49 : kt_dc i_C_init 49 (.newarray .long) 2 51 ∧ Cond.arrayClass .long ∈ kt_GW := ⟨⟨by decide +kernel, rfl⟩, tw_181⟩
theorem x_C_init_51 : kt_sP i_C_init 51 0 7 2 54 := ⟨36, RX0, TX0, 11, tyX0 7, ⟨by decide +kernel, rfl⟩, rfl, by decide, rfl, by decide, by decide +kernel, rfl, Or.inr ⟨rfl, rfl, rfl, tw_152⟩⟩
theorem x_C_init_54 : kt_dc i_C_init 54 (.aload_n 0) 1 55 := ⟨by decide +kernel, rfl⟩
theorem x_C_init_55 : kt_dc i_C_init 55 (.iconst 5) 1 56 ∧ Int32.ofInt (5) = nI 5 := ⟨⟨by decide +kernel, rfl⟩, by decide⟩
theorem x_C_init_56 : kt_dc i_C_init 56 (.newarray .long) 2 58 ∧ Cond.arrayClass .long ∈ kt_GW := ⟨⟨by decide +kernel, rfl⟩, tw_181⟩
theorem x_C_init_58 : kt_sP i_C_init 58 0 8 2 61 := ⟨39, RX0, TX0, 11, tyX0 8, ⟨by decide +kernel, rfl⟩, rfl, by decide, rfl, by decide, by decide +kernel, rfl, Or.inr ⟨rfl, rfl, rfl, tw_154⟩⟩
theorem x_C_init_61 : kt_dc i_C_init 61 (.aload_n 0) 1 62 := ⟨by decide +kernel, rfl⟩
theorem x_C_init_62 : kt_dc i_C_init 62 (.iconst 5) 1 63 ∧ Int32.ofInt (5) = nI 5 := ⟨⟨by decide +kernel, rfl⟩, by decide⟩
theorem x_C_init_63 : kt_dc i_C_init 63 (.newarray .long) 2 65 ∧ Cond.arrayClass .long ∈ kt_GW := ⟨⟨by decide +kernel, rfl⟩, tw_181⟩
theorem x_C_init_65 : kt_sP i_C_init 65 0 9 2 68 := ⟨42, RX0, TX0, 11, tyX0 9, ⟨by decide +kernel, rfl⟩, rfl, by decide, rfl, by decide, by decide +kernel, rfl, Or.inr ⟨rfl, rfl, rfl, tw_156⟩⟩
theorem x_C_init_68 : kt_dc i_C_init 68 (.return_) 1 69 ∧ kt_rt i_C_init = none := ⟨⟨by decide +kernel, rfl⟩, rfl⟩
theorem x_L_init_0 : kt_dc i_L_init 0 (.aload_n 0) 1 1 := ⟨by decide +kernel, rfl⟩
theorem x_L_init_1 : kt_dc i_L_init 1 (.invokespecial 3) 3 4 ∧ Cond.methodLink (kt_ow i_L_init) 3 Lib.objectInit ∈ kt_GW := ⟨⟨by decide +kernel, rfl⟩, tw_62⟩
theorem x_L_init_4 : kt_dc i_L_init 4 (.aload_n 0) 1 5 := ⟨by decide +kernel, rfl⟩
theorem x_L_init_5 : kt_dc i_L_init 5 (.bipush 60) 2 7 ∧ (Int8.ofInt (60)).toInt32 = nI 60 := ⟨⟨by decide +kernel, rfl⟩, by decide⟩
theorem x_L_init_7 : kt_dc i_L_init 7 (.newarray .int) 2 9 ∧ Cond.arrayClass .int ∈ kt_GW := ⟨⟨by decide +kernel, rfl⟩, tw_51⟩
theorem x_L_init_9 : kt_sP i_L_init 9 2 0 2 12 := ⟨9, RX2, TX2, 6, tyX2 0, ⟨by decide +kernel, rfl⟩, rfl, by decide, rfl, by decide, by decide +kernel, rfl, Or.inr ⟨rfl, rfl, rfl, tw_63⟩⟩
theorem x_L_init_12 : kt_dc i_L_init 12 (.aload_n 0) 1 13 := ⟨by decide +kernel, rfl⟩
theorem x_L_init_13 : kt_dc i_L_init 13 (.bipush 10) 2 15 ∧ (Int8.ofInt (10)).toInt32 = nI 10 := ⟨⟨by decide +kernel, rfl⟩, by decide⟩
theorem x_L_init_15 : kt_dc i_L_init 15 (.newarray .int) 2 17 ∧ Cond.arrayClass .int ∈ kt_GW := ⟨⟨by decide +kernel, rfl⟩, tw_51⟩
theorem x_L_init_17 : kt_sP i_L_init 17 2 3 2 20 := ⟨15, RX2, TX2, 6, tyX2 3, ⟨by decide +kernel, rfl⟩, rfl, by decide, rfl, by decide, by decide +kernel, rfl, Or.inr ⟨rfl, rfl, rfl, tw_68⟩⟩
theorem x_L_init_20 : kt_dc i_L_init 20 (.return_) 1 21 ∧ kt_rt i_L_init = none := ⟨⟨by decide +kernel, rfl⟩, rfl⟩
theorem x_E_init_0 : kt_dc i_E_init 0 (.aload_n 0) 1 1 := ⟨by decide +kernel, rfl⟩
theorem x_E_init_1 : kt_dc i_E_init 1 (.invokespecial 3) 3 4 ∧ Cond.methodLink (kt_ow i_E_init) 3 Lib.objectInit ∈ kt_GW := ⟨⟨by decide +kernel, rfl⟩, tw_92⟩
theorem x_E_init_4 : kt_dc i_E_init 4 (.aload_n 0) 1 5 := ⟨by decide +kernel, rfl⟩
theorem x_E_init_5 : kt_dc i_E_init 5 (.bipush 60) 2 7 ∧ (Int8.ofInt (60)).toInt32 = nI 60 := ⟨⟨by decide +kernel, rfl⟩, by decide⟩
theorem x_E_init_7 : kt_dc i_E_init 7 (.newarray .int) 2 9 ∧ Cond.arrayClass .int ∈ kt_GW := ⟨⟨by decide +kernel, rfl⟩, tw_51⟩
theorem x_E_init_9 : kt_sP i_E_init 9 1 1 2 12 := ⟨9, RX1, TX1, 8, tyX1 1, ⟨by decide +kernel, rfl⟩, rfl, by decide, rfl, by decide, by decide +kernel, rfl, Or.inr ⟨rfl, rfl, rfl, tw_97⟩⟩
theorem x_E_init_12 : kt_dc i_E_init 12 (.aload_n 0) 1 13 := ⟨by decide +kernel, rfl⟩
theorem x_E_init_13 : kt_dc i_E_init 13 (.bipush 60) 2 15 ∧ (Int8.ofInt (60)).toInt32 = nI 60 := ⟨⟨by decide +kernel, rfl⟩, by decide⟩
theorem x_E_init_15 : kt_dc i_E_init 15 (.newarray .int) 2 17 ∧ Cond.arrayClass .int ∈ kt_GW := ⟨⟨by decide +kernel, rfl⟩, tw_51⟩
theorem x_E_init_17 : kt_sP i_E_init 17 1 2 2 20 := ⟨15, RX1, TX1, 8, tyX1 2, ⟨by decide +kernel, rfl⟩, rfl, by decide, rfl, by decide, by decide +kernel, rfl, Or.inr ⟨rfl, rfl, rfl, tw_100⟩⟩
theorem x_E_init_20 : kt_dc i_E_init 20 (.aload_n 0) 1 21 := ⟨by decide +kernel, rfl⟩
theorem x_E_init_21 : kt_dc i_E_init 21 (.bipush 60) 2 23 ∧ (Int8.ofInt (60)).toInt32 = nI 60 := ⟨⟨by decide +kernel, rfl⟩, by decide⟩
theorem x_E_init_23 : kt_dc i_E_init 23 (.newarray .int) 2 25 ∧ Cond.arrayClass .int ∈ kt_GW := ⟨⟨by decide +kernel, rfl⟩, tw_51⟩
theorem x_E_init_25 : kt_sP i_E_init 25 1 3 2 28 := ⟨18, RX1, TX1, 8, tyX1 3, ⟨by decide +kernel, rfl⟩, rfl, by decide, rfl, by decide, by decide +kernel, rfl, Or.inr ⟨rfl, rfl, rfl, tw_103⟩⟩
theorem x_E_init_28 : kt_dc i_E_init 28 (.aload_n 0) 1 29 := ⟨by decide +kernel, rfl⟩
theorem x_E_init_29 : kt_dc i_E_init 29 (.bipush 60) 2 31 ∧ (Int8.ofInt (60)).toInt32 = nI 60 := ⟨⟨by decide +kernel, rfl⟩, by decide⟩
theorem x_E_init_31 : kt_dc i_E_init 31 (.newarray .int) 2 33 ∧ Cond.arrayClass .int ∈ kt_GW := ⟨⟨by decide +kernel, rfl⟩, tw_51⟩
theorem x_E_init_33 : kt_sP i_E_init 33 1 4 2 36 := ⟨21, RX1, TX1, 8, tyX1 4, ⟨by decide +kernel, rfl⟩, rfl, by decide, rfl, by decide, by decide +kernel, rfl, Or.inr ⟨rfl, rfl, rfl, tw_106⟩⟩
theorem x_E_init_36 : kt_dc i_E_init 36 (.aload_n 0) 1 37 := ⟨by decide +kernel, rfl⟩
theorem x_E_init_37 : kt_dc i_E_init 37 (.bipush 60) 2 39 ∧ (Int8.ofInt (60)).toInt32 = nI 60 := ⟨⟨by decide +kernel, rfl⟩, by decide⟩
theorem x_E_init_39 : kt_dc i_E_init 39 (.newarray .int) 2 41 ∧ Cond.arrayClass .int ∈ kt_GW := ⟨⟨by decide +kernel, rfl⟩, tw_51⟩
theorem x_E_init_41 : kt_sP i_E_init 41 1 5 2 44 := ⟨24, RX1, TX1, 8, tyX1 5, ⟨by decide +kernel, rfl⟩, rfl, by decide, rfl, by decide, by decide +kernel, rfl, Or.inr ⟨rfl, rfl, rfl, tw_110⟩⟩
theorem x_E_init_44 : kt_dc i_E_init 44 (.aload_n 0) 1 45 := ⟨by decide +kernel, rfl⟩
theorem x_E_init_45 : kt_dc i_E_init 45 (.bipush 60) 2 47 ∧ (Int8.ofInt (60)).toInt32 = nI 60 := ⟨⟨by decide +kernel, rfl⟩, by decide⟩
theorem x_E_init_47 : kt_dc i_E_init 47 (.newarray .int) 2 49 ∧ Cond.arrayClass .int ∈ kt_GW := ⟨⟨by decide +kernel, rfl⟩, tw_51⟩
theorem x_E_init_49 : kt_sP i_E_init 49 1 6 2 52 := ⟨27, RX1, TX1, 8, tyX1 6, ⟨by decide +kernel, rfl⟩, rfl, by decide, rfl, by decide, by decide +kernel, rfl, Or.inr ⟨rfl, rfl, rfl, tw_114⟩⟩
theorem x_E_init_52 : kt_dc i_E_init 52 (.aload_n 0) 1 53 := ⟨by decide +kernel, rfl⟩
theorem x_E_init_53 : kt_dc i_E_init 53 (.bipush 60) 2 55 ∧ (Int8.ofInt (60)).toInt32 = nI 60 := ⟨⟨by decide +kernel, rfl⟩, by decide⟩
theorem x_E_init_55 : kt_dc i_E_init 55 (.newarray .int) 2 57 ∧ Cond.arrayClass .int ∈ kt_GW := ⟨⟨by decide +kernel, rfl⟩, tw_51⟩
theorem x_E_init_57 : kt_sP i_E_init 57 1 7 2 60 := ⟨30, RX1, TX1, 8, tyX1 7, ⟨by decide +kernel, rfl⟩, rfl, by decide, rfl, by decide, by decide +kernel, rfl, Or.inr ⟨rfl, rfl, rfl, tw_118⟩⟩
theorem x_E_init_60 : kt_dc i_E_init 60 (.return_) 1 61 ∧ kt_rt i_E_init = none := ⟨⟨by decide +kernel, rfl⟩, rfl⟩
theorem x_C_copyFrom_0 : kt_dc i_C_copyFrom 0 (.aload_n 0) 1 1 := ⟨by decide +kernel, rfl⟩
theorem x_C_copyFrom_1 : kt_sG i_C_copyFrom 1 0 1 2 4 := ⟨21, RX0, TX0, 11, ⟨by decide +kernel, rfl⟩, rfl, by decide, rfl, by decide, Or.inl (tw_140)⟩
theorem x_C_copyFrom_4 : kt_dc i_C_copyFrom 4 (.aload_n 1) 1 5 := ⟨by decide +kernel, rfl⟩
theorem x_C_copyFrom_5 : kt_sG i_C_copyFrom 5 0 1 2 8 := ⟨21, RX0, TX0, 11, ⟨by decide +kernel, rfl⟩, rfl, by decide, rfl, by decide, Or.inl (tw_140)⟩
theorem x_C_copyFrom_8 : kt_sV i_C_copyFrom 8 i_E_copyFrom 1 1 11 := ⟨45, ⟨by decide +kernel, rfl⟩, Or.inr ⟨"KinderTowns", tw_206⟩, j_E_copyFrom, ⟨tw_208, tp_1⟩, ⟨TX1, 8, rfl⟩, by decide, rfl⟩
theorem c_C_copyFrom_8 {P : kt_P} {NM : Nat} {L : List (Option Value)} {rest : List Value} {N : Nat} {I : kt_I} {J : kt_J} {R : kt_R} {Q : Option Value → kt_I → kt_J → kt_R → Prop} {b : Nat} {x0 : Nat} (hkd : kt_kd P N b = (1, 0)) (hrest : (rest.map fun v => v.category).sum ≤ 8) (kk : KW P i_E_copyFrom N 0 [some (.ref b), some (.ref x0)] [] N I J R (fun v I' J' R' => KW P i_C_copyFrom NM 11 L (kt_pu v rest) N I' J' R' Q)) : KW P i_C_copyFrom NM 8 L (.ref x0 :: .ref b :: rest) N I J R Q := kw_callV x_C_copyFrom_8 (As := [.ref x0]) rfl rfl (Nat.le_of_ble_eq_true rfl) hrest hkd (Nat.le_refl N) (fun h => h) kk
theorem x_C_copyFrom_11 : kt_dc i_C_copyFrom 11 (.aload_n 0) 1 12 := ⟨by decide +kernel, rfl⟩
theorem x_C_copyFrom_12 : kt_dc i_C_copyFrom 12 (.aload_n 1) 1 13 := ⟨by decide +kernel, rfl⟩
theorem x_C_copyFrom_13 : kt_sG i_C_copyFrom 13 0 2 0 16 := ⟨49, RX0, TX0, 11, ⟨by decide +kernel, rfl⟩, rfl, by decide, rfl, by decide, Or.inl (tw_142)⟩
theorem x_C_copyFrom_16 : kt_sP i_C_copyFrom 16 0 2 0 19 := ⟨49, RX0, TX0, 11, tyX0 2, ⟨by decide +kernel, rfl⟩, rfl, by decide, rfl, by decide, by decide +kernel, rfl, Or.inl ⟨rfl, Or.inl (tw_142)⟩⟩
theorem x_C_copyFrom_19 : kt_dc i_C_copyFrom 19 (.aload_n 0) 1 20 := ⟨by decide +kernel, rfl⟩
theorem x_C_copyFrom_20 : kt_dc i_C_copyFrom 20 (.aload_n 1) 1 21 := ⟨by decide +kernel, rfl⟩
theorem x_C_copyFrom_21 : kt_sG i_C_copyFrom 21 0 3 0 24 := ⟨53, RX0, TX0, 11, ⟨by decide +kernel, rfl⟩, rfl, by decide, rfl, by decide, Or.inl (tw_144)⟩
theorem x_C_copyFrom_24 : kt_sP i_C_copyFrom 24 0 3 0 27 := ⟨53, RX0, TX0, 11, tyX0 3, ⟨by decide +kernel, rfl⟩, rfl, by decide, rfl, by decide, by decide +kernel, rfl, Or.inl ⟨rfl, Or.inl (tw_144)⟩⟩
theorem x_C_copyFrom_27 : kt_dc i_C_copyFrom 27 (.aload_n 0) 1 28 := ⟨by decide +kernel, rfl⟩
theorem x_C_copyFrom_28 : kt_dc i_C_copyFrom 28 (.aload_n 1) 1 29 := ⟨by decide +kernel, rfl⟩
theorem x_C_copyFrom_29 : kt_sG i_C_copyFrom 29 0 10 0 32 := ⟨56, RX0, TX0, 11, ⟨by decide +kernel, rfl⟩, rfl, by decide, rfl, by decide, Or.inl (tw_157)⟩
theorem x_C_copyFrom_32 : kt_sP i_C_copyFrom 32 0 10 0 35 := ⟨56, RX0, TX0, 11, tyX0 10, ⟨by decide +kernel, rfl⟩, rfl, by decide, rfl, by decide, by decide +kernel, rfl, Or.inl ⟨rfl, Or.inl (tw_157)⟩⟩
theorem x_C_copyFrom_35 : kt_dc i_C_copyFrom 35 (.aload_n 1) 1 36 := ⟨by decide +kernel, rfl⟩
theorem x_C_copyFrom_36 : kt_sG i_C_copyFrom 36 0 4 2 39 := ⟨25, RX0, TX0, 11, ⟨by decide +kernel, rfl⟩, rfl, by decide, rfl, by decide, Or.inl (tw_146)⟩
theorem x_C_copyFrom_39 : kt_dc i_C_copyFrom 39 (.iconst 0) 1 40 ∧ Int32.ofInt (0) = nI 0 := ⟨⟨by decide +kernel, rfl⟩, by decide⟩
theorem x_C_copyFrom_40 : kt_dc i_C_copyFrom 40 (.aload_n 0) 1 41 := ⟨by decide +kernel, rfl⟩
theorem x_C_copyFrom_41 : kt_sG i_C_copyFrom 41 0 4 2 44 := ⟨25, RX0, TX0, 11, ⟨by decide +kernel, rfl⟩, rfl, by decide, rfl, by decide, Or.inl (tw_146)⟩
theorem x_C_copyFrom_44 : kt_dc i_C_copyFrom 44 (.iconst 0) 1 45 ∧ Int32.ofInt (0) = nI 0 := ⟨⟨by decide +kernel, rfl⟩, by decide⟩
theorem x_C_copyFrom_45 : kt_dc i_C_copyFrom 45 (.iconst 5) 1 46 ∧ Int32.ofInt (5) = nI 5 := ⟨⟨by decide +kernel, rfl⟩, by decide⟩
theorem x_C_copyFrom_46 : kt_cpw i_C_copyFrom 46 49 := ⟨59, ⟨by decide +kernel, rfl⟩, tw_213, by decide, by decide⟩
theorem x_C_copyFrom_49 : kt_dc i_C_copyFrom 49 (.aload_n 1) 1 50 := ⟨by decide +kernel, rfl⟩
theorem x_C_copyFrom_50 : kt_sG i_C_copyFrom 50 0 5 2 53 := ⟨29, RX0, TX0, 11, ⟨by decide +kernel, rfl⟩, rfl, by decide, rfl, by decide, Or.inl (tw_148)⟩
theorem x_C_copyFrom_53 : kt_dc i_C_copyFrom 53 (.iconst 0) 1 54 ∧ Int32.ofInt (0) = nI 0 := ⟨⟨by decide +kernel, rfl⟩, by decide⟩
theorem x_C_copyFrom_54 : kt_dc i_C_copyFrom 54 (.aload_n 0) 1 55 := ⟨by decide +kernel, rfl⟩
theorem x_C_copyFrom_55 : kt_sG i_C_copyFrom 55 0 5 2 58 := ⟨29, RX0, TX0, 11, ⟨by decide +kernel, rfl⟩, rfl, by decide, rfl, by decide, Or.inl (tw_148)⟩
theorem x_C_copyFrom_58 : kt_dc i_C_copyFrom 58 (.iconst 0) 1 59 ∧ Int32.ofInt (0) = nI 0 := ⟨⟨by decide +kernel, rfl⟩, by decide⟩
theorem x_C_copyFrom_59 : kt_dc i_C_copyFrom 59 (.iconst 5) 1 60 ∧ Int32.ofInt (5) = nI 5 := ⟨⟨by decide +kernel, rfl⟩, by decide⟩
theorem x_C_copyFrom_60 : kt_cpw i_C_copyFrom 60 63 := ⟨59, ⟨by decide +kernel, rfl⟩, tw_213, by decide, by decide⟩
theorem x_C_copyFrom_63 : kt_dc i_C_copyFrom 63 (.aload_n 1) 1 64 := ⟨by decide +kernel, rfl⟩
theorem x_C_copyFrom_64 : kt_sG i_C_copyFrom 64 0 6 2 67 := ⟨33, RX0, TX0, 11, ⟨by decide +kernel, rfl⟩, rfl, by decide, rfl, by decide, Or.inl (tw_150)⟩
theorem x_C_copyFrom_67 : kt_dc i_C_copyFrom 67 (.iconst 0) 1 68 ∧ Int32.ofInt (0) = nI 0 := ⟨⟨by decide +kernel, rfl⟩, by decide⟩
theorem x_C_copyFrom_68 : kt_dc i_C_copyFrom 68 (.aload_n 0) 1 69 := ⟨by decide +kernel, rfl⟩
theorem x_C_copyFrom_69 : kt_sG i_C_copyFrom 69 0 6 2 72 := ⟨33, RX0, TX0, 11, ⟨by decide +kernel, rfl⟩, rfl, by decide, rfl, by decide, Or.inl (tw_150)⟩
theorem x_C_copyFrom_72 : kt_dc i_C_copyFrom 72 (.iconst 0) 1 73 ∧ Int32.ofInt (0) = nI 0 := ⟨⟨by decide +kernel, rfl⟩, by decide⟩
theorem x_C_copyFrom_73 : kt_dc i_C_copyFrom 73 (.iconst 5) 1 74 ∧ Int32.ofInt (5) = nI 5 := ⟨⟨by decide +kernel, rfl⟩, by decide⟩
theorem x_C_copyFrom_74 : kt_cpw i_C_copyFrom 74 77 := ⟨59, ⟨by decide +kernel, rfl⟩, tw_213, by decide, by decide⟩
theorem x_C_copyFrom_77 : kt_dc i_C_copyFrom 77 (.aload_n 1) 1 78 := ⟨by decide +kernel, rfl⟩
theorem x_C_copyFrom_78 : kt_sG i_C_copyFrom 78 0 7 2 81 := ⟨36, RX0, TX0, 11, ⟨by decide +kernel, rfl⟩, rfl, by decide, rfl, by decide, Or.inl (tw_152)⟩
theorem x_C_copyFrom_81 : kt_dc i_C_copyFrom 81 (.iconst 0) 1 82 ∧ Int32.ofInt (0) = nI 0 := ⟨⟨by decide +kernel, rfl⟩, by decide⟩
theorem x_C_copyFrom_82 : kt_dc i_C_copyFrom 82 (.aload_n 0) 1 83 := ⟨by decide +kernel, rfl⟩
theorem x_C_copyFrom_83 : kt_sG i_C_copyFrom 83 0 7 2 86 := ⟨36, RX0, TX0, 11, ⟨by decide +kernel, rfl⟩, rfl, by decide, rfl, by decide, Or.inl (tw_152)⟩
theorem x_C_copyFrom_86 : kt_dc i_C_copyFrom 86 (.iconst 0) 1 87 ∧ Int32.ofInt (0) = nI 0 := ⟨⟨by decide +kernel, rfl⟩, by decide⟩
theorem x_C_copyFrom_87 : kt_dc i_C_copyFrom 87 (.iconst 5) 1 88 ∧ Int32.ofInt (5) = nI 5 := ⟨⟨by decide +kernel, rfl⟩, by decide⟩
theorem x_C_copyFrom_88 : kt_cpw i_C_copyFrom 88 91 := ⟨59, ⟨by decide +kernel, rfl⟩, tw_213, by decide, by decide⟩
theorem x_C_copyFrom_91 : kt_dc i_C_copyFrom 91 (.aload_n 1) 1 92 := ⟨by decide +kernel, rfl⟩
theorem x_C_copyFrom_92 : kt_sG i_C_copyFrom 92 0 8 2 95 := ⟨39, RX0, TX0, 11, ⟨by decide +kernel, rfl⟩, rfl, by decide, rfl, by decide, Or.inl (tw_154)⟩
theorem x_C_copyFrom_95 : kt_dc i_C_copyFrom 95 (.iconst 0) 1 96 ∧ Int32.ofInt (0) = nI 0 := ⟨⟨by decide +kernel, rfl⟩, by decide⟩
theorem x_C_copyFrom_96 : kt_dc i_C_copyFrom 96 (.aload_n 0) 1 97 := ⟨by decide +kernel, rfl⟩
theorem x_C_copyFrom_97 : kt_sG i_C_copyFrom 97 0 8 2 100 := ⟨39, RX0, TX0, 11, ⟨by decide +kernel, rfl⟩, rfl, by decide, rfl, by decide, Or.inl (tw_154)⟩
theorem x_C_copyFrom_100 : kt_dc i_C_copyFrom 100 (.iconst 0) 1 101 ∧ Int32.ofInt (0) = nI 0 := ⟨⟨by decide +kernel, rfl⟩, by decide⟩
theorem x_C_copyFrom_101 : kt_dc i_C_copyFrom 101 (.iconst 5) 1 102 ∧ Int32.ofInt (5) = nI 5 := ⟨⟨by decide +kernel, rfl⟩, by decide⟩
theorem x_C_copyFrom_102 : kt_cpw i_C_copyFrom 102 105 := ⟨59, ⟨by decide +kernel, rfl⟩, tw_213, by decide, by decide⟩
theorem x_C_copyFrom_105 : kt_dc i_C_copyFrom 105 (.aload_n 1) 1 106 := ⟨by decide +kernel, rfl⟩
theorem x_C_copyFrom_106 : kt_sG i_C_copyFrom 106 0 9 2 109 := ⟨42, RX0, TX0, 11, ⟨by decide +kernel, rfl⟩, rfl, by decide, rfl, by decide, Or.inl (tw_156)⟩
theorem x_C_copyFrom_109 : kt_dc i_C_copyFrom 109 (.iconst 0) 1 110 ∧ Int32.ofInt (0) = nI 0 := ⟨⟨by decide +kernel, rfl⟩, by decide⟩
theorem x_C_copyFrom_110 : kt_dc i_C_copyFrom 110 (.aload_n 0) 1 111 := ⟨by decide +kernel, rfl⟩
theorem x_C_copyFrom_111 : kt_sG i_C_copyFrom 111 0 9 2 114 := ⟨42, RX0, TX0, 11, ⟨by decide +kernel, rfl⟩, rfl, by decide, rfl, by decide, Or.inl (tw_156)⟩
theorem x_C_copyFrom_114 : kt_dc i_C_copyFrom 114 (.iconst 0) 1 115 ∧ Int32.ofInt (0) = nI 0 := ⟨⟨by decide +kernel, rfl⟩, by decide⟩
theorem x_C_copyFrom_115 : kt_dc i_C_copyFrom 115 (.iconst 5) 1 116 ∧ Int32.ofInt (5) = nI 5 := ⟨⟨by decide +kernel, rfl⟩, by decide⟩
theorem x_C_copyFrom_116 : kt_cpw i_C_copyFrom 116 119 := ⟨59, ⟨by decide +kernel, rfl⟩, tw_213, by decide, by decide⟩
theorem x_C_copyFrom_119 : kt_dc i_C_copyFrom 119 (.return_) 1 120 ∧ kt_rt i_C_copyFrom = none := ⟨⟨by decide +kernel, rfl⟩, rfl⟩
theorem x_E_copyFrom_0 : kt_dc i_E_copyFrom 0 (.aload_n 0) 1 1 := ⟨by decide +kernel, rfl⟩
theorem x_E_copyFrom_1 : kt_dc i_E_copyFrom 1 (.aload_n 1) 1 2 := ⟨by decide +kernel, rfl⟩
theorem x_E_copyFrom_2 : kt_sG i_E_copyFrom 2 1 0 0 5 := ⟨33, RX1, TX1, 8, ⟨by decide +kernel, rfl⟩, rfl, by decide, rfl, by decide, Or.inl (tw_93)⟩
theorem x_E_copyFrom_5 : kt_sP i_E_copyFrom 5 1 0 0 8 := ⟨33, RX1, TX1, 8, tyX1 0, ⟨by decide +kernel, rfl⟩, rfl, by decide, rfl, by decide, by decide +kernel, rfl, Or.inl ⟨rfl, Or.inl (tw_93)⟩⟩
theorem x_E_copyFrom_8 : kt_dc i_E_copyFrom 8 (.aload_n 1) 1 9 := ⟨by decide +kernel, rfl⟩
theorem x_E_copyFrom_9 : kt_sG i_E_copyFrom 9 1 1 2 12 := ⟨9, RX1, TX1, 8, ⟨by decide +kernel, rfl⟩, rfl, by decide, rfl, by decide, Or.inl (tw_97)⟩
theorem x_E_copyFrom_12 : kt_dc i_E_copyFrom 12 (.iconst 0) 1 13 ∧ Int32.ofInt (0) = nI 0 := ⟨⟨by decide +kernel, rfl⟩, by decide⟩
theorem x_E_copyFrom_13 : kt_dc i_E_copyFrom 13 (.aload_n 0) 1 14 := ⟨by decide +kernel, rfl⟩
theorem x_E_copyFrom_14 : kt_sG i_E_copyFrom 14 1 1 2 17 := ⟨9, RX1, TX1, 8, ⟨by decide +kernel, rfl⟩, rfl, by decide, rfl, by decide, Or.inl (tw_97)⟩
theorem x_E_copyFrom_17 : kt_dc i_E_copyFrom 17 (.iconst 0) 1 18 ∧ Int32.ofInt (0) = nI 0 := ⟨⟨by decide +kernel, rfl⟩, by decide⟩
theorem x_E_copyFrom_18 : kt_dc i_E_copyFrom 18 (.aload_n 0) 1 19 := ⟨by decide +kernel, rfl⟩
theorem x_E_copyFrom_19 : kt_sG i_E_copyFrom 19 1 0 0 22 := ⟨33, RX1, TX1, 8, ⟨by decide +kernel, rfl⟩, rfl, by decide, rfl, by decide, Or.inl (tw_93)⟩
theorem x_E_copyFrom_22 : kt_cpw i_E_copyFrom 22 25 := ⟨37, ⟨by decide +kernel, rfl⟩, tw_210, by decide, by decide⟩
theorem x_E_copyFrom_25 : kt_dc i_E_copyFrom 25 (.aload_n 1) 1 26 := ⟨by decide +kernel, rfl⟩
theorem x_E_copyFrom_26 : kt_sG i_E_copyFrom 26 1 2 2 29 := ⟨15, RX1, TX1, 8, ⟨by decide +kernel, rfl⟩, rfl, by decide, rfl, by decide, Or.inl (tw_100)⟩
theorem x_E_copyFrom_29 : kt_dc i_E_copyFrom 29 (.iconst 0) 1 30 ∧ Int32.ofInt (0) = nI 0 := ⟨⟨by decide +kernel, rfl⟩, by decide⟩
theorem x_E_copyFrom_30 : kt_dc i_E_copyFrom 30 (.aload_n 0) 1 31 := ⟨by decide +kernel, rfl⟩
theorem x_E_copyFrom_31 : kt_sG i_E_copyFrom 31 1 2 2 34 := ⟨15, RX1, TX1, 8, ⟨by decide +kernel, rfl⟩, rfl, by decide, rfl, by decide, Or.inl (tw_100)⟩
theorem x_E_copyFrom_34 : kt_dc i_E_copyFrom 34 (.iconst 0) 1 35 ∧ Int32.ofInt (0) = nI 0 := ⟨⟨by decide +kernel, rfl⟩, by decide⟩
theorem x_E_copyFrom_35 : kt_dc i_E_copyFrom 35 (.aload_n 0) 1 36 := ⟨by decide +kernel, rfl⟩
theorem x_E_copyFrom_36 : kt_sG i_E_copyFrom 36 1 0 0 39 := ⟨33, RX1, TX1, 8, ⟨by decide +kernel, rfl⟩, rfl, by decide, rfl, by decide, Or.inl (tw_93)⟩
theorem x_E_copyFrom_39 : kt_cpw i_E_copyFrom 39 42 := ⟨37, ⟨by decide +kernel, rfl⟩, tw_210, by decide, by decide⟩
theorem x_E_copyFrom_42 : kt_dc i_E_copyFrom 42 (.aload_n 1) 1 43 := ⟨by decide +kernel, rfl⟩
theorem x_E_copyFrom_43 : kt_sG i_E_copyFrom 43 1 3 2 46 := ⟨18, RX1, TX1, 8, ⟨by decide +kernel, rfl⟩, rfl, by decide, rfl, by decide, Or.inl (tw_103)⟩
theorem x_E_copyFrom_46 : kt_dc i_E_copyFrom 46 (.iconst 0) 1 47 ∧ Int32.ofInt (0) = nI 0 := ⟨⟨by decide +kernel, rfl⟩, by decide⟩
theorem x_E_copyFrom_47 : kt_dc i_E_copyFrom 47 (.aload_n 0) 1 48 := ⟨by decide +kernel, rfl⟩
theorem x_E_copyFrom_48 : kt_sG i_E_copyFrom 48 1 3 2 51 := ⟨18, RX1, TX1, 8, ⟨by decide +kernel, rfl⟩, rfl, by decide, rfl, by decide, Or.inl (tw_103)⟩
theorem x_E_copyFrom_51 : kt_dc i_E_copyFrom 51 (.iconst 0) 1 52 ∧ Int32.ofInt (0) = nI 0 := ⟨⟨by decide +kernel, rfl⟩, by decide⟩
theorem x_E_copyFrom_52 : kt_dc i_E_copyFrom 52 (.aload_n 0) 1 53 := ⟨by decide +kernel, rfl⟩
theorem x_E_copyFrom_53 : kt_sG i_E_copyFrom 53 1 0 0 56 := ⟨33, RX1, TX1, 8, ⟨by decide +kernel, rfl⟩, rfl, by decide, rfl, by decide, Or.inl (tw_93)⟩
theorem x_E_copyFrom_56 : kt_cpw i_E_copyFrom 56 59 := ⟨37, ⟨by decide +kernel, rfl⟩, tw_210, by decide, by decide⟩
theorem x_E_copyFrom_59 : kt_dc i_E_copyFrom 59 (.aload_n 1) 1 60 := ⟨by decide +kernel, rfl⟩
theorem x_E_copyFrom_60 : kt_sG i_E_copyFrom 60 1 4 2 63 := ⟨21, RX1, TX1, 8, ⟨by decide +kernel, rfl⟩, rfl, by decide, rfl, by decide, Or.inl (tw_106)⟩
theorem x_E_copyFrom_63 : kt_dc i_E_copyFrom 63 (.iconst 0) 1 64 ∧ Int32.ofInt (0) = nI 0 := ⟨⟨by decide +kernel, rfl⟩, by decide⟩
theorem x_E_copyFrom_64 : kt_dc i_E_copyFrom 64 (.aload_n 0) 1 65 := ⟨by decide +kernel, rfl⟩
theorem x_E_copyFrom_65 : kt_sG i_E_copyFrom 65 1 4 2 68 := ⟨21, RX1, TX1, 8, ⟨by decide +kernel, rfl⟩, rfl, by decide, rfl, by decide, Or.inl (tw_106)⟩
theorem x_E_copyFrom_68 : kt_dc i_E_copyFrom 68 (.iconst 0) 1 69 ∧ Int32.ofInt (0) = nI 0 := ⟨⟨by decide +kernel, rfl⟩, by decide⟩
theorem x_E_copyFrom_69 : kt_dc i_E_copyFrom 69 (.aload_n 0) 1 70 := ⟨by decide +kernel, rfl⟩
theorem x_E_copyFrom_70 : kt_sG i_E_copyFrom 70 1 0 0 73 := ⟨33, RX1, TX1, 8, ⟨by decide +kernel, rfl⟩, rfl, by decide, rfl, by decide, Or.inl (tw_93)⟩
theorem x_E_copyFrom_73 : kt_cpw i_E_copyFrom 73 76 := ⟨37, ⟨by decide +kernel, rfl⟩, tw_210, by decide, by decide⟩
theorem x_E_copyFrom_76 : kt_dc i_E_copyFrom 76 (.aload_n 1) 1 77 := ⟨by decide +kernel, rfl⟩
theorem x_E_copyFrom_77 : kt_sG i_E_copyFrom 77 1 5 2 80 := ⟨24, RX1, TX1, 8, ⟨by decide +kernel, rfl⟩, rfl, by decide, rfl, by decide, Or.inl (tw_110)⟩
theorem x_E_copyFrom_80 : kt_dc i_E_copyFrom 80 (.iconst 0) 1 81 ∧ Int32.ofInt (0) = nI 0 := ⟨⟨by decide +kernel, rfl⟩, by decide⟩
theorem x_E_copyFrom_81 : kt_dc i_E_copyFrom 81 (.aload_n 0) 1 82 := ⟨by decide +kernel, rfl⟩
theorem x_E_copyFrom_82 : kt_sG i_E_copyFrom 82 1 5 2 85 := ⟨24, RX1, TX1, 8, ⟨by decide +kernel, rfl⟩, rfl, by decide, rfl, by decide, Or.inl (tw_110)⟩
theorem x_E_copyFrom_85 : kt_dc i_E_copyFrom 85 (.iconst 0) 1 86 ∧ Int32.ofInt (0) = nI 0 := ⟨⟨by decide +kernel, rfl⟩, by decide⟩
theorem x_E_copyFrom_86 : kt_dc i_E_copyFrom 86 (.aload_n 0) 1 87 := ⟨by decide +kernel, rfl⟩
theorem x_E_copyFrom_87 : kt_sG i_E_copyFrom 87 1 0 0 90 := ⟨33, RX1, TX1, 8, ⟨by decide +kernel, rfl⟩, rfl, by decide, rfl, by decide, Or.inl (tw_93)⟩
theorem x_E_copyFrom_90 : kt_cpw i_E_copyFrom 90 93 := ⟨37, ⟨by decide +kernel, rfl⟩, tw_210, by decide, by decide⟩
theorem x_E_copyFrom_93 : kt_dc i_E_copyFrom 93 (.aload_n 1) 1 94 := ⟨by decide +kernel, rfl⟩
theorem x_E_copyFrom_94 : kt_sG i_E_copyFrom 94 1 6 2 97 := ⟨27, RX1, TX1, 8, ⟨by decide +kernel, rfl⟩, rfl, by decide, rfl, by decide, Or.inl (tw_114)⟩
theorem x_E_copyFrom_97 : kt_dc i_E_copyFrom 97 (.iconst 0) 1 98 ∧ Int32.ofInt (0) = nI 0 := ⟨⟨by decide +kernel, rfl⟩, by decide⟩
theorem x_E_copyFrom_98 : kt_dc i_E_copyFrom 98 (.aload_n 0) 1 99 := ⟨by decide +kernel, rfl⟩
theorem x_E_copyFrom_99 : kt_sG i_E_copyFrom 99 1 6 2 102 := ⟨27, RX1, TX1, 8, ⟨by decide +kernel, rfl⟩, rfl, by decide, rfl, by decide, Or.inl (tw_114)⟩
theorem x_E_copyFrom_102 : kt_dc i_E_copyFrom 102 (.iconst 0) 1 103 ∧ Int32.ofInt (0) = nI 0 := ⟨⟨by decide +kernel, rfl⟩, by decide⟩
theorem x_E_copyFrom_103 : kt_dc i_E_copyFrom 103 (.aload_n 0) 1 104 := ⟨by decide +kernel, rfl⟩
theorem x_E_copyFrom_104 : kt_sG i_E_copyFrom 104 1 0 0 107 := ⟨33, RX1, TX1, 8, ⟨by decide +kernel, rfl⟩, rfl, by decide, rfl, by decide, Or.inl (tw_93)⟩
theorem x_E_copyFrom_107 : kt_cpw i_E_copyFrom 107 110 := ⟨37, ⟨by decide +kernel, rfl⟩, tw_210, by decide, by decide⟩
theorem x_E_copyFrom_110 : kt_dc i_E_copyFrom 110 (.aload_n 1) 1 111 := ⟨by decide +kernel, rfl⟩
theorem x_E_copyFrom_111 : kt_sG i_E_copyFrom 111 1 7 2 114 := ⟨30, RX1, TX1, 8, ⟨by decide +kernel, rfl⟩, rfl, by decide, rfl, by decide, Or.inl (tw_118)⟩
theorem x_E_copyFrom_114 : kt_dc i_E_copyFrom 114 (.iconst 0) 1 115 ∧ Int32.ofInt (0) = nI 0 := ⟨⟨by decide +kernel, rfl⟩, by decide⟩
theorem x_E_copyFrom_115 : kt_dc i_E_copyFrom 115 (.aload_n 0) 1 116 := ⟨by decide +kernel, rfl⟩
theorem x_E_copyFrom_116 : kt_sG i_E_copyFrom 116 1 7 2 119 := ⟨30, RX1, TX1, 8, ⟨by decide +kernel, rfl⟩, rfl, by decide, rfl, by decide, Or.inl (tw_118)⟩
theorem x_E_copyFrom_119 : kt_dc i_E_copyFrom 119 (.iconst 0) 1 120 ∧ Int32.ofInt (0) = nI 0 := ⟨⟨by decide +kernel, rfl⟩, by decide⟩
theorem x_E_copyFrom_120 : kt_dc i_E_copyFrom 120 (.aload_n 0) 1 121 := ⟨by decide +kernel, rfl⟩
theorem x_E_copyFrom_121 : kt_sG i_E_copyFrom 121 1 0 0 124 := ⟨33, RX1, TX1, 8, ⟨by decide +kernel, rfl⟩, rfl, by decide, rfl, by decide, Or.inl (tw_93)⟩
theorem x_E_copyFrom_124 : kt_cpw i_E_copyFrom 124 127 := ⟨37, ⟨by decide +kernel, rfl⟩, tw_210, by decide, by decide⟩
theorem x_E_copyFrom_127 : kt_dc i_E_copyFrom 127 (.return_) 1 128 ∧ kt_rt i_E_copyFrom = none := ⟨⟨by decide +kernel, rfl⟩, rfl⟩
theorem x_C_addTown_0 : kt_dc i_C_addTown 0 (.aload_n 0) 1 1 := ⟨by decide +kernel, rfl⟩
theorem x_C_addTown_1 : kt_sG i_C_addTown 1 0 2 0 4 := ⟨49, RX0, TX0, 11, ⟨by decide +kernel, rfl⟩, rfl, by decide, rfl, by decide, Or.inl (tw_142)⟩
theorem x_C_addTown_4 : kt_dc i_C_addTown 4 (.iconst 5) 1 5 ∧ Int32.ofInt (5) = nI 5 := ⟨⟨by decide +kernel, rfl⟩, by decide⟩
theorem x_C_addTown_5 : kt_sS i_C_addTown 5 i_K_isBelow 2 8 := ⟨65, ⟨by decide +kernel, rfl⟩, Or.inr ⟨"KinderTowns", tw_218⟩, j_K_isBelow, tw_219, rfl⟩
theorem c_C_addTown_5 {P : kt_P} {NM : Nat} {L : List (Option Value)} {rest : List Value} {N : Nat} {I : kt_I} {J : kt_J} {R : kt_R} {Q : Option Value → kt_I → kt_J → kt_R → Prop} {x0 : Int32} {x1 : Int32} (hrest : (rest.map fun v => v.category).sum ≤ 8) (kk : KW P i_K_isBelow N 0 [some (.int x0), some (.int x1)] [] N I J R (fun v I' J' R' => KW P i_C_addTown NM 8 L (kt_pu v rest) N I' J' R' Q)) : KW P i_C_addTown NM 5 L (.int x1 :: .int x0 :: rest) N I J R Q := kw_callS x_C_addTown_5 (As := [.int x0, .int x1]) rfl rfl (Nat.le_of_ble_eq_true rfl) hrest (Nat.le_refl N) (fun h => h) kk
theorem x_C_addTown_8 : kt_dj i_C_addTown 8 (.ifCond .ne) 14 11 := ⟨6, by decide +kernel, by decide, rfl⟩
theorem x_C_addTown_11 : kt_dc i_C_addTown 11 (.bipush (-3)) 2 13 ∧ (Int8.ofInt (-3)).toInt32 = (-3 : Int32) := ⟨⟨by decide +kernel, rfl⟩, by decide⟩
theorem x_C_addTown_13 : kt_dc i_C_addTown 13 (.ireturn) 1 14 ∧ kt_rt i_C_addTown = (some .int) := ⟨⟨by decide +kernel, rfl⟩, rfl⟩
theorem x_C_addTown_14 : kt_dc i_C_addTown 14 (.aload_n 0) 1 15 := ⟨by decide +kernel, rfl⟩
theorem x_C_addTown_15 : kt_dc i_C_addTown 15 (.dup) 1 16 := ⟨by decide +kernel, rfl⟩
theorem x_C_addTown_16 : kt_sG i_C_addTown 16 0 2 0 19 := ⟨49, RX0, TX0, 11, ⟨by decide +kernel, rfl⟩, rfl, by decide, rfl, by decide, Or.inl (tw_142)⟩
theorem x_C_addTown_19 : kt_dc i_C_addTown 19 (.iconst 1) 1 20 ∧ Int32.ofInt (1) = nI 1 := ⟨⟨by decide +kernel, rfl⟩, by decide⟩
theorem x_C_addTown_20 : kt_dc i_C_addTown 20 (.iadd) 1 21 := ⟨by decide +kernel, rfl⟩
theorem x_C_addTown_21 : kt_sP i_C_addTown 21 0 2 0 24 := ⟨49, RX0, TX0, 11, tyX0 2, ⟨by decide +kernel, rfl⟩, rfl, by decide, rfl, by decide, by decide +kernel, rfl, Or.inl ⟨rfl, Or.inl (tw_142)⟩⟩
theorem x_C_addTown_24 : kt_dc i_C_addTown 24 (.aload_n 0) 1 25 := ⟨by decide +kernel, rfl⟩
theorem x_C_addTown_25 : kt_sG i_C_addTown 25 0 2 0 28 := ⟨49, RX0, TX0, 11, ⟨by decide +kernel, rfl⟩, rfl, by decide, rfl, by decide, Or.inl (tw_142)⟩
theorem x_C_addTown_28 : kt_dc i_C_addTown 28 (.iconst 1) 1 29 ∧ Int32.ofInt (1) = nI 1 := ⟨⟨by decide +kernel, rfl⟩, by decide⟩
theorem x_C_addTown_29 : kt_dc i_C_addTown 29 (.isub) 1 30 := ⟨by decide +kernel, rfl⟩
theorem x_C_addTown_30 : kt_dc i_C_addTown 30 (.ireturn) 1 31 ∧ kt_rt i_C_addTown = (some .int) := ⟨⟨by decide +kernel, rfl⟩, rfl⟩
theorem x_C_thinkAnew_0 : kt_dc i_C_thinkAnew 0 (.iconst 0) 1 1 ∧ Int32.ofInt (0) = nI 0 := ⟨⟨by decide +kernel, rfl⟩, by decide⟩
theorem x_C_thinkAnew_1 : kt_dc i_C_thinkAnew 1 (.istore_n 1) 1 2 := ⟨by decide +kernel, rfl⟩
theorem x_C_thinkAnew_2 : kt_dc i_C_thinkAnew 2 (.iload_n 1) 1 3 := ⟨by decide +kernel, rfl⟩
theorem x_C_thinkAnew_3 : kt_dc i_C_thinkAnew 3 (.aload_n 0) 1 4 := ⟨by decide +kernel, rfl⟩
theorem x_C_thinkAnew_4 : kt_sG i_C_thinkAnew 4 0 2 0 7 := ⟨49, RX0, TX0, 11, ⟨by decide +kernel, rfl⟩, rfl, by decide, rfl, by decide, Or.inl (tw_142)⟩
theorem x_C_thinkAnew_7 : kt_dj i_C_thinkAnew 7 (.if_icmp .ge) 125 10 := ⟨118, by decide +kernel, by decide, rfl⟩
theorem x_C_thinkAnew_10 : kt_dc i_C_thinkAnew 10 (.aload_n 0) 1 11 := ⟨by decide +kernel, rfl⟩
theorem x_C_thinkAnew_11 : kt_sG i_C_thinkAnew 11 0 10 0 14 := ⟨56, RX0, TX0, 11, ⟨by decide +kernel, rfl⟩, rfl, by decide, rfl, by decide, Or.inl (tw_157)⟩
theorem x_C_thinkAnew_14 : kt_dc i_C_thinkAnew 14 (.aload_n 0) 1 15 := ⟨by decide +kernel, rfl⟩
theorem x_C_thinkAnew_15 : kt_sG i_C_thinkAnew 15 0 3 0 18 := ⟨53, RX0, TX0, 11, ⟨by decide +kernel, rfl⟩, rfl, by decide, rfl, by decide, Or.inl (tw_144)⟩
theorem x_C_thinkAnew_18 : kt_dj i_C_thinkAnew 18 (.if_icmp .ne) 37 21 := ⟨19, by decide +kernel, by decide, rfl⟩
theorem x_C_thinkAnew_21 : kt_dc i_C_thinkAnew 21 (.aload_n 0) 1 22 := ⟨by decide +kernel, rfl⟩
theorem x_C_thinkAnew_22 : kt_sG i_C_thinkAnew 22 0 9 2 25 := ⟨42, RX0, TX0, 11, ⟨by decide +kernel, rfl⟩, rfl, by decide, rfl, by decide, Or.inl (tw_156)⟩
theorem x_C_thinkAnew_25 : kt_dc i_C_thinkAnew 25 (.iload_n 1) 1 26 := ⟨by decide +kernel, rfl⟩
theorem x_C_thinkAnew_26 : kt_dc i_C_thinkAnew 26 (.laload) 1 27 := ⟨by decide +kernel, rfl⟩
theorem x_C_thinkAnew_27 : kt_dc i_C_thinkAnew 27 (.aload_n 0) 1 28 := ⟨by decide +kernel, rfl⟩
theorem x_C_thinkAnew_28 : kt_sG i_C_thinkAnew 28 0 5 2 31 := ⟨29, RX0, TX0, 11, ⟨by decide +kernel, rfl⟩, rfl, by decide, rfl, by decide, Or.inl (tw_148)⟩
theorem x_C_thinkAnew_31 : kt_dc i_C_thinkAnew 31 (.iload_n 1) 1 32 := ⟨by decide +kernel, rfl⟩
theorem x_C_thinkAnew_32 : kt_dc i_C_thinkAnew 32 (.laload) 1 33 := ⟨by decide +kernel, rfl⟩
theorem x_C_thinkAnew_33 : kt_dc i_C_thinkAnew 33 (.lcmp) 1 34 := ⟨by decide +kernel, rfl⟩
theorem x_C_thinkAnew_34 : kt_dj i_C_thinkAnew 34 (.ifCond .eq) 119 37 := ⟨85, by decide +kernel, by decide, rfl⟩
theorem x_C_thinkAnew_37 : kt_dc i_C_thinkAnew 37 (.aload_n 0) 1 38 := ⟨by decide +kernel, rfl⟩
theorem x_C_thinkAnew_38 : kt_sG i_C_thinkAnew 38 0 0 2 41 := ⟨12, RX0, TX0, 11, ⟨by decide +kernel, rfl⟩, rfl, by decide, rfl, by decide, Or.inl (tw_138)⟩
theorem x_C_thinkAnew_41 : kt_dc i_C_thinkAnew 41 (.aload_n 0) 1 42 := ⟨by decide +kernel, rfl⟩
theorem x_C_thinkAnew_42 : kt_sG i_C_thinkAnew 42 0 1 2 45 := ⟨21, RX0, TX0, 11, ⟨by decide +kernel, rfl⟩, rfl, by decide, rfl, by decide, Or.inl (tw_140)⟩
theorem x_C_thinkAnew_45 : kt_dc i_C_thinkAnew 45 (.aload_n 0) 1 46 := ⟨by decide +kernel, rfl⟩
theorem x_C_thinkAnew_46 : kt_sG i_C_thinkAnew 46 0 5 2 49 := ⟨29, RX0, TX0, 11, ⟨by decide +kernel, rfl⟩, rfl, by decide, rfl, by decide, Or.inl (tw_148)⟩
theorem x_C_thinkAnew_49 : kt_dc i_C_thinkAnew 49 (.iload_n 1) 1 50 := ⟨by decide +kernel, rfl⟩
theorem x_C_thinkAnew_50 : kt_dc i_C_thinkAnew 50 (.laload) 1 51 := ⟨by decide +kernel, rfl⟩
theorem x_C_thinkAnew_51 : kt_dc i_C_thinkAnew 51 (.aload_n 0) 1 52 := ⟨by decide +kernel, rfl⟩
theorem x_C_thinkAnew_52 : kt_sG i_C_thinkAnew 52 0 3 0 55 := ⟨53, RX0, TX0, 11, ⟨by decide +kernel, rfl⟩, rfl, by decide, rfl, by decide, Or.inl (tw_144)⟩
theorem x_C_thinkAnew_55 : kt_sV i_C_thinkAnew 55 i_L_lookAtAll 2 3 58 := ⟨120, ⟨by decide +kernel, rfl⟩, Or.inr ⟨"KinderTowns", tw_229⟩, j_L_lookAtAll, ⟨tw_231, tp_5⟩, ⟨TX2, 6, rfl⟩, by decide, rfl⟩
theorem c_C_thinkAnew_55 {P : kt_P} {NM : Nat} {L : List (Option Value)} {rest : List Value} {N : Nat} {I : kt_I} {J : kt_J} {R : kt_R} {Q : Option Value → kt_I → kt_J → kt_R → Prop} {b : Nat} {x0 : Nat} {x1 : Int64} {x2 : Int32} (hkd : kt_kd P N b = (2, 0)) (hrest : (rest.map fun v => v.category).sum ≤ 8) (kk : KW P i_L_lookAtAll N 0 [some (.ref b), some (.ref x0), some (.long x1), none, some (.int x2), none, none, none] [] N I J R (fun v I' J' R' => KW P i_C_thinkAnew NM 58 L (kt_pu v rest) N I' J' R' Q)) : KW P i_C_thinkAnew NM 55 L (.int x2 :: .long x1 :: .ref x0 :: .ref b :: rest) N I J R Q := kw_callV x_C_thinkAnew_55 (As := [.ref x0, .long x1, .int x2]) rfl rfl (Nat.le_of_ble_eq_true rfl) hrest hkd (Nat.le_refl N) (fun h => h) kk
theorem x_C_thinkAnew_58 : kt_dc i_C_thinkAnew 58 (.aload_n 0) 1 59 := ⟨by decide +kernel, rfl⟩
theorem x_C_thinkAnew_59 : kt_sG i_C_thinkAnew 59 0 8 2 62 := ⟨39, RX0, TX0, 11, ⟨by decide +kernel, rfl⟩, rfl, by decide, rfl, by decide, Or.inl (tw_154)⟩
theorem x_C_thinkAnew_62 : kt_dc i_C_thinkAnew 62 (.iload_n 1) 1 63 := ⟨by decide +kernel, rfl⟩
theorem x_C_thinkAnew_63 : kt_dc i_C_thinkAnew 63 (.dup2) 1 64 := ⟨by decide +kernel, rfl⟩
theorem x_C_thinkAnew_64 : kt_dc i_C_thinkAnew 64 (.laload) 1 65 := ⟨by decide +kernel, rfl⟩
theorem x_C_thinkAnew_65 : kt_dc i_C_thinkAnew 65 (.aload_n 0) 1 66 := ⟨by decide +kernel, rfl⟩
theorem x_C_thinkAnew_66 : kt_sG i_C_thinkAnew 66 0 6 2 69 := ⟨33, RX0, TX0, 11, ⟨by decide +kernel, rfl⟩, rfl, by decide, rfl, by decide, Or.inl (tw_150)⟩
theorem x_C_thinkAnew_69 : kt_dc i_C_thinkAnew 69 (.iload_n 1) 1 70 := ⟨by decide +kernel, rfl⟩
theorem x_C_thinkAnew_70 : kt_dc i_C_thinkAnew 70 (.laload) 1 71 := ⟨by decide +kernel, rfl⟩
theorem x_C_thinkAnew_71 : kt_dc i_C_thinkAnew 71 (.aload_n 0) 1 72 := ⟨by decide +kernel, rfl⟩
theorem x_C_thinkAnew_72 : kt_sG i_C_thinkAnew 72 0 0 2 75 := ⟨12, RX0, TX0, 11, ⟨by decide +kernel, rfl⟩, rfl, by decide, rfl, by decide, Or.inl (tw_138)⟩
theorem x_C_thinkAnew_75 : kt_sG i_C_thinkAnew 75 2 5 1 78 := ⟨124, RX2, TX2, 6, ⟨by decide +kernel, rfl⟩, rfl, by decide, rfl, by decide, Or.inr ⟨"KinderTowns", tw_73⟩⟩
theorem x_C_thinkAnew_78 : kt_dc i_C_thinkAnew 78 (.land) 1 79 := ⟨by decide +kernel, rfl⟩
theorem x_C_thinkAnew_79 : kt_dc i_C_thinkAnew 79 (.lor) 1 80 := ⟨by decide +kernel, rfl⟩
theorem x_C_thinkAnew_80 : kt_dc i_C_thinkAnew 80 (.lastore) 1 81 := ⟨by decide +kernel, rfl⟩
theorem x_C_thinkAnew_81 : kt_dc i_C_thinkAnew 81 (.aload_n 0) 1 82 := ⟨by decide +kernel, rfl⟩
theorem x_C_thinkAnew_82 : kt_sG i_C_thinkAnew 82 0 6 2 85 := ⟨33, RX0, TX0, 11, ⟨by decide +kernel, rfl⟩, rfl, by decide, rfl, by decide, Or.inl (tw_150)⟩
theorem x_C_thinkAnew_85 : kt_dc i_C_thinkAnew 85 (.iload_n 1) 1 86 := ⟨by decide +kernel, rfl⟩
theorem x_C_thinkAnew_86 : kt_dc i_C_thinkAnew 86 (.aload_n 0) 1 87 := ⟨by decide +kernel, rfl⟩
theorem x_C_thinkAnew_87 : kt_sG i_C_thinkAnew 87 0 0 2 90 := ⟨12, RX0, TX0, 11, ⟨by decide +kernel, rfl⟩, rfl, by decide, rfl, by decide, Or.inl (tw_138)⟩
theorem x_C_thinkAnew_90 : kt_sG i_C_thinkAnew 90 2 4 1 93 := ⟨127, RX2, TX2, 6, ⟨by decide +kernel, rfl⟩, rfl, by decide, rfl, by decide, Or.inr ⟨"KinderTowns", tw_70⟩⟩
theorem x_C_thinkAnew_93 : kt_dc i_C_thinkAnew 93 (.lastore) 1 94 := ⟨by decide +kernel, rfl⟩
theorem x_C_thinkAnew_94 : kt_dc i_C_thinkAnew 94 (.aload_n 0) 1 95 := ⟨by decide +kernel, rfl⟩
theorem x_C_thinkAnew_95 : kt_sG i_C_thinkAnew 95 0 7 2 98 := ⟨36, RX0, TX0, 11, ⟨by decide +kernel, rfl⟩, rfl, by decide, rfl, by decide, Or.inl (tw_152)⟩
theorem x_C_thinkAnew_98 : kt_dc i_C_thinkAnew 98 (.iload_n 1) 1 99 := ⟨by decide +kernel, rfl⟩
theorem x_C_thinkAnew_99 : kt_dc i_C_thinkAnew 99 (.aload_n 0) 1 100 := ⟨by decide +kernel, rfl⟩
theorem x_C_thinkAnew_100 : kt_sG i_C_thinkAnew 100 0 0 2 103 := ⟨12, RX0, TX0, 11, ⟨by decide +kernel, rfl⟩, rfl, by decide, rfl, by decide, Or.inl (tw_138)⟩
theorem x_C_thinkAnew_103 : kt_sG i_C_thinkAnew 103 2 5 1 106 := ⟨124, RX2, TX2, 6, ⟨by decide +kernel, rfl⟩, rfl, by decide, rfl, by decide, Or.inr ⟨"KinderTowns", tw_73⟩⟩
theorem x_C_thinkAnew_106 : kt_dc i_C_thinkAnew 106 (.lastore) 1 107 := ⟨by decide +kernel, rfl⟩
theorem x_C_thinkAnew_107 : kt_dc i_C_thinkAnew 107 (.aload_n 0) 1 108 := ⟨by decide +kernel, rfl⟩
theorem x_C_thinkAnew_108 : kt_sG i_C_thinkAnew 108 0 9 2 111 := ⟨42, RX0, TX0, 11, ⟨by decide +kernel, rfl⟩, rfl, by decide, rfl, by decide, Or.inl (tw_156)⟩
theorem x_C_thinkAnew_111 : kt_dc i_C_thinkAnew 111 (.iload_n 1) 1 112 := ⟨by decide +kernel, rfl⟩
theorem x_C_thinkAnew_112 : kt_dc i_C_thinkAnew 112 (.aload_n 0) 1 113 := ⟨by decide +kernel, rfl⟩
theorem x_C_thinkAnew_113 : kt_sG i_C_thinkAnew 113 0 5 2 116 := ⟨29, RX0, TX0, 11, ⟨by decide +kernel, rfl⟩, rfl, by decide, rfl, by decide, Or.inl (tw_148)⟩
theorem x_C_thinkAnew_116 : kt_dc i_C_thinkAnew 116 (.iload_n 1) 1 117 := ⟨by decide +kernel, rfl⟩
theorem x_C_thinkAnew_117 : kt_dc i_C_thinkAnew 117 (.laload) 1 118 := ⟨by decide +kernel, rfl⟩
theorem x_C_thinkAnew_118 : kt_dc i_C_thinkAnew 118 (.lastore) 1 119 := ⟨by decide +kernel, rfl⟩
theorem x_C_thinkAnew_119 : kt_dc i_C_thinkAnew 119 (.iinc 1 1) 3 122 ∧ Int32.ofInt (1) = nI 1 := ⟨⟨by decide +kernel, rfl⟩, by decide⟩
theorem x_C_thinkAnew_122 : kt_dj i_C_thinkAnew 122 .goto 2 125 := ⟨-120, by decide +kernel, by decide, rfl⟩
theorem x_C_thinkAnew_125 : kt_dc i_C_thinkAnew 125 (.aload_n 0) 1 126 := ⟨by decide +kernel, rfl⟩
theorem x_C_thinkAnew_126 : kt_dc i_C_thinkAnew 126 (.aload_n 0) 1 127 := ⟨by decide +kernel, rfl⟩
theorem x_C_thinkAnew_127 : kt_sG i_C_thinkAnew 127 0 3 0 130 := ⟨53, RX0, TX0, 11, ⟨by decide +kernel, rfl⟩, rfl, by decide, rfl, by decide, Or.inl (tw_144)⟩
theorem x_C_thinkAnew_130 : kt_sP i_C_thinkAnew 130 0 10 0 133 := ⟨56, RX0, TX0, 11, tyX0 10, ⟨by decide +kernel, rfl⟩, rfl, by decide, rfl, by decide, by decide +kernel, rfl, Or.inl ⟨rfl, Or.inl (tw_157)⟩⟩
theorem x_C_thinkAnew_133 : kt_dc i_C_thinkAnew 133 (.return_) 1 134 ∧ kt_rt i_C_thinkAnew = none := ⟨⟨by decide +kernel, rfl⟩, rfl⟩
theorem x_L_lookAtAll_0 : kt_dc i_L_lookAtAll 0 (.aload_n 0) 1 1 := ⟨by decide +kernel, rfl⟩
theorem x_L_lookAtAll_1 : kt_dc i_L_lookAtAll 1 (.lconst 0) 1 2 ∧ Int64.ofNat ((0 : Fin 2) : Nat) = (0 : Int64) := ⟨⟨by decide +kernel, rfl⟩, rfl⟩
theorem x_L_lookAtAll_2 : kt_sP i_L_lookAtAll 2 2 4 1 5 := ⟨18, RX2, TX2, 6, tyX2 4, ⟨by decide +kernel, rfl⟩, rfl, by decide, rfl, by decide, by decide +kernel, rfl, Or.inl ⟨rfl, Or.inl (tw_69)⟩⟩
theorem x_L_lookAtAll_5 : kt_dc i_L_lookAtAll 5 (.aload_n 0) 1 6 := ⟨by decide +kernel, rfl⟩
theorem x_L_lookAtAll_6 : kt_dc i_L_lookAtAll 6 (.lconst 0) 1 7 ∧ Int64.ofNat ((0 : Fin 2) : Nat) = (0 : Int64) := ⟨⟨by decide +kernel, rfl⟩, rfl⟩
theorem x_L_lookAtAll_7 : kt_sP i_L_lookAtAll 7 2 5 1 10 := ⟨22, RX2, TX2, 6, tyX2 5, ⟨by decide +kernel, rfl⟩, rfl, by decide, rfl, by decide, by decide +kernel, rfl, Or.inl ⟨rfl, Or.inl (tw_72)⟩⟩
theorem x_L_lookAtAll_10 : kt_dc i_L_lookAtAll 10 (.aload_n 1) 1 11 := ⟨by decide +kernel, rfl⟩
theorem x_L_lookAtAll_11 : kt_dc i_L_lookAtAll 11 (.lload_n 2) 1 12 := ⟨by decide +kernel, rfl⟩
theorem x_L_lookAtAll_12 : kt_sV i_L_lookAtAll 12 i_E_standingIn 1 1 15 := ⟨25, ⟨by decide +kernel, rfl⟩, Or.inr ⟨"KinderTowns", tw_233⟩, j_E_standingIn, ⟨tw_235, tp_6⟩, ⟨TX1, 8, rfl⟩, by decide, rfl⟩
theorem c_L_lookAtAll_12 {P : kt_P} {NM : Nat} {L : List (Option Value)} {rest : List Value} {N : Nat} {I : kt_I} {J : kt_J} {R : kt_R} {Q : Option Value → kt_I → kt_J → kt_R → Prop} {b : Nat} {x0 : Int64} (hkd : kt_kd P N b = (1, 0)) (hrest : (rest.map fun v => v.category).sum ≤ 8) (kk : KW P i_E_standingIn N 0 [some (.ref b), some (.long x0), none] [] N I J R (fun v I' J' R' => KW P i_L_lookAtAll NM 15 L (kt_pu v rest) N I' J' R' Q)) : KW P i_L_lookAtAll NM 12 L (.long x0 :: .ref b :: rest) N I J R Q := kw_callV x_L_lookAtAll_12 (As := [.long x0]) rfl rfl (Nat.le_of_ble_eq_true rfl) hrest hkd (Nat.le_refl N) (fun h => h) kk
theorem x_L_lookAtAll_15 : kt_dc i_L_lookAtAll 15 (.lstore 5) 2 17 := ⟨by decide +kernel, rfl⟩
theorem x_L_lookAtAll_17 : kt_dc i_L_lookAtAll 17 (.iconst 0) 1 18 ∧ Int32.ofInt (0) = nI 0 := ⟨⟨by decide +kernel, rfl⟩, by decide⟩
theorem x_L_lookAtAll_18 : kt_dc i_L_lookAtAll 18 (.istore 7) 2 20 := ⟨by decide +kernel, rfl⟩
theorem x_L_lookAtAll_20 : kt_dc i_L_lookAtAll 20 (.iload 7) 2 22 := ⟨by decide +kernel, rfl⟩
theorem x_L_lookAtAll_22 : kt_dc i_L_lookAtAll 22 (.bipush 6) 2 24 ∧ (Int8.ofInt (6)).toInt32 = nI 6 := ⟨⟨by decide +kernel, rfl⟩, by decide⟩
theorem x_L_lookAtAll_24 : kt_dj i_L_lookAtAll 24 (.if_icmp .ge) 44 27 := ⟨20, by decide +kernel, by decide, rfl⟩
theorem x_L_lookAtAll_27 : kt_dc i_L_lookAtAll 27 (.aload_n 0) 1 28 := ⟨by decide +kernel, rfl⟩
theorem x_L_lookAtAll_28 : kt_dc i_L_lookAtAll 28 (.aload_n 1) 1 29 := ⟨by decide +kernel, rfl⟩
theorem x_L_lookAtAll_29 : kt_dc i_L_lookAtAll 29 (.lload 5) 2 31 := ⟨by decide +kernel, rfl⟩
theorem x_L_lookAtAll_31 : kt_dc i_L_lookAtAll 31 (.iload 4) 2 33 := ⟨by decide +kernel, rfl⟩
theorem x_L_lookAtAll_33 : kt_dc i_L_lookAtAll 33 (.iload 7) 2 35 := ⟨by decide +kernel, rfl⟩
theorem x_L_lookAtAll_35 : kt_sV i_L_lookAtAll 35 i_L_lookAtGood 2 4 38 := ⟨31, ⟨by decide +kernel, rfl⟩, Or.inl (tw_245), j_L_lookAtGood, ⟨tw_247, tp_8⟩, ⟨TX2, 6, rfl⟩, by decide, rfl⟩
theorem c_L_lookAtAll_35 {P : kt_P} {NM : Nat} {L : List (Option Value)} {rest : List Value} {N : Nat} {I : kt_I} {J : kt_J} {R : kt_R} {Q : Option Value → kt_I → kt_J → kt_R → Prop} {b : Nat} {x0 : Nat} {x1 : Int64} {x2 : Int32} {x3 : Int32} (hkd : kt_kd P N b = (2, 0)) (hrest : (rest.map fun v => v.category).sum ≤ 8) (kk : KW P i_L_lookAtGood N 0 [some (.ref b), some (.ref x0), some (.long x1), none, some (.int x2), some (.int x3), none, none, none] [] N I J R (fun v I' J' R' => KW P i_L_lookAtAll NM 38 L (kt_pu v rest) N I' J' R' Q)) : KW P i_L_lookAtAll NM 35 L (.int x3 :: .int x2 :: .long x1 :: .ref x0 :: .ref b :: rest) N I J R Q := kw_callV x_L_lookAtAll_35 (As := [.ref x0, .long x1, .int x2, .int x3]) rfl rfl (Nat.le_of_ble_eq_true rfl) hrest hkd (Nat.le_refl N) (fun h => h) kk
theorem x_L_lookAtAll_38 : kt_dc i_L_lookAtAll 38 (.iinc 7 1) 3 41 ∧ Int32.ofInt (1) = nI 1 := ⟨⟨by decide +kernel, rfl⟩, by decide⟩
theorem x_L_lookAtAll_41 : kt_dj i_L_lookAtAll 41 .goto 20 44 := ⟨-21, by decide +kernel, by decide, rfl⟩
theorem x_L_lookAtAll_44 : kt_dc i_L_lookAtAll 44 (.return_) 1 45 ∧ kt_rt i_L_lookAtAll = none := ⟨⟨by decide +kernel, rfl⟩, rfl⟩
theorem x_E_standingIn_0 : kt_dc i_E_standingIn 0 (.lload_n 1) 1 1 := ⟨by decide +kernel, rfl⟩
theorem x_E_standingIn_1 : kt_dc i_E_standingIn 1 (.aload_n 0) 1 2 := ⟨by decide +kernel, rfl⟩
theorem x_E_standingIn_2 : kt_dc i_E_standingIn 2 (.lload_n 1) 1 3 := ⟨by decide +kernel, rfl⟩
theorem x_E_standingIn_3 : kt_sV i_E_standingIn 3 i_E_cancelledIn 1 1 6 := ⟨51, ⟨by decide +kernel, rfl⟩, Or.inl (tw_237), j_E_cancelledIn, ⟨tw_239, tp_7⟩, ⟨TX1, 8, rfl⟩, by decide, rfl⟩
theorem c_E_standingIn_3 {P : kt_P} {NM : Nat} {L : List (Option Value)} {rest : List Value} {N : Nat} {I : kt_I} {J : kt_J} {R : kt_R} {Q : Option Value → kt_I → kt_J → kt_R → Prop} {b : Nat} {x0 : Int64} (hkd : kt_kd P N b = (1, 0)) (hrest : (rest.map fun v => v.category).sum ≤ 8) (kk : KW P i_E_cancelledIn N 0 [some (.ref b), some (.long x0), none, none, none, none] [] N I J R (fun v I' J' R' => KW P i_E_standingIn NM 6 L (kt_pu v rest) N I' J' R' Q)) : KW P i_E_standingIn NM 3 L (.long x0 :: .ref b :: rest) N I J R Q := kw_callV x_E_standingIn_3 (As := [.long x0]) rfl rfl (Nat.le_of_ble_eq_true rfl) hrest hkd (Nat.le_refl N) (fun h => h) kk
theorem x_E_standingIn_6 : kt_dc i_E_standingIn 6 (.ldc2_w 55) 3 9 ∧ Cond.constantLong (kt_ow i_E_standingIn) 55 (-1) ∈ kt_GW := ⟨⟨by decide +kernel, rfl⟩, tw_244⟩
theorem x_E_standingIn_9 : kt_dc i_E_standingIn 9 (.lxor) 1 10 := ⟨by decide +kernel, rfl⟩
theorem x_E_standingIn_10 : kt_dc i_E_standingIn 10 (.land) 1 11 := ⟨by decide +kernel, rfl⟩
theorem x_E_standingIn_11 : kt_dc i_E_standingIn 11 (.lreturn) 1 12 ∧ kt_rt i_E_standingIn = (some .long) := ⟨⟨by decide +kernel, rfl⟩, rfl⟩
theorem x_E_cancelledIn_0 : kt_dc i_E_cancelledIn 0 (.lconst 0) 1 1 ∧ Int64.ofNat ((0 : Fin 2) : Nat) = (0 : Int64) := ⟨⟨by decide +kernel, rfl⟩, rfl⟩
theorem x_E_cancelledIn_1 : kt_dc i_E_cancelledIn 1 (.lstore_n 3) 1 2 := ⟨by decide +kernel, rfl⟩
theorem x_E_cancelledIn_2 : kt_dc i_E_cancelledIn 2 (.iconst 0) 1 3 ∧ Int32.ofInt (0) = nI 0 := ⟨⟨by decide +kernel, rfl⟩, by decide⟩
theorem x_E_cancelledIn_3 : kt_dc i_E_cancelledIn 3 (.istore 5) 2 5 := ⟨by decide +kernel, rfl⟩
theorem x_E_cancelledIn_5 : kt_dc i_E_cancelledIn 5 (.iload 5) 2 7 := ⟨by decide +kernel, rfl⟩
theorem x_E_cancelledIn_7 : kt_dc i_E_cancelledIn 7 (.aload_n 0) 1 8 := ⟨by decide +kernel, rfl⟩
theorem x_E_cancelledIn_8 : kt_sG i_E_cancelledIn 8 1 0 0 11 := ⟨33, RX1, TX1, 8, ⟨by decide +kernel, rfl⟩, rfl, by decide, rfl, by decide, Or.inl (tw_93)⟩
theorem x_E_cancelledIn_11 : kt_dj i_E_cancelledIn 11 (.if_icmp .ge) 52 14 := ⟨41, by decide +kernel, by decide, rfl⟩
theorem x_E_cancelledIn_14 : kt_dc i_E_cancelledIn 14 (.lload_n 1) 1 15 := ⟨by decide +kernel, rfl⟩
theorem x_E_cancelledIn_15 : kt_dc i_E_cancelledIn 15 (.iload 5) 2 17 := ⟨by decide +kernel, rfl⟩
theorem x_E_cancelledIn_17 : kt_sS i_E_cancelledIn 17 i_K_has 2 20 := ⟨47, ⟨by decide +kernel, rfl⟩, Or.inr ⟨"KinderTowns", tw_241⟩, j_K_has, tw_242, rfl⟩
theorem c_E_cancelledIn_17 {P : kt_P} {NM : Nat} {L : List (Option Value)} {rest : List Value} {N : Nat} {I : kt_I} {J : kt_J} {R : kt_R} {Q : Option Value → kt_I → kt_J → kt_R → Prop} {x0 : Int64} {x1 : Int32} (hrest : (rest.map fun v => v.category).sum ≤ 8) (kk : KW P i_K_has N 0 [some (.long x0), none, some (.int x1)] [] N I J R (fun v I' J' R' => KW P i_E_cancelledIn NM 20 L (kt_pu v rest) N I' J' R' Q)) : KW P i_E_cancelledIn NM 17 L (.int x1 :: .long x0 :: rest) N I J R Q := kw_callS x_E_cancelledIn_17 (As := [.long x0, .int x1]) rfl rfl (Nat.le_of_ble_eq_true rfl) hrest (Nat.le_refl N) (fun h => h) kk
theorem x_E_cancelledIn_20 : kt_dj i_E_cancelledIn 20 (.ifCond .eq) 46 23 := ⟨26, by decide +kernel, by decide, rfl⟩
theorem x_E_cancelledIn_23 : kt_dc i_E_cancelledIn 23 (.aload_n 0) 1 24 := ⟨by decide +kernel, rfl⟩
theorem x_E_cancelledIn_24 : kt_sG i_E_cancelledIn 24 1 1 2 27 := ⟨9, RX1, TX1, 8, ⟨by decide +kernel, rfl⟩, rfl, by decide, rfl, by decide, Or.inl (tw_97)⟩
theorem x_E_cancelledIn_27 : kt_dc i_E_cancelledIn 27 (.iload 5) 2 29 := ⟨by decide +kernel, rfl⟩
theorem x_E_cancelledIn_29 : kt_dc i_E_cancelledIn 29 (.iaload) 1 30 := ⟨by decide +kernel, rfl⟩
theorem x_E_cancelledIn_30 : kt_dc i_E_cancelledIn 30 (.iconst 2) 1 31 ∧ Int32.ofInt (2) = nI 2 := ⟨⟨by decide +kernel, rfl⟩, by decide⟩
theorem x_E_cancelledIn_31 : kt_dj i_E_cancelledIn 31 (.if_icmp .ne) 46 34 := ⟨15, by decide +kernel, by decide, rfl⟩
theorem x_E_cancelledIn_34 : kt_dc i_E_cancelledIn 34 (.lload_n 3) 1 35 := ⟨by decide +kernel, rfl⟩
theorem x_E_cancelledIn_35 : kt_dc i_E_cancelledIn 35 (.lconst 1) 1 36 ∧ Int64.ofNat ((1 : Fin 2) : Nat) = (1 : Int64) := ⟨⟨by decide +kernel, rfl⟩, rfl⟩
theorem x_E_cancelledIn_36 : kt_dc i_E_cancelledIn 36 (.aload_n 0) 1 37 := ⟨by decide +kernel, rfl⟩
theorem x_E_cancelledIn_37 : kt_sG i_E_cancelledIn 37 1 7 2 40 := ⟨30, RX1, TX1, 8, ⟨by decide +kernel, rfl⟩, rfl, by decide, rfl, by decide, Or.inl (tw_118)⟩
theorem x_E_cancelledIn_40 : kt_dc i_E_cancelledIn 40 (.iload 5) 2 42 := ⟨by decide +kernel, rfl⟩
theorem x_E_cancelledIn_42 : kt_dc i_E_cancelledIn 42 (.iaload) 1 43 := ⟨by decide +kernel, rfl⟩
theorem x_E_cancelledIn_43 : kt_dc i_E_cancelledIn 43 (.lshl) 1 44 := ⟨by decide +kernel, rfl⟩
theorem x_E_cancelledIn_44 : kt_dc i_E_cancelledIn 44 (.lor) 1 45 := ⟨by decide +kernel, rfl⟩
theorem x_E_cancelledIn_45 : kt_dc i_E_cancelledIn 45 (.lstore_n 3) 1 46 := ⟨by decide +kernel, rfl⟩
theorem x_E_cancelledIn_46 : kt_dc i_E_cancelledIn 46 (.iinc 5 1) 3 49 ∧ Int32.ofInt (1) = nI 1 := ⟨⟨by decide +kernel, rfl⟩, by decide⟩
theorem x_E_cancelledIn_49 : kt_dj i_E_cancelledIn 49 .goto 5 52 := ⟨-44, by decide +kernel, by decide, rfl⟩
theorem x_E_cancelledIn_52 : kt_dc i_E_cancelledIn 52 (.lload_n 3) 1 53 := ⟨by decide +kernel, rfl⟩
theorem x_E_cancelledIn_53 : kt_dc i_E_cancelledIn 53 (.lreturn) 1 54 ∧ kt_rt i_E_cancelledIn = (some .long) := ⟨⟨by decide +kernel, rfl⟩, rfl⟩
theorem x_L_lookAtGood_0 : kt_dc i_L_lookAtGood 0 (.aload_n 0) 1 1 := ⟨by decide +kernel, rfl⟩
theorem x_L_lookAtGood_1 : kt_dc i_L_lookAtGood 1 (.aload_n 1) 1 2 := ⟨by decide +kernel, rfl⟩
theorem x_L_lookAtGood_2 : kt_dc i_L_lookAtGood 2 (.lload_n 2) 1 3 := ⟨by decide +kernel, rfl⟩
theorem x_L_lookAtGood_3 : kt_dc i_L_lookAtGood 3 (.iload 5) 2 5 := ⟨by decide +kernel, rfl⟩
theorem x_L_lookAtGood_5 : kt_sV i_L_lookAtGood 5 i_L_gather 2 3 8 := ⟨35, ⟨by decide +kernel, rfl⟩, Or.inl (tw_249), j_L_gather, ⟨tw_251, tp_9⟩, ⟨TX2, 6, rfl⟩, by decide, rfl⟩
theorem c_L_lookAtGood_5 {P : kt_P} {NM : Nat} {L : List (Option Value)} {rest : List Value} {N : Nat} {I : kt_I} {J : kt_J} {R : kt_R} {Q : Option Value → kt_I → kt_J → kt_R → Prop} {b : Nat} {x0 : Nat} {x1 : Int64} {x2 : Int32} (hkd : kt_kd P N b = (2, 0)) (hrest : (rest.map fun v => v.category).sum ≤ 8) (kk : KW P i_L_gather N 0 [some (.ref b), some (.ref x0), some (.long x1), none, some (.int x2), none] [] N I J R (fun v I' J' R' => KW P i_L_lookAtGood NM 8 L (kt_pu v rest) N I' J' R' Q)) : KW P i_L_lookAtGood NM 5 L (.int x2 :: .long x1 :: .ref x0 :: .ref b :: rest) N I J R Q := kw_callV x_L_lookAtGood_5 (As := [.ref x0, .long x1, .int x2]) rfl rfl (Nat.le_of_ble_eq_true rfl) hrest hkd (Nat.le_refl N) (fun h => h) kk
theorem x_L_lookAtGood_8 : kt_dc i_L_lookAtGood 8 (.aload_n 0) 1 9 := ⟨by decide +kernel, rfl⟩
theorem x_L_lookAtGood_9 : kt_sG i_L_lookAtGood 9 2 3 2 12 := ⟨15, RX2, TX2, 6, ⟨by decide +kernel, rfl⟩, rfl, by decide, rfl, by decide, Or.inl (tw_68)⟩
theorem x_L_lookAtGood_12 : kt_dc i_L_lookAtGood 12 (.iconst 0) 1 13 ∧ Int32.ofInt (0) = nI 0 := ⟨⟨by decide +kernel, rfl⟩, by decide⟩
theorem x_L_lookAtGood_13 : kt_sS i_L_lookAtGood 13 i_J_fill 2 16 := ⟨39, ⟨by decide +kernel, rfl⟩, Or.inl (tw_254), j_J_fill, tw_255, rfl⟩
theorem c_L_lookAtGood_13 {P : kt_P} {NM : Nat} {L : List (Option Value)} {rest : List Value} {N : Nat} {I : kt_I} {J : kt_J} {R : kt_R} {Q : Option Value → kt_I → kt_J → kt_R → Prop} {x0 : Nat} {x1 : Int32} (hrest : (rest.map fun v => v.category).sum ≤ 8) (kk : KW P i_J_fill N 0 [some (.ref x0), some (.int x1), none, none] [] N I J R (fun v I' J' R' => KW P i_L_lookAtGood NM 16 L (kt_pu v rest) N I' J' R' Q)) : KW P i_L_lookAtGood NM 13 L (.int x1 :: .ref x0 :: rest) N I J R Q := kw_callS x_L_lookAtGood_13 (As := [.ref x0, .int x1]) rfl rfl (Nat.le_of_ble_eq_true rfl) hrest (Nat.le_refl N) (fun h => h) kk
theorem x_L_lookAtGood_16 : kt_dc i_L_lookAtGood 16 (.iconst 0) 1 17 ∧ Int32.ofInt (0) = nI 0 := ⟨⟨by decide +kernel, rfl⟩, by decide⟩
theorem x_L_lookAtGood_17 : kt_dc i_L_lookAtGood 17 (.istore 6) 2 19 := ⟨by decide +kernel, rfl⟩
theorem x_L_lookAtGood_19 : kt_dc i_L_lookAtGood 19 (.iload 6) 2 21 := ⟨by decide +kernel, rfl⟩
theorem x_L_lookAtGood_21 : kt_dc i_L_lookAtGood 21 (.aload_n 0) 1 22 := ⟨by decide +kernel, rfl⟩
theorem x_L_lookAtGood_22 : kt_sG i_L_lookAtGood 22 2 1 0 25 := ⟨45, RX2, TX2, 6, ⟨by decide +kernel, rfl⟩, rfl, by decide, rfl, by decide, Or.inl (tw_65)⟩
theorem x_L_lookAtGood_25 : kt_dj i_L_lookAtGood 25 (.if_icmp .ge) 97 28 := ⟨72, by decide +kernel, by decide, rfl⟩
theorem x_L_lookAtGood_28 : kt_dc i_L_lookAtGood 28 (.aload_n 0) 1 29 := ⟨by decide +kernel, rfl⟩
theorem x_L_lookAtGood_29 : kt_dc i_L_lookAtGood 29 (.aload_n 1) 1 30 := ⟨by decide +kernel, rfl⟩
theorem x_L_lookAtGood_30 : kt_dc i_L_lookAtGood 30 (.iload 4) 2 32 := ⟨by decide +kernel, rfl⟩
theorem x_L_lookAtGood_32 : kt_dc i_L_lookAtGood 32 (.iload 6) 2 34 := ⟨by decide +kernel, rfl⟩
theorem x_L_lookAtGood_34 : kt_sV i_L_lookAtGood 34 i_L_nextPlace 2 3 37 := ⟨49, ⟨by decide +kernel, rfl⟩, Or.inl (tw_257), j_L_nextPlace, ⟨tw_259, tp_10⟩, ⟨TX2, 6, rfl⟩, by decide, rfl⟩
theorem c_L_lookAtGood_34 {P : kt_P} {NM : Nat} {L : List (Option Value)} {rest : List Value} {N : Nat} {I : kt_I} {J : kt_J} {R : kt_R} {Q : Option Value → kt_I → kt_J → kt_R → Prop} {b : Nat} {x0 : Nat} {x1 : Int32} {x2 : Int32} (hkd : kt_kd P N b = (2, 0)) (hrest : (rest.map fun v => v.category).sum ≤ 8) (kk : KW P i_L_nextPlace N 0 [some (.ref b), some (.ref x0), some (.int x1), some (.int x2), none, none, none, none] [] N I J R (fun v I' J' R' => KW P i_L_lookAtGood NM 37 L (kt_pu v rest) N I' J' R' Q)) : KW P i_L_lookAtGood NM 34 L (.int x2 :: .int x1 :: .ref x0 :: .ref b :: rest) N I J R Q := kw_callV x_L_lookAtGood_34 (As := [.ref x0, .int x1, .int x2]) rfl rfl (Nat.le_of_ble_eq_true rfl) hrest hkd (Nat.le_refl N) (fun h => h) kk
theorem x_L_lookAtGood_37 : kt_dc i_L_lookAtGood 37 (.istore 7) 2 39 := ⟨by decide +kernel, rfl⟩
theorem x_L_lookAtGood_39 : kt_dc i_L_lookAtGood 39 (.aload_n 0) 1 40 := ⟨by decide +kernel, rfl⟩
theorem x_L_lookAtGood_40 : kt_sG i_L_lookAtGood 40 2 0 2 43 := ⟨9, RX2, TX2, 6, ⟨by decide +kernel, rfl⟩, rfl, by decide, rfl, by decide, Or.inl (tw_63)⟩
theorem x_L_lookAtGood_43 : kt_dc i_L_lookAtGood 43 (.iload 7) 2 45 := ⟨by decide +kernel, rfl⟩
theorem x_L_lookAtGood_45 : kt_dc i_L_lookAtGood 45 (.iaload) 1 46 := ⟨by decide +kernel, rfl⟩
theorem x_L_lookAtGood_46 : kt_dc i_L_lookAtGood 46 (.istore 8) 2 48 := ⟨by decide +kernel, rfl⟩
theorem x_L_lookAtGood_48 : kt_dc i_L_lookAtGood 48 (.aload_n 0) 1 49 := ⟨by decide +kernel, rfl⟩
theorem x_L_lookAtGood_49 : kt_sG i_L_lookAtGood 49 2 0 2 52 := ⟨9, RX2, TX2, 6, ⟨by decide +kernel, rfl⟩, rfl, by decide, rfl, by decide, Or.inl (tw_63)⟩
theorem x_L_lookAtGood_52 : kt_dc i_L_lookAtGood 52 (.iload 7) 2 54 := ⟨by decide +kernel, rfl⟩
theorem x_L_lookAtGood_54 : kt_dc i_L_lookAtGood 54 (.aload_n 0) 1 55 := ⟨by decide +kernel, rfl⟩
theorem x_L_lookAtGood_55 : kt_sG i_L_lookAtGood 55 2 0 2 58 := ⟨9, RX2, TX2, 6, ⟨by decide +kernel, rfl⟩, rfl, by decide, rfl, by decide, Or.inl (tw_63)⟩
theorem x_L_lookAtGood_58 : kt_dc i_L_lookAtGood 58 (.iload 6) 2 60 := ⟨by decide +kernel, rfl⟩
theorem x_L_lookAtGood_60 : kt_dc i_L_lookAtGood 60 (.iaload) 1 61 := ⟨by decide +kernel, rfl⟩
theorem x_L_lookAtGood_61 : kt_dc i_L_lookAtGood 61 (.iastore) 1 62 := ⟨by decide +kernel, rfl⟩
theorem x_L_lookAtGood_62 : kt_dc i_L_lookAtGood 62 (.aload_n 0) 1 63 := ⟨by decide +kernel, rfl⟩
theorem x_L_lookAtGood_63 : kt_sG i_L_lookAtGood 63 2 0 2 66 := ⟨9, RX2, TX2, 6, ⟨by decide +kernel, rfl⟩, rfl, by decide, rfl, by decide, Or.inl (tw_63)⟩
theorem x_L_lookAtGood_66 : kt_dc i_L_lookAtGood 66 (.iload 6) 2 68 := ⟨by decide +kernel, rfl⟩
theorem x_L_lookAtGood_68 : kt_dc i_L_lookAtGood 68 (.iload 8) 2 70 := ⟨by decide +kernel, rfl⟩
theorem x_L_lookAtGood_70 : kt_dc i_L_lookAtGood 70 (.iastore) 1 71 := ⟨by decide +kernel, rfl⟩
theorem x_L_lookAtGood_71 : kt_dc i_L_lookAtGood 71 (.aload_n 0) 1 72 := ⟨by decide +kernel, rfl⟩
theorem x_L_lookAtGood_72 : kt_dc i_L_lookAtGood 72 (.iload 8) 2 74 := ⟨by decide +kernel, rfl⟩
theorem x_L_lookAtGood_74 : kt_dc i_L_lookAtGood 74 (.aload_n 1) 1 75 := ⟨by decide +kernel, rfl⟩
theorem x_L_lookAtGood_75 : kt_sG i_L_lookAtGood 75 1 5 2 78 := ⟨53, RX1, TX1, 8, ⟨by decide +kernel, rfl⟩, rfl, by decide, rfl, by decide, Or.inr ⟨"KinderTowns", tw_111⟩⟩
theorem x_L_lookAtGood_78 : kt_dc i_L_lookAtGood 78 (.iload 8) 2 80 := ⟨by decide +kernel, rfl⟩
theorem x_L_lookAtGood_80 : kt_dc i_L_lookAtGood 80 (.iaload) 1 81 := ⟨by decide +kernel, rfl⟩
theorem x_L_lookAtGood_81 : kt_dc i_L_lookAtGood 81 (.aload_n 1) 1 82 := ⟨by decide +kernel, rfl⟩
theorem x_L_lookAtGood_82 : kt_sG i_L_lookAtGood 82 1 6 2 85 := ⟨56, RX1, TX1, 8, ⟨by decide +kernel, rfl⟩, rfl, by decide, rfl, by decide, Or.inr ⟨"KinderTowns", tw_115⟩⟩
theorem x_L_lookAtGood_85 : kt_dc i_L_lookAtGood 85 (.iload 8) 2 87 := ⟨by decide +kernel, rfl⟩
theorem x_L_lookAtGood_87 : kt_dc i_L_lookAtGood 87 (.iaload) 1 88 := ⟨by decide +kernel, rfl⟩
theorem x_L_lookAtGood_88 : kt_sV i_L_lookAtGood 88 i_L_decide 2 3 91 := ⟨59, ⟨by decide +kernel, rfl⟩, Or.inl (tw_265), j_L_decide, ⟨tw_267, tp_12⟩, ⟨TX2, 6, rfl⟩, by decide, rfl⟩
theorem c_L_lookAtGood_88 {P : kt_P} {NM : Nat} {L : List (Option Value)} {rest : List Value} {N : Nat} {I : kt_I} {J : kt_J} {R : kt_R} {Q : Option Value → kt_I → kt_J → kt_R → Prop} {b : Nat} {x0 : Int32} {x1 : Int32} {x2 : Int32} (hkd : kt_kd P N b = (2, 0)) (hrest : (rest.map fun v => v.category).sum ≤ 8) (kk : KW P i_L_decide N 0 [some (.ref b), some (.int x0), some (.int x1), some (.int x2)] [] N I J R (fun v I' J' R' => KW P i_L_lookAtGood NM 91 L (kt_pu v rest) N I' J' R' Q)) : KW P i_L_lookAtGood NM 88 L (.int x2 :: .int x1 :: .int x0 :: .ref b :: rest) N I J R Q := kw_callV x_L_lookAtGood_88 (As := [.int x0, .int x1, .int x2]) rfl rfl (Nat.le_of_ble_eq_true rfl) hrest hkd (Nat.le_refl N) (fun h => h) kk
theorem x_L_lookAtGood_91 : kt_dc i_L_lookAtGood 91 (.iinc 6 1) 3 94 ∧ Int32.ofInt (1) = nI 1 := ⟨⟨by decide +kernel, rfl⟩, by decide⟩
theorem x_L_lookAtGood_94 : kt_dj i_L_lookAtGood 94 .goto 19 97 := ⟨-75, by decide +kernel, by decide, rfl⟩
theorem x_L_lookAtGood_97 : kt_dc i_L_lookAtGood 97 (.return_) 1 98 ∧ kt_rt i_L_lookAtGood = none := ⟨⟨by decide +kernel, rfl⟩, rfl⟩
theorem x_L_gather_0 : kt_dc i_L_gather 0 (.aload_n 0) 1 1 := ⟨by decide +kernel, rfl⟩
theorem x_L_gather_1 : kt_dc i_L_gather 1 (.iconst 0) 1 2 ∧ Int32.ofInt (0) = nI 0 := ⟨⟨by decide +kernel, rfl⟩, by decide⟩
theorem x_L_gather_2 : kt_sP i_L_gather 2 2 1 0 5 := ⟨45, RX2, TX2, 6, tyX2 1, ⟨by decide +kernel, rfl⟩, rfl, by decide, rfl, by decide, by decide +kernel, rfl, Or.inl ⟨rfl, Or.inl (tw_65)⟩⟩
theorem x_L_gather_5 : kt_dc i_L_gather 5 (.aload_n 0) 1 6 := ⟨by decide +kernel, rfl⟩
theorem x_L_gather_6 : kt_dc i_L_gather 6 (.iconst 0) 1 7 ∧ Int32.ofInt (0) = nI 0 := ⟨⟨by decide +kernel, rfl⟩, by decide⟩
theorem x_L_gather_7 : kt_sP i_L_gather 7 2 2 0 10 := ⟨63, RX2, TX2, 6, tyX2 2, ⟨by decide +kernel, rfl⟩, rfl, by decide, rfl, by decide, by decide +kernel, rfl, Or.inl ⟨rfl, Or.inl (tw_67)⟩⟩
theorem x_L_gather_10 : kt_dc i_L_gather 10 (.iconst 0) 1 11 ∧ Int32.ofInt (0) = nI 0 := ⟨⟨by decide +kernel, rfl⟩, by decide⟩
theorem x_L_gather_11 : kt_dc i_L_gather 11 (.istore 5) 2 13 := ⟨by decide +kernel, rfl⟩
theorem x_L_gather_13 : kt_dc i_L_gather 13 (.iload 5) 2 15 := ⟨by decide +kernel, rfl⟩
theorem x_L_gather_15 : kt_dc i_L_gather 15 (.aload_n 1) 1 16 := ⟨by decide +kernel, rfl⟩
theorem x_L_gather_16 : kt_sG i_L_gather 16 1 0 0 19 := ⟨66, RX1, TX1, 8, ⟨by decide +kernel, rfl⟩, rfl, by decide, rfl, by decide, Or.inr ⟨"KinderTowns", tw_94⟩⟩
theorem x_L_gather_19 : kt_dj i_L_gather 19 (.if_icmp .ge) 113 22 := ⟨94, by decide +kernel, by decide, rfl⟩
theorem x_L_gather_22 : kt_dc i_L_gather 22 (.lload_n 2) 1 23 := ⟨by decide +kernel, rfl⟩
theorem x_L_gather_23 : kt_dc i_L_gather 23 (.iload 5) 2 25 := ⟨by decide +kernel, rfl⟩
theorem x_L_gather_25 : kt_sS i_L_gather 25 i_K_has 2 28 := ⟨69, ⟨by decide +kernel, rfl⟩, Or.inr ⟨"KinderTowns", tw_253⟩, j_K_has, tw_242, rfl⟩
theorem c_L_gather_25 {P : kt_P} {NM : Nat} {L : List (Option Value)} {rest : List Value} {N : Nat} {I : kt_I} {J : kt_J} {R : kt_R} {Q : Option Value → kt_I → kt_J → kt_R → Prop} {x0 : Int64} {x1 : Int32} (hrest : (rest.map fun v => v.category).sum ≤ 8) (kk : KW P i_K_has N 0 [some (.long x0), none, some (.int x1)] [] N I J R (fun v I' J' R' => KW P i_L_gather NM 28 L (kt_pu v rest) N I' J' R' Q)) : KW P i_L_gather NM 25 L (.int x1 :: .long x0 :: rest) N I J R Q := kw_callS x_L_gather_25 (As := [.long x0, .int x1]) rfl rfl (Nat.le_of_ble_eq_true rfl) hrest (Nat.le_refl N) (fun h => h) kk
theorem x_L_gather_28 : kt_dj i_L_gather 28 (.ifCond .eq) 107 31 := ⟨79, by decide +kernel, by decide, rfl⟩
theorem x_L_gather_31 : kt_dc i_L_gather 31 (.aload_n 1) 1 32 := ⟨by decide +kernel, rfl⟩
theorem x_L_gather_32 : kt_sG i_L_gather 32 1 4 2 35 := ⟨73, RX1, TX1, 8, ⟨by decide +kernel, rfl⟩, rfl, by decide, rfl, by decide, Or.inr ⟨"KinderTowns", tw_107⟩⟩
theorem x_L_gather_35 : kt_dc i_L_gather 35 (.iload 5) 2 37 := ⟨by decide +kernel, rfl⟩
theorem x_L_gather_37 : kt_dc i_L_gather 37 (.iaload) 1 38 := ⟨by decide +kernel, rfl⟩
theorem x_L_gather_38 : kt_dc i_L_gather 38 (.iload 4) 2 40 := ⟨by decide +kernel, rfl⟩
theorem x_L_gather_40 : kt_dj i_L_gather 40 (.if_icmp .eq) 46 43 := ⟨6, by decide +kernel, by decide, rfl⟩
theorem x_L_gather_43 : kt_dj i_L_gather 43 .goto 107 46 := ⟨64, by decide +kernel, by decide, rfl⟩
theorem x_L_gather_46 : kt_dc i_L_gather 46 (.aload_n 1) 1 47 := ⟨by decide +kernel, rfl⟩
theorem x_L_gather_47 : kt_sG i_L_gather 47 1 1 2 50 := ⟨76, RX1, TX1, 8, ⟨by decide +kernel, rfl⟩, rfl, by decide, rfl, by decide, Or.inr ⟨"KinderTowns", tw_98⟩⟩
theorem x_L_gather_50 : kt_dc i_L_gather 50 (.iload 5) 2 52 := ⟨by decide +kernel, rfl⟩
theorem x_L_gather_52 : kt_dc i_L_gather 52 (.iaload) 1 53 := ⟨by decide +kernel, rfl⟩
theorem x_L_gather_53 : kt_dj i_L_gather 53 (.ifCond .ne) 75 56 := ⟨22, by decide +kernel, by decide, rfl⟩
theorem x_L_gather_56 : kt_dc i_L_gather 56 (.aload_n 0) 1 57 := ⟨by decide +kernel, rfl⟩
theorem x_L_gather_57 : kt_dc i_L_gather 57 (.dup) 1 58 := ⟨by decide +kernel, rfl⟩
theorem x_L_gather_58 : kt_sG i_L_gather 58 2 2 0 61 := ⟨63, RX2, TX2, 6, ⟨by decide +kernel, rfl⟩, rfl, by decide, rfl, by decide, Or.inl (tw_67)⟩
theorem x_L_gather_61 : kt_dc i_L_gather 61 (.aload_n 1) 1 62 := ⟨by decide +kernel, rfl⟩
theorem x_L_gather_62 : kt_sG i_L_gather 62 1 5 2 65 := ⟨53, RX1, TX1, 8, ⟨by decide +kernel, rfl⟩, rfl, by decide, rfl, by decide, Or.inr ⟨"KinderTowns", tw_111⟩⟩
theorem x_L_gather_65 : kt_dc i_L_gather 65 (.iload 5) 2 67 := ⟨by decide +kernel, rfl⟩
theorem x_L_gather_67 : kt_dc i_L_gather 67 (.iaload) 1 68 := ⟨by decide +kernel, rfl⟩
theorem x_L_gather_68 : kt_dc i_L_gather 68 (.iadd) 1 69 := ⟨by decide +kernel, rfl⟩
theorem x_L_gather_69 : kt_sP i_L_gather 69 2 2 0 72 := ⟨63, RX2, TX2, 6, tyX2 2, ⟨by decide +kernel, rfl⟩, rfl, by decide, rfl, by decide, by decide +kernel, rfl, Or.inl ⟨rfl, Or.inl (tw_67)⟩⟩
theorem x_L_gather_72 : kt_dj i_L_gather 72 .goto 107 75 := ⟨35, by decide +kernel, by decide, rfl⟩
theorem x_L_gather_75 : kt_dc i_L_gather 75 (.aload_n 1) 1 76 := ⟨by decide +kernel, rfl⟩
theorem x_L_gather_76 : kt_sG i_L_gather 76 1 1 2 79 := ⟨76, RX1, TX1, 8, ⟨by decide +kernel, rfl⟩, rfl, by decide, rfl, by decide, Or.inr ⟨"KinderTowns", tw_98⟩⟩
theorem x_L_gather_79 : kt_dc i_L_gather 79 (.iload 5) 2 81 := ⟨by decide +kernel, rfl⟩
theorem x_L_gather_81 : kt_dc i_L_gather 81 (.iaload) 1 82 := ⟨by decide +kernel, rfl⟩
theorem x_L_gather_82 : kt_dc i_L_gather 82 (.iconst 1) 1 83 ∧ Int32.ofInt (1) = nI 1 := ⟨⟨by decide +kernel, rfl⟩, by decide⟩
theorem x_L_gather_83 : kt_dj i_L_gather 83 (.if_icmp .ne) 107 86 := ⟨24, by decide +kernel, by decide, rfl⟩
theorem x_L_gather_86 : kt_dc i_L_gather 86 (.aload_n 0) 1 87 := ⟨by decide +kernel, rfl⟩
theorem x_L_gather_87 : kt_sG i_L_gather 87 2 0 2 90 := ⟨9, RX2, TX2, 6, ⟨by decide +kernel, rfl⟩, rfl, by decide, rfl, by decide, Or.inl (tw_63)⟩
theorem x_L_gather_90 : kt_dc i_L_gather 90 (.aload_n 0) 1 91 := ⟨by decide +kernel, rfl⟩
theorem x_L_gather_91 : kt_sG i_L_gather 91 2 1 0 94 := ⟨45, RX2, TX2, 6, ⟨by decide +kernel, rfl⟩, rfl, by decide, rfl, by decide, Or.inl (tw_65)⟩
theorem x_L_gather_94 : kt_dc i_L_gather 94 (.iload 5) 2 96 := ⟨by decide +kernel, rfl⟩
theorem x_L_gather_96 : kt_dc i_L_gather 96 (.iastore) 1 97 := ⟨by decide +kernel, rfl⟩
theorem x_L_gather_97 : kt_dc i_L_gather 97 (.aload_n 0) 1 98 := ⟨by decide +kernel, rfl⟩
theorem x_L_gather_98 : kt_dc i_L_gather 98 (.dup) 1 99 := ⟨by decide +kernel, rfl⟩
theorem x_L_gather_99 : kt_sG i_L_gather 99 2 1 0 102 := ⟨45, RX2, TX2, 6, ⟨by decide +kernel, rfl⟩, rfl, by decide, rfl, by decide, Or.inl (tw_65)⟩
theorem x_L_gather_102 : kt_dc i_L_gather 102 (.iconst 1) 1 103 ∧ Int32.ofInt (1) = nI 1 := ⟨⟨by decide +kernel, rfl⟩, by decide⟩
theorem x_L_gather_103 : kt_dc i_L_gather 103 (.iadd) 1 104 := ⟨by decide +kernel, rfl⟩
theorem x_L_gather_104 : kt_sP i_L_gather 104 2 1 0 107 := ⟨45, RX2, TX2, 6, tyX2 1, ⟨by decide +kernel, rfl⟩, rfl, by decide, rfl, by decide, by decide +kernel, rfl, Or.inl ⟨rfl, Or.inl (tw_65)⟩⟩
theorem x_L_gather_107 : kt_dc i_L_gather 107 (.iinc 5 1) 3 110 ∧ Int32.ofInt (1) = nI 1 := ⟨⟨by decide +kernel, rfl⟩, by decide⟩
theorem x_L_gather_110 : kt_dj i_L_gather 110 .goto 13 113 := ⟨-97, by decide +kernel, by decide, rfl⟩
theorem x_L_gather_113 : kt_dc i_L_gather 113 (.return_) 1 114 ∧ kt_rt i_L_gather = none := ⟨⟨by decide +kernel, rfl⟩, rfl⟩
theorem x_J_fill_0 : kt_dc i_J_fill 0 (.iconst 0) 1 1 ∧ Int32.ofInt (0) = nI 0 := ⟨⟨by decide +kernel, rfl⟩, by decide⟩
theorem x_J_fill_1 : kt_dc i_J_fill 1 (.istore_n 2) 1 2 := ⟨by decide +kernel, rfl⟩
theorem x_J_fill_2 : kt_dc i_J_fill 2 (.aload_n 0) 1 3 := ⟨by decide +kernel, rfl⟩
theorem x_J_fill_3 : kt_dc i_J_fill 3 (.arraylength) 1 4 := ⟨by decide +kernel, rfl⟩
theorem x_J_fill_4 : kt_dc i_J_fill 4 (.istore_n 3) 1 5 := ⟨by decide +kernel, rfl⟩
theorem x_J_fill_5 : kt_dc i_J_fill 5 (.iload_n 2) 1 6 := ⟨by decide +kernel, rfl⟩
theorem x_J_fill_6 : kt_dc i_J_fill 6 (.iload_n 3) 1 7 := ⟨by decide +kernel, rfl⟩
theorem x_J_fill_7 : kt_dj i_J_fill 7 (.if_icmp .ge) 20 10 := ⟨13, by decide +kernel, by decide, rfl⟩
theorem x_J_fill_10 : kt_dc i_J_fill 10 (.aload_n 0) 1 11 := ⟨by decide +kernel, rfl⟩
theorem x_J_fill_11 : kt_dc i_J_fill 11 (.iload_n 2) 1 12 := ⟨by decide +kernel, rfl⟩
theorem x_J_fill_12 : kt_dc i_J_fill 12 (.iload_n 1) 1 13 := ⟨by decide +kernel, rfl⟩
theorem x_J_fill_13 : kt_dc i_J_fill 13 (.iastore) 1 14 := ⟨by decide +kernel, rfl⟩
theorem x_J_fill_14 : kt_dc i_J_fill 14 (.iinc 2 1) 3 17 ∧ Int32.ofInt (1) = nI 1 := ⟨⟨by decide +kernel, rfl⟩, by decide⟩
theorem x_J_fill_17 : kt_dj i_J_fill 17 .goto 5 20 := ⟨-12, by decide +kernel, by decide, rfl⟩
theorem x_J_fill_20 : kt_dc i_J_fill 20 (.return_) 1 21 ∧ kt_rt i_J_fill = none := ⟨⟨by decide +kernel, rfl⟩, rfl⟩
theorem x_L_nextPlace_0 : kt_dc i_L_nextPlace 0 (.iload_n 3) 1 1 := ⟨by decide +kernel, rfl⟩
theorem x_L_nextPlace_1 : kt_dc i_L_nextPlace 1 (.istore 4) 2 3 := ⟨by decide +kernel, rfl⟩
theorem x_L_nextPlace_3 : kt_dc i_L_nextPlace 3 (.aload_n 0) 1 4 := ⟨by decide +kernel, rfl⟩
theorem x_L_nextPlace_4 : kt_dc i_L_nextPlace 4 (.aload_n 1) 1 5 := ⟨by decide +kernel, rfl⟩
theorem x_L_nextPlace_5 : kt_dc i_L_nextPlace 5 (.iload_n 2) 1 6 := ⟨by decide +kernel, rfl⟩
theorem x_L_nextPlace_6 : kt_dc i_L_nextPlace 6 (.aload_n 0) 1 7 := ⟨by decide +kernel, rfl⟩
theorem x_L_nextPlace_7 : kt_sG i_L_nextPlace 7 2 0 2 10 := ⟨9, RX2, TX2, 6, ⟨by decide +kernel, rfl⟩, rfl, by decide, rfl, by decide, Or.inl (tw_63)⟩
theorem x_L_nextPlace_10 : kt_dc i_L_nextPlace 10 (.iload_n 3) 1 11 := ⟨by decide +kernel, rfl⟩
theorem x_L_nextPlace_11 : kt_dc i_L_nextPlace 11 (.iaload) 1 12 := ⟨by decide +kernel, rfl⟩
theorem x_L_nextPlace_12 : kt_sV i_L_nextPlace 12 i_L_weight 2 3 15 := ⟨79, ⟨by decide +kernel, rfl⟩, Or.inl (tw_261), j_L_weight, ⟨tw_263, tp_11⟩, ⟨TX2, 6, rfl⟩, by decide, rfl⟩
theorem c_L_nextPlace_12 {P : kt_P} {NM : Nat} {L : List (Option Value)} {rest : List Value} {N : Nat} {I : kt_I} {J : kt_J} {R : kt_R} {Q : Option Value → kt_I → kt_J → kt_R → Prop} {b : Nat} {x0 : Nat} {x1 : Int32} {x2 : Int32} (hkd : kt_kd P N b = (2, 0)) (hrest : (rest.map fun v => v.category).sum ≤ 8) (kk : KW P i_L_weight N 0 [some (.ref b), some (.ref x0), some (.int x1), some (.int x2), none, none] [] N I J R (fun v I' J' R' => KW P i_L_nextPlace NM 15 L (kt_pu v rest) N I' J' R' Q)) : KW P i_L_nextPlace NM 12 L (.int x2 :: .int x1 :: .ref x0 :: .ref b :: rest) N I J R Q := kw_callV x_L_nextPlace_12 (As := [.ref x0, .int x1, .int x2]) rfl rfl (Nat.le_of_ble_eq_true rfl) hrest hkd (Nat.le_refl N) (fun h => h) kk
theorem x_L_nextPlace_15 : kt_dc i_L_nextPlace 15 (.istore 5) 2 17 := ⟨by decide +kernel, rfl⟩
theorem x_L_nextPlace_17 : kt_dc i_L_nextPlace 17 (.iload_n 3) 1 18 := ⟨by decide +kernel, rfl⟩
theorem x_L_nextPlace_18 : kt_dc i_L_nextPlace 18 (.iconst 1) 1 19 ∧ Int32.ofInt (1) = nI 1 := ⟨⟨by decide +kernel, rfl⟩, by decide⟩
theorem x_L_nextPlace_19 : kt_dc i_L_nextPlace 19 (.iadd) 1 20 := ⟨by decide +kernel, rfl⟩
theorem x_L_nextPlace_20 : kt_dc i_L_nextPlace 20 (.istore 6) 2 22 := ⟨by decide +kernel, rfl⟩
theorem x_L_nextPlace_22 : kt_dc i_L_nextPlace 22 (.iload 6) 2 24 := ⟨by decide +kernel, rfl⟩
theorem x_L_nextPlace_24 : kt_dc i_L_nextPlace 24 (.aload_n 0) 1 25 := ⟨by decide +kernel, rfl⟩
theorem x_L_nextPlace_25 : kt_sG i_L_nextPlace 25 2 1 0 28 := ⟨45, RX2, TX2, 6, ⟨by decide +kernel, rfl⟩, rfl, by decide, rfl, by decide, Or.inl (tw_65)⟩
theorem x_L_nextPlace_28 : kt_dj i_L_nextPlace 28 (.if_icmp .ge) 67 31 := ⟨39, by decide +kernel, by decide, rfl⟩
theorem x_L_nextPlace_31 : kt_dc i_L_nextPlace 31 (.aload_n 0) 1 32 := ⟨by decide +kernel, rfl⟩
theorem x_L_nextPlace_32 : kt_dc i_L_nextPlace 32 (.aload_n 1) 1 33 := ⟨by decide +kernel, rfl⟩
theorem x_L_nextPlace_33 : kt_dc i_L_nextPlace 33 (.iload_n 2) 1 34 := ⟨by decide +kernel, rfl⟩
theorem x_L_nextPlace_34 : kt_dc i_L_nextPlace 34 (.aload_n 0) 1 35 := ⟨by decide +kernel, rfl⟩
theorem x_L_nextPlace_35 : kt_sG i_L_nextPlace 35 2 0 2 38 := ⟨9, RX2, TX2, 6, ⟨by decide +kernel, rfl⟩, rfl, by decide, rfl, by decide, Or.inl (tw_63)⟩
theorem x_L_nextPlace_38 : kt_dc i_L_nextPlace 38 (.iload 6) 2 40 := ⟨by decide +kernel, rfl⟩
theorem x_L_nextPlace_40 : kt_dc i_L_nextPlace 40 (.iaload) 1 41 := ⟨by decide +kernel, rfl⟩
theorem x_L_nextPlace_41 : kt_sV i_L_nextPlace 41 i_L_weight 2 3 44 := ⟨79, ⟨by decide +kernel, rfl⟩, Or.inl (tw_261), j_L_weight, ⟨tw_263, tp_11⟩, ⟨TX2, 6, rfl⟩, by decide, rfl⟩
theorem c_L_nextPlace_41 {P : kt_P} {NM : Nat} {L : List (Option Value)} {rest : List Value} {N : Nat} {I : kt_I} {J : kt_J} {R : kt_R} {Q : Option Value → kt_I → kt_J → kt_R → Prop} {b : Nat} {x0 : Nat} {x1 : Int32} {x2 : Int32} (hkd : kt_kd P N b = (2, 0)) (hrest : (rest.map fun v => v.category).sum ≤ 8) (kk : KW P i_L_weight N 0 [some (.ref b), some (.ref x0), some (.int x1), some (.int x2), none, none] [] N I J R (fun v I' J' R' => KW P i_L_nextPlace NM 44 L (kt_pu v rest) N I' J' R' Q)) : KW P i_L_nextPlace NM 41 L (.int x2 :: .int x1 :: .ref x0 :: .ref b :: rest) N I J R Q := kw_callV x_L_nextPlace_41 (As := [.ref x0, .int x1, .int x2]) rfl rfl (Nat.le_of_ble_eq_true rfl) hrest hkd (Nat.le_refl N) (fun h => h) kk
theorem x_L_nextPlace_44 : kt_dc i_L_nextPlace 44 (.istore 7) 2 46 := ⟨by decide +kernel, rfl⟩
theorem x_L_nextPlace_46 : kt_dc i_L_nextPlace 46 (.iload 7) 2 48 := ⟨by decide +kernel, rfl⟩
theorem x_L_nextPlace_48 : kt_dc i_L_nextPlace 48 (.iload 5) 2 50 := ⟨by decide +kernel, rfl⟩
theorem x_L_nextPlace_50 : kt_dj i_L_nextPlace 50 (.if_icmp .ge) 61 53 := ⟨11, by decide +kernel, by decide, rfl⟩
theorem x_L_nextPlace_53 : kt_dc i_L_nextPlace 53 (.iload 7) 2 55 := ⟨by decide +kernel, rfl⟩
theorem x_L_nextPlace_55 : kt_dc i_L_nextPlace 55 (.istore 5) 2 57 := ⟨by decide +kernel, rfl⟩
theorem x_L_nextPlace_57 : kt_dc i_L_nextPlace 57 (.iload 6) 2 59 := ⟨by decide +kernel, rfl⟩
theorem x_L_nextPlace_59 : kt_dc i_L_nextPlace 59 (.istore 4) 2 61 := ⟨by decide +kernel, rfl⟩
theorem x_L_nextPlace_61 : kt_dc i_L_nextPlace 61 (.iinc 6 1) 3 64 ∧ Int32.ofInt (1) = nI 1 := ⟨⟨by decide +kernel, rfl⟩, by decide⟩
theorem x_L_nextPlace_64 : kt_dj i_L_nextPlace 64 .goto 22 67 := ⟨-42, by decide +kernel, by decide, rfl⟩
theorem x_L_nextPlace_67 : kt_dc i_L_nextPlace 67 (.iload 4) 2 69 := ⟨by decide +kernel, rfl⟩
theorem x_L_nextPlace_69 : kt_dc i_L_nextPlace 69 (.ireturn) 1 70 ∧ kt_rt i_L_nextPlace = (some .int) := ⟨⟨by decide +kernel, rfl⟩, rfl⟩
theorem x_L_weight_0 : kt_dc i_L_weight 0 (.aload_n 1) 1 1 := ⟨by decide +kernel, rfl⟩
theorem x_L_weight_1 : kt_sG i_L_weight 1 1 6 2 4 := ⟨56, RX1, TX1, 8, ⟨by decide +kernel, rfl⟩, rfl, by decide, rfl, by decide, Or.inr ⟨"KinderTowns", tw_115⟩⟩
theorem x_L_weight_4 : kt_dc i_L_weight 4 (.iload_n 3) 1 5 := ⟨by decide +kernel, rfl⟩
theorem x_L_weight_5 : kt_dc i_L_weight 5 (.iaload) 1 6 := ⟨by decide +kernel, rfl⟩
theorem x_L_weight_6 : kt_dc i_L_weight 6 (.istore 4) 2 8 := ⟨by decide +kernel, rfl⟩
theorem x_L_weight_8 : kt_dc i_L_weight 8 (.iconst 0) 1 9 ∧ Int32.ofInt (0) = nI 0 := ⟨⟨by decide +kernel, rfl⟩, by decide⟩
theorem x_L_weight_9 : kt_dc i_L_weight 9 (.istore 5) 2 11 := ⟨by decide +kernel, rfl⟩
theorem x_L_weight_11 : kt_dc i_L_weight 11 (.iload_n 2) 1 12 := ⟨by decide +kernel, rfl⟩
theorem x_L_weight_12 : kt_dc i_L_weight 12 (.iconst 1) 1 13 ∧ Int32.ofInt (1) = nI 1 := ⟨⟨by decide +kernel, rfl⟩, by decide⟩
theorem x_L_weight_13 : kt_dj i_L_weight 13 (.if_icmp .ne) 27 16 := ⟨14, by decide +kernel, by decide, rfl⟩
theorem x_L_weight_16 : kt_dc i_L_weight 16 (.aload_n 1) 1 17 := ⟨by decide +kernel, rfl⟩
theorem x_L_weight_17 : kt_sG i_L_weight 17 1 5 2 20 := ⟨53, RX1, TX1, 8, ⟨by decide +kernel, rfl⟩, rfl, by decide, rfl, by decide, Or.inr ⟨"KinderTowns", tw_111⟩⟩
theorem x_L_weight_20 : kt_dc i_L_weight 20 (.iload_n 3) 1 21 := ⟨by decide +kernel, rfl⟩
theorem x_L_weight_21 : kt_dc i_L_weight 21 (.iaload) 1 22 := ⟨by decide +kernel, rfl⟩
theorem x_L_weight_22 : kt_dc i_L_weight 22 (.istore 5) 2 24 := ⟨by decide +kernel, rfl⟩
theorem x_L_weight_24 : kt_dj i_L_weight 24 .goto 53 27 := ⟨29, by decide +kernel, by decide, rfl⟩
theorem x_L_weight_27 : kt_dc i_L_weight 27 (.iload_n 2) 1 28 := ⟨by decide +kernel, rfl⟩
theorem x_L_weight_28 : kt_dc i_L_weight 28 (.iconst 2) 1 29 ∧ Int32.ofInt (2) = nI 2 := ⟨⟨by decide +kernel, rfl⟩, by decide⟩
theorem x_L_weight_29 : kt_dj i_L_weight 29 (.if_icmp .ne) 53 32 := ⟨24, by decide +kernel, by decide, rfl⟩
theorem x_L_weight_32 : kt_dc i_L_weight 32 (.iload 4) 2 34 := ⟨by decide +kernel, rfl⟩
theorem x_L_weight_34 : kt_dj i_L_weight 34 (.ifCond .lt) 53 37 := ⟨19, by decide +kernel, by decide, rfl⟩
theorem x_L_weight_37 : kt_dc i_L_weight 37 (.iload 4) 2 39 := ⟨by decide +kernel, rfl⟩
theorem x_L_weight_39 : kt_dc i_L_weight 39 (.bipush 10) 2 41 ∧ (Int8.ofInt (10)).toInt32 = nI 10 := ⟨⟨by decide +kernel, rfl⟩, by decide⟩
theorem x_L_weight_41 : kt_dj i_L_weight 41 (.if_icmp .ge) 53 44 := ⟨12, by decide +kernel, by decide, rfl⟩
theorem x_L_weight_44 : kt_dc i_L_weight 44 (.aload_n 0) 1 45 := ⟨by decide +kernel, rfl⟩
theorem x_L_weight_45 : kt_sG i_L_weight 45 2 3 2 48 := ⟨15, RX2, TX2, 6, ⟨by decide +kernel, rfl⟩, rfl, by decide, rfl, by decide, Or.inl (tw_68)⟩
theorem x_L_weight_48 : kt_dc i_L_weight 48 (.iload 4) 2 50 := ⟨by decide +kernel, rfl⟩
theorem x_L_weight_50 : kt_dc i_L_weight 50 (.iaload) 1 51 := ⟨by decide +kernel, rfl⟩
theorem x_L_weight_51 : kt_dc i_L_weight 51 (.istore 5) 2 53 := ⟨by decide +kernel, rfl⟩
theorem x_L_weight_53 : kt_dc i_L_weight 53 (.iload 5) 2 55 := ⟨by decide +kernel, rfl⟩
theorem x_L_weight_55 : kt_dc i_L_weight 55 (.sipush 305) 3 58 ∧ (Int16.ofInt (305)).toInt32 = nI 305 := ⟨⟨by decide +kernel, rfl⟩, by decide⟩
theorem x_L_weight_58 : kt_dc i_L_weight 58 (.imul) 1 59 := ⟨by decide +kernel, rfl⟩
theorem x_L_weight_59 : kt_dc i_L_weight 59 (.aload_n 1) 1 60 := ⟨by decide +kernel, rfl⟩
theorem x_L_weight_60 : kt_sG i_L_weight 60 1 3 2 63 := ⟨82, RX1, TX1, 8, ⟨by decide +kernel, rfl⟩, rfl, by decide, rfl, by decide, Or.inr ⟨"KinderTowns", tw_104⟩⟩
theorem x_L_weight_63 : kt_dc i_L_weight 63 (.iload_n 3) 1 64 := ⟨by decide +kernel, rfl⟩
theorem x_L_weight_64 : kt_dc i_L_weight 64 (.iaload) 1 65 := ⟨by decide +kernel, rfl⟩
theorem x_L_weight_65 : kt_dc i_L_weight 65 (.iconst 5) 1 66 ∧ Int32.ofInt (5) = nI 5 := ⟨⟨by decide +kernel, rfl⟩, by decide⟩
theorem x_L_weight_66 : kt_dc i_L_weight 66 (.imul) 1 67 := ⟨by decide +kernel, rfl⟩
theorem x_L_weight_67 : kt_dc i_L_weight 67 (.iadd) 1 68 := ⟨by decide +kernel, rfl⟩
theorem x_L_weight_68 : kt_dc i_L_weight 68 (.aload_n 1) 1 69 := ⟨by decide +kernel, rfl⟩
theorem x_L_weight_69 : kt_sG i_L_weight 69 1 2 2 72 := ⟨85, RX1, TX1, 8, ⟨by decide +kernel, rfl⟩, rfl, by decide, rfl, by decide, Or.inr ⟨"KinderTowns", tw_101⟩⟩
theorem x_L_weight_72 : kt_dc i_L_weight 72 (.iload_n 3) 1 73 := ⟨by decide +kernel, rfl⟩
theorem x_L_weight_73 : kt_dc i_L_weight 73 (.iaload) 1 74 := ⟨by decide +kernel, rfl⟩
theorem x_L_weight_74 : kt_dc i_L_weight 74 (.iadd) 1 75 := ⟨by decide +kernel, rfl⟩
theorem x_L_weight_75 : kt_dc i_L_weight 75 (.ireturn) 1 76 ∧ kt_rt i_L_weight = (some .int) := ⟨⟨by decide +kernel, rfl⟩, rfl⟩
theorem x_L_decide_0 : kt_dc i_L_decide 0 (.iload_n 2) 1 1 := ⟨by decide +kernel, rfl⟩
theorem x_L_decide_1 : kt_dc i_L_decide 1 (.aload_n 0) 1 2 := ⟨by decide +kernel, rfl⟩
theorem x_L_decide_2 : kt_sG i_L_decide 2 2 2 0 5 := ⟨63, RX2, TX2, 6, ⟨by decide +kernel, rfl⟩, rfl, by decide, rfl, by decide, Or.inl (tw_67)⟩
theorem x_L_decide_5 : kt_dj i_L_decide 5 (.if_icmp .le) 21 8 := ⟨16, by decide +kernel, by decide, rfl⟩
theorem x_L_decide_8 : kt_dc i_L_decide 8 (.aload_n 0) 1 9 := ⟨by decide +kernel, rfl⟩
theorem x_L_decide_9 : kt_dc i_L_decide 9 (.dup) 1 10 := ⟨by decide +kernel, rfl⟩
theorem x_L_decide_10 : kt_sG i_L_decide 10 2 5 1 13 := ⟨22, RX2, TX2, 6, ⟨by decide +kernel, rfl⟩, rfl, by decide, rfl, by decide, Or.inl (tw_72)⟩
theorem x_L_decide_13 : kt_dc i_L_decide 13 (.lconst 1) 1 14 ∧ Int64.ofNat ((1 : Fin 2) : Nat) = (1 : Int64) := ⟨⟨by decide +kernel, rfl⟩, rfl⟩
theorem x_L_decide_14 : kt_dc i_L_decide 14 (.iload_n 1) 1 15 := ⟨by decide +kernel, rfl⟩
theorem x_L_decide_15 : kt_dc i_L_decide 15 (.lshl) 1 16 := ⟨by decide +kernel, rfl⟩
theorem x_L_decide_16 : kt_dc i_L_decide 16 (.lor) 1 17 := ⟨by decide +kernel, rfl⟩
theorem x_L_decide_17 : kt_sP i_L_decide 17 2 5 1 20 := ⟨22, RX2, TX2, 6, tyX2 5, ⟨by decide +kernel, rfl⟩, rfl, by decide, rfl, by decide, by decide +kernel, rfl, Or.inl ⟨rfl, Or.inl (tw_72)⟩⟩
theorem x_L_decide_20 : kt_dc i_L_decide 20 (.return_) 1 21 ∧ kt_rt i_L_decide = none := ⟨⟨by decide +kernel, rfl⟩, rfl⟩
theorem x_L_decide_21 : kt_dc i_L_decide 21 (.aload_n 0) 1 22 := ⟨by decide +kernel, rfl⟩
theorem x_L_decide_22 : kt_dc i_L_decide 22 (.dup) 1 23 := ⟨by decide +kernel, rfl⟩
theorem x_L_decide_23 : kt_sG i_L_decide 23 2 4 1 26 := ⟨18, RX2, TX2, 6, ⟨by decide +kernel, rfl⟩, rfl, by decide, rfl, by decide, Or.inl (tw_69)⟩
theorem x_L_decide_26 : kt_dc i_L_decide 26 (.lconst 1) 1 27 ∧ Int64.ofNat ((1 : Fin 2) : Nat) = (1 : Int64) := ⟨⟨by decide +kernel, rfl⟩, rfl⟩
theorem x_L_decide_27 : kt_dc i_L_decide 27 (.iload_n 1) 1 28 := ⟨by decide +kernel, rfl⟩
theorem x_L_decide_28 : kt_dc i_L_decide 28 (.lshl) 1 29 := ⟨by decide +kernel, rfl⟩
theorem x_L_decide_29 : kt_dc i_L_decide 29 (.lor) 1 30 := ⟨by decide +kernel, rfl⟩
theorem x_L_decide_30 : kt_sP i_L_decide 30 2 4 1 33 := ⟨18, RX2, TX2, 6, tyX2 4, ⟨by decide +kernel, rfl⟩, rfl, by decide, rfl, by decide, by decide +kernel, rfl, Or.inl ⟨rfl, Or.inl (tw_69)⟩⟩
theorem x_L_decide_33 : kt_dc i_L_decide 33 (.aload_n 0) 1 34 := ⟨by decide +kernel, rfl⟩
theorem x_L_decide_34 : kt_dc i_L_decide 34 (.dup) 1 35 := ⟨by decide +kernel, rfl⟩
theorem x_L_decide_35 : kt_sG i_L_decide 35 2 2 0 38 := ⟨63, RX2, TX2, 6, ⟨by decide +kernel, rfl⟩, rfl, by decide, rfl, by decide, Or.inl (tw_67)⟩
theorem x_L_decide_38 : kt_dc i_L_decide 38 (.iload_n 2) 1 39 := ⟨by decide +kernel, rfl⟩
theorem x_L_decide_39 : kt_dc i_L_decide 39 (.isub) 1 40 := ⟨by decide +kernel, rfl⟩
theorem x_L_decide_40 : kt_sP i_L_decide 40 2 2 0 43 := ⟨63, RX2, TX2, 6, tyX2 2, ⟨by decide +kernel, rfl⟩, rfl, by decide, rfl, by decide, by decide +kernel, rfl, Or.inl ⟨rfl, Or.inl (tw_67)⟩⟩
theorem x_L_decide_43 : kt_dc i_L_decide 43 (.iload_n 3) 1 44 := ⟨by decide +kernel, rfl⟩
theorem x_L_decide_44 : kt_dc i_L_decide 44 (.bipush 10) 2 46 ∧ (Int8.ofInt (10)).toInt32 = nI 10 := ⟨⟨by decide +kernel, rfl⟩, by decide⟩
theorem x_L_decide_46 : kt_sS i_L_decide 46 i_K_isBelow 2 49 := ⟨88, ⟨by decide +kernel, rfl⟩, Or.inr ⟨"KinderTowns", tw_269⟩, j_K_isBelow, tw_219, rfl⟩
theorem c_L_decide_46 {P : kt_P} {NM : Nat} {L : List (Option Value)} {rest : List Value} {N : Nat} {I : kt_I} {J : kt_J} {R : kt_R} {Q : Option Value → kt_I → kt_J → kt_R → Prop} {x0 : Int32} {x1 : Int32} (hrest : (rest.map fun v => v.category).sum ≤ 8) (kk : KW P i_K_isBelow N 0 [some (.int x0), some (.int x1)] [] N I J R (fun v I' J' R' => KW P i_L_decide NM 49 L (kt_pu v rest) N I' J' R' Q)) : KW P i_L_decide NM 46 L (.int x1 :: .int x0 :: rest) N I J R Q := kw_callS x_L_decide_46 (As := [.int x0, .int x1]) rfl rfl (Nat.le_of_ble_eq_true rfl) hrest (Nat.le_refl N) (fun h => h) kk
theorem x_L_decide_49 : kt_dj i_L_decide 49 (.ifCond .eq) 62 52 := ⟨13, by decide +kernel, by decide, rfl⟩
theorem x_L_decide_52 : kt_dc i_L_decide 52 (.aload_n 0) 1 53 := ⟨by decide +kernel, rfl⟩
theorem x_L_decide_53 : kt_sG i_L_decide 53 2 3 2 56 := ⟨15, RX2, TX2, 6, ⟨by decide +kernel, rfl⟩, rfl, by decide, rfl, by decide, Or.inl (tw_68)⟩
theorem x_L_decide_56 : kt_dc i_L_decide 56 (.iload_n 3) 1 57 := ⟨by decide +kernel, rfl⟩
theorem x_L_decide_57 : kt_dc i_L_decide 57 (.dup2) 1 58 := ⟨by decide +kernel, rfl⟩
theorem x_L_decide_58 : kt_dc i_L_decide 58 (.iaload) 1 59 := ⟨by decide +kernel, rfl⟩
theorem x_L_decide_59 : kt_dc i_L_decide 59 (.iload_n 2) 1 60 := ⟨by decide +kernel, rfl⟩
theorem x_L_decide_60 : kt_dc i_L_decide 60 (.iadd) 1 61 := ⟨by decide +kernel, rfl⟩
theorem x_L_decide_61 : kt_dc i_L_decide 61 (.iastore) 1 62 := ⟨by decide +kernel, rfl⟩
theorem x_L_decide_62 : kt_dc i_L_decide 62 (.return_) 1 63 ∧ kt_rt i_L_decide = none := ⟨⟨by decide +kernel, rfl⟩, rfl⟩
theorem x_C_makeDelivery_0 : kt_dc i_C_makeDelivery 0 (.aload_n 0) 1 1 := ⟨by decide +kernel, rfl⟩
theorem x_C_makeDelivery_1 : kt_dc i_C_makeDelivery 1 (.iload_n 1) 1 2 := ⟨by decide +kernel, rfl⟩
theorem x_C_makeDelivery_2 : kt_sV i_C_makeDelivery 2 i_C_isTown 0 1 5 := ⟨69, ⟨by decide +kernel, rfl⟩, Or.inl (tw_283), j_C_isTown, ⟨tw_285, tp_15⟩, ⟨TX0, 11, rfl⟩, by decide, rfl⟩
theorem c_C_makeDelivery_2 {P : kt_P} {NM : Nat} {L : List (Option Value)} {rest : List Value} {N : Nat} {I : kt_I} {J : kt_J} {R : kt_R} {Q : Option Value → kt_I → kt_J → kt_R → Prop} {b : Nat} {x0 : Int32} (hkd : kt_kd P N b = (0, 0)) (hrest : (rest.map fun v => v.category).sum ≤ 8) (kk : KW P i_C_isTown N 0 [some (.ref b), some (.int x0)] [] N I J R (fun v I' J' R' => KW P i_C_makeDelivery NM 5 L (kt_pu v rest) N I' J' R' Q)) : KW P i_C_makeDelivery NM 2 L (.int x0 :: .ref b :: rest) N I J R Q := kw_callV x_C_makeDelivery_2 (As := [.int x0]) rfl rfl (Nat.le_of_ble_eq_true rfl) hrest hkd (Nat.le_refl N) (fun h => h) kk
theorem x_C_makeDelivery_5 : kt_dj i_C_makeDelivery 5 (.ifCond .eq) 28 8 := ⟨23, by decide +kernel, by decide, rfl⟩
theorem x_C_makeDelivery_8 : kt_dc i_C_makeDelivery 8 (.iload_n 2) 1 9 := ⟨by decide +kernel, rfl⟩
theorem x_C_makeDelivery_9 : kt_dc i_C_makeDelivery 9 (.bipush 6) 2 11 ∧ (Int8.ofInt (6)).toInt32 = nI 6 := ⟨⟨by decide +kernel, rfl⟩, by decide⟩
theorem x_C_makeDelivery_11 : kt_sS i_C_makeDelivery 11 i_K_isBelow 2 14 := ⟨65, ⟨by decide +kernel, rfl⟩, Or.inr ⟨"KinderTowns", tw_218⟩, j_K_isBelow, tw_219, rfl⟩
theorem c_C_makeDelivery_11 {P : kt_P} {NM : Nat} {L : List (Option Value)} {rest : List Value} {N : Nat} {I : kt_I} {J : kt_J} {R : kt_R} {Q : Option Value → kt_I → kt_J → kt_R → Prop} {x0 : Int32} {x1 : Int32} (hrest : (rest.map fun v => v.category).sum ≤ 8) (kk : KW P i_K_isBelow N 0 [some (.int x0), some (.int x1)] [] N I J R (fun v I' J' R' => KW P i_C_makeDelivery NM 14 L (kt_pu v rest) N I' J' R' Q)) : KW P i_C_makeDelivery NM 11 L (.int x1 :: .int x0 :: rest) N I J R Q := kw_callS x_C_makeDelivery_11 (As := [.int x0, .int x1]) rfl rfl (Nat.le_of_ble_eq_true rfl) hrest (Nat.le_refl N) (fun h => h) kk
theorem x_C_makeDelivery_14 : kt_dj i_C_makeDelivery 14 (.ifCond .eq) 28 17 := ⟨14, by decide +kernel, by decide, rfl⟩
theorem x_C_makeDelivery_17 : kt_dc i_C_makeDelivery 17 (.iload_n 3) 1 18 := ⟨by decide +kernel, rfl⟩
theorem x_C_makeDelivery_18 : kt_dc i_C_makeDelivery 18 (.iconst 1) 1 19 ∧ Int32.ofInt (1) = nI 1 := ⟨⟨by decide +kernel, rfl⟩, by decide⟩
theorem x_C_makeDelivery_19 : kt_dc i_C_makeDelivery 19 (.isub) 1 20 := ⟨by decide +kernel, rfl⟩
theorem x_C_makeDelivery_20 : kt_dc i_C_makeDelivery 20 (.bipush 99) 2 22 ∧ (Int8.ofInt (99)).toInt32 = nI 99 := ⟨⟨by decide +kernel, rfl⟩, by decide⟩
theorem x_C_makeDelivery_22 : kt_sS i_C_makeDelivery 22 i_K_isBelow 2 25 := ⟨65, ⟨by decide +kernel, rfl⟩, Or.inr ⟨"KinderTowns", tw_218⟩, j_K_isBelow, tw_219, rfl⟩
theorem c_C_makeDelivery_22 {P : kt_P} {NM : Nat} {L : List (Option Value)} {rest : List Value} {N : Nat} {I : kt_I} {J : kt_J} {R : kt_R} {Q : Option Value → kt_I → kt_J → kt_R → Prop} {x0 : Int32} {x1 : Int32} (hrest : (rest.map fun v => v.category).sum ≤ 8) (kk : KW P i_K_isBelow N 0 [some (.int x0), some (.int x1)] [] N I J R (fun v I' J' R' => KW P i_C_makeDelivery NM 25 L (kt_pu v rest) N I' J' R' Q)) : KW P i_C_makeDelivery NM 22 L (.int x1 :: .int x0 :: rest) N I J R Q := kw_callS x_C_makeDelivery_22 (As := [.int x0, .int x1]) rfl rfl (Nat.le_of_ble_eq_true rfl) hrest (Nat.le_refl N) (fun h => h) kk
theorem x_C_makeDelivery_25 : kt_dj i_C_makeDelivery 25 (.ifCond .ne) 30 28 := ⟨5, by decide +kernel, by decide, rfl⟩
theorem x_C_makeDelivery_28 : kt_dc i_C_makeDelivery 28 (.iconst (-1)) 1 29 ∧ Int32.ofInt (-1) = (-1 : Int32) := ⟨⟨by decide +kernel, rfl⟩, by decide⟩
theorem x_C_makeDelivery_29 : kt_dc i_C_makeDelivery 29 (.ireturn) 1 30 ∧ kt_rt i_C_makeDelivery = (some .int) := ⟨⟨by decide +kernel, rfl⟩, rfl⟩
theorem x_C_makeDelivery_30 : kt_dc i_C_makeDelivery 30 (.aload_n 0) 1 31 := ⟨by decide +kernel, rfl⟩
theorem x_C_makeDelivery_31 : kt_dc i_C_makeDelivery 31 (.iconst 0) 1 32 ∧ Int32.ofInt (0) = nI 0 := ⟨⟨by decide +kernel, rfl⟩, by decide⟩
theorem x_C_makeDelivery_32 : kt_dc i_C_makeDelivery 32 (.iload_n 1) 1 33 := ⟨by decide +kernel, rfl⟩
theorem x_C_makeDelivery_33 : kt_dc i_C_makeDelivery 33 (.iload_n 2) 1 34 := ⟨by decide +kernel, rfl⟩
theorem x_C_makeDelivery_34 : kt_dc i_C_makeDelivery 34 (.iload_n 3) 1 35 := ⟨by decide +kernel, rfl⟩
theorem x_C_makeDelivery_35 : kt_sV i_C_makeDelivery 35 i_C_make 0 4 38 := ⟨73, ⟨by decide +kernel, rfl⟩, Or.inl (tw_287), j_C_make, ⟨tw_289, tp_16⟩, ⟨TX0, 11, rfl⟩, by decide, rfl⟩
theorem c_C_makeDelivery_35 {P : kt_P} {NM : Nat} {L : List (Option Value)} {rest : List Value} {N : Nat} {I : kt_I} {J : kt_J} {R : kt_R} {Q : Option Value → kt_I → kt_J → kt_R → Prop} {b : Nat} {x0 : Int32} {x1 : Int32} {x2 : Int32} {x3 : Int32} (hkd : kt_kd P N b = (0, 0)) (hrest : (rest.map fun v => v.category).sum ≤ 8) (kk : KW P i_C_make N 0 [some (.ref b), some (.int x0), some (.int x1), some (.int x2), some (.int x3), none] [] N I J R (fun v I' J' R' => KW P i_C_makeDelivery NM 38 L (kt_pu v rest) N I' J' R' Q)) : KW P i_C_makeDelivery NM 35 L (.int x3 :: .int x2 :: .int x1 :: .int x0 :: .ref b :: rest) N I J R Q := kw_callV x_C_makeDelivery_35 (As := [.int x0, .int x1, .int x2, .int x3]) rfl rfl (Nat.le_of_ble_eq_true rfl) hrest hkd (Nat.le_refl N) (fun h => h) kk
theorem x_C_makeDelivery_38 : kt_dc i_C_makeDelivery 38 (.ireturn) 1 39 ∧ kt_rt i_C_makeDelivery = (some .int) := ⟨⟨by decide +kernel, rfl⟩, rfl⟩
theorem x_C_isTown_0 : kt_dc i_C_isTown 0 (.iload_n 1) 1 1 := ⟨by decide +kernel, rfl⟩
theorem x_C_isTown_1 : kt_dc i_C_isTown 1 (.aload_n 0) 1 2 := ⟨by decide +kernel, rfl⟩
theorem x_C_isTown_2 : kt_sG i_C_isTown 2 0 2 0 5 := ⟨49, RX0, TX0, 11, ⟨by decide +kernel, rfl⟩, rfl, by decide, rfl, by decide, Or.inl (tw_142)⟩
theorem x_C_isTown_5 : kt_sS i_C_isTown 5 i_K_isBelow 2 8 := ⟨65, ⟨by decide +kernel, rfl⟩, Or.inr ⟨"KinderTowns", tw_218⟩, j_K_isBelow, tw_219, rfl⟩
theorem c_C_isTown_5 {P : kt_P} {NM : Nat} {L : List (Option Value)} {rest : List Value} {N : Nat} {I : kt_I} {J : kt_J} {R : kt_R} {Q : Option Value → kt_I → kt_J → kt_R → Prop} {x0 : Int32} {x1 : Int32} (hrest : (rest.map fun v => v.category).sum ≤ 8) (kk : KW P i_K_isBelow N 0 [some (.int x0), some (.int x1)] [] N I J R (fun v I' J' R' => KW P i_C_isTown NM 8 L (kt_pu v rest) N I' J' R' Q)) : KW P i_C_isTown NM 5 L (.int x1 :: .int x0 :: rest) N I J R Q := kw_callS x_C_isTown_5 (As := [.int x0, .int x1]) rfl rfl (Nat.le_of_ble_eq_true rfl) hrest (Nat.le_refl N) (fun h => h) kk
theorem x_C_isTown_8 : kt_dc i_C_isTown 8 (.ireturn) 1 9 ∧ kt_rt i_C_isTown = (some .boolean) := ⟨⟨by decide +kernel, rfl⟩, rfl⟩
theorem x_C_make_0 : kt_dc i_C_make 0 (.aload_n 0) 1 1 := ⟨by decide +kernel, rfl⟩
theorem x_C_make_1 : kt_sG i_C_make 1 0 1 2 4 := ⟨21, RX0, TX0, 11, ⟨by decide +kernel, rfl⟩, rfl, by decide, rfl, by decide, Or.inl (tw_140)⟩
theorem x_C_make_4 : kt_dc i_C_make 4 (.iload_n 1) 1 5 := ⟨by decide +kernel, rfl⟩
theorem x_C_make_5 : kt_dc i_C_make 5 (.iload_n 2) 1 6 := ⟨by decide +kernel, rfl⟩
theorem x_C_make_6 : kt_dc i_C_make 6 (.aload_n 0) 1 7 := ⟨by decide +kernel, rfl⟩
theorem x_C_make_7 : kt_sG i_C_make 7 0 4 2 10 := ⟨25, RX0, TX0, 11, ⟨by decide +kernel, rfl⟩, rfl, by decide, rfl, by decide, Or.inl (tw_146)⟩
theorem x_C_make_10 : kt_dc i_C_make 10 (.iload_n 2) 1 11 := ⟨by decide +kernel, rfl⟩
theorem x_C_make_11 : kt_dc i_C_make 11 (.iaload) 1 12 := ⟨by decide +kernel, rfl⟩
theorem x_C_make_12 : kt_dc i_C_make 12 (.iconst 1) 1 13 ∧ Int32.ofInt (1) = nI 1 := ⟨⟨by decide +kernel, rfl⟩, by decide⟩
theorem x_C_make_13 : kt_dc i_C_make 13 (.iadd) 1 14 := ⟨by decide +kernel, rfl⟩
theorem x_C_make_14 : kt_dc i_C_make 14 (.iload_n 3) 1 15 := ⟨by decide +kernel, rfl⟩
theorem x_C_make_15 : kt_dc i_C_make 15 (.iload 4) 2 17 := ⟨by decide +kernel, rfl⟩
theorem x_C_make_17 : kt_sV i_C_make 17 i_E_add 1 5 20 := ⟨103, ⟨by decide +kernel, rfl⟩, Or.inr ⟨"KinderTowns", tw_291⟩, j_E_add, ⟨tw_293, tp_17⟩, ⟨TX1, 8, rfl⟩, by decide, rfl⟩
theorem c_C_make_17 {P : kt_P} {NM : Nat} {L : List (Option Value)} {rest : List Value} {N : Nat} {I : kt_I} {J : kt_J} {R : kt_R} {Q : Option Value → kt_I → kt_J → kt_R → Prop} {b : Nat} {x0 : Int32} {x1 : Int32} {x2 : Int32} {x3 : Int32} {x4 : Int32} (hkd : kt_kd P N b = (1, 0)) (hrest : (rest.map fun v => v.category).sum ≤ 8) (kk : KW P i_E_add N 0 [some (.ref b), some (.int x0), some (.int x1), some (.int x2), some (.int x3), some (.int x4)] [] N I J R (fun v I' J' R' => KW P i_C_make NM 20 L (kt_pu v rest) N I' J' R' Q)) : KW P i_C_make NM 17 L (.int x4 :: .int x3 :: .int x2 :: .int x1 :: .int x0 :: .ref b :: rest) N I J R Q := kw_callV x_C_make_17 (As := [.int x0, .int x1, .int x2, .int x3, .int x4]) rfl rfl (Nat.le_of_ble_eq_true rfl) hrest hkd (Nat.le_refl N) (fun h => h) kk
theorem x_C_make_20 : kt_dc i_C_make 20 (.istore 5) 2 22 := ⟨by decide +kernel, rfl⟩
theorem x_C_make_22 : kt_dc i_C_make 22 (.iload 5) 2 24 := ⟨by decide +kernel, rfl⟩
theorem x_C_make_24 : kt_dj i_C_make 24 (.ifCond .lt) 50 27 := ⟨26, by decide +kernel, by decide, rfl⟩
theorem x_C_make_27 : kt_dc i_C_make 27 (.aload_n 0) 1 28 := ⟨by decide +kernel, rfl⟩
theorem x_C_make_28 : kt_sG i_C_make 28 0 4 2 31 := ⟨25, RX0, TX0, 11, ⟨by decide +kernel, rfl⟩, rfl, by decide, rfl, by decide, Or.inl (tw_146)⟩
theorem x_C_make_31 : kt_dc i_C_make 31 (.iload_n 2) 1 32 := ⟨by decide +kernel, rfl⟩
theorem x_C_make_32 : kt_dc i_C_make 32 (.dup2) 1 33 := ⟨by decide +kernel, rfl⟩
theorem x_C_make_33 : kt_dc i_C_make 33 (.iaload) 1 34 := ⟨by decide +kernel, rfl⟩
theorem x_C_make_34 : kt_dc i_C_make 34 (.iconst 1) 1 35 ∧ Int32.ofInt (1) = nI 1 := ⟨⟨by decide +kernel, rfl⟩, by decide⟩
theorem x_C_make_35 : kt_dc i_C_make 35 (.iadd) 1 36 := ⟨by decide +kernel, rfl⟩
theorem x_C_make_36 : kt_dc i_C_make 36 (.iastore) 1 37 := ⟨by decide +kernel, rfl⟩
theorem x_C_make_37 : kt_dc i_C_make 37 (.aload_n 0) 1 38 := ⟨by decide +kernel, rfl⟩
theorem x_C_make_38 : kt_sG i_C_make 38 0 5 2 41 := ⟨29, RX0, TX0, 11, ⟨by decide +kernel, rfl⟩, rfl, by decide, rfl, by decide, Or.inl (tw_148)⟩
theorem x_C_make_41 : kt_dc i_C_make 41 (.iload_n 2) 1 42 := ⟨by decide +kernel, rfl⟩
theorem x_C_make_42 : kt_dc i_C_make 42 (.dup2) 1 43 := ⟨by decide +kernel, rfl⟩
theorem x_C_make_43 : kt_dc i_C_make 43 (.laload) 1 44 := ⟨by decide +kernel, rfl⟩
theorem x_C_make_44 : kt_dc i_C_make 44 (.lconst 1) 1 45 ∧ Int64.ofNat ((1 : Fin 2) : Nat) = (1 : Int64) := ⟨⟨by decide +kernel, rfl⟩, rfl⟩
theorem x_C_make_45 : kt_dc i_C_make 45 (.iload 5) 2 47 := ⟨by decide +kernel, rfl⟩
theorem x_C_make_47 : kt_dc i_C_make 47 (.lshl) 1 48 := ⟨by decide +kernel, rfl⟩
theorem x_C_make_48 : kt_dc i_C_make 48 (.lor) 1 49 := ⟨by decide +kernel, rfl⟩
theorem x_C_make_49 : kt_dc i_C_make 49 (.lastore) 1 50 := ⟨by decide +kernel, rfl⟩
theorem x_C_make_50 : kt_dc i_C_make 50 (.iload 5) 2 52 := ⟨by decide +kernel, rfl⟩
theorem x_C_make_52 : kt_dc i_C_make 52 (.ireturn) 1 53 ∧ kt_rt i_C_make = (some .int) := ⟨⟨by decide +kernel, rfl⟩, rfl⟩
theorem x_E_add_0 : kt_dc i_E_add 0 (.aload_n 0) 1 1 := ⟨by decide +kernel, rfl⟩
theorem x_E_add_1 : kt_sG i_E_add 1 1 0 0 4 := ⟨33, RX1, TX1, 8, ⟨by decide +kernel, rfl⟩, rfl, by decide, rfl, by decide, Or.inl (tw_93)⟩
theorem x_E_add_4 : kt_dc i_E_add 4 (.bipush 60) 2 6 ∧ (Int8.ofInt (60)).toInt32 = nI 60 := ⟨⟨by decide +kernel, rfl⟩, by decide⟩
theorem x_E_add_6 : kt_sS i_E_add 6 i_K_isBelow 2 9 := ⟨43, ⟨by decide +kernel, rfl⟩, Or.inr ⟨"KinderTowns", tw_295⟩, j_K_isBelow, tw_219, rfl⟩
theorem c_E_add_6 {P : kt_P} {NM : Nat} {L : List (Option Value)} {rest : List Value} {N : Nat} {I : kt_I} {J : kt_J} {R : kt_R} {Q : Option Value → kt_I → kt_J → kt_R → Prop} {x0 : Int32} {x1 : Int32} (hrest : (rest.map fun v => v.category).sum ≤ 8) (kk : KW P i_K_isBelow N 0 [some (.int x0), some (.int x1)] [] N I J R (fun v I' J' R' => KW P i_E_add NM 9 L (kt_pu v rest) N I' J' R' Q)) : KW P i_E_add NM 6 L (.int x1 :: .int x0 :: rest) N I J R Q := kw_callS x_E_add_6 (As := [.int x0, .int x1]) rfl rfl (Nat.le_of_ble_eq_true rfl) hrest (Nat.le_refl N) (fun h => h) kk
theorem x_E_add_9 : kt_dj i_E_add 9 (.ifCond .ne) 15 12 := ⟨6, by decide +kernel, by decide, rfl⟩
theorem x_E_add_12 : kt_dc i_E_add 12 (.bipush (-3)) 2 14 ∧ (Int8.ofInt (-3)).toInt32 = (-3 : Int32) := ⟨⟨by decide +kernel, rfl⟩, by decide⟩
theorem x_E_add_14 : kt_dc i_E_add 14 (.ireturn) 1 15 ∧ kt_rt i_E_add = (some .int) := ⟨⟨by decide +kernel, rfl⟩, rfl⟩
theorem x_E_add_15 : kt_dc i_E_add 15 (.aload_n 0) 1 16 := ⟨by decide +kernel, rfl⟩
theorem x_E_add_16 : kt_sG i_E_add 16 1 1 2 19 := ⟨9, RX1, TX1, 8, ⟨by decide +kernel, rfl⟩, rfl, by decide, rfl, by decide, Or.inl (tw_97)⟩
theorem x_E_add_19 : kt_dc i_E_add 19 (.aload_n 0) 1 20 := ⟨by decide +kernel, rfl⟩
theorem x_E_add_20 : kt_sG i_E_add 20 1 0 0 23 := ⟨33, RX1, TX1, 8, ⟨by decide +kernel, rfl⟩, rfl, by decide, rfl, by decide, Or.inl (tw_93)⟩
theorem x_E_add_23 : kt_dc i_E_add 23 (.iload_n 1) 1 24 := ⟨by decide +kernel, rfl⟩
theorem x_E_add_24 : kt_dc i_E_add 24 (.iastore) 1 25 := ⟨by decide +kernel, rfl⟩
theorem x_E_add_25 : kt_dc i_E_add 25 (.aload_n 0) 1 26 := ⟨by decide +kernel, rfl⟩
theorem x_E_add_26 : kt_sG i_E_add 26 1 2 2 29 := ⟨15, RX1, TX1, 8, ⟨by decide +kernel, rfl⟩, rfl, by decide, rfl, by decide, Or.inl (tw_100)⟩
theorem x_E_add_29 : kt_dc i_E_add 29 (.aload_n 0) 1 30 := ⟨by decide +kernel, rfl⟩
theorem x_E_add_30 : kt_sG i_E_add 30 1 0 0 33 := ⟨33, RX1, TX1, 8, ⟨by decide +kernel, rfl⟩, rfl, by decide, rfl, by decide, Or.inl (tw_93)⟩
theorem x_E_add_33 : kt_dc i_E_add 33 (.iload_n 2) 1 34 := ⟨by decide +kernel, rfl⟩
theorem x_E_add_34 : kt_dc i_E_add 34 (.iastore) 1 35 := ⟨by decide +kernel, rfl⟩
theorem x_E_add_35 : kt_dc i_E_add 35 (.aload_n 0) 1 36 := ⟨by decide +kernel, rfl⟩
theorem x_E_add_36 : kt_sG i_E_add 36 1 3 2 39 := ⟨18, RX1, TX1, 8, ⟨by decide +kernel, rfl⟩, rfl, by decide, rfl, by decide, Or.inl (tw_103)⟩
theorem x_E_add_39 : kt_dc i_E_add 39 (.aload_n 0) 1 40 := ⟨by decide +kernel, rfl⟩
theorem x_E_add_40 : kt_sG i_E_add 40 1 0 0 43 := ⟨33, RX1, TX1, 8, ⟨by decide +kernel, rfl⟩, rfl, by decide, rfl, by decide, Or.inl (tw_93)⟩
theorem x_E_add_43 : kt_dc i_E_add 43 (.iload_n 3) 1 44 := ⟨by decide +kernel, rfl⟩
theorem x_E_add_44 : kt_dc i_E_add 44 (.iastore) 1 45 := ⟨by decide +kernel, rfl⟩
theorem x_E_add_45 : kt_dc i_E_add 45 (.aload_n 0) 1 46 := ⟨by decide +kernel, rfl⟩
theorem x_E_add_46 : kt_sG i_E_add 46 1 4 2 49 := ⟨21, RX1, TX1, 8, ⟨by decide +kernel, rfl⟩, rfl, by decide, rfl, by decide, Or.inl (tw_106)⟩
theorem x_E_add_49 : kt_dc i_E_add 49 (.aload_n 0) 1 50 := ⟨by decide +kernel, rfl⟩
theorem x_E_add_50 : kt_sG i_E_add 50 1 0 0 53 := ⟨33, RX1, TX1, 8, ⟨by decide +kernel, rfl⟩, rfl, by decide, rfl, by decide, Or.inl (tw_93)⟩
theorem x_E_add_53 : kt_dc i_E_add 53 (.iload 4) 2 55 := ⟨by decide +kernel, rfl⟩
theorem x_E_add_55 : kt_dc i_E_add 55 (.iastore) 1 56 := ⟨by decide +kernel, rfl⟩
theorem x_E_add_56 : kt_dc i_E_add 56 (.aload_n 0) 1 57 := ⟨by decide +kernel, rfl⟩
theorem x_E_add_57 : kt_sG i_E_add 57 1 5 2 60 := ⟨24, RX1, TX1, 8, ⟨by decide +kernel, rfl⟩, rfl, by decide, rfl, by decide, Or.inl (tw_110)⟩
theorem x_E_add_60 : kt_dc i_E_add 60 (.aload_n 0) 1 61 := ⟨by decide +kernel, rfl⟩
theorem x_E_add_61 : kt_sG i_E_add 61 1 0 0 64 := ⟨33, RX1, TX1, 8, ⟨by decide +kernel, rfl⟩, rfl, by decide, rfl, by decide, Or.inl (tw_93)⟩
theorem x_E_add_64 : kt_dc i_E_add 64 (.iload 5) 2 66 := ⟨by decide +kernel, rfl⟩
theorem x_E_add_66 : kt_dc i_E_add 66 (.iastore) 1 67 := ⟨by decide +kernel, rfl⟩
theorem x_E_add_67 : kt_dc i_E_add 67 (.aload_n 0) 1 68 := ⟨by decide +kernel, rfl⟩
theorem x_E_add_68 : kt_sG i_E_add 68 1 6 2 71 := ⟨27, RX1, TX1, 8, ⟨by decide +kernel, rfl⟩, rfl, by decide, rfl, by decide, Or.inl (tw_114)⟩
theorem x_E_add_71 : kt_dc i_E_add 71 (.aload_n 0) 1 72 := ⟨by decide +kernel, rfl⟩
theorem x_E_add_72 : kt_sG i_E_add 72 1 0 0 75 := ⟨33, RX1, TX1, 8, ⟨by decide +kernel, rfl⟩, rfl, by decide, rfl, by decide, Or.inl (tw_93)⟩
theorem x_E_add_75 : kt_dc i_E_add 75 (.bipush (-4)) 2 77 ∧ (Int8.ofInt (-4)).toInt32 = (-4 : Int32) := ⟨⟨by decide +kernel, rfl⟩, by decide⟩
theorem x_E_add_77 : kt_dc i_E_add 77 (.iastore) 1 78 := ⟨by decide +kernel, rfl⟩
theorem x_E_add_78 : kt_dc i_E_add 78 (.aload_n 0) 1 79 := ⟨by decide +kernel, rfl⟩
theorem x_E_add_79 : kt_sG i_E_add 79 1 7 2 82 := ⟨30, RX1, TX1, 8, ⟨by decide +kernel, rfl⟩, rfl, by decide, rfl, by decide, Or.inl (tw_118)⟩
theorem x_E_add_82 : kt_dc i_E_add 82 (.aload_n 0) 1 83 := ⟨by decide +kernel, rfl⟩
theorem x_E_add_83 : kt_sG i_E_add 83 1 0 0 86 := ⟨33, RX1, TX1, 8, ⟨by decide +kernel, rfl⟩, rfl, by decide, rfl, by decide, Or.inl (tw_93)⟩
theorem x_E_add_86 : kt_dc i_E_add 86 (.bipush (-4)) 2 88 ∧ (Int8.ofInt (-4)).toInt32 = (-4 : Int32) := ⟨⟨by decide +kernel, rfl⟩, by decide⟩
theorem x_E_add_88 : kt_dc i_E_add 88 (.iastore) 1 89 := ⟨by decide +kernel, rfl⟩
theorem x_E_add_89 : kt_dc i_E_add 89 (.aload_n 0) 1 90 := ⟨by decide +kernel, rfl⟩
theorem x_E_add_90 : kt_dc i_E_add 90 (.dup) 1 91 := ⟨by decide +kernel, rfl⟩
theorem x_E_add_91 : kt_sG i_E_add 91 1 0 0 94 := ⟨33, RX1, TX1, 8, ⟨by decide +kernel, rfl⟩, rfl, by decide, rfl, by decide, Or.inl (tw_93)⟩
theorem x_E_add_94 : kt_dc i_E_add 94 (.iconst 1) 1 95 ∧ Int32.ofInt (1) = nI 1 := ⟨⟨by decide +kernel, rfl⟩, by decide⟩
theorem x_E_add_95 : kt_dc i_E_add 95 (.iadd) 1 96 := ⟨by decide +kernel, rfl⟩
theorem x_E_add_96 : kt_sP i_E_add 96 1 0 0 99 := ⟨33, RX1, TX1, 8, tyX1 0, ⟨by decide +kernel, rfl⟩, rfl, by decide, rfl, by decide, by decide +kernel, rfl, Or.inl ⟨rfl, Or.inl (tw_93)⟩⟩
theorem x_E_add_99 : kt_dc i_E_add 99 (.aload_n 0) 1 100 := ⟨by decide +kernel, rfl⟩
theorem x_E_add_100 : kt_sG i_E_add 100 1 0 0 103 := ⟨33, RX1, TX1, 8, ⟨by decide +kernel, rfl⟩, rfl, by decide, rfl, by decide, Or.inl (tw_93)⟩
theorem x_E_add_103 : kt_dc i_E_add 103 (.iconst 1) 1 104 ∧ Int32.ofInt (1) = nI 1 := ⟨⟨by decide +kernel, rfl⟩, by decide⟩
theorem x_E_add_104 : kt_dc i_E_add 104 (.isub) 1 105 := ⟨by decide +kernel, rfl⟩
theorem x_E_add_105 : kt_dc i_E_add 105 (.ireturn) 1 106 ∧ kt_rt i_E_add = (some .int) := ⟨⟨by decide +kernel, rfl⟩, rfl⟩
theorem x_C_makeOrder_0 : kt_dc i_C_makeOrder 0 (.aload_n 0) 1 1 := ⟨by decide +kernel, rfl⟩
theorem x_C_makeOrder_1 : kt_dc i_C_makeOrder 1 (.iload_n 1) 1 2 := ⟨by decide +kernel, rfl⟩
theorem x_C_makeOrder_2 : kt_sV i_C_makeOrder 2 i_C_isTown 0 1 5 := ⟨69, ⟨by decide +kernel, rfl⟩, Or.inl (tw_283), j_C_isTown, ⟨tw_285, tp_15⟩, ⟨TX0, 11, rfl⟩, by decide, rfl⟩
theorem c_C_makeOrder_2 {P : kt_P} {NM : Nat} {L : List (Option Value)} {rest : List Value} {N : Nat} {I : kt_I} {J : kt_J} {R : kt_R} {Q : Option Value → kt_I → kt_J → kt_R → Prop} {b : Nat} {x0 : Int32} (hkd : kt_kd P N b = (0, 0)) (hrest : (rest.map fun v => v.category).sum ≤ 8) (kk : KW P i_C_isTown N 0 [some (.ref b), some (.int x0)] [] N I J R (fun v I' J' R' => KW P i_C_makeOrder NM 5 L (kt_pu v rest) N I' J' R' Q)) : KW P i_C_makeOrder NM 2 L (.int x0 :: .ref b :: rest) N I J R Q := kw_callV x_C_makeOrder_2 (As := [.int x0]) rfl rfl (Nat.le_of_ble_eq_true rfl) hrest hkd (Nat.le_refl N) (fun h => h) kk
theorem x_C_makeOrder_5 : kt_dj i_C_makeOrder 5 (.ifCond .eq) 38 8 := ⟨33, by decide +kernel, by decide, rfl⟩
theorem x_C_makeOrder_8 : kt_dc i_C_makeOrder 8 (.iload_n 2) 1 9 := ⟨by decide +kernel, rfl⟩
theorem x_C_makeOrder_9 : kt_dc i_C_makeOrder 9 (.bipush 10) 2 11 ∧ (Int8.ofInt (10)).toInt32 = nI 10 := ⟨⟨by decide +kernel, rfl⟩, by decide⟩
theorem x_C_makeOrder_11 : kt_sS i_C_makeOrder 11 i_K_isBelow 2 14 := ⟨65, ⟨by decide +kernel, rfl⟩, Or.inr ⟨"KinderTowns", tw_218⟩, j_K_isBelow, tw_219, rfl⟩
theorem c_C_makeOrder_11 {P : kt_P} {NM : Nat} {L : List (Option Value)} {rest : List Value} {N : Nat} {I : kt_I} {J : kt_J} {R : kt_R} {Q : Option Value → kt_I → kt_J → kt_R → Prop} {x0 : Int32} {x1 : Int32} (hrest : (rest.map fun v => v.category).sum ≤ 8) (kk : KW P i_K_isBelow N 0 [some (.int x0), some (.int x1)] [] N I J R (fun v I' J' R' => KW P i_C_makeOrder NM 14 L (kt_pu v rest) N I' J' R' Q)) : KW P i_C_makeOrder NM 11 L (.int x1 :: .int x0 :: rest) N I J R Q := kw_callS x_C_makeOrder_11 (As := [.int x0, .int x1]) rfl rfl (Nat.le_of_ble_eq_true rfl) hrest (Nat.le_refl N) (fun h => h) kk
theorem x_C_makeOrder_14 : kt_dj i_C_makeOrder 14 (.ifCond .eq) 38 17 := ⟨24, by decide +kernel, by decide, rfl⟩
theorem x_C_makeOrder_17 : kt_dc i_C_makeOrder 17 (.iload_n 3) 1 18 := ⟨by decide +kernel, rfl⟩
theorem x_C_makeOrder_18 : kt_dc i_C_makeOrder 18 (.bipush 6) 2 20 ∧ (Int8.ofInt (6)).toInt32 = nI 6 := ⟨⟨by decide +kernel, rfl⟩, by decide⟩
theorem x_C_makeOrder_20 : kt_sS i_C_makeOrder 20 i_K_isBelow 2 23 := ⟨65, ⟨by decide +kernel, rfl⟩, Or.inr ⟨"KinderTowns", tw_218⟩, j_K_isBelow, tw_219, rfl⟩
theorem c_C_makeOrder_20 {P : kt_P} {NM : Nat} {L : List (Option Value)} {rest : List Value} {N : Nat} {I : kt_I} {J : kt_J} {R : kt_R} {Q : Option Value → kt_I → kt_J → kt_R → Prop} {x0 : Int32} {x1 : Int32} (hrest : (rest.map fun v => v.category).sum ≤ 8) (kk : KW P i_K_isBelow N 0 [some (.int x0), some (.int x1)] [] N I J R (fun v I' J' R' => KW P i_C_makeOrder NM 23 L (kt_pu v rest) N I' J' R' Q)) : KW P i_C_makeOrder NM 20 L (.int x1 :: .int x0 :: rest) N I J R Q := kw_callS x_C_makeOrder_20 (As := [.int x0, .int x1]) rfl rfl (Nat.le_of_ble_eq_true rfl) hrest (Nat.le_refl N) (fun h => h) kk
theorem x_C_makeOrder_23 : kt_dj i_C_makeOrder 23 (.ifCond .eq) 38 26 := ⟨15, by decide +kernel, by decide, rfl⟩
theorem x_C_makeOrder_26 : kt_dc i_C_makeOrder 26 (.iload 4) 2 28 := ⟨by decide +kernel, rfl⟩
theorem x_C_makeOrder_28 : kt_dc i_C_makeOrder 28 (.iconst 1) 1 29 ∧ Int32.ofInt (1) = nI 1 := ⟨⟨by decide +kernel, rfl⟩, by decide⟩
theorem x_C_makeOrder_29 : kt_dc i_C_makeOrder 29 (.isub) 1 30 := ⟨by decide +kernel, rfl⟩
theorem x_C_makeOrder_30 : kt_dc i_C_makeOrder 30 (.bipush 99) 2 32 ∧ (Int8.ofInt (99)).toInt32 = nI 99 := ⟨⟨by decide +kernel, rfl⟩, by decide⟩
theorem x_C_makeOrder_32 : kt_sS i_C_makeOrder 32 i_K_isBelow 2 35 := ⟨65, ⟨by decide +kernel, rfl⟩, Or.inr ⟨"KinderTowns", tw_218⟩, j_K_isBelow, tw_219, rfl⟩
theorem c_C_makeOrder_32 {P : kt_P} {NM : Nat} {L : List (Option Value)} {rest : List Value} {N : Nat} {I : kt_I} {J : kt_J} {R : kt_R} {Q : Option Value → kt_I → kt_J → kt_R → Prop} {x0 : Int32} {x1 : Int32} (hrest : (rest.map fun v => v.category).sum ≤ 8) (kk : KW P i_K_isBelow N 0 [some (.int x0), some (.int x1)] [] N I J R (fun v I' J' R' => KW P i_C_makeOrder NM 35 L (kt_pu v rest) N I' J' R' Q)) : KW P i_C_makeOrder NM 32 L (.int x1 :: .int x0 :: rest) N I J R Q := kw_callS x_C_makeOrder_32 (As := [.int x0, .int x1]) rfl rfl (Nat.le_of_ble_eq_true rfl) hrest (Nat.le_refl N) (fun h => h) kk
theorem x_C_makeOrder_35 : kt_dj i_C_makeOrder 35 (.ifCond .ne) 40 38 := ⟨5, by decide +kernel, by decide, rfl⟩
theorem x_C_makeOrder_38 : kt_dc i_C_makeOrder 38 (.iconst (-1)) 1 39 ∧ Int32.ofInt (-1) = (-1 : Int32) := ⟨⟨by decide +kernel, rfl⟩, by decide⟩
theorem x_C_makeOrder_39 : kt_dc i_C_makeOrder 39 (.ireturn) 1 40 ∧ kt_rt i_C_makeOrder = (some .int) := ⟨⟨by decide +kernel, rfl⟩, rfl⟩
theorem x_C_makeOrder_40 : kt_dc i_C_makeOrder 40 (.aload_n 0) 1 41 := ⟨by decide +kernel, rfl⟩
theorem x_C_makeOrder_41 : kt_dc i_C_makeOrder 41 (.iconst 1) 1 42 ∧ Int32.ofInt (1) = nI 1 := ⟨⟨by decide +kernel, rfl⟩, by decide⟩
theorem x_C_makeOrder_42 : kt_dc i_C_makeOrder 42 (.iload_n 1) 1 43 := ⟨by decide +kernel, rfl⟩
theorem x_C_makeOrder_43 : kt_dc i_C_makeOrder 43 (.iload_n 3) 1 44 := ⟨by decide +kernel, rfl⟩
theorem x_C_makeOrder_44 : kt_dc i_C_makeOrder 44 (.iload 4) 2 46 := ⟨by decide +kernel, rfl⟩
theorem x_C_makeOrder_46 : kt_sV i_C_makeOrder 46 i_C_make 0 4 49 := ⟨73, ⟨by decide +kernel, rfl⟩, Or.inl (tw_287), j_C_make, ⟨tw_289, tp_16⟩, ⟨TX0, 11, rfl⟩, by decide, rfl⟩
theorem c_C_makeOrder_46 {P : kt_P} {NM : Nat} {L : List (Option Value)} {rest : List Value} {N : Nat} {I : kt_I} {J : kt_J} {R : kt_R} {Q : Option Value → kt_I → kt_J → kt_R → Prop} {b : Nat} {x0 : Int32} {x1 : Int32} {x2 : Int32} {x3 : Int32} (hkd : kt_kd P N b = (0, 0)) (hrest : (rest.map fun v => v.category).sum ≤ 8) (kk : KW P i_C_make N 0 [some (.ref b), some (.int x0), some (.int x1), some (.int x2), some (.int x3), none] [] N I J R (fun v I' J' R' => KW P i_C_makeOrder NM 49 L (kt_pu v rest) N I' J' R' Q)) : KW P i_C_makeOrder NM 46 L (.int x3 :: .int x2 :: .int x1 :: .int x0 :: .ref b :: rest) N I J R Q := kw_callV x_C_makeOrder_46 (As := [.int x0, .int x1, .int x2, .int x3]) rfl rfl (Nat.le_of_ble_eq_true rfl) hrest hkd (Nat.le_refl N) (fun h => h) kk
theorem x_C_makeOrder_49 : kt_dc i_C_makeOrder 49 (.istore 5) 2 51 := ⟨by decide +kernel, rfl⟩
theorem x_C_makeOrder_51 : kt_dc i_C_makeOrder 51 (.iload 5) 2 53 := ⟨by decide +kernel, rfl⟩
theorem x_C_makeOrder_53 : kt_dj i_C_makeOrder 53 (.ifCond .lt) 67 56 := ⟨14, by decide +kernel, by decide, rfl⟩
theorem x_C_makeOrder_56 : kt_dc i_C_makeOrder 56 (.aload_n 0) 1 57 := ⟨by decide +kernel, rfl⟩
theorem x_C_makeOrder_57 : kt_sG i_C_makeOrder 57 0 1 2 60 := ⟨21, RX0, TX0, 11, ⟨by decide +kernel, rfl⟩, rfl, by decide, rfl, by decide, Or.inl (tw_140)⟩
theorem x_C_makeOrder_60 : kt_sG i_C_makeOrder 60 1 6 2 63 := ⟨77, RX1, TX1, 8, ⟨by decide +kernel, rfl⟩, rfl, by decide, rfl, by decide, Or.inr ⟨"KinderTowns", tw_116⟩⟩
theorem x_C_makeOrder_63 : kt_dc i_C_makeOrder 63 (.iload 5) 2 65 := ⟨by decide +kernel, rfl⟩
theorem x_C_makeOrder_65 : kt_dc i_C_makeOrder 65 (.iload_n 2) 1 66 := ⟨by decide +kernel, rfl⟩
theorem x_C_makeOrder_66 : kt_dc i_C_makeOrder 66 (.iastore) 1 67 := ⟨by decide +kernel, rfl⟩
theorem x_C_makeOrder_67 : kt_dc i_C_makeOrder 67 (.iload 5) 2 69 := ⟨by decide +kernel, rfl⟩
theorem x_C_makeOrder_69 : kt_dc i_C_makeOrder 69 (.ireturn) 1 70 ∧ kt_rt i_C_makeOrder = (some .int) := ⟨⟨by decide +kernel, rfl⟩, rfl⟩
theorem x_C_makeCancellation_0 : kt_dc i_C_makeCancellation 0 (.aload_n 0) 1 1 := ⟨by decide +kernel, rfl⟩
theorem x_C_makeCancellation_1 : kt_dc i_C_makeCancellation 1 (.iload_n 1) 1 2 := ⟨by decide +kernel, rfl⟩
theorem x_C_makeCancellation_2 : kt_sV i_C_makeCancellation 2 i_C_isTown 0 1 5 := ⟨69, ⟨by decide +kernel, rfl⟩, Or.inl (tw_283), j_C_isTown, ⟨tw_285, tp_15⟩, ⟨TX0, 11, rfl⟩, by decide, rfl⟩
theorem c_C_makeCancellation_2 {P : kt_P} {NM : Nat} {L : List (Option Value)} {rest : List Value} {N : Nat} {I : kt_I} {J : kt_J} {R : kt_R} {Q : Option Value → kt_I → kt_J → kt_R → Prop} {b : Nat} {x0 : Int32} (hkd : kt_kd P N b = (0, 0)) (hrest : (rest.map fun v => v.category).sum ≤ 8) (kk : KW P i_C_isTown N 0 [some (.ref b), some (.int x0)] [] N I J R (fun v I' J' R' => KW P i_C_makeCancellation NM 5 L (kt_pu v rest) N I' J' R' Q)) : KW P i_C_makeCancellation NM 2 L (.int x0 :: .ref b :: rest) N I J R Q := kw_callV x_C_makeCancellation_2 (As := [.int x0]) rfl rfl (Nat.le_of_ble_eq_true rfl) hrest hkd (Nat.le_refl N) (fun h => h) kk
theorem x_C_makeCancellation_5 : kt_dj i_C_makeCancellation 5 (.ifCond .eq) 22 8 := ⟨17, by decide +kernel, by decide, rfl⟩
theorem x_C_makeCancellation_8 : kt_dc i_C_makeCancellation 8 (.iload_n 2) 1 9 := ⟨by decide +kernel, rfl⟩
theorem x_C_makeCancellation_9 : kt_dc i_C_makeCancellation 9 (.aload_n 0) 1 10 := ⟨by decide +kernel, rfl⟩
theorem x_C_makeCancellation_10 : kt_sG i_C_makeCancellation 10 0 1 2 13 := ⟨21, RX0, TX0, 11, ⟨by decide +kernel, rfl⟩, rfl, by decide, rfl, by decide, Or.inl (tw_140)⟩
theorem x_C_makeCancellation_13 : kt_sG i_C_makeCancellation 13 1 0 0 16 := ⟨80, RX1, TX1, 8, ⟨by decide +kernel, rfl⟩, rfl, by decide, rfl, by decide, Or.inr ⟨"KinderTowns", tw_95⟩⟩
theorem x_C_makeCancellation_16 : kt_sS i_C_makeCancellation 16 i_K_isBelow 2 19 := ⟨65, ⟨by decide +kernel, rfl⟩, Or.inr ⟨"KinderTowns", tw_218⟩, j_K_isBelow, tw_219, rfl⟩
theorem c_C_makeCancellation_16 {P : kt_P} {NM : Nat} {L : List (Option Value)} {rest : List Value} {N : Nat} {I : kt_I} {J : kt_J} {R : kt_R} {Q : Option Value → kt_I → kt_J → kt_R → Prop} {x0 : Int32} {x1 : Int32} (hrest : (rest.map fun v => v.category).sum ≤ 8) (kk : KW P i_K_isBelow N 0 [some (.int x0), some (.int x1)] [] N I J R (fun v I' J' R' => KW P i_C_makeCancellation NM 19 L (kt_pu v rest) N I' J' R' Q)) : KW P i_C_makeCancellation NM 16 L (.int x1 :: .int x0 :: rest) N I J R Q := kw_callS x_C_makeCancellation_16 (As := [.int x0, .int x1]) rfl rfl (Nat.le_of_ble_eq_true rfl) hrest (Nat.le_refl N) (fun h => h) kk
theorem x_C_makeCancellation_19 : kt_dj i_C_makeCancellation 19 (.ifCond .ne) 24 22 := ⟨5, by decide +kernel, by decide, rfl⟩
theorem x_C_makeCancellation_22 : kt_dc i_C_makeCancellation 22 (.iconst (-1)) 1 23 ∧ Int32.ofInt (-1) = (-1 : Int32) := ⟨⟨by decide +kernel, rfl⟩, by decide⟩
theorem x_C_makeCancellation_23 : kt_dc i_C_makeCancellation 23 (.ireturn) 1 24 ∧ kt_rt i_C_makeCancellation = (some .int) := ⟨⟨by decide +kernel, rfl⟩, rfl⟩
theorem x_C_makeCancellation_24 : kt_dc i_C_makeCancellation 24 (.aload_n 0) 1 25 := ⟨by decide +kernel, rfl⟩
theorem x_C_makeCancellation_25 : kt_sG i_C_makeCancellation 25 0 1 2 28 := ⟨21, RX0, TX0, 11, ⟨by decide +kernel, rfl⟩, rfl, by decide, rfl, by decide, Or.inl (tw_140)⟩
theorem x_C_makeCancellation_28 : kt_dc i_C_makeCancellation 28 (.iload_n 2) 1 29 := ⟨by decide +kernel, rfl⟩
theorem x_C_makeCancellation_29 : kt_sV i_C_makeCancellation 29 i_E_isOrder 1 1 32 := ⟨83, ⟨by decide +kernel, rfl⟩, Or.inr ⟨"KinderTowns", tw_312⟩, j_E_isOrder, ⟨tw_314, tp_20⟩, ⟨TX1, 8, rfl⟩, by decide, rfl⟩
theorem c_C_makeCancellation_29 {P : kt_P} {NM : Nat} {L : List (Option Value)} {rest : List Value} {N : Nat} {I : kt_I} {J : kt_J} {R : kt_R} {Q : Option Value → kt_I → kt_J → kt_R → Prop} {b : Nat} {x0 : Int32} (hkd : kt_kd P N b = (1, 0)) (hrest : (rest.map fun v => v.category).sum ≤ 8) (kk : KW P i_E_isOrder N 0 [some (.ref b), some (.int x0)] [] N I J R (fun v I' J' R' => KW P i_C_makeCancellation NM 32 L (kt_pu v rest) N I' J' R' Q)) : KW P i_C_makeCancellation NM 29 L (.int x0 :: .ref b :: rest) N I J R Q := kw_callV x_C_makeCancellation_29 (As := [.int x0]) rfl rfl (Nat.le_of_ble_eq_true rfl) hrest hkd (Nat.le_refl N) (fun h => h) kk
theorem x_C_makeCancellation_32 : kt_dj i_C_makeCancellation 32 (.ifCond .eq) 55 35 := ⟨23, by decide +kernel, by decide, rfl⟩
theorem x_C_makeCancellation_35 : kt_dc i_C_makeCancellation 35 (.aload_n 0) 1 36 := ⟨by decide +kernel, rfl⟩
theorem x_C_makeCancellation_36 : kt_sG i_C_makeCancellation 36 0 1 2 39 := ⟨21, RX0, TX0, 11, ⟨by decide +kernel, rfl⟩, rfl, by decide, rfl, by decide, Or.inl (tw_140)⟩
theorem x_C_makeCancellation_39 : kt_dc i_C_makeCancellation 39 (.aload_n 0) 1 40 := ⟨by decide +kernel, rfl⟩
theorem x_C_makeCancellation_40 : kt_sG i_C_makeCancellation 40 0 5 2 43 := ⟨29, RX0, TX0, 11, ⟨by decide +kernel, rfl⟩, rfl, by decide, rfl, by decide, Or.inl (tw_148)⟩
theorem x_C_makeCancellation_43 : kt_dc i_C_makeCancellation 43 (.iload_n 1) 1 44 := ⟨by decide +kernel, rfl⟩
theorem x_C_makeCancellation_44 : kt_dc i_C_makeCancellation 44 (.laload) 1 45 := ⟨by decide +kernel, rfl⟩
theorem x_C_makeCancellation_45 : kt_sV i_C_makeCancellation 45 i_E_standingIn 1 1 48 := ⟨86, ⟨by decide +kernel, rfl⟩, Or.inr ⟨"KinderTowns", tw_316⟩, j_E_standingIn, ⟨tw_235, tp_6⟩, ⟨TX1, 8, rfl⟩, by decide, rfl⟩
theorem c_C_makeCancellation_45 {P : kt_P} {NM : Nat} {L : List (Option Value)} {rest : List Value} {N : Nat} {I : kt_I} {J : kt_J} {R : kt_R} {Q : Option Value → kt_I → kt_J → kt_R → Prop} {b : Nat} {x0 : Int64} (hkd : kt_kd P N b = (1, 0)) (hrest : (rest.map fun v => v.category).sum ≤ 8) (kk : KW P i_E_standingIn N 0 [some (.ref b), some (.long x0), none] [] N I J R (fun v I' J' R' => KW P i_C_makeCancellation NM 48 L (kt_pu v rest) N I' J' R' Q)) : KW P i_C_makeCancellation NM 45 L (.long x0 :: .ref b :: rest) N I J R Q := kw_callV x_C_makeCancellation_45 (As := [.long x0]) rfl rfl (Nat.le_of_ble_eq_true rfl) hrest hkd (Nat.le_refl N) (fun h => h) kk
theorem x_C_makeCancellation_48 : kt_dc i_C_makeCancellation 48 (.iload_n 2) 1 49 := ⟨by decide +kernel, rfl⟩
theorem x_C_makeCancellation_49 : kt_sS i_C_makeCancellation 49 i_K_has 2 52 := ⟨90, ⟨by decide +kernel, rfl⟩, Or.inr ⟨"KinderTowns", tw_317⟩, j_K_has, tw_242, rfl⟩
theorem c_C_makeCancellation_49 {P : kt_P} {NM : Nat} {L : List (Option Value)} {rest : List Value} {N : Nat} {I : kt_I} {J : kt_J} {R : kt_R} {Q : Option Value → kt_I → kt_J → kt_R → Prop} {x0 : Int64} {x1 : Int32} (hrest : (rest.map fun v => v.category).sum ≤ 8) (kk : KW P i_K_has N 0 [some (.long x0), none, some (.int x1)] [] N I J R (fun v I' J' R' => KW P i_C_makeCancellation NM 52 L (kt_pu v rest) N I' J' R' Q)) : KW P i_C_makeCancellation NM 49 L (.int x1 :: .long x0 :: rest) N I J R Q := kw_callS x_C_makeCancellation_49 (As := [.long x0, .int x1]) rfl rfl (Nat.le_of_ble_eq_true rfl) hrest (Nat.le_refl N) (fun h => h) kk
theorem x_C_makeCancellation_52 : kt_dj i_C_makeCancellation 52 (.ifCond .ne) 58 55 := ⟨6, by decide +kernel, by decide, rfl⟩
theorem x_C_makeCancellation_55 : kt_dc i_C_makeCancellation 55 (.bipush (-2)) 2 57 ∧ (Int8.ofInt (-2)).toInt32 = (-2 : Int32) := ⟨⟨by decide +kernel, rfl⟩, by decide⟩
theorem x_C_makeCancellation_57 : kt_dc i_C_makeCancellation 57 (.ireturn) 1 58 ∧ kt_rt i_C_makeCancellation = (some .int) := ⟨⟨by decide +kernel, rfl⟩, rfl⟩
theorem x_C_makeCancellation_58 : kt_dc i_C_makeCancellation 58 (.aload_n 0) 1 59 := ⟨by decide +kernel, rfl⟩
theorem x_C_makeCancellation_59 : kt_dc i_C_makeCancellation 59 (.iconst 2) 1 60 ∧ Int32.ofInt (2) = nI 2 := ⟨⟨by decide +kernel, rfl⟩, by decide⟩
theorem x_C_makeCancellation_60 : kt_dc i_C_makeCancellation 60 (.iload_n 1) 1 61 := ⟨by decide +kernel, rfl⟩
theorem x_C_makeCancellation_61 : kt_dc i_C_makeCancellation 61 (.aload_n 0) 1 62 := ⟨by decide +kernel, rfl⟩
theorem x_C_makeCancellation_62 : kt_sG i_C_makeCancellation 62 0 1 2 65 := ⟨21, RX0, TX0, 11, ⟨by decide +kernel, rfl⟩, rfl, by decide, rfl, by decide, Or.inl (tw_140)⟩
theorem x_C_makeCancellation_65 : kt_sG i_C_makeCancellation 65 1 4 2 68 := ⟨94, RX1, TX1, 8, ⟨by decide +kernel, rfl⟩, rfl, by decide, rfl, by decide, Or.inr ⟨"KinderTowns", tw_108⟩⟩
theorem x_C_makeCancellation_68 : kt_dc i_C_makeCancellation 68 (.iload_n 2) 1 69 := ⟨by decide +kernel, rfl⟩
theorem x_C_makeCancellation_69 : kt_dc i_C_makeCancellation 69 (.iaload) 1 70 := ⟨by decide +kernel, rfl⟩
theorem x_C_makeCancellation_70 : kt_dc i_C_makeCancellation 70 (.aload_n 0) 1 71 := ⟨by decide +kernel, rfl⟩
theorem x_C_makeCancellation_71 : kt_sG i_C_makeCancellation 71 0 1 2 74 := ⟨21, RX0, TX0, 11, ⟨by decide +kernel, rfl⟩, rfl, by decide, rfl, by decide, Or.inl (tw_140)⟩
theorem x_C_makeCancellation_74 : kt_sG i_C_makeCancellation 74 1 5 2 77 := ⟨97, RX1, TX1, 8, ⟨by decide +kernel, rfl⟩, rfl, by decide, rfl, by decide, Or.inr ⟨"KinderTowns", tw_112⟩⟩
theorem x_C_makeCancellation_77 : kt_dc i_C_makeCancellation 77 (.iload_n 2) 1 78 := ⟨by decide +kernel, rfl⟩
theorem x_C_makeCancellation_78 : kt_dc i_C_makeCancellation 78 (.iaload) 1 79 := ⟨by decide +kernel, rfl⟩
theorem x_C_makeCancellation_79 : kt_sV i_C_makeCancellation 79 i_C_make 0 4 82 := ⟨73, ⟨by decide +kernel, rfl⟩, Or.inl (tw_287), j_C_make, ⟨tw_289, tp_16⟩, ⟨TX0, 11, rfl⟩, by decide, rfl⟩
theorem c_C_makeCancellation_79 {P : kt_P} {NM : Nat} {L : List (Option Value)} {rest : List Value} {N : Nat} {I : kt_I} {J : kt_J} {R : kt_R} {Q : Option Value → kt_I → kt_J → kt_R → Prop} {b : Nat} {x0 : Int32} {x1 : Int32} {x2 : Int32} {x3 : Int32} (hkd : kt_kd P N b = (0, 0)) (hrest : (rest.map fun v => v.category).sum ≤ 8) (kk : KW P i_C_make N 0 [some (.ref b), some (.int x0), some (.int x1), some (.int x2), some (.int x3), none] [] N I J R (fun v I' J' R' => KW P i_C_makeCancellation NM 82 L (kt_pu v rest) N I' J' R' Q)) : KW P i_C_makeCancellation NM 79 L (.int x3 :: .int x2 :: .int x1 :: .int x0 :: .ref b :: rest) N I J R Q := kw_callV x_C_makeCancellation_79 (As := [.int x0, .int x1, .int x2, .int x3]) rfl rfl (Nat.le_of_ble_eq_true rfl) hrest hkd (Nat.le_refl N) (fun h => h) kk
theorem x_C_makeCancellation_82 : kt_dc i_C_makeCancellation 82 (.istore_n 3) 1 83 := ⟨by decide +kernel, rfl⟩
theorem x_C_makeCancellation_83 : kt_dc i_C_makeCancellation 83 (.iload_n 3) 1 84 := ⟨by decide +kernel, rfl⟩
theorem x_C_makeCancellation_84 : kt_dj i_C_makeCancellation 84 (.ifCond .lt) 115 87 := ⟨31, by decide +kernel, by decide, rfl⟩
theorem x_C_makeCancellation_87 : kt_dc i_C_makeCancellation 87 (.aload_n 0) 1 88 := ⟨by decide +kernel, rfl⟩
theorem x_C_makeCancellation_88 : kt_sG i_C_makeCancellation 88 0 1 2 91 := ⟨21, RX0, TX0, 11, ⟨by decide +kernel, rfl⟩, rfl, by decide, rfl, by decide, Or.inl (tw_140)⟩
theorem x_C_makeCancellation_91 : kt_sG i_C_makeCancellation 91 1 6 2 94 := ⟨77, RX1, TX1, 8, ⟨by decide +kernel, rfl⟩, rfl, by decide, rfl, by decide, Or.inr ⟨"KinderTowns", tw_116⟩⟩
theorem x_C_makeCancellation_94 : kt_dc i_C_makeCancellation 94 (.iload_n 3) 1 95 := ⟨by decide +kernel, rfl⟩
theorem x_C_makeCancellation_95 : kt_dc i_C_makeCancellation 95 (.aload_n 0) 1 96 := ⟨by decide +kernel, rfl⟩
theorem x_C_makeCancellation_96 : kt_sG i_C_makeCancellation 96 0 1 2 99 := ⟨21, RX0, TX0, 11, ⟨by decide +kernel, rfl⟩, rfl, by decide, rfl, by decide, Or.inl (tw_140)⟩
theorem x_C_makeCancellation_99 : kt_sG i_C_makeCancellation 99 1 6 2 102 := ⟨77, RX1, TX1, 8, ⟨by decide +kernel, rfl⟩, rfl, by decide, rfl, by decide, Or.inr ⟨"KinderTowns", tw_116⟩⟩
theorem x_C_makeCancellation_102 : kt_dc i_C_makeCancellation 102 (.iload_n 2) 1 103 := ⟨by decide +kernel, rfl⟩
theorem x_C_makeCancellation_103 : kt_dc i_C_makeCancellation 103 (.iaload) 1 104 := ⟨by decide +kernel, rfl⟩
theorem x_C_makeCancellation_104 : kt_dc i_C_makeCancellation 104 (.iastore) 1 105 := ⟨by decide +kernel, rfl⟩
theorem x_C_makeCancellation_105 : kt_dc i_C_makeCancellation 105 (.aload_n 0) 1 106 := ⟨by decide +kernel, rfl⟩
theorem x_C_makeCancellation_106 : kt_sG i_C_makeCancellation 106 0 1 2 109 := ⟨21, RX0, TX0, 11, ⟨by decide +kernel, rfl⟩, rfl, by decide, rfl, by decide, Or.inl (tw_140)⟩
theorem x_C_makeCancellation_109 : kt_sG i_C_makeCancellation 109 1 7 2 112 := ⟨100, RX1, TX1, 8, ⟨by decide +kernel, rfl⟩, rfl, by decide, rfl, by decide, Or.inr ⟨"KinderTowns", tw_119⟩⟩
theorem x_C_makeCancellation_112 : kt_dc i_C_makeCancellation 112 (.iload_n 3) 1 113 := ⟨by decide +kernel, rfl⟩
theorem x_C_makeCancellation_113 : kt_dc i_C_makeCancellation 113 (.iload_n 2) 1 114 := ⟨by decide +kernel, rfl⟩
theorem x_C_makeCancellation_114 : kt_dc i_C_makeCancellation 114 (.iastore) 1 115 := ⟨by decide +kernel, rfl⟩
theorem x_C_makeCancellation_115 : kt_dc i_C_makeCancellation 115 (.iload_n 3) 1 116 := ⟨by decide +kernel, rfl⟩
theorem x_C_makeCancellation_116 : kt_dc i_C_makeCancellation 116 (.ireturn) 1 117 ∧ kt_rt i_C_makeCancellation = (some .int) := ⟨⟨by decide +kernel, rfl⟩, rfl⟩
theorem x_E_isOrder_0 : kt_dc i_E_isOrder 0 (.iload_n 1) 1 1 := ⟨by decide +kernel, rfl⟩
theorem x_E_isOrder_1 : kt_dc i_E_isOrder 1 (.aload_n 0) 1 2 := ⟨by decide +kernel, rfl⟩
theorem x_E_isOrder_2 : kt_sG i_E_isOrder 2 1 0 0 5 := ⟨33, RX1, TX1, 8, ⟨by decide +kernel, rfl⟩, rfl, by decide, rfl, by decide, Or.inl (tw_93)⟩
theorem x_E_isOrder_5 : kt_sS i_E_isOrder 5 i_K_isBelow 2 8 := ⟨43, ⟨by decide +kernel, rfl⟩, Or.inr ⟨"KinderTowns", tw_295⟩, j_K_isBelow, tw_219, rfl⟩
theorem c_E_isOrder_5 {P : kt_P} {NM : Nat} {L : List (Option Value)} {rest : List Value} {N : Nat} {I : kt_I} {J : kt_J} {R : kt_R} {Q : Option Value → kt_I → kt_J → kt_R → Prop} {x0 : Int32} {x1 : Int32} (hrest : (rest.map fun v => v.category).sum ≤ 8) (kk : KW P i_K_isBelow N 0 [some (.int x0), some (.int x1)] [] N I J R (fun v I' J' R' => KW P i_E_isOrder NM 8 L (kt_pu v rest) N I' J' R' Q)) : KW P i_E_isOrder NM 5 L (.int x1 :: .int x0 :: rest) N I J R Q := kw_callS x_E_isOrder_5 (As := [.int x0, .int x1]) rfl rfl (Nat.le_of_ble_eq_true rfl) hrest (Nat.le_refl N) (fun h => h) kk
theorem x_E_isOrder_8 : kt_dj i_E_isOrder 8 (.ifCond .eq) 25 11 := ⟨17, by decide +kernel, by decide, rfl⟩
theorem x_E_isOrder_11 : kt_dc i_E_isOrder 11 (.aload_n 0) 1 12 := ⟨by decide +kernel, rfl⟩
theorem x_E_isOrder_12 : kt_sG i_E_isOrder 12 1 1 2 15 := ⟨9, RX1, TX1, 8, ⟨by decide +kernel, rfl⟩, rfl, by decide, rfl, by decide, Or.inl (tw_97)⟩
theorem x_E_isOrder_15 : kt_dc i_E_isOrder 15 (.iload_n 1) 1 16 := ⟨by decide +kernel, rfl⟩
theorem x_E_isOrder_16 : kt_dc i_E_isOrder 16 (.iaload) 1 17 := ⟨by decide +kernel, rfl⟩
theorem x_E_isOrder_17 : kt_dc i_E_isOrder 17 (.iconst 1) 1 18 ∧ Int32.ofInt (1) = nI 1 := ⟨⟨by decide +kernel, rfl⟩, by decide⟩
theorem x_E_isOrder_18 : kt_dj i_E_isOrder 18 (.if_icmp .ne) 25 21 := ⟨7, by decide +kernel, by decide, rfl⟩
theorem x_E_isOrder_21 : kt_dc i_E_isOrder 21 (.iconst 1) 1 22 ∧ Int32.ofInt (1) = nI 1 := ⟨⟨by decide +kernel, rfl⟩, by decide⟩
theorem x_E_isOrder_22 : kt_dj i_E_isOrder 22 .goto 26 25 := ⟨4, by decide +kernel, by decide, rfl⟩
theorem x_E_isOrder_25 : kt_dc i_E_isOrder 25 (.iconst 0) 1 26 ∧ Int32.ofInt (0) = nI 0 := ⟨⟨by decide +kernel, rfl⟩, by decide⟩
theorem x_E_isOrder_26 : kt_dc i_E_isOrder 26 (.ireturn) 1 27 ∧ kt_rt i_E_isOrder = (some .boolean) := ⟨⟨by decide +kernel, rfl⟩, rfl⟩
theorem x_C_letMeet_0 : kt_dc i_C_letMeet 0 (.aload_n 0) 1 1 := ⟨by decide +kernel, rfl⟩
theorem x_C_letMeet_1 : kt_dc i_C_letMeet 1 (.iload_n 1) 1 2 := ⟨by decide +kernel, rfl⟩
theorem x_C_letMeet_2 : kt_dc i_C_letMeet 2 (.iload_n 2) 1 3 := ⟨by decide +kernel, rfl⟩
theorem x_C_letMeet_3 : kt_sV i_C_letMeet 3 i_C_letHear 0 2 6 := ⟨107, ⟨by decide +kernel, rfl⟩, Or.inl (tw_326), j_C_letHear, ⟨tw_328, tp_22⟩, ⟨TX0, 11, rfl⟩, by decide, rfl⟩
theorem c_C_letMeet_3 {P : kt_P} {NM : Nat} {L : List (Option Value)} {rest : List Value} {N : Nat} {I : kt_I} {J : kt_J} {R : kt_R} {Q : Option Value → kt_I → kt_J → kt_R → Prop} {b : Nat} {x0 : Int32} {x1 : Int32} (hkd : kt_kd P N b = (0, 0)) (hrest : (rest.map fun v => v.category).sum ≤ 8) (kk : KW P i_C_letHear N 0 [some (.ref b), some (.int x0), some (.int x1), none] [] N I J R (fun v I' J' R' => KW P i_C_letMeet NM 6 L (kt_pu v rest) N I' J' R' Q)) : KW P i_C_letMeet NM 3 L (.int x1 :: .int x0 :: .ref b :: rest) N I J R Q := kw_callV x_C_letMeet_3 (As := [.int x0, .int x1]) rfl rfl (Nat.le_of_ble_eq_true rfl) hrest hkd (Nat.le_refl N) (fun h => h) kk
theorem x_C_letMeet_6 : kt_dc i_C_letMeet 6 (.istore_n 3) 1 7 := ⟨by decide +kernel, rfl⟩
theorem x_C_letMeet_7 : kt_dc i_C_letMeet 7 (.iload_n 3) 1 8 := ⟨by decide +kernel, rfl⟩
theorem x_C_letMeet_8 : kt_dj i_C_letMeet 8 (.ifCond .ge) 15 11 := ⟨7, by decide +kernel, by decide, rfl⟩
theorem x_C_letMeet_11 : kt_dc i_C_letMeet 11 (.iload_n 3) 1 12 := ⟨by decide +kernel, rfl⟩
theorem x_C_letMeet_12 : kt_dj i_C_letMeet 12 .goto 23 15 := ⟨11, by decide +kernel, by decide, rfl⟩
theorem x_C_letMeet_15 : kt_dc i_C_letMeet 15 (.iload_n 3) 1 16 := ⟨by decide +kernel, rfl⟩
theorem x_C_letMeet_16 : kt_dc i_C_letMeet 16 (.aload_n 0) 1 17 := ⟨by decide +kernel, rfl⟩
theorem x_C_letMeet_17 : kt_dc i_C_letMeet 17 (.iload_n 2) 1 18 := ⟨by decide +kernel, rfl⟩
theorem x_C_letMeet_18 : kt_dc i_C_letMeet 18 (.iload_n 1) 1 19 := ⟨by decide +kernel, rfl⟩
theorem x_C_letMeet_19 : kt_sV i_C_letMeet 19 i_C_letHear 0 2 22 := ⟨107, ⟨by decide +kernel, rfl⟩, Or.inl (tw_326), j_C_letHear, ⟨tw_328, tp_22⟩, ⟨TX0, 11, rfl⟩, by decide, rfl⟩
theorem c_C_letMeet_19 {P : kt_P} {NM : Nat} {L : List (Option Value)} {rest : List Value} {N : Nat} {I : kt_I} {J : kt_J} {R : kt_R} {Q : Option Value → kt_I → kt_J → kt_R → Prop} {b : Nat} {x0 : Int32} {x1 : Int32} (hkd : kt_kd P N b = (0, 0)) (hrest : (rest.map fun v => v.category).sum ≤ 8) (kk : KW P i_C_letHear N 0 [some (.ref b), some (.int x0), some (.int x1), none] [] N I J R (fun v I' J' R' => KW P i_C_letMeet NM 22 L (kt_pu v rest) N I' J' R' Q)) : KW P i_C_letMeet NM 19 L (.int x1 :: .int x0 :: .ref b :: rest) N I J R Q := kw_callV x_C_letMeet_19 (As := [.int x0, .int x1]) rfl rfl (Nat.le_of_ble_eq_true rfl) hrest hkd (Nat.le_refl N) (fun h => h) kk
theorem x_C_letMeet_22 : kt_dc i_C_letMeet 22 (.iadd) 1 23 := ⟨by decide +kernel, rfl⟩
theorem x_C_letMeet_23 : kt_dc i_C_letMeet 23 (.ireturn) 1 24 ∧ kt_rt i_C_letMeet = (some .int) := ⟨⟨by decide +kernel, rfl⟩, rfl⟩
theorem x_C_letHear_0 : kt_dc i_C_letHear 0 (.aload_n 0) 1 1 := ⟨by decide +kernel, rfl⟩
theorem x_C_letHear_1 : kt_dc i_C_letHear 1 (.iload_n 1) 1 2 := ⟨by decide +kernel, rfl⟩
theorem x_C_letHear_2 : kt_sV i_C_letHear 2 i_C_isTown 0 1 5 := ⟨69, ⟨by decide +kernel, rfl⟩, Or.inl (tw_283), j_C_isTown, ⟨tw_285, tp_15⟩, ⟨TX0, 11, rfl⟩, by decide, rfl⟩
theorem c_C_letHear_2 {P : kt_P} {NM : Nat} {L : List (Option Value)} {rest : List Value} {N : Nat} {I : kt_I} {J : kt_J} {R : kt_R} {Q : Option Value → kt_I → kt_J → kt_R → Prop} {b : Nat} {x0 : Int32} (hkd : kt_kd P N b = (0, 0)) (hrest : (rest.map fun v => v.category).sum ≤ 8) (kk : KW P i_C_isTown N 0 [some (.ref b), some (.int x0)] [] N I J R (fun v I' J' R' => KW P i_C_letHear NM 5 L (kt_pu v rest) N I' J' R' Q)) : KW P i_C_letHear NM 2 L (.int x0 :: .ref b :: rest) N I J R Q := kw_callV x_C_letHear_2 (As := [.int x0]) rfl rfl (Nat.le_of_ble_eq_true rfl) hrest hkd (Nat.le_refl N) (fun h => h) kk
theorem x_C_letHear_5 : kt_dj i_C_letHear 5 (.ifCond .eq) 21 8 := ⟨16, by decide +kernel, by decide, rfl⟩
theorem x_C_letHear_8 : kt_dc i_C_letHear 8 (.aload_n 0) 1 9 := ⟨by decide +kernel, rfl⟩
theorem x_C_letHear_9 : kt_dc i_C_letHear 9 (.iload_n 2) 1 10 := ⟨by decide +kernel, rfl⟩
theorem x_C_letHear_10 : kt_sV i_C_letHear 10 i_C_isTown 0 1 13 := ⟨69, ⟨by decide +kernel, rfl⟩, Or.inl (tw_283), j_C_isTown, ⟨tw_285, tp_15⟩, ⟨TX0, 11, rfl⟩, by decide, rfl⟩
theorem c_C_letHear_10 {P : kt_P} {NM : Nat} {L : List (Option Value)} {rest : List Value} {N : Nat} {I : kt_I} {J : kt_J} {R : kt_R} {Q : Option Value → kt_I → kt_J → kt_R → Prop} {b : Nat} {x0 : Int32} (hkd : kt_kd P N b = (0, 0)) (hrest : (rest.map fun v => v.category).sum ≤ 8) (kk : KW P i_C_isTown N 0 [some (.ref b), some (.int x0)] [] N I J R (fun v I' J' R' => KW P i_C_letHear NM 13 L (kt_pu v rest) N I' J' R' Q)) : KW P i_C_letHear NM 10 L (.int x0 :: .ref b :: rest) N I J R Q := kw_callV x_C_letHear_10 (As := [.int x0]) rfl rfl (Nat.le_of_ble_eq_true rfl) hrest hkd (Nat.le_refl N) (fun h => h) kk
theorem x_C_letHear_13 : kt_dj i_C_letHear 13 (.ifCond .eq) 21 16 := ⟨8, by decide +kernel, by decide, rfl⟩
theorem x_C_letHear_16 : kt_dc i_C_letHear 16 (.iload_n 1) 1 17 := ⟨by decide +kernel, rfl⟩
theorem x_C_letHear_17 : kt_dc i_C_letHear 17 (.iload_n 2) 1 18 := ⟨by decide +kernel, rfl⟩
theorem x_C_letHear_18 : kt_dj i_C_letHear 18 (.if_icmp .ne) 23 21 := ⟨5, by decide +kernel, by decide, rfl⟩
theorem x_C_letHear_21 : kt_dc i_C_letHear 21 (.iconst (-1)) 1 22 ∧ Int32.ofInt (-1) = (-1 : Int32) := ⟨⟨by decide +kernel, rfl⟩, by decide⟩
theorem x_C_letHear_22 : kt_dc i_C_letHear 22 (.ireturn) 1 23 ∧ kt_rt i_C_letHear = (some .int) := ⟨⟨by decide +kernel, rfl⟩, rfl⟩
theorem x_C_letHear_23 : kt_dc i_C_letHear 23 (.aload_n 0) 1 24 := ⟨by decide +kernel, rfl⟩
theorem x_C_letHear_24 : kt_dc i_C_letHear 24 (.iload_n 1) 1 25 := ⟨by decide +kernel, rfl⟩
theorem x_C_letHear_25 : kt_dc i_C_letHear 25 (.aload_n 0) 1 26 := ⟨by decide +kernel, rfl⟩
theorem x_C_letHear_26 : kt_sG i_C_letHear 26 0 5 2 29 := ⟨29, RX0, TX0, 11, ⟨by decide +kernel, rfl⟩, rfl, by decide, rfl, by decide, Or.inl (tw_148)⟩
theorem x_C_letHear_29 : kt_dc i_C_letHear 29 (.iload_n 2) 1 30 := ⟨by decide +kernel, rfl⟩
theorem x_C_letHear_30 : kt_dc i_C_letHear 30 (.laload) 1 31 := ⟨by decide +kernel, rfl⟩
theorem x_C_letHear_31 : kt_sV i_C_letHear 31 i_C_newsFor 0 2 34 := ⟨111, ⟨by decide +kernel, rfl⟩, Or.inl (tw_330), j_C_newsFor, ⟨tw_332, tp_23⟩, ⟨TX0, 11, rfl⟩, by decide, rfl⟩
theorem c_C_letHear_31 {P : kt_P} {NM : Nat} {L : List (Option Value)} {rest : List Value} {N : Nat} {I : kt_I} {J : kt_J} {R : kt_R} {Q : Option Value → kt_I → kt_J → kt_R → Prop} {b : Nat} {x0 : Int32} {x1 : Int64} (hkd : kt_kd P N b = (0, 0)) (hrest : (rest.map fun v => v.category).sum ≤ 8) (kk : KW P i_C_newsFor N 0 [some (.ref b), some (.int x0), some (.long x1), none] [] N I J R (fun v I' J' R' => KW P i_C_letHear NM 34 L (kt_pu v rest) N I' J' R' Q)) : KW P i_C_letHear NM 31 L (.long x1 :: .int x0 :: .ref b :: rest) N I J R Q := kw_callV x_C_letHear_31 (As := [.int x0, .long x1]) rfl rfl (Nat.le_of_ble_eq_true rfl) hrest hkd (Nat.le_refl N) (fun h => h) kk
theorem x_C_letHear_34 : kt_dc i_C_letHear 34 (.istore_n 3) 1 35 := ⟨by decide +kernel, rfl⟩
theorem x_C_letHear_35 : kt_dc i_C_letHear 35 (.aload_n 0) 1 36 := ⟨by decide +kernel, rfl⟩
theorem x_C_letHear_36 : kt_sG i_C_letHear 36 0 5 2 39 := ⟨29, RX0, TX0, 11, ⟨by decide +kernel, rfl⟩, rfl, by decide, rfl, by decide, Or.inl (tw_148)⟩
theorem x_C_letHear_39 : kt_dc i_C_letHear 39 (.iload_n 1) 1 40 := ⟨by decide +kernel, rfl⟩
theorem x_C_letHear_40 : kt_dc i_C_letHear 40 (.dup2) 1 41 := ⟨by decide +kernel, rfl⟩
theorem x_C_letHear_41 : kt_dc i_C_letHear 41 (.laload) 1 42 := ⟨by decide +kernel, rfl⟩
theorem x_C_letHear_42 : kt_dc i_C_letHear 42 (.aload_n 0) 1 43 := ⟨by decide +kernel, rfl⟩
theorem x_C_letHear_43 : kt_sG i_C_letHear 43 0 5 2 46 := ⟨29, RX0, TX0, 11, ⟨by decide +kernel, rfl⟩, rfl, by decide, rfl, by decide, Or.inl (tw_148)⟩
theorem x_C_letHear_46 : kt_dc i_C_letHear 46 (.iload_n 2) 1 47 := ⟨by decide +kernel, rfl⟩
theorem x_C_letHear_47 : kt_dc i_C_letHear 47 (.laload) 1 48 := ⟨by decide +kernel, rfl⟩
theorem x_C_letHear_48 : kt_dc i_C_letHear 48 (.lor) 1 49 := ⟨by decide +kernel, rfl⟩
theorem x_C_letHear_49 : kt_dc i_C_letHear 49 (.lastore) 1 50 := ⟨by decide +kernel, rfl⟩
theorem x_C_letHear_50 : kt_dc i_C_letHear 50 (.aload_n 0) 1 51 := ⟨by decide +kernel, rfl⟩
theorem x_C_letHear_51 : kt_sG i_C_letHear 51 0 4 2 54 := ⟨25, RX0, TX0, 11, ⟨by decide +kernel, rfl⟩, rfl, by decide, rfl, by decide, Or.inl (tw_146)⟩
theorem x_C_letHear_54 : kt_dc i_C_letHear 54 (.iload_n 1) 1 55 := ⟨by decide +kernel, rfl⟩
theorem x_C_letHear_55 : kt_dc i_C_letHear 55 (.aload_n 0) 1 56 := ⟨by decide +kernel, rfl⟩
theorem x_C_letHear_56 : kt_sG i_C_letHear 56 0 4 2 59 := ⟨25, RX0, TX0, 11, ⟨by decide +kernel, rfl⟩, rfl, by decide, rfl, by decide, Or.inl (tw_146)⟩
theorem x_C_letHear_59 : kt_dc i_C_letHear 59 (.iload_n 1) 1 60 := ⟨by decide +kernel, rfl⟩
theorem x_C_letHear_60 : kt_dc i_C_letHear 60 (.iaload) 1 61 := ⟨by decide +kernel, rfl⟩
theorem x_C_letHear_61 : kt_dc i_C_letHear 61 (.aload_n 0) 1 62 := ⟨by decide +kernel, rfl⟩
theorem x_C_letHear_62 : kt_sG i_C_letHear 62 0 4 2 65 := ⟨25, RX0, TX0, 11, ⟨by decide +kernel, rfl⟩, rfl, by decide, rfl, by decide, Or.inl (tw_146)⟩
theorem x_C_letHear_65 : kt_dc i_C_letHear 65 (.iload_n 2) 1 66 := ⟨by decide +kernel, rfl⟩
theorem x_C_letHear_66 : kt_dc i_C_letHear 66 (.iaload) 1 67 := ⟨by decide +kernel, rfl⟩
theorem x_C_letHear_67 : kt_dc i_C_letHear 67 (.invokestatic 115) 3 70 ∧ Cond.methodLink (kt_ow i_C_letHear) 115 Lib.Math.max.name ∈ kt_GW ∧ 1 ≤ kt_fr i_C_letHear ∧ 40 ≤ kt_lo i_C_letHear := ⟨⟨by decide +kernel, rfl⟩, tw_341, by decide, by decide⟩
theorem x_C_letHear_70 : kt_dc i_C_letHear 70 (.iastore) 1 71 := ⟨by decide +kernel, rfl⟩
theorem x_C_letHear_71 : kt_dc i_C_letHear 71 (.iload_n 3) 1 72 := ⟨by decide +kernel, rfl⟩
theorem x_C_letHear_72 : kt_dc i_C_letHear 72 (.ireturn) 1 73 ∧ kt_rt i_C_letHear = (some .int) := ⟨⟨by decide +kernel, rfl⟩, rfl⟩
theorem x_C_newsFor_0 : kt_dc i_C_newsFor 0 (.lload_n 2) 1 1 := ⟨by decide +kernel, rfl⟩
theorem x_C_newsFor_1 : kt_dc i_C_newsFor 1 (.aload_n 0) 1 2 := ⟨by decide +kernel, rfl⟩
theorem x_C_newsFor_2 : kt_sG i_C_newsFor 2 0 5 2 5 := ⟨29, RX0, TX0, 11, ⟨by decide +kernel, rfl⟩, rfl, by decide, rfl, by decide, Or.inl (tw_148)⟩
theorem x_C_newsFor_5 : kt_dc i_C_newsFor 5 (.iload_n 1) 1 6 := ⟨by decide +kernel, rfl⟩
theorem x_C_newsFor_6 : kt_dc i_C_newsFor 6 (.laload) 1 7 := ⟨by decide +kernel, rfl⟩
theorem x_C_newsFor_7 : kt_dc i_C_newsFor 7 (.ldc2_w 129) 3 10 ∧ Cond.constantLong (kt_ow i_C_newsFor) 129 (-1) ∈ kt_GW := ⟨⟨by decide +kernel, rfl⟩, tw_334⟩
theorem x_C_newsFor_10 : kt_dc i_C_newsFor 10 (.lxor) 1 11 := ⟨by decide +kernel, rfl⟩
theorem x_C_newsFor_11 : kt_dc i_C_newsFor 11 (.land) 1 12 := ⟨by decide +kernel, rfl⟩
theorem x_C_newsFor_12 : kt_sS i_C_newsFor 12 i_J_bitCount 1 15 := ⟨131, ⟨by decide +kernel, rfl⟩, Or.inl (tw_335), j_J_bitCount, tw_336, rfl⟩
theorem c_C_newsFor_12 {P : kt_P} {NM : Nat} {L : List (Option Value)} {rest : List Value} {N : Nat} {I : kt_I} {J : kt_J} {R : kt_R} {Q : Option Value → kt_I → kt_J → kt_R → Prop} {x0 : Int64} (hrest : (rest.map fun v => v.category).sum ≤ 8) (kk : KW P i_J_bitCount N 0 [some (.long x0), none] [] N I J R (fun v I' J' R' => KW P i_C_newsFor NM 15 L (kt_pu v rest) N I' J' R' Q)) : KW P i_C_newsFor NM 12 L (.long x0 :: rest) N I J R Q := kw_callS x_C_newsFor_12 (As := [.long x0]) rfl rfl (Nat.le_of_ble_eq_true rfl) hrest (Nat.le_refl N) (fun h => h) kk
theorem x_C_newsFor_15 : kt_dc i_C_newsFor 15 (.ireturn) 1 16 ∧ kt_rt i_C_newsFor = (some .int) := ⟨⟨by decide +kernel, rfl⟩, rfl⟩
theorem x_J_bitCount_0 : kt_dc i_J_bitCount 0 (.lload_n 0) 1 1 := ⟨by decide +kernel, rfl⟩
theorem x_J_bitCount_1 : kt_dc i_J_bitCount 1 (.lload_n 0) 1 2 := ⟨by decide +kernel, rfl⟩
theorem x_J_bitCount_2 : kt_dc i_J_bitCount 2 (.iconst 1) 1 3 ∧ Int32.ofInt (1) = nI 1 := ⟨⟨by decide +kernel, rfl⟩, by decide⟩
theorem x_J_bitCount_3 : kt_dc i_J_bitCount 3 (.lushr) 1 4 := ⟨by decide +kernel, rfl⟩
theorem x_J_bitCount_4 : kt_dc i_J_bitCount 4 (.ldc2_w 314) 3 7 ∧ Cond.constantLong (kt_ow i_J_bitCount) 314 (6148914691236517205) ∈ kt_GW := ⟨⟨by decide +kernel, rfl⟩, tw_338⟩
theorem x_J_bitCount_7 : kt_dc i_J_bitCount 7 (.land) 1 8 := ⟨by decide +kernel, rfl⟩
theorem x_J_bitCount_8 : kt_dc i_J_bitCount 8 (.lsub) 1 9 := ⟨by decide +kernel, rfl⟩
theorem x_J_bitCount_9 : kt_dc i_J_bitCount 9 (.lstore_n 0) 1 10 := ⟨by decide +kernel, rfl⟩
theorem x_J_bitCount_10 : kt_dc i_J_bitCount 10 (.lload_n 0) 1 11 := ⟨by decide +kernel, rfl⟩
theorem x_J_bitCount_11 : kt_dc i_J_bitCount 11 (.ldc2_w 316) 3 14 ∧ Cond.constantLong (kt_ow i_J_bitCount) 316 (3689348814741910323) ∈ kt_GW := ⟨⟨by decide +kernel, rfl⟩, tw_339⟩
theorem x_J_bitCount_14 : kt_dc i_J_bitCount 14 (.land) 1 15 := ⟨by decide +kernel, rfl⟩
theorem x_J_bitCount_15 : kt_dc i_J_bitCount 15 (.lload_n 0) 1 16 := ⟨by decide +kernel, rfl⟩
theorem x_J_bitCount_16 : kt_dc i_J_bitCount 16 (.iconst 2) 1 17 ∧ Int32.ofInt (2) = nI 2 := ⟨⟨by decide +kernel, rfl⟩, by decide⟩
theorem x_J_bitCount_17 : kt_dc i_J_bitCount 17 (.lushr) 1 18 := ⟨by decide +kernel, rfl⟩
theorem x_J_bitCount_18 : kt_dc i_J_bitCount 18 (.ldc2_w 316) 3 21 ∧ Cond.constantLong (kt_ow i_J_bitCount) 316 (3689348814741910323) ∈ kt_GW := ⟨⟨by decide +kernel, rfl⟩, tw_339⟩
theorem x_J_bitCount_21 : kt_dc i_J_bitCount 21 (.land) 1 22 := ⟨by decide +kernel, rfl⟩
theorem x_J_bitCount_22 : kt_dc i_J_bitCount 22 (.ladd) 1 23 := ⟨by decide +kernel, rfl⟩
theorem x_J_bitCount_23 : kt_dc i_J_bitCount 23 (.lstore_n 0) 1 24 := ⟨by decide +kernel, rfl⟩
theorem x_J_bitCount_24 : kt_dc i_J_bitCount 24 (.lload_n 0) 1 25 := ⟨by decide +kernel, rfl⟩
theorem x_J_bitCount_25 : kt_dc i_J_bitCount 25 (.lload_n 0) 1 26 := ⟨by decide +kernel, rfl⟩
theorem x_J_bitCount_26 : kt_dc i_J_bitCount 26 (.iconst 4) 1 27 ∧ Int32.ofInt (4) = nI 4 := ⟨⟨by decide +kernel, rfl⟩, by decide⟩
theorem x_J_bitCount_27 : kt_dc i_J_bitCount 27 (.lushr) 1 28 := ⟨by decide +kernel, rfl⟩
theorem x_J_bitCount_28 : kt_dc i_J_bitCount 28 (.ladd) 1 29 := ⟨by decide +kernel, rfl⟩
theorem x_J_bitCount_29 : kt_dc i_J_bitCount 29 (.ldc2_w 318) 3 32 ∧ Cond.constantLong (kt_ow i_J_bitCount) 318 (1085102592571150095) ∈ kt_GW := ⟨⟨by decide +kernel, rfl⟩, tw_340⟩
theorem x_J_bitCount_32 : kt_dc i_J_bitCount 32 (.land) 1 33 := ⟨by decide +kernel, rfl⟩
theorem x_J_bitCount_33 : kt_dc i_J_bitCount 33 (.lstore_n 0) 1 34 := ⟨by decide +kernel, rfl⟩
theorem x_J_bitCount_34 : kt_dc i_J_bitCount 34 (.lload_n 0) 1 35 := ⟨by decide +kernel, rfl⟩
theorem x_J_bitCount_35 : kt_dc i_J_bitCount 35 (.lload_n 0) 1 36 := ⟨by decide +kernel, rfl⟩
theorem x_J_bitCount_36 : kt_dc i_J_bitCount 36 (.bipush 8) 2 38 ∧ (Int8.ofInt (8)).toInt32 = nI 8 := ⟨⟨by decide +kernel, rfl⟩, by decide⟩
theorem x_J_bitCount_38 : kt_dc i_J_bitCount 38 (.lushr) 1 39 := ⟨by decide +kernel, rfl⟩
theorem x_J_bitCount_39 : kt_dc i_J_bitCount 39 (.ladd) 1 40 := ⟨by decide +kernel, rfl⟩
theorem x_J_bitCount_40 : kt_dc i_J_bitCount 40 (.lstore_n 0) 1 41 := ⟨by decide +kernel, rfl⟩
theorem x_J_bitCount_41 : kt_dc i_J_bitCount 41 (.lload_n 0) 1 42 := ⟨by decide +kernel, rfl⟩
theorem x_J_bitCount_42 : kt_dc i_J_bitCount 42 (.lload_n 0) 1 43 := ⟨by decide +kernel, rfl⟩
theorem x_J_bitCount_43 : kt_dc i_J_bitCount 43 (.bipush 16) 2 45 ∧ (Int8.ofInt (16)).toInt32 = nI 16 := ⟨⟨by decide +kernel, rfl⟩, by decide⟩
theorem x_J_bitCount_45 : kt_dc i_J_bitCount 45 (.lushr) 1 46 := ⟨by decide +kernel, rfl⟩
theorem x_J_bitCount_46 : kt_dc i_J_bitCount 46 (.ladd) 1 47 := ⟨by decide +kernel, rfl⟩
theorem x_J_bitCount_47 : kt_dc i_J_bitCount 47 (.lstore_n 0) 1 48 := ⟨by decide +kernel, rfl⟩
theorem x_J_bitCount_48 : kt_dc i_J_bitCount 48 (.lload_n 0) 1 49 := ⟨by decide +kernel, rfl⟩
theorem x_J_bitCount_49 : kt_dc i_J_bitCount 49 (.lload_n 0) 1 50 := ⟨by decide +kernel, rfl⟩
theorem x_J_bitCount_50 : kt_dc i_J_bitCount 50 (.bipush 32) 2 52 ∧ (Int8.ofInt (32)).toInt32 = nI 32 := ⟨⟨by decide +kernel, rfl⟩, by decide⟩
theorem x_J_bitCount_52 : kt_dc i_J_bitCount 52 (.lushr) 1 53 := ⟨by decide +kernel, rfl⟩
theorem x_J_bitCount_53 : kt_dc i_J_bitCount 53 (.ladd) 1 54 := ⟨by decide +kernel, rfl⟩
theorem x_J_bitCount_54 : kt_dc i_J_bitCount 54 (.lstore_n 0) 1 55 := ⟨by decide +kernel, rfl⟩
theorem x_J_bitCount_55 : kt_dc i_J_bitCount 55 (.lload_n 0) 1 56 := ⟨by decide +kernel, rfl⟩
theorem x_J_bitCount_56 : kt_dc i_J_bitCount 56 (.l2i) 1 57 := ⟨by decide +kernel, rfl⟩
theorem x_J_bitCount_57 : kt_dc i_J_bitCount 57 (.bipush 127) 2 59 ∧ (Int8.ofInt (127)).toInt32 = nI 127 := ⟨⟨by decide +kernel, rfl⟩, by decide⟩
theorem x_J_bitCount_59 : kt_dc i_J_bitCount 59 (.iand) 1 60 := ⟨by decide +kernel, rfl⟩
theorem x_J_bitCount_60 : kt_dc i_J_bitCount 60 (.ireturn) 1 61 ∧ kt_rt i_J_bitCount = (some .int) := ⟨⟨by decide +kernel, rfl⟩, rfl⟩
theorem x_J_max_0 : kt_dc i_J_max 0 (.iload_n 0) 1 1 := ⟨by decide +kernel, rfl⟩
theorem x_J_max_1 : kt_dc i_J_max 1 (.iload_n 1) 1 2 := ⟨by decide +kernel, rfl⟩
theorem x_J_max_2 : kt_dj i_J_max 2 (.if_icmp .lt) 9 5 := ⟨7, by decide +kernel, by decide, rfl⟩
theorem x_J_max_5 : kt_dc i_J_max 5 (.iload_n 0) 1 6 := ⟨by decide +kernel, rfl⟩
theorem x_J_max_6 : kt_dj i_J_max 6 .goto 10 9 := ⟨4, by decide +kernel, by decide, rfl⟩
theorem x_J_max_9 : kt_dc i_J_max 9 (.iload_n 1) 1 10 := ⟨by decide +kernel, rfl⟩
theorem x_J_max_10 : kt_dc i_J_max 10 (.ireturn) 1 11 ∧ kt_rt i_J_max = (some .int) := ⟨⟨by decide +kernel, rfl⟩, rfl⟩
theorem x_C_setRule_0 : kt_dc i_C_setRule 0 (.iload_n 1) 1 1 := ⟨by decide +kernel, rfl⟩
theorem x_C_setRule_1 : kt_dc i_C_setRule 1 (.iconst 3) 1 2 ∧ Int32.ofInt (3) = nI 3 := ⟨⟨by decide +kernel, rfl⟩, by decide⟩
theorem x_C_setRule_2 : kt_sS i_C_setRule 2 i_K_isBelow 2 5 := ⟨65, ⟨by decide +kernel, rfl⟩, Or.inr ⟨"KinderTowns", tw_218⟩, j_K_isBelow, tw_219, rfl⟩
theorem c_C_setRule_2 {P : kt_P} {NM : Nat} {L : List (Option Value)} {rest : List Value} {N : Nat} {I : kt_I} {J : kt_J} {R : kt_R} {Q : Option Value → kt_I → kt_J → kt_R → Prop} {x0 : Int32} {x1 : Int32} (hrest : (rest.map fun v => v.category).sum ≤ 8) (kk : KW P i_K_isBelow N 0 [some (.int x0), some (.int x1)] [] N I J R (fun v I' J' R' => KW P i_C_setRule NM 5 L (kt_pu v rest) N I' J' R' Q)) : KW P i_C_setRule NM 2 L (.int x1 :: .int x0 :: rest) N I J R Q := kw_callS x_C_setRule_2 (As := [.int x0, .int x1]) rfl rfl (Nat.le_of_ble_eq_true rfl) hrest (Nat.le_refl N) (fun h => h) kk
theorem x_C_setRule_5 : kt_dj i_C_setRule 5 (.ifCond .ne) 10 8 := ⟨5, by decide +kernel, by decide, rfl⟩
theorem x_C_setRule_8 : kt_dc i_C_setRule 8 (.iconst (-1)) 1 9 ∧ Int32.ofInt (-1) = (-1 : Int32) := ⟨⟨by decide +kernel, rfl⟩, by decide⟩
theorem x_C_setRule_9 : kt_dc i_C_setRule 9 (.ireturn) 1 10 ∧ kt_rt i_C_setRule = (some .int) := ⟨⟨by decide +kernel, rfl⟩, rfl⟩
theorem x_C_setRule_10 : kt_dc i_C_setRule 10 (.aload_n 0) 1 11 := ⟨by decide +kernel, rfl⟩
theorem x_C_setRule_11 : kt_sG i_C_setRule 11 0 3 0 14 := ⟨53, RX0, TX0, 11, ⟨by decide +kernel, rfl⟩, rfl, by decide, rfl, by decide, Or.inl (tw_144)⟩
theorem x_C_setRule_14 : kt_dc i_C_setRule 14 (.istore_n 2) 1 15 := ⟨by decide +kernel, rfl⟩
theorem x_C_setRule_15 : kt_dc i_C_setRule 15 (.aload_n 0) 1 16 := ⟨by decide +kernel, rfl⟩
theorem x_C_setRule_16 : kt_dc i_C_setRule 16 (.iload_n 1) 1 17 := ⟨by decide +kernel, rfl⟩
theorem x_C_setRule_17 : kt_sP i_C_setRule 17 0 3 0 20 := ⟨53, RX0, TX0, 11, tyX0 3, ⟨by decide +kernel, rfl⟩, rfl, by decide, rfl, by decide, by decide +kernel, rfl, Or.inl ⟨rfl, Or.inl (tw_144)⟩⟩
theorem x_C_setRule_20 : kt_dc i_C_setRule 20 (.iload_n 2) 1 21 := ⟨by decide +kernel, rfl⟩
theorem x_C_setRule_21 : kt_dc i_C_setRule 21 (.ireturn) 1 22 ∧ kt_rt i_C_setRule = (some .int) := ⟨⟨by decide +kernel, rfl⟩, rfl⟩
theorem x_C_townsWith_0 : kt_dc i_C_townsWith 0 (.iconst 0) 1 1 ∧ Int32.ofInt (0) = nI 0 := ⟨⟨by decide +kernel, rfl⟩, by decide⟩
theorem x_C_townsWith_1 : kt_dc i_C_townsWith 1 (.istore_n 3) 1 2 := ⟨by decide +kernel, rfl⟩
theorem x_C_townsWith_2 : kt_dc i_C_townsWith 2 (.iconst 0) 1 3 ∧ Int32.ofInt (0) = nI 0 := ⟨⟨by decide +kernel, rfl⟩, by decide⟩
theorem x_C_townsWith_3 : kt_dc i_C_townsWith 3 (.istore 4) 2 5 := ⟨by decide +kernel, rfl⟩
theorem x_C_townsWith_5 : kt_dc i_C_townsWith 5 (.iload 4) 2 7 := ⟨by decide +kernel, rfl⟩
theorem x_C_townsWith_7 : kt_dc i_C_townsWith 7 (.aload_n 0) 1 8 := ⟨by decide +kernel, rfl⟩
theorem x_C_townsWith_8 : kt_sG i_C_townsWith 8 0 2 0 11 := ⟨49, RX0, TX0, 11, ⟨by decide +kernel, rfl⟩, rfl, by decide, rfl, by decide, Or.inl (tw_142)⟩
theorem x_C_townsWith_11 : kt_dj i_C_townsWith 11 (.if_icmp .ge) 38 14 := ⟨27, by decide +kernel, by decide, rfl⟩
theorem x_C_townsWith_14 : kt_dc i_C_townsWith 14 (.aload_n 1) 1 15 := ⟨by decide +kernel, rfl⟩
theorem x_C_townsWith_15 : kt_dc i_C_townsWith 15 (.iload 4) 2 17 := ⟨by decide +kernel, rfl⟩
theorem x_C_townsWith_17 : kt_dc i_C_townsWith 17 (.laload) 1 18 := ⟨by decide +kernel, rfl⟩
theorem x_C_townsWith_18 : kt_dc i_C_townsWith 18 (.iload_n 2) 1 19 := ⟨by decide +kernel, rfl⟩
theorem x_C_townsWith_19 : kt_sS i_C_townsWith 19 i_K_has 2 22 := ⟨90, ⟨by decide +kernel, rfl⟩, Or.inr ⟨"KinderTowns", tw_317⟩, j_K_has, tw_242, rfl⟩
theorem c_C_townsWith_19 {P : kt_P} {NM : Nat} {L : List (Option Value)} {rest : List Value} {N : Nat} {I : kt_I} {J : kt_J} {R : kt_R} {Q : Option Value → kt_I → kt_J → kt_R → Prop} {x0 : Int64} {x1 : Int32} (hrest : (rest.map fun v => v.category).sum ≤ 8) (kk : KW P i_K_has N 0 [some (.long x0), none, some (.int x1)] [] N I J R (fun v I' J' R' => KW P i_C_townsWith NM 22 L (kt_pu v rest) N I' J' R' Q)) : KW P i_C_townsWith NM 19 L (.int x1 :: .long x0 :: rest) N I J R Q := kw_callS x_C_townsWith_19 (As := [.long x0, .int x1]) rfl rfl (Nat.le_of_ble_eq_true rfl) hrest (Nat.le_refl N) (fun h => h) kk
theorem x_C_townsWith_22 : kt_dj i_C_townsWith 22 (.ifCond .eq) 32 25 := ⟨10, by decide +kernel, by decide, rfl⟩
theorem x_C_townsWith_25 : kt_dc i_C_townsWith 25 (.iload_n 3) 1 26 := ⟨by decide +kernel, rfl⟩
theorem x_C_townsWith_26 : kt_dc i_C_townsWith 26 (.iconst 1) 1 27 ∧ Int32.ofInt (1) = nI 1 := ⟨⟨by decide +kernel, rfl⟩, by decide⟩
theorem x_C_townsWith_27 : kt_dc i_C_townsWith 27 (.iload 4) 2 29 := ⟨by decide +kernel, rfl⟩
theorem x_C_townsWith_29 : kt_dc i_C_townsWith 29 (.ishl) 1 30 := ⟨by decide +kernel, rfl⟩
theorem x_C_townsWith_30 : kt_dc i_C_townsWith 30 (.ior) 1 31 := ⟨by decide +kernel, rfl⟩
theorem x_C_townsWith_31 : kt_dc i_C_townsWith 31 (.istore_n 3) 1 32 := ⟨by decide +kernel, rfl⟩
theorem x_C_townsWith_32 : kt_dc i_C_townsWith 32 (.iinc 4 1) 3 35 ∧ Int32.ofInt (1) = nI 1 := ⟨⟨by decide +kernel, rfl⟩, by decide⟩
theorem x_C_townsWith_35 : kt_dj i_C_townsWith 35 .goto 5 38 := ⟨-30, by decide +kernel, by decide, rfl⟩
theorem x_C_townsWith_38 : kt_dc i_C_townsWith 38 (.iload_n 3) 1 39 := ⟨by decide +kernel, rfl⟩
theorem x_C_townsWith_39 : kt_dc i_C_townsWith 39 (.ireturn) 1 40 ∧ kt_rt i_C_townsWith = (some .int) := ⟨⟨by decide +kernel, rfl⟩, rfl⟩
theorem x_E_having_0 : kt_dc i_E_having 0 (.lconst 0) 1 1 ∧ Int64.ofNat ((0 : Fin 2) : Nat) = (0 : Int64) := ⟨⟨by decide +kernel, rfl⟩, rfl⟩
theorem x_E_having_1 : kt_dc i_E_having 1 (.lstore_n 3) 1 2 := ⟨by decide +kernel, rfl⟩
theorem x_E_having_2 : kt_dc i_E_having 2 (.iconst 0) 1 3 ∧ Int32.ofInt (0) = nI 0 := ⟨⟨by decide +kernel, rfl⟩, by decide⟩
theorem x_E_having_3 : kt_dc i_E_having 3 (.istore 5) 2 5 := ⟨by decide +kernel, rfl⟩
theorem x_E_having_5 : kt_dc i_E_having 5 (.iload 5) 2 7 := ⟨by decide +kernel, rfl⟩
theorem x_E_having_7 : kt_dc i_E_having 7 (.aload_n 0) 1 8 := ⟨by decide +kernel, rfl⟩
theorem x_E_having_8 : kt_sG i_E_having 8 1 0 0 11 := ⟨33, RX1, TX1, 8, ⟨by decide +kernel, rfl⟩, rfl, by decide, rfl, by decide, Or.inl (tw_93)⟩
theorem x_E_having_11 : kt_dj i_E_having 11 (.if_icmp .ge) 35 14 := ⟨24, by decide +kernel, by decide, rfl⟩
theorem x_E_having_14 : kt_dc i_E_having 14 (.aload_n 1) 1 15 := ⟨by decide +kernel, rfl⟩
theorem x_E_having_15 : kt_dc i_E_having 15 (.iload 5) 2 17 := ⟨by decide +kernel, rfl⟩
theorem x_E_having_17 : kt_dc i_E_having 17 (.iaload) 1 18 := ⟨by decide +kernel, rfl⟩
theorem x_E_having_18 : kt_dc i_E_having 18 (.iload_n 2) 1 19 := ⟨by decide +kernel, rfl⟩
theorem x_E_having_19 : kt_dj i_E_having 19 (.if_icmp .ne) 29 22 := ⟨10, by decide +kernel, by decide, rfl⟩
theorem x_E_having_22 : kt_dc i_E_having 22 (.lload_n 3) 1 23 := ⟨by decide +kernel, rfl⟩
theorem x_E_having_23 : kt_dc i_E_having 23 (.lconst 1) 1 24 ∧ Int64.ofNat ((1 : Fin 2) : Nat) = (1 : Int64) := ⟨⟨by decide +kernel, rfl⟩, rfl⟩
theorem x_E_having_24 : kt_dc i_E_having 24 (.iload 5) 2 26 := ⟨by decide +kernel, rfl⟩
theorem x_E_having_26 : kt_dc i_E_having 26 (.lshl) 1 27 := ⟨by decide +kernel, rfl⟩
theorem x_E_having_27 : kt_dc i_E_having 27 (.lor) 1 28 := ⟨by decide +kernel, rfl⟩
theorem x_E_having_28 : kt_dc i_E_having 28 (.lstore_n 3) 1 29 := ⟨by decide +kernel, rfl⟩
theorem x_E_having_29 : kt_dc i_E_having 29 (.iinc 5 1) 3 32 ∧ Int32.ofInt (1) = nI 1 := ⟨⟨by decide +kernel, rfl⟩, by decide⟩
theorem x_E_having_32 : kt_dj i_E_having 32 .goto 5 35 := ⟨-27, by decide +kernel, by decide, rfl⟩
theorem x_E_having_35 : kt_dc i_E_having 35 (.lload_n 3) 1 36 := ⟨by decide +kernel, rfl⟩
theorem x_E_having_36 : kt_dc i_E_having 36 (.lreturn) 1 37 ∧ kt_rt i_E_having = (some .long) := ⟨⟨by decide +kernel, rfl⟩, rfl⟩
theorem x_C_townsThatKnow_0 : kt_dc i_C_townsThatKnow 0 (.iconst 0) 1 1 ∧ Int32.ofInt (0) = nI 0 := ⟨⟨by decide +kernel, rfl⟩, by decide⟩
theorem x_C_townsThatKnow_1 : kt_dc i_C_townsThatKnow 1 (.istore_n 3) 1 2 := ⟨by decide +kernel, rfl⟩
theorem x_C_townsThatKnow_2 : kt_dc i_C_townsThatKnow 2 (.iconst 0) 1 3 ∧ Int32.ofInt (0) = nI 0 := ⟨⟨by decide +kernel, rfl⟩, by decide⟩
theorem x_C_townsThatKnow_3 : kt_dc i_C_townsThatKnow 3 (.istore 4) 2 5 := ⟨by decide +kernel, rfl⟩
theorem x_C_townsThatKnow_5 : kt_dc i_C_townsThatKnow 5 (.iload 4) 2 7 := ⟨by decide +kernel, rfl⟩
theorem x_C_townsThatKnow_7 : kt_dc i_C_townsThatKnow 7 (.aload_n 0) 1 8 := ⟨by decide +kernel, rfl⟩
theorem x_C_townsThatKnow_8 : kt_sG i_C_townsThatKnow 8 0 2 0 11 := ⟨49, RX0, TX0, 11, ⟨by decide +kernel, rfl⟩, rfl, by decide, rfl, by decide, Or.inl (tw_142)⟩
theorem x_C_townsThatKnow_11 : kt_dj i_C_townsThatKnow 11 (.if_icmp .ge) 39 14 := ⟨28, by decide +kernel, by decide, rfl⟩
theorem x_C_townsThatKnow_14 : kt_dc i_C_townsThatKnow 14 (.aload_n 0) 1 15 := ⟨by decide +kernel, rfl⟩
theorem x_C_townsThatKnow_15 : kt_sG i_C_townsThatKnow 15 0 5 2 18 := ⟨29, RX0, TX0, 11, ⟨by decide +kernel, rfl⟩, rfl, by decide, rfl, by decide, Or.inl (tw_148)⟩
theorem x_C_townsThatKnow_18 : kt_dc i_C_townsThatKnow 18 (.iload 4) 2 20 := ⟨by decide +kernel, rfl⟩
theorem x_C_townsThatKnow_20 : kt_dc i_C_townsThatKnow 20 (.laload) 1 21 := ⟨by decide +kernel, rfl⟩
theorem x_C_townsThatKnow_21 : kt_dc i_C_townsThatKnow 21 (.lload_n 1) 1 22 := ⟨by decide +kernel, rfl⟩
theorem x_C_townsThatKnow_22 : kt_dc i_C_townsThatKnow 22 (.lcmp) 1 23 := ⟨by decide +kernel, rfl⟩
theorem x_C_townsThatKnow_23 : kt_dj i_C_townsThatKnow 23 (.ifCond .ne) 33 26 := ⟨10, by decide +kernel, by decide, rfl⟩
theorem x_C_townsThatKnow_26 : kt_dc i_C_townsThatKnow 26 (.iload_n 3) 1 27 := ⟨by decide +kernel, rfl⟩
theorem x_C_townsThatKnow_27 : kt_dc i_C_townsThatKnow 27 (.iconst 1) 1 28 ∧ Int32.ofInt (1) = nI 1 := ⟨⟨by decide +kernel, rfl⟩, by decide⟩
theorem x_C_townsThatKnow_28 : kt_dc i_C_townsThatKnow 28 (.iload 4) 2 30 := ⟨by decide +kernel, rfl⟩
theorem x_C_townsThatKnow_30 : kt_dc i_C_townsThatKnow 30 (.ishl) 1 31 := ⟨by decide +kernel, rfl⟩
theorem x_C_townsThatKnow_31 : kt_dc i_C_townsThatKnow 31 (.ior) 1 32 := ⟨by decide +kernel, rfl⟩
theorem x_C_townsThatKnow_32 : kt_dc i_C_townsThatKnow 32 (.istore_n 3) 1 33 := ⟨by decide +kernel, rfl⟩
theorem x_C_townsThatKnow_33 : kt_dc i_C_townsThatKnow 33 (.iinc 4 1) 3 36 ∧ Int32.ofInt (1) = nI 1 := ⟨⟨by decide +kernel, rfl⟩, by decide⟩
theorem x_C_townsThatKnow_36 : kt_dj i_C_townsThatKnow 36 .goto 5 39 := ⟨-31, by decide +kernel, by decide, rfl⟩
theorem x_C_townsThatKnow_39 : kt_dc i_C_townsThatKnow 39 (.iload_n 3) 1 40 := ⟨by decide +kernel, rfl⟩
theorem x_C_townsThatKnow_40 : kt_dc i_C_townsThatKnow 40 (.ireturn) 1 41 ∧ kt_rt i_C_townsThatKnow = (some .int) := ⟨⟨by decide +kernel, rfl⟩, rfl⟩
theorem x_E_piecesOf_0 : kt_dc i_E_piecesOf 0 (.iconst 0) 1 1 ∧ Int32.ofInt (0) = nI 0 := ⟨⟨by decide +kernel, rfl⟩, by decide⟩
theorem x_E_piecesOf_1 : kt_dc i_E_piecesOf 1 (.istore_n 3) 1 2 := ⟨by decide +kernel, rfl⟩
theorem x_E_piecesOf_2 : kt_dc i_E_piecesOf 2 (.iconst 0) 1 3 ∧ Int32.ofInt (0) = nI 0 := ⟨⟨by decide +kernel, rfl⟩, by decide⟩
theorem x_E_piecesOf_3 : kt_dc i_E_piecesOf 3 (.istore 4) 2 5 := ⟨by decide +kernel, rfl⟩
theorem x_E_piecesOf_5 : kt_dc i_E_piecesOf 5 (.iload 4) 2 7 := ⟨by decide +kernel, rfl⟩
theorem x_E_piecesOf_7 : kt_dc i_E_piecesOf 7 (.aload_n 0) 1 8 := ⟨by decide +kernel, rfl⟩
theorem x_E_piecesOf_8 : kt_sG i_E_piecesOf 8 1 0 0 11 := ⟨33, RX1, TX1, 8, ⟨by decide +kernel, rfl⟩, rfl, by decide, rfl, by decide, Or.inl (tw_93)⟩
theorem x_E_piecesOf_11 : kt_dj i_E_piecesOf 11 (.if_icmp .ge) 39 14 := ⟨28, by decide +kernel, by decide, rfl⟩
theorem x_E_piecesOf_14 : kt_dc i_E_piecesOf 14 (.lload_n 1) 1 15 := ⟨by decide +kernel, rfl⟩
theorem x_E_piecesOf_15 : kt_dc i_E_piecesOf 15 (.iload 4) 2 17 := ⟨by decide +kernel, rfl⟩
theorem x_E_piecesOf_17 : kt_sS i_E_piecesOf 17 i_K_has 2 20 := ⟨47, ⟨by decide +kernel, rfl⟩, Or.inr ⟨"KinderTowns", tw_241⟩, j_K_has, tw_242, rfl⟩
theorem c_E_piecesOf_17 {P : kt_P} {NM : Nat} {L : List (Option Value)} {rest : List Value} {N : Nat} {I : kt_I} {J : kt_J} {R : kt_R} {Q : Option Value → kt_I → kt_J → kt_R → Prop} {x0 : Int64} {x1 : Int32} (hrest : (rest.map fun v => v.category).sum ≤ 8) (kk : KW P i_K_has N 0 [some (.long x0), none, some (.int x1)] [] N I J R (fun v I' J' R' => KW P i_E_piecesOf NM 20 L (kt_pu v rest) N I' J' R' Q)) : KW P i_E_piecesOf NM 17 L (.int x1 :: .long x0 :: rest) N I J R Q := kw_callS x_E_piecesOf_17 (As := [.long x0, .int x1]) rfl rfl (Nat.le_of_ble_eq_true rfl) hrest (Nat.le_refl N) (fun h => h) kk
theorem x_E_piecesOf_20 : kt_dj i_E_piecesOf 20 (.ifCond .eq) 33 23 := ⟨13, by decide +kernel, by decide, rfl⟩
theorem x_E_piecesOf_23 : kt_dc i_E_piecesOf 23 (.iload_n 3) 1 24 := ⟨by decide +kernel, rfl⟩
theorem x_E_piecesOf_24 : kt_dc i_E_piecesOf 24 (.aload_n 0) 1 25 := ⟨by decide +kernel, rfl⟩
theorem x_E_piecesOf_25 : kt_sG i_E_piecesOf 25 1 5 2 28 := ⟨24, RX1, TX1, 8, ⟨by decide +kernel, rfl⟩, rfl, by decide, rfl, by decide, Or.inl (tw_110)⟩
theorem x_E_piecesOf_28 : kt_dc i_E_piecesOf 28 (.iload 4) 2 30 := ⟨by decide +kernel, rfl⟩
theorem x_E_piecesOf_30 : kt_dc i_E_piecesOf 30 (.iaload) 1 31 := ⟨by decide +kernel, rfl⟩
theorem x_E_piecesOf_31 : kt_dc i_E_piecesOf 31 (.iadd) 1 32 := ⟨by decide +kernel, rfl⟩
theorem x_E_piecesOf_32 : kt_dc i_E_piecesOf 32 (.istore_n 3) 1 33 := ⟨by decide +kernel, rfl⟩
theorem x_E_piecesOf_33 : kt_dc i_E_piecesOf 33 (.iinc 4 1) 3 36 ∧ Int32.ofInt (1) = nI 1 := ⟨⟨by decide +kernel, rfl⟩, by decide⟩
theorem x_E_piecesOf_36 : kt_dj i_E_piecesOf 36 .goto 5 39 := ⟨-31, by decide +kernel, by decide, rfl⟩
theorem x_E_piecesOf_39 : kt_dc i_E_piecesOf 39 (.iload_n 3) 1 40 := ⟨by decide +kernel, rfl⟩
theorem x_E_piecesOf_40 : kt_dc i_E_piecesOf 40 (.ireturn) 1 41 ∧ kt_rt i_E_piecesOf = (some .int) := ⟨⟨by decide +kernel, rfl⟩, rfl⟩
theorem x_C_apologiesFor_0 : kt_dc i_C_apologiesFor 0 (.iconst 0) 1 1 ∧ Int32.ofInt (0) = nI 0 := ⟨⟨by decide +kernel, rfl⟩, by decide⟩
theorem x_C_apologiesFor_1 : kt_dc i_C_apologiesFor 1 (.istore_n 3) 1 2 := ⟨by decide +kernel, rfl⟩
theorem x_C_apologiesFor_2 : kt_dc i_C_apologiesFor 2 (.iconst 0) 1 3 ∧ Int32.ofInt (0) = nI 0 := ⟨⟨by decide +kernel, rfl⟩, by decide⟩
theorem x_C_apologiesFor_3 : kt_dc i_C_apologiesFor 3 (.istore 4) 2 5 := ⟨by decide +kernel, rfl⟩
theorem x_C_apologiesFor_5 : kt_dc i_C_apologiesFor 5 (.iload 4) 2 7 := ⟨by decide +kernel, rfl⟩
theorem x_C_apologiesFor_7 : kt_dc i_C_apologiesFor 7 (.aload_n 0) 1 8 := ⟨by decide +kernel, rfl⟩
theorem x_C_apologiesFor_8 : kt_sG i_C_apologiesFor 8 0 2 0 11 := ⟨49, RX0, TX0, 11, ⟨by decide +kernel, rfl⟩, rfl, by decide, rfl, by decide, Or.inl (tw_142)⟩
theorem x_C_apologiesFor_11 : kt_dj i_C_apologiesFor 11 (.if_icmp .ge) 35 14 := ⟨24, by decide +kernel, by decide, rfl⟩
theorem x_C_apologiesFor_14 : kt_dc i_C_apologiesFor 14 (.iload_n 3) 1 15 := ⟨by decide +kernel, rfl⟩
theorem x_C_apologiesFor_15 : kt_dc i_C_apologiesFor 15 (.aload_n 0) 1 16 := ⟨by decide +kernel, rfl⟩
theorem x_C_apologiesFor_16 : kt_sG i_C_apologiesFor 16 0 8 2 19 := ⟨39, RX0, TX0, 11, ⟨by decide +kernel, rfl⟩, rfl, by decide, rfl, by decide, Or.inl (tw_154)⟩
theorem x_C_apologiesFor_19 : kt_dc i_C_apologiesFor 19 (.iload 4) 2 21 := ⟨by decide +kernel, rfl⟩
theorem x_C_apologiesFor_21 : kt_dc i_C_apologiesFor 21 (.laload) 1 22 := ⟨by decide +kernel, rfl⟩
theorem x_C_apologiesFor_22 : kt_dc i_C_apologiesFor 22 (.lload_n 1) 1 23 := ⟨by decide +kernel, rfl⟩
theorem x_C_apologiesFor_23 : kt_dc i_C_apologiesFor 23 (.land) 1 24 := ⟨by decide +kernel, rfl⟩
theorem x_C_apologiesFor_24 : kt_sS i_C_apologiesFor 24 i_J_bitCount 1 27 := ⟨131, ⟨by decide +kernel, rfl⟩, Or.inl (tw_335), j_J_bitCount, tw_336, rfl⟩
theorem c_C_apologiesFor_24 {P : kt_P} {NM : Nat} {L : List (Option Value)} {rest : List Value} {N : Nat} {I : kt_I} {J : kt_J} {R : kt_R} {Q : Option Value → kt_I → kt_J → kt_R → Prop} {x0 : Int64} (hrest : (rest.map fun v => v.category).sum ≤ 8) (kk : KW P i_J_bitCount N 0 [some (.long x0), none] [] N I J R (fun v I' J' R' => KW P i_C_apologiesFor NM 27 L (kt_pu v rest) N I' J' R' Q)) : KW P i_C_apologiesFor NM 24 L (.long x0 :: rest) N I J R Q := kw_callS x_C_apologiesFor_24 (As := [.long x0]) rfl rfl (Nat.le_of_ble_eq_true rfl) hrest (Nat.le_refl N) (fun h => h) kk
theorem x_C_apologiesFor_27 : kt_dc i_C_apologiesFor 27 (.iadd) 1 28 := ⟨by decide +kernel, rfl⟩
theorem x_C_apologiesFor_28 : kt_dc i_C_apologiesFor 28 (.istore_n 3) 1 29 := ⟨by decide +kernel, rfl⟩
theorem x_C_apologiesFor_29 : kt_dc i_C_apologiesFor 29 (.iinc 4 1) 3 32 ∧ Int32.ofInt (1) = nI 1 := ⟨⟨by decide +kernel, rfl⟩, by decide⟩
theorem x_C_apologiesFor_32 : kt_dj i_C_apologiesFor 32 .goto 5 35 := ⟨-27, by decide +kernel, by decide, rfl⟩
theorem x_C_apologiesFor_35 : kt_dc i_C_apologiesFor 35 (.iload_n 3) 1 36 := ⟨by decide +kernel, rfl⟩
theorem x_C_apologiesFor_36 : kt_dc i_C_apologiesFor 36 (.ireturn) 1 37 ∧ kt_rt i_C_apologiesFor = (some .int) := ⟨⟨by decide +kernel, rfl⟩, rfl⟩
theorem x_E_all_0 : kt_dc i_E_all 0 (.lconst 1) 1 1 ∧ Int64.ofNat ((1 : Fin 2) : Nat) = (1 : Int64) := ⟨⟨by decide +kernel, rfl⟩, rfl⟩
theorem x_E_all_1 : kt_dc i_E_all 1 (.aload_n 0) 1 2 := ⟨by decide +kernel, rfl⟩
theorem x_E_all_2 : kt_sG i_E_all 2 1 0 0 5 := ⟨33, RX1, TX1, 8, ⟨by decide +kernel, rfl⟩, rfl, by decide, rfl, by decide, Or.inl (tw_93)⟩
theorem x_E_all_5 : kt_dc i_E_all 5 (.lshl) 1 6 := ⟨by decide +kernel, rfl⟩
theorem x_E_all_6 : kt_dc i_E_all 6 (.lconst 1) 1 7 ∧ Int64.ofNat ((1 : Fin 2) : Nat) = (1 : Int64) := ⟨⟨by decide +kernel, rfl⟩, rfl⟩
theorem x_E_all_7 : kt_dc i_E_all 7 (.lsub) 1 8 := ⟨by decide +kernel, rfl⟩
theorem x_E_all_8 : kt_dc i_E_all 8 (.lreturn) 1 9 ∧ kt_rt i_E_all = (some .long) := ⟨⟨by decide +kernel, rfl⟩, rfl⟩
theorem x_C_knownByAll_0 : kt_dc i_C_knownByAll 0 (.aload_n 0) 1 1 := ⟨by decide +kernel, rfl⟩
theorem x_C_knownByAll_1 : kt_sG i_C_knownByAll 1 0 1 2 4 := ⟨21, RX0, TX0, 11, ⟨by decide +kernel, rfl⟩, rfl, by decide, rfl, by decide, Or.inl (tw_140)⟩
theorem x_C_knownByAll_4 : kt_sV i_C_knownByAll 4 i_E_all 1 0 7 := ⟨137, ⟨by decide +kernel, rfl⟩, Or.inr ⟨"KinderTowns", tw_424⟩, j_E_all, ⟨tw_418, tp_30⟩, ⟨TX1, 8, rfl⟩, by decide, rfl⟩
theorem c_C_knownByAll_4 {P : kt_P} {NM : Nat} {L : List (Option Value)} {rest : List Value} {N : Nat} {I : kt_I} {J : kt_J} {R : kt_R} {Q : Option Value → kt_I → kt_J → kt_R → Prop} {b : Nat} (hkd : kt_kd P N b = (1, 0)) (hrest : (rest.map fun v => v.category).sum ≤ 8) (kk : KW P i_E_all N 0 [some (.ref b)] [] N I J R (fun v I' J' R' => KW P i_C_knownByAll NM 7 L (kt_pu v rest) N I' J' R' Q)) : KW P i_C_knownByAll NM 4 L (.ref b :: rest) N I J R Q := kw_callV x_C_knownByAll_4 (As := []) rfl rfl (Nat.le_of_ble_eq_true rfl) hrest hkd (Nat.le_refl N) (fun h => h) kk
theorem x_C_knownByAll_7 : kt_dc i_C_knownByAll 7 (.lstore_n 1) 1 8 := ⟨by decide +kernel, rfl⟩
theorem x_C_knownByAll_8 : kt_dc i_C_knownByAll 8 (.iconst 0) 1 9 ∧ Int32.ofInt (0) = nI 0 := ⟨⟨by decide +kernel, rfl⟩, by decide⟩
theorem x_C_knownByAll_9 : kt_dc i_C_knownByAll 9 (.istore_n 3) 1 10 := ⟨by decide +kernel, rfl⟩
theorem x_C_knownByAll_10 : kt_dc i_C_knownByAll 10 (.iload_n 3) 1 11 := ⟨by decide +kernel, rfl⟩
theorem x_C_knownByAll_11 : kt_dc i_C_knownByAll 11 (.aload_n 0) 1 12 := ⟨by decide +kernel, rfl⟩
theorem x_C_knownByAll_12 : kt_sG i_C_knownByAll 12 0 2 0 15 := ⟨49, RX0, TX0, 11, ⟨by decide +kernel, rfl⟩, rfl, by decide, rfl, by decide, Or.inl (tw_142)⟩
theorem x_C_knownByAll_15 : kt_dj i_C_knownByAll 15 (.if_icmp .ge) 33 18 := ⟨18, by decide +kernel, by decide, rfl⟩
theorem x_C_knownByAll_18 : kt_dc i_C_knownByAll 18 (.lload_n 1) 1 19 := ⟨by decide +kernel, rfl⟩
theorem x_C_knownByAll_19 : kt_dc i_C_knownByAll 19 (.aload_n 0) 1 20 := ⟨by decide +kernel, rfl⟩
theorem x_C_knownByAll_20 : kt_sG i_C_knownByAll 20 0 5 2 23 := ⟨29, RX0, TX0, 11, ⟨by decide +kernel, rfl⟩, rfl, by decide, rfl, by decide, Or.inl (tw_148)⟩
theorem x_C_knownByAll_23 : kt_dc i_C_knownByAll 23 (.iload_n 3) 1 24 := ⟨by decide +kernel, rfl⟩
theorem x_C_knownByAll_24 : kt_dc i_C_knownByAll 24 (.laload) 1 25 := ⟨by decide +kernel, rfl⟩
theorem x_C_knownByAll_25 : kt_dc i_C_knownByAll 25 (.land) 1 26 := ⟨by decide +kernel, rfl⟩
theorem x_C_knownByAll_26 : kt_dc i_C_knownByAll 26 (.lstore_n 1) 1 27 := ⟨by decide +kernel, rfl⟩
theorem x_C_knownByAll_27 : kt_dc i_C_knownByAll 27 (.iinc 3 1) 3 30 ∧ Int32.ofInt (1) = nI 1 := ⟨⟨by decide +kernel, rfl⟩, by decide⟩
theorem x_C_knownByAll_30 : kt_dj i_C_knownByAll 30 .goto 10 33 := ⟨-20, by decide +kernel, by decide, rfl⟩
theorem x_C_knownByAll_33 : kt_dc i_C_knownByAll 33 (.lload_n 1) 1 34 := ⟨by decide +kernel, rfl⟩
theorem x_C_knownByAll_34 : kt_dc i_C_knownByAll 34 (.lreturn) 1 35 ∧ kt_rt i_C_knownByAll = (some .long) := ⟨⟨by decide +kernel, rfl⟩, rfl⟩
theorem x_C_allKnowTheSame_0 : kt_dc i_C_allKnowTheSame 0 (.iconst 1) 1 1 ∧ Int32.ofInt (1) = nI 1 := ⟨⟨by decide +kernel, rfl⟩, by decide⟩
theorem x_C_allKnowTheSame_1 : kt_dc i_C_allKnowTheSame 1 (.istore_n 1) 1 2 := ⟨by decide +kernel, rfl⟩
theorem x_C_allKnowTheSame_2 : kt_dc i_C_allKnowTheSame 2 (.iload_n 1) 1 3 := ⟨by decide +kernel, rfl⟩
theorem x_C_allKnowTheSame_3 : kt_dc i_C_allKnowTheSame 3 (.aload_n 0) 1 4 := ⟨by decide +kernel, rfl⟩
theorem x_C_allKnowTheSame_4 : kt_sG i_C_allKnowTheSame 4 0 2 0 7 := ⟨49, RX0, TX0, 11, ⟨by decide +kernel, rfl⟩, rfl, by decide, rfl, by decide, Or.inl (tw_142)⟩
theorem x_C_allKnowTheSame_7 : kt_dj i_C_allKnowTheSame 7 (.if_icmp .ge) 34 10 := ⟨27, by decide +kernel, by decide, rfl⟩
theorem x_C_allKnowTheSame_10 : kt_dc i_C_allKnowTheSame 10 (.aload_n 0) 1 11 := ⟨by decide +kernel, rfl⟩
theorem x_C_allKnowTheSame_11 : kt_sG i_C_allKnowTheSame 11 0 5 2 14 := ⟨29, RX0, TX0, 11, ⟨by decide +kernel, rfl⟩, rfl, by decide, rfl, by decide, Or.inl (tw_148)⟩
theorem x_C_allKnowTheSame_14 : kt_dc i_C_allKnowTheSame 14 (.iload_n 1) 1 15 := ⟨by decide +kernel, rfl⟩
theorem x_C_allKnowTheSame_15 : kt_dc i_C_allKnowTheSame 15 (.laload) 1 16 := ⟨by decide +kernel, rfl⟩
theorem x_C_allKnowTheSame_16 : kt_dc i_C_allKnowTheSame 16 (.aload_n 0) 1 17 := ⟨by decide +kernel, rfl⟩
theorem x_C_allKnowTheSame_17 : kt_sG i_C_allKnowTheSame 17 0 5 2 20 := ⟨29, RX0, TX0, 11, ⟨by decide +kernel, rfl⟩, rfl, by decide, rfl, by decide, Or.inl (tw_148)⟩
theorem x_C_allKnowTheSame_20 : kt_dc i_C_allKnowTheSame 20 (.iconst 0) 1 21 ∧ Int32.ofInt (0) = nI 0 := ⟨⟨by decide +kernel, rfl⟩, by decide⟩
theorem x_C_allKnowTheSame_21 : kt_dc i_C_allKnowTheSame 21 (.laload) 1 22 := ⟨by decide +kernel, rfl⟩
theorem x_C_allKnowTheSame_22 : kt_dc i_C_allKnowTheSame 22 (.lcmp) 1 23 := ⟨by decide +kernel, rfl⟩
theorem x_C_allKnowTheSame_23 : kt_dj i_C_allKnowTheSame 23 (.ifCond .eq) 28 26 := ⟨5, by decide +kernel, by decide, rfl⟩
theorem x_C_allKnowTheSame_26 : kt_dc i_C_allKnowTheSame 26 (.iconst 0) 1 27 ∧ Int32.ofInt (0) = nI 0 := ⟨⟨by decide +kernel, rfl⟩, by decide⟩
theorem x_C_allKnowTheSame_27 : kt_dc i_C_allKnowTheSame 27 (.ireturn) 1 28 ∧ kt_rt i_C_allKnowTheSame = (some .boolean) := ⟨⟨by decide +kernel, rfl⟩, rfl⟩
theorem x_C_allKnowTheSame_28 : kt_dc i_C_allKnowTheSame 28 (.iinc 1 1) 3 31 ∧ Int32.ofInt (1) = nI 1 := ⟨⟨by decide +kernel, rfl⟩, by decide⟩
theorem x_C_allKnowTheSame_31 : kt_dj i_C_allKnowTheSame 31 .goto 2 34 := ⟨-29, by decide +kernel, by decide, rfl⟩
theorem x_C_allKnowTheSame_34 : kt_dc i_C_allKnowTheSame 34 (.iconst 1) 1 35 ∧ Int32.ofInt (1) = nI 1 := ⟨⟨by decide +kernel, rfl⟩, by decide⟩
theorem x_C_allKnowTheSame_35 : kt_dc i_C_allKnowTheSame 35 (.ireturn) 1 36 ∧ kt_rt i_C_allKnowTheSame = (some .boolean) := ⟨⟨by decide +kernel, rfl⟩, rfl⟩
theorem x_E_goodsOf_0 : kt_dc i_E_goodsOf 0 (.iconst 0) 1 1 ∧ Int32.ofInt (0) = nI 0 := ⟨⟨by decide +kernel, rfl⟩, by decide⟩
theorem x_E_goodsOf_1 : kt_dc i_E_goodsOf 1 (.istore_n 3) 1 2 := ⟨by decide +kernel, rfl⟩
theorem x_E_goodsOf_2 : kt_dc i_E_goodsOf 2 (.iconst 0) 1 3 ∧ Int32.ofInt (0) = nI 0 := ⟨⟨by decide +kernel, rfl⟩, by decide⟩
theorem x_E_goodsOf_3 : kt_dc i_E_goodsOf 3 (.istore 4) 2 5 := ⟨by decide +kernel, rfl⟩
theorem x_E_goodsOf_5 : kt_dc i_E_goodsOf 5 (.iload 4) 2 7 := ⟨by decide +kernel, rfl⟩
theorem x_E_goodsOf_7 : kt_dc i_E_goodsOf 7 (.aload_n 0) 1 8 := ⟨by decide +kernel, rfl⟩
theorem x_E_goodsOf_8 : kt_sG i_E_goodsOf 8 1 0 0 11 := ⟨33, RX1, TX1, 8, ⟨by decide +kernel, rfl⟩, rfl, by decide, rfl, by decide, Or.inl (tw_93)⟩
theorem x_E_goodsOf_11 : kt_dj i_E_goodsOf 11 (.if_icmp .ge) 41 14 := ⟨30, by decide +kernel, by decide, rfl⟩
theorem x_E_goodsOf_14 : kt_dc i_E_goodsOf 14 (.lload_n 1) 1 15 := ⟨by decide +kernel, rfl⟩
theorem x_E_goodsOf_15 : kt_dc i_E_goodsOf 15 (.iload 4) 2 17 := ⟨by decide +kernel, rfl⟩
theorem x_E_goodsOf_17 : kt_sS i_E_goodsOf 17 i_K_has 2 20 := ⟨47, ⟨by decide +kernel, rfl⟩, Or.inr ⟨"KinderTowns", tw_241⟩, j_K_has, tw_242, rfl⟩
theorem c_E_goodsOf_17 {P : kt_P} {NM : Nat} {L : List (Option Value)} {rest : List Value} {N : Nat} {I : kt_I} {J : kt_J} {R : kt_R} {Q : Option Value → kt_I → kt_J → kt_R → Prop} {x0 : Int64} {x1 : Int32} (hrest : (rest.map fun v => v.category).sum ≤ 8) (kk : KW P i_K_has N 0 [some (.long x0), none, some (.int x1)] [] N I J R (fun v I' J' R' => KW P i_E_goodsOf NM 20 L (kt_pu v rest) N I' J' R' Q)) : KW P i_E_goodsOf NM 17 L (.int x1 :: .long x0 :: rest) N I J R Q := kw_callS x_E_goodsOf_17 (As := [.long x0, .int x1]) rfl rfl (Nat.le_of_ble_eq_true rfl) hrest (Nat.le_refl N) (fun h => h) kk
theorem x_E_goodsOf_20 : kt_dj i_E_goodsOf 20 (.ifCond .eq) 35 23 := ⟨15, by decide +kernel, by decide, rfl⟩
theorem x_E_goodsOf_23 : kt_dc i_E_goodsOf 23 (.iload_n 3) 1 24 := ⟨by decide +kernel, rfl⟩
theorem x_E_goodsOf_24 : kt_dc i_E_goodsOf 24 (.iconst 1) 1 25 ∧ Int32.ofInt (1) = nI 1 := ⟨⟨by decide +kernel, rfl⟩, by decide⟩
theorem x_E_goodsOf_25 : kt_dc i_E_goodsOf 25 (.aload_n 0) 1 26 := ⟨by decide +kernel, rfl⟩
theorem x_E_goodsOf_26 : kt_sG i_E_goodsOf 26 1 4 2 29 := ⟨21, RX1, TX1, 8, ⟨by decide +kernel, rfl⟩, rfl, by decide, rfl, by decide, Or.inl (tw_106)⟩
theorem x_E_goodsOf_29 : kt_dc i_E_goodsOf 29 (.iload 4) 2 31 := ⟨by decide +kernel, rfl⟩
theorem x_E_goodsOf_31 : kt_dc i_E_goodsOf 31 (.iaload) 1 32 := ⟨by decide +kernel, rfl⟩
theorem x_E_goodsOf_32 : kt_dc i_E_goodsOf 32 (.ishl) 1 33 := ⟨by decide +kernel, rfl⟩
theorem x_E_goodsOf_33 : kt_dc i_E_goodsOf 33 (.ior) 1 34 := ⟨by decide +kernel, rfl⟩
theorem x_E_goodsOf_34 : kt_dc i_E_goodsOf 34 (.istore_n 3) 1 35 := ⟨by decide +kernel, rfl⟩
theorem x_E_goodsOf_35 : kt_dc i_E_goodsOf 35 (.iinc 4 1) 3 38 ∧ Int32.ofInt (1) = nI 1 := ⟨⟨by decide +kernel, rfl⟩, by decide⟩
theorem x_E_goodsOf_38 : kt_dj i_E_goodsOf 38 .goto 5 41 := ⟨-33, by decide +kernel, by decide, rfl⟩
theorem x_E_goodsOf_41 : kt_dc i_E_goodsOf 41 (.iload_n 3) 1 42 := ⟨by decide +kernel, rfl⟩
theorem x_E_goodsOf_42 : kt_dc i_E_goodsOf 42 (.ireturn) 1 43 ∧ kt_rt i_E_goodsOf = (some .int) := ⟨⟨by decide +kernel, rfl⟩, rfl⟩
theorem x_E_personsIn_0 : kt_dc i_E_personsIn 0 (.iconst 0) 1 1 ∧ Int32.ofInt (0) = nI 0 := ⟨⟨by decide +kernel, rfl⟩, by decide⟩
theorem x_E_personsIn_1 : kt_dc i_E_personsIn 1 (.istore_n 3) 1 2 := ⟨by decide +kernel, rfl⟩
theorem x_E_personsIn_2 : kt_dc i_E_personsIn 2 (.iconst 0) 1 3 ∧ Int32.ofInt (0) = nI 0 := ⟨⟨by decide +kernel, rfl⟩, by decide⟩
theorem x_E_personsIn_3 : kt_dc i_E_personsIn 3 (.istore 4) 2 5 := ⟨by decide +kernel, rfl⟩
theorem x_E_personsIn_5 : kt_dc i_E_personsIn 5 (.iload 4) 2 7 := ⟨by decide +kernel, rfl⟩
theorem x_E_personsIn_7 : kt_dc i_E_personsIn 7 (.bipush 10) 2 9 ∧ (Int8.ofInt (10)).toInt32 = nI 10 := ⟨⟨by decide +kernel, rfl⟩, by decide⟩
theorem x_E_personsIn_9 : kt_dj i_E_personsIn 9 (.if_icmp .ge) 38 12 := ⟨29, by decide +kernel, by decide, rfl⟩
theorem x_E_personsIn_12 : kt_dc i_E_personsIn 12 (.lload_n 1) 1 13 := ⟨by decide +kernel, rfl⟩
theorem x_E_personsIn_13 : kt_dc i_E_personsIn 13 (.aload_n 0) 1 14 := ⟨by decide +kernel, rfl⟩
theorem x_E_personsIn_14 : kt_dc i_E_personsIn 14 (.aload_n 0) 1 15 := ⟨by decide +kernel, rfl⟩
theorem x_E_personsIn_15 : kt_sG i_E_personsIn 15 1 6 2 18 := ⟨27, RX1, TX1, 8, ⟨by decide +kernel, rfl⟩, rfl, by decide, rfl, by decide, Or.inl (tw_114)⟩
theorem x_E_personsIn_18 : kt_dc i_E_personsIn 18 (.iload 4) 2 20 := ⟨by decide +kernel, rfl⟩
theorem x_E_personsIn_20 : kt_sV i_E_personsIn 20 i_E_having 1 2 23 := ⟨57, ⟨by decide +kernel, rfl⟩, Or.inl (tw_458), j_E_having, ⟨tw_379, tp_26⟩, ⟨TX1, 8, rfl⟩, by decide, rfl⟩
theorem c_E_personsIn_20 {P : kt_P} {NM : Nat} {L : List (Option Value)} {rest : List Value} {N : Nat} {I : kt_I} {J : kt_J} {R : kt_R} {Q : Option Value → kt_I → kt_J → kt_R → Prop} {b : Nat} {x0 : Nat} {x1 : Int32} (hkd : kt_kd P N b = (1, 0)) (hrest : (rest.map fun v => v.category).sum ≤ 8) (kk : KW P i_E_having N 0 [some (.ref b), some (.ref x0), some (.int x1), none, none, none] [] N I J R (fun v I' J' R' => KW P i_E_personsIn NM 23 L (kt_pu v rest) N I' J' R' Q)) : KW P i_E_personsIn NM 20 L (.int x1 :: .ref x0 :: .ref b :: rest) N I J R Q := kw_callV x_E_personsIn_20 (As := [.ref x0, .int x1]) rfl rfl (Nat.le_of_ble_eq_true rfl) hrest hkd (Nat.le_refl N) (fun h => h) kk
theorem x_E_personsIn_23 : kt_dc i_E_personsIn 23 (.land) 1 24 := ⟨by decide +kernel, rfl⟩
theorem x_E_personsIn_24 : kt_dc i_E_personsIn 24 (.lconst 0) 1 25 ∧ Int64.ofNat ((0 : Fin 2) : Nat) = (0 : Int64) := ⟨⟨by decide +kernel, rfl⟩, rfl⟩
theorem x_E_personsIn_25 : kt_dc i_E_personsIn 25 (.lcmp) 1 26 := ⟨by decide +kernel, rfl⟩
theorem x_E_personsIn_26 : kt_dj i_E_personsIn 26 (.ifCond .eq) 32 29 := ⟨6, by decide +kernel, by decide, rfl⟩
theorem x_E_personsIn_29 : kt_dc i_E_personsIn 29 (.iinc 3 1) 3 32 ∧ Int32.ofInt (1) = nI 1 := ⟨⟨by decide +kernel, rfl⟩, by decide⟩
theorem x_E_personsIn_32 : kt_dc i_E_personsIn 32 (.iinc 4 1) 3 35 ∧ Int32.ofInt (1) = nI 1 := ⟨⟨by decide +kernel, rfl⟩, by decide⟩
theorem x_E_personsIn_35 : kt_dj i_E_personsIn 35 .goto 5 38 := ⟨-30, by decide +kernel, by decide, rfl⟩
theorem x_E_personsIn_38 : kt_dc i_E_personsIn 38 (.iload_n 3) 1 39 := ⟨by decide +kernel, rfl⟩
theorem x_E_personsIn_39 : kt_dc i_E_personsIn 39 (.ireturn) 1 40 ∧ kt_rt i_E_personsIn = (some .int) := ⟨⟨by decide +kernel, rfl⟩, rfl⟩
theorem x_C_meetInTurn_0 : kt_dc i_C_meetInTurn 0 (.iconst 1) 1 1 ∧ Int32.ofInt (1) = nI 1 := ⟨⟨by decide +kernel, rfl⟩, by decide⟩
theorem x_C_meetInTurn_1 : kt_dc i_C_meetInTurn 1 (.istore_n 1) 1 2 := ⟨by decide +kernel, rfl⟩
theorem x_C_meetInTurn_2 : kt_dc i_C_meetInTurn 2 (.iload_n 1) 1 3 := ⟨by decide +kernel, rfl⟩
theorem x_C_meetInTurn_3 : kt_dc i_C_meetInTurn 3 (.aload_n 0) 1 4 := ⟨by decide +kernel, rfl⟩
theorem x_C_meetInTurn_4 : kt_sG i_C_meetInTurn 4 0 2 0 7 := ⟨49, RX0, TX0, 11, ⟨by decide +kernel, rfl⟩, rfl, by decide, rfl, by decide, Or.inl (tw_142)⟩
theorem x_C_meetInTurn_7 : kt_dj i_C_meetInTurn 7 (.if_icmp .ge) 48 10 := ⟨41, by decide +kernel, by decide, rfl⟩
theorem x_C_meetInTurn_10 : kt_dc i_C_meetInTurn 10 (.aload_n 0) 1 11 := ⟨by decide +kernel, rfl⟩
theorem x_C_meetInTurn_11 : kt_sG i_C_meetInTurn 11 0 5 2 14 := ⟨29, RX0, TX0, 11, ⟨by decide +kernel, rfl⟩, rfl, by decide, rfl, by decide, Or.inl (tw_148)⟩
theorem x_C_meetInTurn_14 : kt_dc i_C_meetInTurn 14 (.iload_n 1) 1 15 := ⟨by decide +kernel, rfl⟩
theorem x_C_meetInTurn_15 : kt_dc i_C_meetInTurn 15 (.iconst 1) 1 16 ∧ Int32.ofInt (1) = nI 1 := ⟨⟨by decide +kernel, rfl⟩, by decide⟩
theorem x_C_meetInTurn_16 : kt_dc i_C_meetInTurn 16 (.isub) 1 17 := ⟨by decide +kernel, rfl⟩
theorem x_C_meetInTurn_17 : kt_dc i_C_meetInTurn 17 (.laload) 1 18 := ⟨by decide +kernel, rfl⟩
theorem x_C_meetInTurn_18 : kt_dc i_C_meetInTurn 18 (.aload_n 0) 1 19 := ⟨by decide +kernel, rfl⟩
theorem x_C_meetInTurn_19 : kt_sG i_C_meetInTurn 19 0 5 2 22 := ⟨29, RX0, TX0, 11, ⟨by decide +kernel, rfl⟩, rfl, by decide, rfl, by decide, Or.inl (tw_148)⟩
theorem x_C_meetInTurn_22 : kt_dc i_C_meetInTurn 22 (.iload_n 1) 1 23 := ⟨by decide +kernel, rfl⟩
theorem x_C_meetInTurn_23 : kt_dc i_C_meetInTurn 23 (.laload) 1 24 := ⟨by decide +kernel, rfl⟩
theorem x_C_meetInTurn_24 : kt_dc i_C_meetInTurn 24 (.lor) 1 25 := ⟨by decide +kernel, rfl⟩
theorem x_C_meetInTurn_25 : kt_dc i_C_meetInTurn 25 (.lstore_n 2) 1 26 := ⟨by decide +kernel, rfl⟩
theorem x_C_meetInTurn_26 : kt_dc i_C_meetInTurn 26 (.aload_n 0) 1 27 := ⟨by decide +kernel, rfl⟩
theorem x_C_meetInTurn_27 : kt_sG i_C_meetInTurn 27 0 5 2 30 := ⟨29, RX0, TX0, 11, ⟨by decide +kernel, rfl⟩, rfl, by decide, rfl, by decide, Or.inl (tw_148)⟩
theorem x_C_meetInTurn_30 : kt_dc i_C_meetInTurn 30 (.iload_n 1) 1 31 := ⟨by decide +kernel, rfl⟩
theorem x_C_meetInTurn_31 : kt_dc i_C_meetInTurn 31 (.iconst 1) 1 32 ∧ Int32.ofInt (1) = nI 1 := ⟨⟨by decide +kernel, rfl⟩, by decide⟩
theorem x_C_meetInTurn_32 : kt_dc i_C_meetInTurn 32 (.isub) 1 33 := ⟨by decide +kernel, rfl⟩
theorem x_C_meetInTurn_33 : kt_dc i_C_meetInTurn 33 (.lload_n 2) 1 34 := ⟨by decide +kernel, rfl⟩
theorem x_C_meetInTurn_34 : kt_dc i_C_meetInTurn 34 (.lastore) 1 35 := ⟨by decide +kernel, rfl⟩
theorem x_C_meetInTurn_35 : kt_dc i_C_meetInTurn 35 (.aload_n 0) 1 36 := ⟨by decide +kernel, rfl⟩
theorem x_C_meetInTurn_36 : kt_sG i_C_meetInTurn 36 0 5 2 39 := ⟨29, RX0, TX0, 11, ⟨by decide +kernel, rfl⟩, rfl, by decide, rfl, by decide, Or.inl (tw_148)⟩
theorem x_C_meetInTurn_39 : kt_dc i_C_meetInTurn 39 (.iload_n 1) 1 40 := ⟨by decide +kernel, rfl⟩
theorem x_C_meetInTurn_40 : kt_dc i_C_meetInTurn 40 (.lload_n 2) 1 41 := ⟨by decide +kernel, rfl⟩
theorem x_C_meetInTurn_41 : kt_dc i_C_meetInTurn 41 (.lastore) 1 42 := ⟨by decide +kernel, rfl⟩
theorem x_C_meetInTurn_42 : kt_dc i_C_meetInTurn 42 (.iinc 1 1) 3 45 ∧ Int32.ofInt (1) = nI 1 := ⟨⟨by decide +kernel, rfl⟩, by decide⟩
theorem x_C_meetInTurn_45 : kt_dj i_C_meetInTurn 45 .goto 2 48 := ⟨-43, by decide +kernel, by decide, rfl⟩
theorem x_C_meetInTurn_48 : kt_dc i_C_meetInTurn 48 (.return_) 1 49 ∧ kt_rt i_C_meetInTurn = none := ⟨⟨by decide +kernel, rfl⟩, rfl⟩
theorem x_S_runOn_0 : kt_dc i_S_runOn 0 (.aload_n 0) 1 1 := ⟨by decide +kernel, rfl⟩
theorem x_S_runOn_1 : kt_dc i_S_runOn 1 (.iconst 0) 1 2 ∧ Int32.ofInt (0) = nI 0 := ⟨⟨by decide +kernel, rfl⟩, by decide⟩
theorem x_S_runOn_2 : kt_sP i_S_runOn 2 3 3 0 5 := ⟨18, RX3, TX3, 6, tyX3 3, ⟨by decide +kernel, rfl⟩, rfl, by decide, rfl, by decide, by decide +kernel, rfl, Or.inl ⟨rfl, Or.inl (tw_32)⟩⟩
theorem x_S_runOn_5 : kt_dc i_S_runOn 5 (.aload_n 0) 1 6 := ⟨by decide +kernel, rfl⟩
theorem x_S_runOn_6 : kt_dc i_S_runOn 6 (.iconst 0) 1 7 ∧ Int32.ofInt (0) = nI 0 := ⟨⟨by decide +kernel, rfl⟩, by decide⟩
theorem x_S_runOn_7 : kt_sP i_S_runOn 7 3 4 0 10 := ⟨22, RX3, TX3, 6, tyX3 4, ⟨by decide +kernel, rfl⟩, rfl, by decide, rfl, by decide, by decide +kernel, rfl, Or.inl ⟨rfl, Or.inl (tw_34)⟩⟩
theorem x_S_runOn_10 : kt_dc i_S_runOn 10 (.aload_n 0) 1 11 := ⟨by decide +kernel, rfl⟩
theorem x_S_runOn_11 : kt_dc i_S_runOn 11 (.iconst 0) 1 12 ∧ Int32.ofInt (0) = nI 0 := ⟨⟨by decide +kernel, rfl⟩, by decide⟩
theorem x_S_runOn_12 : kt_sP i_S_runOn 12 3 5 0 15 := ⟨25, RX3, TX3, 6, tyX3 5, ⟨by decide +kernel, rfl⟩, rfl, by decide, rfl, by decide, by decide +kernel, rfl, Or.inl ⟨rfl, Or.inl (tw_36)⟩⟩
theorem x_S_runOn_15 : kt_dc i_S_runOn 15 (.aload_n 0) 1 16 := ⟨by decide +kernel, rfl⟩
theorem x_S_runOn_16 : kt_sG i_S_runOn 16 3 3 0 19 := ⟨18, RX3, TX3, 6, ⟨by decide +kernel, rfl⟩, rfl, by decide, rfl, by decide, Or.inl (tw_32)⟩
theorem x_S_runOn_19 : kt_dc i_S_runOn 19 (.bipush 80) 2 21 ∧ (Int8.ofInt (80)).toInt32 = nI 80 := ⟨⟨by decide +kernel, rfl⟩, by decide⟩
theorem x_S_runOn_21 : kt_dj i_S_runOn 21 (.if_icmp .ge) 103 24 := ⟨82, by decide +kernel, by decide, rfl⟩
theorem x_S_runOn_24 : kt_dc i_S_runOn 24 (.aload_n 0) 1 25 := ⟨by decide +kernel, rfl⟩
theorem x_S_runOn_25 : kt_sG i_S_runOn 25 3 4 0 28 := ⟨22, RX3, TX3, 6, ⟨by decide +kernel, rfl⟩, rfl, by decide, rfl, by decide, Or.inl (tw_34)⟩
theorem x_S_runOn_28 : kt_dc i_S_runOn 28 (.aload_n 0) 1 29 := ⟨by decide +kernel, rfl⟩
theorem x_S_runOn_29 : kt_sG i_S_runOn 29 3 1 0 32 := ⟨28, RX3, TX3, 6, ⟨by decide +kernel, rfl⟩, rfl, by decide, rfl, by decide, Or.inl (tw_29)⟩
theorem x_S_runOn_32 : kt_dj i_S_runOn 32 (.if_icmp .ge) 103 35 := ⟨71, by decide +kernel, by decide, rfl⟩
theorem x_S_runOn_35 : kt_dc i_S_runOn 35 (.aload_n 0) 1 36 := ⟨by decide +kernel, rfl⟩
theorem x_S_runOn_36 : kt_dc i_S_runOn 36 (.aload_n 0) 1 37 := ⟨by decide +kernel, rfl⟩
theorem x_S_runOn_37 : kt_sG i_S_runOn 37 3 4 0 40 := ⟨22, RX3, TX3, 6, ⟨by decide +kernel, rfl⟩, rfl, by decide, rfl, by decide, Or.inl (tw_34)⟩
theorem x_S_runOn_40 : kt_sV i_S_runOn 40 i_S_read 3 1 43 := ⟨31, ⟨by decide +kernel, rfl⟩, Or.inl (tw_487), j_S_read, ⟨tw_489, tp_39⟩, ⟨TX3, 6, rfl⟩, by decide, rfl⟩
theorem c_S_runOn_40 {P : kt_P} {NM : Nat} {L : List (Option Value)} {rest : List Value} {N : Nat} {I : kt_I} {J : kt_J} {R : kt_R} {Q : Option Value → kt_I → kt_J → kt_R → Prop} {b : Nat} {x0 : Int32} (hkd : kt_kd P N b = (3, 0)) (hrest : (rest.map fun v => v.category).sum ≤ 8) (kk : KW P i_S_read N 0 [some (.ref b), some (.int x0), none, none, none, none] [] N I J R (fun v I' J' R' => KW P i_S_runOn NM 43 L (kt_pu v rest) N I' J' R' Q)) : KW P i_S_runOn NM 40 L (.int x0 :: .ref b :: rest) N I J R Q := kw_callV x_S_runOn_40 (As := [.int x0]) rfl rfl (Nat.le_of_ble_eq_true rfl) hrest hkd (Nat.le_refl N) (fun h => h) kk
theorem x_S_runOn_43 : kt_dc i_S_runOn 43 (.istore_n 2) 1 44 := ⟨by decide +kernel, rfl⟩
theorem x_S_runOn_44 : kt_dc i_S_runOn 44 (.aload_n 0) 1 45 := ⟨by decide +kernel, rfl⟩
theorem x_S_runOn_45 : kt_dc i_S_runOn 45 (.iload_n 2) 1 46 := ⟨by decide +kernel, rfl⟩
theorem x_S_runOn_46 : kt_dj i_S_runOn 46 (.ifCond .ge) 53 49 := ⟨7, by decide +kernel, by decide, rfl⟩
theorem x_S_runOn_49 : kt_dc i_S_runOn 49 (.iconst 1) 1 50 ∧ Int32.ofInt (1) = nI 1 := ⟨⟨by decide +kernel, rfl⟩, by decide⟩
theorem x_S_runOn_50 : kt_dj i_S_runOn 50 .goto 70 53 := ⟨20, by decide +kernel, by decide, rfl⟩
theorem x_S_runOn_53 : kt_dc i_S_runOn 53 (.aload_n 0) 1 54 := ⟨by decide +kernel, rfl⟩
theorem x_S_runOn_54 : kt_dc i_S_runOn 54 (.aload_n 1) 1 55 := ⟨by decide +kernel, rfl⟩
theorem x_S_runOn_55 : kt_dc i_S_runOn 55 (.aload_n 0) 1 56 := ⟨by decide +kernel, rfl⟩
theorem x_S_runOn_56 : kt_sG i_S_runOn 56 3 0 2 59 := ⟨9, RX3, TX3, 6, ⟨by decide +kernel, rfl⟩, rfl, by decide, rfl, by decide, Or.inl (tw_27)⟩
theorem x_S_runOn_59 : kt_dc i_S_runOn 59 (.aload_n 0) 1 60 := ⟨by decide +kernel, rfl⟩
theorem x_S_runOn_60 : kt_sG i_S_runOn 60 3 4 0 63 := ⟨22, RX3, TX3, 6, ⟨by decide +kernel, rfl⟩, rfl, by decide, rfl, by decide, Or.inl (tw_34)⟩
theorem x_S_runOn_63 : kt_dc i_S_runOn 63 (.iaload) 1 64 := ⟨by decide +kernel, rfl⟩
theorem x_S_runOn_64 : kt_sV i_S_runOn 64 i_S_doCommand 3 2 67 := ⟨35, ⟨by decide +kernel, rfl⟩, Or.inl (tw_511), j_S_doCommand, ⟨tw_513, tp_44⟩, ⟨TX3, 6, rfl⟩, by decide, rfl⟩
theorem c_S_runOn_64 {P : kt_P} {NM : Nat} {L : List (Option Value)} {rest : List Value} {N : Nat} {I : kt_I} {J : kt_J} {R : kt_R} {Q : Option Value → kt_I → kt_J → kt_R → Prop} {b : Nat} {x0 : Nat} {x1 : Int32} (hkd : kt_kd P N b = (3, 0)) (hrest : (rest.map fun v => v.category).sum ≤ 8) (kk : KW P i_S_doCommand N 0 [some (.ref b), some (.ref x0), some (.int x1)] [] N I J R (fun v I' J' R' => KW P i_S_runOn NM 67 L (kt_pu v rest) N I' J' R' Q)) : KW P i_S_runOn NM 64 L (.int x1 :: .ref x0 :: .ref b :: rest) N I J R Q := kw_callV x_S_runOn_64 (As := [.ref x0, .int x1]) rfl rfl (Nat.le_of_ble_eq_true rfl) hrest hkd (Nat.le_refl N) (fun h => h) kk
theorem x_S_runOn_67 : kt_sS i_S_runOn 67 i_S_reasonOf 1 70 := ⟨39, ⟨by decide +kernel, rfl⟩, Or.inl (tw_521), j_S_reasonOf, tw_522, rfl⟩
theorem c_S_runOn_67 {P : kt_P} {NM : Nat} {L : List (Option Value)} {rest : List Value} {N : Nat} {I : kt_I} {J : kt_J} {R : kt_R} {Q : Option Value → kt_I → kt_J → kt_R → Prop} {x0 : Int32} (hrest : (rest.map fun v => v.category).sum ≤ 8) (kk : KW P i_S_reasonOf N 0 [some (.int x0)] [] N I J R (fun v I' J' R' => KW P i_S_runOn NM 70 L (kt_pu v rest) N I' J' R' Q)) : KW P i_S_runOn NM 67 L (.int x0 :: rest) N I J R Q := kw_callS x_S_runOn_67 (As := [.int x0]) rfl rfl (Nat.le_of_ble_eq_true rfl) hrest (Nat.le_refl N) (fun h => h) kk
theorem x_S_runOn_70 : kt_sP i_S_runOn 70 3 5 0 73 := ⟨25, RX3, TX3, 6, tyX3 5, ⟨by decide +kernel, rfl⟩, rfl, by decide, rfl, by decide, by decide +kernel, rfl, Or.inl ⟨rfl, Or.inl (tw_36)⟩⟩
theorem x_S_runOn_73 : kt_dc i_S_runOn 73 (.aload_n 0) 1 74 := ⟨by decide +kernel, rfl⟩
theorem x_S_runOn_74 : kt_sG i_S_runOn 74 3 5 0 77 := ⟨25, RX3, TX3, 6, ⟨by decide +kernel, rfl⟩, rfl, by decide, rfl, by decide, Or.inl (tw_36)⟩
theorem x_S_runOn_77 : kt_dj i_S_runOn 77 (.ifCond .eq) 81 80 := ⟨4, by decide +kernel, by decide, rfl⟩
theorem x_S_runOn_80 : kt_dc i_S_runOn 80 (.return_) 1 81 ∧ kt_rt i_S_runOn = none := ⟨⟨by decide +kernel, rfl⟩, rfl⟩
theorem x_S_runOn_81 : kt_dc i_S_runOn 81 (.aload_n 1) 1 82 := ⟨by decide +kernel, rfl⟩
theorem x_S_runOn_82 : kt_sV i_S_runOn 82 i_C_thinkAnew 0 0 85 := ⟨42, ⟨by decide +kernel, rfl⟩, Or.inr ⟨"KinderTowns", tw_524⟩, j_C_thinkAnew, ⟨tw_227, tp_4⟩, ⟨TX0, 11, rfl⟩, by decide, rfl⟩
theorem c_S_runOn_82 {P : kt_P} {NM : Nat} {L : List (Option Value)} {rest : List Value} {N : Nat} {I : kt_I} {J : kt_J} {R : kt_R} {Q : Option Value → kt_I → kt_J → kt_R → Prop} {b : Nat} (hkd : kt_kd P N b = (0, 0)) (hrest : (rest.map fun v => v.category).sum ≤ 8) (kk : KW P i_C_thinkAnew N 0 [some (.ref b), none] [] N I J R (fun v I' J' R' => KW P i_S_runOn NM 85 L (kt_pu v rest) N I' J' R' Q)) : KW P i_S_runOn NM 82 L (.ref b :: rest) N I J R Q := kw_callV x_S_runOn_82 (As := []) rfl rfl (Nat.le_of_ble_eq_true rfl) hrest hkd (Nat.le_refl N) (fun h => h) kk
theorem x_S_runOn_85 : kt_dc i_S_runOn 85 (.aload_n 0) 1 86 := ⟨by decide +kernel, rfl⟩
theorem x_S_runOn_86 : kt_dc i_S_runOn 86 (.dup) 1 87 := ⟨by decide +kernel, rfl⟩
theorem x_S_runOn_87 : kt_sG i_S_runOn 87 3 3 0 90 := ⟨18, RX3, TX3, 6, ⟨by decide +kernel, rfl⟩, rfl, by decide, rfl, by decide, Or.inl (tw_32)⟩
theorem x_S_runOn_90 : kt_dc i_S_runOn 90 (.iconst 1) 1 91 ∧ Int32.ofInt (1) = nI 1 := ⟨⟨by decide +kernel, rfl⟩, by decide⟩
theorem x_S_runOn_91 : kt_dc i_S_runOn 91 (.iadd) 1 92 := ⟨by decide +kernel, rfl⟩
theorem x_S_runOn_92 : kt_sP i_S_runOn 92 3 3 0 95 := ⟨18, RX3, TX3, 6, tyX3 3, ⟨by decide +kernel, rfl⟩, rfl, by decide, rfl, by decide, by decide +kernel, rfl, Or.inl ⟨rfl, Or.inl (tw_32)⟩⟩
theorem x_S_runOn_95 : kt_dc i_S_runOn 95 (.aload_n 0) 1 96 := ⟨by decide +kernel, rfl⟩
theorem x_S_runOn_96 : kt_dc i_S_runOn 96 (.iload_n 2) 1 97 := ⟨by decide +kernel, rfl⟩
theorem x_S_runOn_97 : kt_sP i_S_runOn 97 3 4 0 100 := ⟨22, RX3, TX3, 6, tyX3 4, ⟨by decide +kernel, rfl⟩, rfl, by decide, rfl, by decide, by decide +kernel, rfl, Or.inl ⟨rfl, Or.inl (tw_34)⟩⟩
theorem x_S_runOn_100 : kt_dj i_S_runOn 100 .goto 15 103 := ⟨-85, by decide +kernel, by decide, rfl⟩
theorem x_S_runOn_103 : kt_dc i_S_runOn 103 (.return_) 1 104 ∧ kt_rt i_S_runOn = none := ⟨⟨by decide +kernel, rfl⟩, rfl⟩
theorem x_S_read_0 : kt_dc i_S_read 0 (.iload_n 1) 1 1 := ⟨by decide +kernel, rfl⟩
theorem x_S_read_1 : kt_dc i_S_read 1 (.iconst 1) 1 2 ∧ Int32.ofInt (1) = nI 1 := ⟨⟨by decide +kernel, rfl⟩, by decide⟩
theorem x_S_read_2 : kt_dc i_S_read 2 (.iadd) 1 3 := ⟨by decide +kernel, rfl⟩
theorem x_S_read_3 : kt_dc i_S_read 3 (.istore_n 2) 1 4 := ⟨by decide +kernel, rfl⟩
theorem x_S_read_4 : kt_dc i_S_read 4 (.aload_n 0) 1 5 := ⟨by decide +kernel, rfl⟩
theorem x_S_read_5 : kt_dc i_S_read 5 (.iload_n 1) 1 6 := ⟨by decide +kernel, rfl⟩
theorem x_S_read_6 : kt_sV i_S_read 6 i_S_signAt 3 1 9 := ⟨47, ⟨by decide +kernel, rfl⟩, Or.inl (tw_491), j_S_signAt, ⟨tw_493, tp_40⟩, ⟨TX3, 6, rfl⟩, by decide, rfl⟩
theorem c_S_read_6 {P : kt_P} {NM : Nat} {L : List (Option Value)} {rest : List Value} {N : Nat} {I : kt_I} {J : kt_J} {R : kt_R} {Q : Option Value → kt_I → kt_J → kt_R → Prop} {b : Nat} {x0 : Int32} (hkd : kt_kd P N b = (3, 0)) (hrest : (rest.map fun v => v.category).sum ≤ 8) (kk : KW P i_S_signAt N 0 [some (.ref b), some (.int x0)] [] N I J R (fun v I' J' R' => KW P i_S_read NM 9 L (kt_pu v rest) N I' J' R' Q)) : KW P i_S_read NM 6 L (.int x0 :: .ref b :: rest) N I J R Q := kw_callV x_S_read_6 (As := [.int x0]) rfl rfl (Nat.le_of_ble_eq_true rfl) hrest hkd (Nat.le_refl N) (fun h => h) kk
theorem x_S_read_9 : kt_sS i_S_read 9 i_S_numbersBehind 1 12 := ⟨50, ⟨by decide +kernel, rfl⟩, Or.inl (tw_496), j_S_numbersBehind, tw_497, rfl⟩
theorem c_S_read_9 {P : kt_P} {NM : Nat} {L : List (Option Value)} {rest : List Value} {N : Nat} {I : kt_I} {J : kt_J} {R : kt_R} {Q : Option Value → kt_I → kt_J → kt_R → Prop} {x0 : Int32} (hrest : (rest.map fun v => v.category).sum ≤ 8) (kk : KW P i_S_numbersBehind N 0 [some (.int x0)] [] N I J R (fun v I' J' R' => KW P i_S_read NM 12 L (kt_pu v rest) N I' J' R' Q)) : KW P i_S_read NM 9 L (.int x0 :: rest) N I J R Q := kw_callS x_S_read_9 (As := [.int x0]) rfl rfl (Nat.le_of_ble_eq_true rfl) hrest (Nat.le_refl N) (fun h => h) kk
theorem x_S_read_12 : kt_dc i_S_read 12 (.istore_n 3) 1 13 := ⟨by decide +kernel, rfl⟩
theorem x_S_read_13 : kt_dc i_S_read 13 (.iconst 0) 1 14 ∧ Int32.ofInt (0) = nI 0 := ⟨⟨by decide +kernel, rfl⟩, by decide⟩
theorem x_S_read_14 : kt_dc i_S_read 14 (.istore 4) 2 16 := ⟨by decide +kernel, rfl⟩
theorem x_S_read_16 : kt_dc i_S_read 16 (.iload 4) 2 18 := ⟨by decide +kernel, rfl⟩
theorem x_S_read_18 : kt_dc i_S_read 18 (.iload_n 3) 1 19 := ⟨by decide +kernel, rfl⟩
theorem x_S_read_19 : kt_dj i_S_read 19 (.if_icmp .ge) 113 22 := ⟨94, by decide +kernel, by decide, rfl⟩
theorem x_S_read_22 : kt_dc i_S_read 22 (.aload_n 0) 1 23 := ⟨by decide +kernel, rfl⟩
theorem x_S_read_23 : kt_dc i_S_read 23 (.iload_n 2) 1 24 := ⟨by decide +kernel, rfl⟩
theorem x_S_read_24 : kt_sV i_S_read 24 i_S_digitsAt 3 1 27 := ⟨53, ⟨by decide +kernel, rfl⟩, Or.inl (tw_499), j_S_digitsAt, ⟨tw_501, tp_41⟩, ⟨TX3, 6, rfl⟩, by decide, rfl⟩
theorem c_S_read_24 {P : kt_P} {NM : Nat} {L : List (Option Value)} {rest : List Value} {N : Nat} {I : kt_I} {J : kt_J} {R : kt_R} {Q : Option Value → kt_I → kt_J → kt_R → Prop} {b : Nat} {x0 : Int32} (hkd : kt_kd P N b = (3, 0)) (hrest : (rest.map fun v => v.category).sum ≤ 8) (kk : KW P i_S_digitsAt N 0 [some (.ref b), some (.int x0)] [] N I J R (fun v I' J' R' => KW P i_S_read NM 27 L (kt_pu v rest) N I' J' R' Q)) : KW P i_S_read NM 24 L (.int x0 :: .ref b :: rest) N I J R Q := kw_callV x_S_read_24 (As := [.int x0]) rfl rfl (Nat.le_of_ble_eq_true rfl) hrest hkd (Nat.le_refl N) (fun h => h) kk
theorem x_S_read_27 : kt_dc i_S_read 27 (.istore 5) 2 29 := ⟨by decide +kernel, rfl⟩
theorem x_S_read_29 : kt_dc i_S_read 29 (.iload 5) 2 31 := ⟨by decide +kernel, rfl⟩
theorem x_S_read_31 : kt_dj i_S_read 31 (.ifCond .ne) 36 34 := ⟨5, by decide +kernel, by decide, rfl⟩
theorem x_S_read_34 : kt_dc i_S_read 34 (.iconst (-1)) 1 35 ∧ Int32.ofInt (-1) = (-1 : Int32) := ⟨⟨by decide +kernel, rfl⟩, by decide⟩
theorem x_S_read_35 : kt_dc i_S_read 35 (.ireturn) 1 36 ∧ kt_rt i_S_read = (some .int) := ⟨⟨by decide +kernel, rfl⟩, rfl⟩
theorem x_S_read_36 : kt_dc i_S_read 36 (.aload_n 0) 1 37 := ⟨by decide +kernel, rfl⟩
theorem x_S_read_37 : kt_sG i_S_read 37 3 2 2 40 := ⟨15, RX3, TX3, 6, ⟨by decide +kernel, rfl⟩, rfl, by decide, rfl, by decide, Or.inl (tw_31)⟩
theorem x_S_read_40 : kt_dc i_S_read 40 (.iload 4) 2 42 := ⟨by decide +kernel, rfl⟩
theorem x_S_read_42 : kt_dc i_S_read 42 (.iload 5) 2 44 := ⟨by decide +kernel, rfl⟩
theorem x_S_read_44 : kt_dc i_S_read 44 (.iconst 1) 1 45 ∧ Int32.ofInt (1) = nI 1 := ⟨⟨by decide +kernel, rfl⟩, by decide⟩
theorem x_S_read_45 : kt_dj i_S_read 45 (.if_icmp .ne) 56 48 := ⟨11, by decide +kernel, by decide, rfl⟩
theorem x_S_read_48 : kt_dc i_S_read 48 (.aload_n 0) 1 49 := ⟨by decide +kernel, rfl⟩
theorem x_S_read_49 : kt_dc i_S_read 49 (.iload_n 2) 1 50 := ⟨by decide +kernel, rfl⟩
theorem x_S_read_50 : kt_sV i_S_read 50 i_S_digit 3 1 53 := ⟨56, ⟨by decide +kernel, rfl⟩, Or.inl (tw_507), j_S_digit, ⟨tw_509, tp_43⟩, ⟨TX3, 6, rfl⟩, by decide, rfl⟩
theorem c_S_read_50 {P : kt_P} {NM : Nat} {L : List (Option Value)} {rest : List Value} {N : Nat} {I : kt_I} {J : kt_J} {R : kt_R} {Q : Option Value → kt_I → kt_J → kt_R → Prop} {b : Nat} {x0 : Int32} (hkd : kt_kd P N b = (3, 0)) (hrest : (rest.map fun v => v.category).sum ≤ 8) (kk : KW P i_S_digit N 0 [some (.ref b), some (.int x0)] [] N I J R (fun v I' J' R' => KW P i_S_read NM 53 L (kt_pu v rest) N I' J' R' Q)) : KW P i_S_read NM 50 L (.int x0 :: .ref b :: rest) N I J R Q := kw_callV x_S_read_50 (As := [.int x0]) rfl rfl (Nat.le_of_ble_eq_true rfl) hrest hkd (Nat.le_refl N) (fun h => h) kk
theorem x_S_read_53 : kt_dj i_S_read 53 .goto 72 56 := ⟨19, by decide +kernel, by decide, rfl⟩
theorem x_S_read_56 : kt_dc i_S_read 56 (.aload_n 0) 1 57 := ⟨by decide +kernel, rfl⟩
theorem x_S_read_57 : kt_dc i_S_read 57 (.iload_n 2) 1 58 := ⟨by decide +kernel, rfl⟩
theorem x_S_read_58 : kt_sV i_S_read 58 i_S_digit 3 1 61 := ⟨56, ⟨by decide +kernel, rfl⟩, Or.inl (tw_507), j_S_digit, ⟨tw_509, tp_43⟩, ⟨TX3, 6, rfl⟩, by decide, rfl⟩
theorem c_S_read_58 {P : kt_P} {NM : Nat} {L : List (Option Value)} {rest : List Value} {N : Nat} {I : kt_I} {J : kt_J} {R : kt_R} {Q : Option Value → kt_I → kt_J → kt_R → Prop} {b : Nat} {x0 : Int32} (hkd : kt_kd P N b = (3, 0)) (hrest : (rest.map fun v => v.category).sum ≤ 8) (kk : KW P i_S_digit N 0 [some (.ref b), some (.int x0)] [] N I J R (fun v I' J' R' => KW P i_S_read NM 61 L (kt_pu v rest) N I' J' R' Q)) : KW P i_S_read NM 58 L (.int x0 :: .ref b :: rest) N I J R Q := kw_callV x_S_read_58 (As := [.int x0]) rfl rfl (Nat.le_of_ble_eq_true rfl) hrest hkd (Nat.le_refl N) (fun h => h) kk
theorem x_S_read_61 : kt_dc i_S_read 61 (.bipush 10) 2 63 ∧ (Int8.ofInt (10)).toInt32 = nI 10 := ⟨⟨by decide +kernel, rfl⟩, by decide⟩
theorem x_S_read_63 : kt_dc i_S_read 63 (.imul) 1 64 := ⟨by decide +kernel, rfl⟩
theorem x_S_read_64 : kt_dc i_S_read 64 (.aload_n 0) 1 65 := ⟨by decide +kernel, rfl⟩
theorem x_S_read_65 : kt_dc i_S_read 65 (.iload_n 2) 1 66 := ⟨by decide +kernel, rfl⟩
theorem x_S_read_66 : kt_dc i_S_read 66 (.iconst 1) 1 67 ∧ Int32.ofInt (1) = nI 1 := ⟨⟨by decide +kernel, rfl⟩, by decide⟩
theorem x_S_read_67 : kt_dc i_S_read 67 (.iadd) 1 68 := ⟨by decide +kernel, rfl⟩
theorem x_S_read_68 : kt_sV i_S_read 68 i_S_digit 3 1 71 := ⟨56, ⟨by decide +kernel, rfl⟩, Or.inl (tw_507), j_S_digit, ⟨tw_509, tp_43⟩, ⟨TX3, 6, rfl⟩, by decide, rfl⟩
theorem c_S_read_68 {P : kt_P} {NM : Nat} {L : List (Option Value)} {rest : List Value} {N : Nat} {I : kt_I} {J : kt_J} {R : kt_R} {Q : Option Value → kt_I → kt_J → kt_R → Prop} {b : Nat} {x0 : Int32} (hkd : kt_kd P N b = (3, 0)) (hrest : (rest.map fun v => v.category).sum ≤ 8) (kk : KW P i_S_digit N 0 [some (.ref b), some (.int x0)] [] N I J R (fun v I' J' R' => KW P i_S_read NM 71 L (kt_pu v rest) N I' J' R' Q)) : KW P i_S_read NM 68 L (.int x0 :: .ref b :: rest) N I J R Q := kw_callV x_S_read_68 (As := [.int x0]) rfl rfl (Nat.le_of_ble_eq_true rfl) hrest hkd (Nat.le_refl N) (fun h => h) kk
theorem x_S_read_71 : kt_dc i_S_read 71 (.iadd) 1 72 := ⟨by decide +kernel, rfl⟩
theorem x_S_read_72 : kt_dc i_S_read 72 (.iastore) 1 73 := ⟨by decide +kernel, rfl⟩
theorem x_S_read_73 : kt_dc i_S_read 73 (.iload_n 2) 1 74 := ⟨by decide +kernel, rfl⟩
theorem x_S_read_74 : kt_dc i_S_read 74 (.iload 5) 2 76 := ⟨by decide +kernel, rfl⟩
theorem x_S_read_76 : kt_dc i_S_read 76 (.iconst 1) 1 77 ∧ Int32.ofInt (1) = nI 1 := ⟨⟨by decide +kernel, rfl⟩, by decide⟩
theorem x_S_read_77 : kt_dc i_S_read 77 (.iadd) 1 78 := ⟨by decide +kernel, rfl⟩
theorem x_S_read_78 : kt_dc i_S_read 78 (.iadd) 1 79 := ⟨by decide +kernel, rfl⟩
theorem x_S_read_79 : kt_dc i_S_read 79 (.istore_n 2) 1 80 := ⟨by decide +kernel, rfl⟩
theorem x_S_read_80 : kt_dc i_S_read 80 (.aload_n 0) 1 81 := ⟨by decide +kernel, rfl⟩
theorem x_S_read_81 : kt_dc i_S_read 81 (.iload_n 2) 1 82 := ⟨by decide +kernel, rfl⟩
theorem x_S_read_82 : kt_dc i_S_read 82 (.iconst 1) 1 83 ∧ Int32.ofInt (1) = nI 1 := ⟨⟨by decide +kernel, rfl⟩, by decide⟩
theorem x_S_read_83 : kt_dc i_S_read 83 (.isub) 1 84 := ⟨by decide +kernel, rfl⟩
theorem x_S_read_84 : kt_sV i_S_read 84 i_S_signAt 3 1 87 := ⟨47, ⟨by decide +kernel, rfl⟩, Or.inl (tw_491), j_S_signAt, ⟨tw_493, tp_40⟩, ⟨TX3, 6, rfl⟩, by decide, rfl⟩
theorem c_S_read_84 {P : kt_P} {NM : Nat} {L : List (Option Value)} {rest : List Value} {N : Nat} {I : kt_I} {J : kt_J} {R : kt_R} {Q : Option Value → kt_I → kt_J → kt_R → Prop} {b : Nat} {x0 : Int32} (hkd : kt_kd P N b = (3, 0)) (hrest : (rest.map fun v => v.category).sum ≤ 8) (kk : KW P i_S_signAt N 0 [some (.ref b), some (.int x0)] [] N I J R (fun v I' J' R' => KW P i_S_read NM 87 L (kt_pu v rest) N I' J' R' Q)) : KW P i_S_read NM 84 L (.int x0 :: .ref b :: rest) N I J R Q := kw_callV x_S_read_84 (As := [.int x0]) rfl rfl (Nat.le_of_ble_eq_true rfl) hrest hkd (Nat.le_refl N) (fun h => h) kk
theorem x_S_read_87 : kt_dc i_S_read 87 (.iload 4) 2 89 := ⟨by decide +kernel, rfl⟩
theorem x_S_read_89 : kt_dc i_S_read 89 (.iconst 1) 1 90 ∧ Int32.ofInt (1) = nI 1 := ⟨⟨by decide +kernel, rfl⟩, by decide⟩
theorem x_S_read_90 : kt_dc i_S_read 90 (.iadd) 1 91 := ⟨by decide +kernel, rfl⟩
theorem x_S_read_91 : kt_dc i_S_read 91 (.iload_n 3) 1 92 := ⟨by decide +kernel, rfl⟩
theorem x_S_read_92 : kt_dj i_S_read 92 (.if_icmp .ge) 100 95 := ⟨8, by decide +kernel, by decide, rfl⟩
theorem x_S_read_95 : kt_dc i_S_read 95 (.bipush 44) 2 97 ∧ (Int8.ofInt (44)).toInt32 = nI 44 := ⟨⟨by decide +kernel, rfl⟩, by decide⟩
theorem x_S_read_97 : kt_dj i_S_read 97 .goto 102 100 := ⟨5, by decide +kernel, by decide, rfl⟩
theorem x_S_read_100 : kt_dc i_S_read 100 (.bipush 59) 2 102 ∧ (Int8.ofInt (59)).toInt32 = nI 59 := ⟨⟨by decide +kernel, rfl⟩, by decide⟩
theorem x_S_read_102 : kt_dj i_S_read 102 (.if_icmp .eq) 107 105 := ⟨5, by decide +kernel, by decide, rfl⟩
theorem x_S_read_105 : kt_dc i_S_read 105 (.iconst (-1)) 1 106 ∧ Int32.ofInt (-1) = (-1 : Int32) := ⟨⟨by decide +kernel, rfl⟩, by decide⟩
theorem x_S_read_106 : kt_dc i_S_read 106 (.ireturn) 1 107 ∧ kt_rt i_S_read = (some .int) := ⟨⟨by decide +kernel, rfl⟩, rfl⟩
theorem x_S_read_107 : kt_dc i_S_read 107 (.iinc 4 1) 3 110 ∧ Int32.ofInt (1) = nI 1 := ⟨⟨by decide +kernel, rfl⟩, by decide⟩
theorem x_S_read_110 : kt_dj i_S_read 110 .goto 16 113 := ⟨-94, by decide +kernel, by decide, rfl⟩
theorem x_S_read_113 : kt_dc i_S_read 113 (.iload_n 3) 1 114 := ⟨by decide +kernel, rfl⟩
theorem x_S_read_114 : kt_dj i_S_read 114 (.ifCond .ne) 121 117 := ⟨7, by decide +kernel, by decide, rfl⟩
theorem x_S_read_117 : kt_dc i_S_read 117 (.iconst (-1)) 1 118 ∧ Int32.ofInt (-1) = (-1 : Int32) := ⟨⟨by decide +kernel, rfl⟩, by decide⟩
theorem x_S_read_118 : kt_dj i_S_read 118 .goto 122 121 := ⟨4, by decide +kernel, by decide, rfl⟩
theorem x_S_read_121 : kt_dc i_S_read 121 (.iload_n 2) 1 122 := ⟨by decide +kernel, rfl⟩
theorem x_S_read_122 : kt_dc i_S_read 122 (.ireturn) 1 123 ∧ kt_rt i_S_read = (some .int) := ⟨⟨by decide +kernel, rfl⟩, rfl⟩
theorem x_S_signAt_0 : kt_dc i_S_signAt 0 (.iload_n 1) 1 1 := ⟨by decide +kernel, rfl⟩
theorem x_S_signAt_1 : kt_dc i_S_signAt 1 (.aload_n 0) 1 2 := ⟨by decide +kernel, rfl⟩
theorem x_S_signAt_2 : kt_sG i_S_signAt 2 3 1 0 5 := ⟨28, RX3, TX3, 6, ⟨by decide +kernel, rfl⟩, rfl, by decide, rfl, by decide, Or.inl (tw_29)⟩
theorem x_S_signAt_5 : kt_sS i_S_signAt 5 i_K_isBelow 2 8 := ⟨80, ⟨by decide +kernel, rfl⟩, Or.inr ⟨"KinderTowns", tw_495⟩, j_K_isBelow, tw_219, rfl⟩
theorem c_S_signAt_5 {P : kt_P} {NM : Nat} {L : List (Option Value)} {rest : List Value} {N : Nat} {I : kt_I} {J : kt_J} {R : kt_R} {Q : Option Value → kt_I → kt_J → kt_R → Prop} {x0 : Int32} {x1 : Int32} (hrest : (rest.map fun v => v.category).sum ≤ 8) (kk : KW P i_K_isBelow N 0 [some (.int x0), some (.int x1)] [] N I J R (fun v I' J' R' => KW P i_S_signAt NM 8 L (kt_pu v rest) N I' J' R' Q)) : KW P i_S_signAt NM 5 L (.int x1 :: .int x0 :: rest) N I J R Q := kw_callS x_S_signAt_5 (As := [.int x0, .int x1]) rfl rfl (Nat.le_of_ble_eq_true rfl) hrest (Nat.le_refl N) (fun h => h) kk
theorem x_S_signAt_8 : kt_dj i_S_signAt 8 (.ifCond .eq) 20 11 := ⟨12, by decide +kernel, by decide, rfl⟩
theorem x_S_signAt_11 : kt_dc i_S_signAt 11 (.aload_n 0) 1 12 := ⟨by decide +kernel, rfl⟩
theorem x_S_signAt_12 : kt_sG i_S_signAt 12 3 0 2 15 := ⟨9, RX3, TX3, 6, ⟨by decide +kernel, rfl⟩, rfl, by decide, rfl, by decide, Or.inl (tw_27)⟩
theorem x_S_signAt_15 : kt_dc i_S_signAt 15 (.iload_n 1) 1 16 := ⟨by decide +kernel, rfl⟩
theorem x_S_signAt_16 : kt_dc i_S_signAt 16 (.iaload) 1 17 := ⟨by decide +kernel, rfl⟩
theorem x_S_signAt_17 : kt_dj i_S_signAt 17 .goto 21 20 := ⟨4, by decide +kernel, by decide, rfl⟩
theorem x_S_signAt_20 : kt_dc i_S_signAt 20 (.iconst 0) 1 21 ∧ Int32.ofInt (0) = nI 0 := ⟨⟨by decide +kernel, rfl⟩, by decide⟩
theorem x_S_signAt_21 : kt_dc i_S_signAt 21 (.ireturn) 1 22 ∧ kt_rt i_S_signAt = (some .int) := ⟨⟨by decide +kernel, rfl⟩, rfl⟩
theorem x_S_numbersBehind_0 : kt_dc i_S_numbersBehind 0 (.iload_n 0) 1 1 := ⟨by decide +kernel, rfl⟩
theorem x_S_numbersBehind_1 : kt_dt i_S_numbersBehind 1 99 [84, 80, 88, 88, 88, 84, 88, 88, 88, 88, 84, 88, 82, 88, 88, 86] 88 := ⟨87, 114, #[83, 79, 87, 87, 87, 83, 87, 87, 87, 87, 83, 87, 81, 87, 87, 85], 79, by decide +kernel, by decide, by decide, by decide⟩
theorem s_S_numbersBehind_1 {P : kt_P} {NM : Nat} {L : List (Option Value)} {st : List Value} {N : Nat} {I : kt_I} {J : kt_J} {R : kt_R} {Q : Option Value → kt_I → kt_J → kt_R → Prop} {x : Int32} (h0 : x = nI 99 → KW P i_S_numbersBehind NM 84 L st N I J R Q) (h1 : x = nI 100 → KW P i_S_numbersBehind NM 80 L st N I J R Q) (h2 : x = nI 101 → KW P i_S_numbersBehind NM 88 L st N I J R Q) (h3 : x = nI 102 → KW P i_S_numbersBehind NM 88 L st N I J R Q) (h4 : x = nI 103 → KW P i_S_numbersBehind NM 88 L st N I J R Q) (h5 : x = nI 104 → KW P i_S_numbersBehind NM 84 L st N I J R Q) (h6 : x = nI 105 → KW P i_S_numbersBehind NM 88 L st N I J R Q) (h7 : x = nI 106 → KW P i_S_numbersBehind NM 88 L st N I J R Q) (h8 : x = nI 107 → KW P i_S_numbersBehind NM 88 L st N I J R Q) (h9 : x = nI 108 → KW P i_S_numbersBehind NM 88 L st N I J R Q) (h10 : x = nI 109 → KW P i_S_numbersBehind NM 84 L st N I J R Q) (h11 : x = nI 110 → KW P i_S_numbersBehind NM 88 L st N I J R Q) (h12 : x = nI 111 → KW P i_S_numbersBehind NM 82 L st N I J R Q) (h13 : x = nI 112 → KW P i_S_numbersBehind NM 88 L st N I J R Q) (h14 : x = nI 113 → KW P i_S_numbersBehind NM 88 L st N I J R Q) (h15 : x = nI 114 → KW P i_S_numbersBehind NM 86 L st N I J R Q) (hd : ¬ x = nI 99 → ¬ x = nI 100 → ¬ x = nI 101 → ¬ x = nI 102 → ¬ x = nI 103 → ¬ x = nI 104 → ¬ x = nI 105 → ¬ x = nI 106 → ¬ x = nI 107 → ¬ x = nI 108 → ¬ x = nI 109 → ¬ x = nI 110 → ¬ x = nI 111 → ¬ x = nI 112 → ¬ x = nI 113 → ¬ x = nI 114 → KW P i_S_numbersBehind NM 88 L st N I J R Q) : KW P i_S_numbersBehind NM 1 L (.int x :: st) N I J R Q :=
  kw_tsw x_S_numbersBehind_1 (fun j t hj hx => by
    match j, hj, hx with
    | 0, hj, hx => cases hj; exact h0 (Int32.toInt_inj.mp (hx.trans (by decide)))
    | 1, hj, hx => cases hj; exact h1 (Int32.toInt_inj.mp (hx.trans (by decide)))
    | 2, hj, hx => cases hj; exact h2 (Int32.toInt_inj.mp (hx.trans (by decide)))
    | 3, hj, hx => cases hj; exact h3 (Int32.toInt_inj.mp (hx.trans (by decide)))
    | 4, hj, hx => cases hj; exact h4 (Int32.toInt_inj.mp (hx.trans (by decide)))
    | 5, hj, hx => cases hj; exact h5 (Int32.toInt_inj.mp (hx.trans (by decide)))
    | 6, hj, hx => cases hj; exact h6 (Int32.toInt_inj.mp (hx.trans (by decide)))
    | 7, hj, hx => cases hj; exact h7 (Int32.toInt_inj.mp (hx.trans (by decide)))
    | 8, hj, hx => cases hj; exact h8 (Int32.toInt_inj.mp (hx.trans (by decide)))
    | 9, hj, hx => cases hj; exact h9 (Int32.toInt_inj.mp (hx.trans (by decide)))
    | 10, hj, hx => cases hj; exact h10 (Int32.toInt_inj.mp (hx.trans (by decide)))
    | 11, hj, hx => cases hj; exact h11 (Int32.toInt_inj.mp (hx.trans (by decide)))
    | 12, hj, hx => cases hj; exact h12 (Int32.toInt_inj.mp (hx.trans (by decide)))
    | 13, hj, hx => cases hj; exact h13 (Int32.toInt_inj.mp (hx.trans (by decide)))
    | 14, hj, hx => cases hj; exact h14 (Int32.toInt_inj.mp (hx.trans (by decide)))
    | 15, hj, hx => cases hj; exact h15 (Int32.toInt_inj.mp (hx.trans (by decide)))
    | n + 16, hj, hx => simp at hj)
    (fun h => hd (fun e => by subst e; revert h; decide) (fun e => by subst e; revert h; decide) (fun e => by subst e; revert h; decide) (fun e => by subst e; revert h; decide) (fun e => by subst e; revert h; decide) (fun e => by subst e; revert h; decide) (fun e => by subst e; revert h; decide) (fun e => by subst e; revert h; decide) (fun e => by subst e; revert h; decide) (fun e => by subst e; revert h; decide) (fun e => by subst e; revert h; decide) (fun e => by subst e; revert h; decide) (fun e => by subst e; revert h; decide) (fun e => by subst e; revert h; decide) (fun e => by subst e; revert h; decide) (fun e => by subst e; revert h; decide))
theorem x_S_numbersBehind_80 : kt_dc i_S_numbersBehind 80 (.iconst 3) 1 81 ∧ Int32.ofInt (3) = nI 3 := ⟨⟨by decide +kernel, rfl⟩, by decide⟩
theorem x_S_numbersBehind_81 : kt_dc i_S_numbersBehind 81 (.ireturn) 1 82 ∧ kt_rt i_S_numbersBehind = (some .int) := ⟨⟨by decide +kernel, rfl⟩, rfl⟩
theorem x_S_numbersBehind_82 : kt_dc i_S_numbersBehind 82 (.iconst 4) 1 83 ∧ Int32.ofInt (4) = nI 4 := ⟨⟨by decide +kernel, rfl⟩, by decide⟩
theorem x_S_numbersBehind_83 : kt_dc i_S_numbersBehind 83 (.ireturn) 1 84 ∧ kt_rt i_S_numbersBehind = (some .int) := ⟨⟨by decide +kernel, rfl⟩, rfl⟩
theorem x_S_numbersBehind_84 : kt_dc i_S_numbersBehind 84 (.iconst 2) 1 85 ∧ Int32.ofInt (2) = nI 2 := ⟨⟨by decide +kernel, rfl⟩, by decide⟩
theorem x_S_numbersBehind_85 : kt_dc i_S_numbersBehind 85 (.ireturn) 1 86 ∧ kt_rt i_S_numbersBehind = (some .int) := ⟨⟨by decide +kernel, rfl⟩, rfl⟩
theorem x_S_numbersBehind_86 : kt_dc i_S_numbersBehind 86 (.iconst 1) 1 87 ∧ Int32.ofInt (1) = nI 1 := ⟨⟨by decide +kernel, rfl⟩, by decide⟩
theorem x_S_numbersBehind_87 : kt_dc i_S_numbersBehind 87 (.ireturn) 1 88 ∧ kt_rt i_S_numbersBehind = (some .int) := ⟨⟨by decide +kernel, rfl⟩, rfl⟩
theorem x_S_numbersBehind_88 : kt_dc i_S_numbersBehind 88 (.iconst 0) 1 89 ∧ Int32.ofInt (0) = nI 0 := ⟨⟨by decide +kernel, rfl⟩, by decide⟩
theorem x_S_numbersBehind_89 : kt_dc i_S_numbersBehind 89 (.ireturn) 1 90 ∧ kt_rt i_S_numbersBehind = (some .int) := ⟨⟨by decide +kernel, rfl⟩, rfl⟩
theorem x_S_digitsAt_0 : kt_dc i_S_digitsAt 0 (.aload_n 0) 1 1 := ⟨by decide +kernel, rfl⟩
theorem x_S_digitsAt_1 : kt_dc i_S_digitsAt 1 (.iload_n 1) 1 2 := ⟨by decide +kernel, rfl⟩
theorem x_S_digitsAt_2 : kt_sV i_S_digitsAt 2 i_S_isDigit 3 1 5 := ⟨84, ⟨by decide +kernel, rfl⟩, Or.inl (tw_503), j_S_isDigit, ⟨tw_505, tp_42⟩, ⟨TX3, 6, rfl⟩, by decide, rfl⟩
theorem c_S_digitsAt_2 {P : kt_P} {NM : Nat} {L : List (Option Value)} {rest : List Value} {N : Nat} {I : kt_I} {J : kt_J} {R : kt_R} {Q : Option Value → kt_I → kt_J → kt_R → Prop} {b : Nat} {x0 : Int32} (hkd : kt_kd P N b = (3, 0)) (hrest : (rest.map fun v => v.category).sum ≤ 8) (kk : KW P i_S_isDigit N 0 [some (.ref b), some (.int x0)] [] N I J R (fun v I' J' R' => KW P i_S_digitsAt NM 5 L (kt_pu v rest) N I' J' R' Q)) : KW P i_S_digitsAt NM 2 L (.int x0 :: .ref b :: rest) N I J R Q := kw_callV x_S_digitsAt_2 (As := [.int x0]) rfl rfl (Nat.le_of_ble_eq_true rfl) hrest hkd (Nat.le_refl N) (fun h => h) kk
theorem x_S_digitsAt_5 : kt_dj i_S_digitsAt 5 (.ifCond .ne) 10 8 := ⟨5, by decide +kernel, by decide, rfl⟩
theorem x_S_digitsAt_8 : kt_dc i_S_digitsAt 8 (.iconst 0) 1 9 ∧ Int32.ofInt (0) = nI 0 := ⟨⟨by decide +kernel, rfl⟩, by decide⟩
theorem x_S_digitsAt_9 : kt_dc i_S_digitsAt 9 (.ireturn) 1 10 ∧ kt_rt i_S_digitsAt = (some .int) := ⟨⟨by decide +kernel, rfl⟩, rfl⟩
theorem x_S_digitsAt_10 : kt_dc i_S_digitsAt 10 (.aload_n 0) 1 11 := ⟨by decide +kernel, rfl⟩
theorem x_S_digitsAt_11 : kt_dc i_S_digitsAt 11 (.iload_n 1) 1 12 := ⟨by decide +kernel, rfl⟩
theorem x_S_digitsAt_12 : kt_dc i_S_digitsAt 12 (.iconst 1) 1 13 ∧ Int32.ofInt (1) = nI 1 := ⟨⟨by decide +kernel, rfl⟩, by decide⟩
theorem x_S_digitsAt_13 : kt_dc i_S_digitsAt 13 (.iadd) 1 14 := ⟨by decide +kernel, rfl⟩
theorem x_S_digitsAt_14 : kt_sV i_S_digitsAt 14 i_S_isDigit 3 1 17 := ⟨84, ⟨by decide +kernel, rfl⟩, Or.inl (tw_503), j_S_isDigit, ⟨tw_505, tp_42⟩, ⟨TX3, 6, rfl⟩, by decide, rfl⟩
theorem c_S_digitsAt_14 {P : kt_P} {NM : Nat} {L : List (Option Value)} {rest : List Value} {N : Nat} {I : kt_I} {J : kt_J} {R : kt_R} {Q : Option Value → kt_I → kt_J → kt_R → Prop} {b : Nat} {x0 : Int32} (hkd : kt_kd P N b = (3, 0)) (hrest : (rest.map fun v => v.category).sum ≤ 8) (kk : KW P i_S_isDigit N 0 [some (.ref b), some (.int x0)] [] N I J R (fun v I' J' R' => KW P i_S_digitsAt NM 17 L (kt_pu v rest) N I' J' R' Q)) : KW P i_S_digitsAt NM 14 L (.int x0 :: .ref b :: rest) N I J R Q := kw_callV x_S_digitsAt_14 (As := [.int x0]) rfl rfl (Nat.le_of_ble_eq_true rfl) hrest hkd (Nat.le_refl N) (fun h => h) kk
theorem x_S_digitsAt_17 : kt_dj i_S_digitsAt 17 (.ifCond .eq) 24 20 := ⟨7, by decide +kernel, by decide, rfl⟩
theorem x_S_digitsAt_20 : kt_dc i_S_digitsAt 20 (.iconst 2) 1 21 ∧ Int32.ofInt (2) = nI 2 := ⟨⟨by decide +kernel, rfl⟩, by decide⟩
theorem x_S_digitsAt_21 : kt_dj i_S_digitsAt 21 .goto 25 24 := ⟨4, by decide +kernel, by decide, rfl⟩
theorem x_S_digitsAt_24 : kt_dc i_S_digitsAt 24 (.iconst 1) 1 25 ∧ Int32.ofInt (1) = nI 1 := ⟨⟨by decide +kernel, rfl⟩, by decide⟩
theorem x_S_digitsAt_25 : kt_dc i_S_digitsAt 25 (.ireturn) 1 26 ∧ kt_rt i_S_digitsAt = (some .int) := ⟨⟨by decide +kernel, rfl⟩, rfl⟩
theorem x_S_isDigit_0 : kt_dc i_S_isDigit 0 (.aload_n 0) 1 1 := ⟨by decide +kernel, rfl⟩
theorem x_S_isDigit_1 : kt_dc i_S_isDigit 1 (.iload_n 1) 1 2 := ⟨by decide +kernel, rfl⟩
theorem x_S_isDigit_2 : kt_sV i_S_isDigit 2 i_S_signAt 3 1 5 := ⟨47, ⟨by decide +kernel, rfl⟩, Or.inl (tw_491), j_S_signAt, ⟨tw_493, tp_40⟩, ⟨TX3, 6, rfl⟩, by decide, rfl⟩
theorem c_S_isDigit_2 {P : kt_P} {NM : Nat} {L : List (Option Value)} {rest : List Value} {N : Nat} {I : kt_I} {J : kt_J} {R : kt_R} {Q : Option Value → kt_I → kt_J → kt_R → Prop} {b : Nat} {x0 : Int32} (hkd : kt_kd P N b = (3, 0)) (hrest : (rest.map fun v => v.category).sum ≤ 8) (kk : KW P i_S_signAt N 0 [some (.ref b), some (.int x0)] [] N I J R (fun v I' J' R' => KW P i_S_isDigit NM 5 L (kt_pu v rest) N I' J' R' Q)) : KW P i_S_isDigit NM 2 L (.int x0 :: .ref b :: rest) N I J R Q := kw_callV x_S_isDigit_2 (As := [.int x0]) rfl rfl (Nat.le_of_ble_eq_true rfl) hrest hkd (Nat.le_refl N) (fun h => h) kk
theorem x_S_isDigit_5 : kt_dc i_S_isDigit 5 (.bipush 48) 2 7 ∧ (Int8.ofInt (48)).toInt32 = nI 48 := ⟨⟨by decide +kernel, rfl⟩, by decide⟩
theorem x_S_isDigit_7 : kt_dj i_S_isDigit 7 (.if_icmp .lt) 24 10 := ⟨17, by decide +kernel, by decide, rfl⟩
theorem x_S_isDigit_10 : kt_dc i_S_isDigit 10 (.aload_n 0) 1 11 := ⟨by decide +kernel, rfl⟩
theorem x_S_isDigit_11 : kt_dc i_S_isDigit 11 (.iload_n 1) 1 12 := ⟨by decide +kernel, rfl⟩
theorem x_S_isDigit_12 : kt_sV i_S_isDigit 12 i_S_signAt 3 1 15 := ⟨47, ⟨by decide +kernel, rfl⟩, Or.inl (tw_491), j_S_signAt, ⟨tw_493, tp_40⟩, ⟨TX3, 6, rfl⟩, by decide, rfl⟩
theorem c_S_isDigit_12 {P : kt_P} {NM : Nat} {L : List (Option Value)} {rest : List Value} {N : Nat} {I : kt_I} {J : kt_J} {R : kt_R} {Q : Option Value → kt_I → kt_J → kt_R → Prop} {b : Nat} {x0 : Int32} (hkd : kt_kd P N b = (3, 0)) (hrest : (rest.map fun v => v.category).sum ≤ 8) (kk : KW P i_S_signAt N 0 [some (.ref b), some (.int x0)] [] N I J R (fun v I' J' R' => KW P i_S_isDigit NM 15 L (kt_pu v rest) N I' J' R' Q)) : KW P i_S_isDigit NM 12 L (.int x0 :: .ref b :: rest) N I J R Q := kw_callV x_S_isDigit_12 (As := [.int x0]) rfl rfl (Nat.le_of_ble_eq_true rfl) hrest hkd (Nat.le_refl N) (fun h => h) kk
theorem x_S_isDigit_15 : kt_dc i_S_isDigit 15 (.bipush 57) 2 17 ∧ (Int8.ofInt (57)).toInt32 = nI 57 := ⟨⟨by decide +kernel, rfl⟩, by decide⟩
theorem x_S_isDigit_17 : kt_dj i_S_isDigit 17 (.if_icmp .gt) 24 20 := ⟨7, by decide +kernel, by decide, rfl⟩
theorem x_S_isDigit_20 : kt_dc i_S_isDigit 20 (.iconst 1) 1 21 ∧ Int32.ofInt (1) = nI 1 := ⟨⟨by decide +kernel, rfl⟩, by decide⟩
theorem x_S_isDigit_21 : kt_dj i_S_isDigit 21 .goto 25 24 := ⟨4, by decide +kernel, by decide, rfl⟩
theorem x_S_isDigit_24 : kt_dc i_S_isDigit 24 (.iconst 0) 1 25 ∧ Int32.ofInt (0) = nI 0 := ⟨⟨by decide +kernel, rfl⟩, by decide⟩
theorem x_S_isDigit_25 : kt_dc i_S_isDigit 25 (.ireturn) 1 26 ∧ kt_rt i_S_isDigit = (some .boolean) := ⟨⟨by decide +kernel, rfl⟩, rfl⟩
theorem x_S_digit_0 : kt_dc i_S_digit 0 (.aload_n 0) 1 1 := ⟨by decide +kernel, rfl⟩
theorem x_S_digit_1 : kt_dc i_S_digit 1 (.iload_n 1) 1 2 := ⟨by decide +kernel, rfl⟩
theorem x_S_digit_2 : kt_sV i_S_digit 2 i_S_signAt 3 1 5 := ⟨47, ⟨by decide +kernel, rfl⟩, Or.inl (tw_491), j_S_signAt, ⟨tw_493, tp_40⟩, ⟨TX3, 6, rfl⟩, by decide, rfl⟩
theorem c_S_digit_2 {P : kt_P} {NM : Nat} {L : List (Option Value)} {rest : List Value} {N : Nat} {I : kt_I} {J : kt_J} {R : kt_R} {Q : Option Value → kt_I → kt_J → kt_R → Prop} {b : Nat} {x0 : Int32} (hkd : kt_kd P N b = (3, 0)) (hrest : (rest.map fun v => v.category).sum ≤ 8) (kk : KW P i_S_signAt N 0 [some (.ref b), some (.int x0)] [] N I J R (fun v I' J' R' => KW P i_S_digit NM 5 L (kt_pu v rest) N I' J' R' Q)) : KW P i_S_digit NM 2 L (.int x0 :: .ref b :: rest) N I J R Q := kw_callV x_S_digit_2 (As := [.int x0]) rfl rfl (Nat.le_of_ble_eq_true rfl) hrest hkd (Nat.le_refl N) (fun h => h) kk
theorem x_S_digit_5 : kt_dc i_S_digit 5 (.bipush 48) 2 7 ∧ (Int8.ofInt (48)).toInt32 = nI 48 := ⟨⟨by decide +kernel, rfl⟩, by decide⟩
theorem x_S_digit_7 : kt_dc i_S_digit 7 (.isub) 1 8 := ⟨by decide +kernel, rfl⟩
theorem x_S_digit_8 : kt_dc i_S_digit 8 (.ireturn) 1 9 ∧ kt_rt i_S_digit = (some .int) := ⟨⟨by decide +kernel, rfl⟩, rfl⟩
theorem x_S_doCommand_0 : kt_dc i_S_doCommand 0 (.iload_n 2) 1 1 := ⟨by decide +kernel, rfl⟩
theorem x_S_doCommand_1 : kt_dt i_S_doCommand 1 99 [120, 68, 171, 171, 171, 154, 171, 171, 171, 171, 137, 171, 91] 171 := ⟨170, 111, #[119, 67, 170, 170, 170, 153, 170, 170, 170, 170, 136, 170, 90], 67, by decide +kernel, by decide, by decide, by decide⟩
theorem s_S_doCommand_1 {P : kt_P} {NM : Nat} {L : List (Option Value)} {st : List Value} {N : Nat} {I : kt_I} {J : kt_J} {R : kt_R} {Q : Option Value → kt_I → kt_J → kt_R → Prop} {x : Int32} (h0 : x = nI 99 → KW P i_S_doCommand NM 120 L st N I J R Q) (h1 : x = nI 100 → KW P i_S_doCommand NM 68 L st N I J R Q) (h2 : x = nI 101 → KW P i_S_doCommand NM 171 L st N I J R Q) (h3 : x = nI 102 → KW P i_S_doCommand NM 171 L st N I J R Q) (h4 : x = nI 103 → KW P i_S_doCommand NM 171 L st N I J R Q) (h5 : x = nI 104 → KW P i_S_doCommand NM 154 L st N I J R Q) (h6 : x = nI 105 → KW P i_S_doCommand NM 171 L st N I J R Q) (h7 : x = nI 106 → KW P i_S_doCommand NM 171 L st N I J R Q) (h8 : x = nI 107 → KW P i_S_doCommand NM 171 L st N I J R Q) (h9 : x = nI 108 → KW P i_S_doCommand NM 171 L st N I J R Q) (h10 : x = nI 109 → KW P i_S_doCommand NM 137 L st N I J R Q) (h11 : x = nI 110 → KW P i_S_doCommand NM 171 L st N I J R Q) (h12 : x = nI 111 → KW P i_S_doCommand NM 91 L st N I J R Q) (hd : ¬ x = nI 99 → ¬ x = nI 100 → ¬ x = nI 101 → ¬ x = nI 102 → ¬ x = nI 103 → ¬ x = nI 104 → ¬ x = nI 105 → ¬ x = nI 106 → ¬ x = nI 107 → ¬ x = nI 108 → ¬ x = nI 109 → ¬ x = nI 110 → ¬ x = nI 111 → KW P i_S_doCommand NM 171 L st N I J R Q) : KW P i_S_doCommand NM 1 L (.int x :: st) N I J R Q :=
  kw_tsw x_S_doCommand_1 (fun j t hj hx => by
    match j, hj, hx with
    | 0, hj, hx => cases hj; exact h0 (Int32.toInt_inj.mp (hx.trans (by decide)))
    | 1, hj, hx => cases hj; exact h1 (Int32.toInt_inj.mp (hx.trans (by decide)))
    | 2, hj, hx => cases hj; exact h2 (Int32.toInt_inj.mp (hx.trans (by decide)))
    | 3, hj, hx => cases hj; exact h3 (Int32.toInt_inj.mp (hx.trans (by decide)))
    | 4, hj, hx => cases hj; exact h4 (Int32.toInt_inj.mp (hx.trans (by decide)))
    | 5, hj, hx => cases hj; exact h5 (Int32.toInt_inj.mp (hx.trans (by decide)))
    | 6, hj, hx => cases hj; exact h6 (Int32.toInt_inj.mp (hx.trans (by decide)))
    | 7, hj, hx => cases hj; exact h7 (Int32.toInt_inj.mp (hx.trans (by decide)))
    | 8, hj, hx => cases hj; exact h8 (Int32.toInt_inj.mp (hx.trans (by decide)))
    | 9, hj, hx => cases hj; exact h9 (Int32.toInt_inj.mp (hx.trans (by decide)))
    | 10, hj, hx => cases hj; exact h10 (Int32.toInt_inj.mp (hx.trans (by decide)))
    | 11, hj, hx => cases hj; exact h11 (Int32.toInt_inj.mp (hx.trans (by decide)))
    | 12, hj, hx => cases hj; exact h12 (Int32.toInt_inj.mp (hx.trans (by decide)))
    | n + 13, hj, hx => simp at hj)
    (fun h => hd (fun e => by subst e; revert h; decide) (fun e => by subst e; revert h; decide) (fun e => by subst e; revert h; decide) (fun e => by subst e; revert h; decide) (fun e => by subst e; revert h; decide) (fun e => by subst e; revert h; decide) (fun e => by subst e; revert h; decide) (fun e => by subst e; revert h; decide) (fun e => by subst e; revert h; decide) (fun e => by subst e; revert h; decide) (fun e => by subst e; revert h; decide) (fun e => by subst e; revert h; decide) (fun e => by subst e; revert h; decide))
theorem x_S_doCommand_68 : kt_dc i_S_doCommand 68 (.aload_n 1) 1 69 := ⟨by decide +kernel, rfl⟩
theorem x_S_doCommand_69 : kt_dc i_S_doCommand 69 (.aload_n 0) 1 70 := ⟨by decide +kernel, rfl⟩
theorem x_S_doCommand_70 : kt_sG i_S_doCommand 70 3 2 2 73 := ⟨15, RX3, TX3, 6, ⟨by decide +kernel, rfl⟩, rfl, by decide, rfl, by decide, Or.inl (tw_31)⟩
theorem x_S_doCommand_73 : kt_dc i_S_doCommand 73 (.iconst 0) 1 74 ∧ Int32.ofInt (0) = nI 0 := ⟨⟨by decide +kernel, rfl⟩, by decide⟩
theorem x_S_doCommand_74 : kt_dc i_S_doCommand 74 (.iaload) 1 75 := ⟨by decide +kernel, rfl⟩
theorem x_S_doCommand_75 : kt_dc i_S_doCommand 75 (.aload_n 0) 1 76 := ⟨by decide +kernel, rfl⟩
theorem x_S_doCommand_76 : kt_sG i_S_doCommand 76 3 2 2 79 := ⟨15, RX3, TX3, 6, ⟨by decide +kernel, rfl⟩, rfl, by decide, rfl, by decide, Or.inl (tw_31)⟩
theorem x_S_doCommand_79 : kt_dc i_S_doCommand 79 (.iconst 1) 1 80 ∧ Int32.ofInt (1) = nI 1 := ⟨⟨by decide +kernel, rfl⟩, by decide⟩
theorem x_S_doCommand_80 : kt_dc i_S_doCommand 80 (.iaload) 1 81 := ⟨by decide +kernel, rfl⟩
theorem x_S_doCommand_81 : kt_dc i_S_doCommand 81 (.aload_n 0) 1 82 := ⟨by decide +kernel, rfl⟩
theorem x_S_doCommand_82 : kt_sG i_S_doCommand 82 3 2 2 85 := ⟨15, RX3, TX3, 6, ⟨by decide +kernel, rfl⟩, rfl, by decide, rfl, by decide, Or.inl (tw_31)⟩
theorem x_S_doCommand_85 : kt_dc i_S_doCommand 85 (.iconst 2) 1 86 ∧ Int32.ofInt (2) = nI 2 := ⟨⟨by decide +kernel, rfl⟩, by decide⟩
theorem x_S_doCommand_86 : kt_dc i_S_doCommand 86 (.iaload) 1 87 := ⟨by decide +kernel, rfl⟩
theorem x_S_doCommand_87 : kt_sV i_S_doCommand 87 i_C_makeDelivery 0 3 90 := ⟨59, ⟨by decide +kernel, rfl⟩, Or.inr ⟨"KinderTowns", tw_515⟩, j_C_makeDelivery, ⟨tw_281, tp_14⟩, ⟨TX0, 11, rfl⟩, by decide, rfl⟩
theorem c_S_doCommand_87 {P : kt_P} {NM : Nat} {L : List (Option Value)} {rest : List Value} {N : Nat} {I : kt_I} {J : kt_J} {R : kt_R} {Q : Option Value → kt_I → kt_J → kt_R → Prop} {b : Nat} {x0 : Int32} {x1 : Int32} {x2 : Int32} (hkd : kt_kd P N b = (0, 0)) (hrest : (rest.map fun v => v.category).sum ≤ 8) (kk : KW P i_C_makeDelivery N 0 [some (.ref b), some (.int x0), some (.int x1), some (.int x2)] [] N I J R (fun v I' J' R' => KW P i_S_doCommand NM 90 L (kt_pu v rest) N I' J' R' Q)) : KW P i_S_doCommand NM 87 L (.int x2 :: .int x1 :: .int x0 :: .ref b :: rest) N I J R Q := kw_callV x_S_doCommand_87 (As := [.int x0, .int x1, .int x2]) rfl rfl (Nat.le_of_ble_eq_true rfl) hrest hkd (Nat.le_refl N) (fun h => h) kk
theorem x_S_doCommand_90 : kt_dc i_S_doCommand 90 (.ireturn) 1 91 ∧ kt_rt i_S_doCommand = (some .int) := ⟨⟨by decide +kernel, rfl⟩, rfl⟩
theorem x_S_doCommand_91 : kt_dc i_S_doCommand 91 (.aload_n 1) 1 92 := ⟨by decide +kernel, rfl⟩
theorem x_S_doCommand_92 : kt_dc i_S_doCommand 92 (.aload_n 0) 1 93 := ⟨by decide +kernel, rfl⟩
theorem x_S_doCommand_93 : kt_sG i_S_doCommand 93 3 2 2 96 := ⟨15, RX3, TX3, 6, ⟨by decide +kernel, rfl⟩, rfl, by decide, rfl, by decide, Or.inl (tw_31)⟩
theorem x_S_doCommand_96 : kt_dc i_S_doCommand 96 (.iconst 0) 1 97 ∧ Int32.ofInt (0) = nI 0 := ⟨⟨by decide +kernel, rfl⟩, by decide⟩
theorem x_S_doCommand_97 : kt_dc i_S_doCommand 97 (.iaload) 1 98 := ⟨by decide +kernel, rfl⟩
theorem x_S_doCommand_98 : kt_dc i_S_doCommand 98 (.aload_n 0) 1 99 := ⟨by decide +kernel, rfl⟩
theorem x_S_doCommand_99 : kt_sG i_S_doCommand 99 3 2 2 102 := ⟨15, RX3, TX3, 6, ⟨by decide +kernel, rfl⟩, rfl, by decide, rfl, by decide, Or.inl (tw_31)⟩
theorem x_S_doCommand_102 : kt_dc i_S_doCommand 102 (.iconst 1) 1 103 ∧ Int32.ofInt (1) = nI 1 := ⟨⟨by decide +kernel, rfl⟩, by decide⟩
theorem x_S_doCommand_103 : kt_dc i_S_doCommand 103 (.iaload) 1 104 := ⟨by decide +kernel, rfl⟩
theorem x_S_doCommand_104 : kt_dc i_S_doCommand 104 (.aload_n 0) 1 105 := ⟨by decide +kernel, rfl⟩
theorem x_S_doCommand_105 : kt_sG i_S_doCommand 105 3 2 2 108 := ⟨15, RX3, TX3, 6, ⟨by decide +kernel, rfl⟩, rfl, by decide, rfl, by decide, Or.inl (tw_31)⟩
theorem x_S_doCommand_108 : kt_dc i_S_doCommand 108 (.iconst 2) 1 109 ∧ Int32.ofInt (2) = nI 2 := ⟨⟨by decide +kernel, rfl⟩, by decide⟩
theorem x_S_doCommand_109 : kt_dc i_S_doCommand 109 (.iaload) 1 110 := ⟨by decide +kernel, rfl⟩
theorem x_S_doCommand_110 : kt_dc i_S_doCommand 110 (.aload_n 0) 1 111 := ⟨by decide +kernel, rfl⟩
theorem x_S_doCommand_111 : kt_sG i_S_doCommand 111 3 2 2 114 := ⟨15, RX3, TX3, 6, ⟨by decide +kernel, rfl⟩, rfl, by decide, rfl, by decide, Or.inl (tw_31)⟩
theorem x_S_doCommand_114 : kt_dc i_S_doCommand 114 (.iconst 3) 1 115 ∧ Int32.ofInt (3) = nI 3 := ⟨⟨by decide +kernel, rfl⟩, by decide⟩
theorem x_S_doCommand_115 : kt_dc i_S_doCommand 115 (.iaload) 1 116 := ⟨by decide +kernel, rfl⟩
theorem x_S_doCommand_116 : kt_sV i_S_doCommand 116 i_C_makeOrder 0 4 119 := ⟨63, ⟨by decide +kernel, rfl⟩, Or.inr ⟨"KinderTowns", tw_516⟩, j_C_makeOrder, ⟨tw_302, tp_18⟩, ⟨TX0, 11, rfl⟩, by decide, rfl⟩
theorem c_S_doCommand_116 {P : kt_P} {NM : Nat} {L : List (Option Value)} {rest : List Value} {N : Nat} {I : kt_I} {J : kt_J} {R : kt_R} {Q : Option Value → kt_I → kt_J → kt_R → Prop} {b : Nat} {x0 : Int32} {x1 : Int32} {x2 : Int32} {x3 : Int32} (hkd : kt_kd P N b = (0, 0)) (hrest : (rest.map fun v => v.category).sum ≤ 8) (kk : KW P i_C_makeOrder N 0 [some (.ref b), some (.int x0), some (.int x1), some (.int x2), some (.int x3), none] [] N I J R (fun v I' J' R' => KW P i_S_doCommand NM 119 L (kt_pu v rest) N I' J' R' Q)) : KW P i_S_doCommand NM 116 L (.int x3 :: .int x2 :: .int x1 :: .int x0 :: .ref b :: rest) N I J R Q := kw_callV x_S_doCommand_116 (As := [.int x0, .int x1, .int x2, .int x3]) rfl rfl (Nat.le_of_ble_eq_true rfl) hrest hkd (Nat.le_refl N) (fun h => h) kk
theorem x_S_doCommand_119 : kt_dc i_S_doCommand 119 (.ireturn) 1 120 ∧ kt_rt i_S_doCommand = (some .int) := ⟨⟨by decide +kernel, rfl⟩, rfl⟩
theorem x_S_doCommand_120 : kt_dc i_S_doCommand 120 (.aload_n 1) 1 121 := ⟨by decide +kernel, rfl⟩
theorem x_S_doCommand_121 : kt_dc i_S_doCommand 121 (.aload_n 0) 1 122 := ⟨by decide +kernel, rfl⟩
theorem x_S_doCommand_122 : kt_sG i_S_doCommand 122 3 2 2 125 := ⟨15, RX3, TX3, 6, ⟨by decide +kernel, rfl⟩, rfl, by decide, rfl, by decide, Or.inl (tw_31)⟩
theorem x_S_doCommand_125 : kt_dc i_S_doCommand 125 (.iconst 0) 1 126 ∧ Int32.ofInt (0) = nI 0 := ⟨⟨by decide +kernel, rfl⟩, by decide⟩
theorem x_S_doCommand_126 : kt_dc i_S_doCommand 126 (.iaload) 1 127 := ⟨by decide +kernel, rfl⟩
theorem x_S_doCommand_127 : kt_dc i_S_doCommand 127 (.aload_n 0) 1 128 := ⟨by decide +kernel, rfl⟩
theorem x_S_doCommand_128 : kt_sG i_S_doCommand 128 3 2 2 131 := ⟨15, RX3, TX3, 6, ⟨by decide +kernel, rfl⟩, rfl, by decide, rfl, by decide, Or.inl (tw_31)⟩
theorem x_S_doCommand_131 : kt_dc i_S_doCommand 131 (.iconst 1) 1 132 ∧ Int32.ofInt (1) = nI 1 := ⟨⟨by decide +kernel, rfl⟩, by decide⟩
theorem x_S_doCommand_132 : kt_dc i_S_doCommand 132 (.iaload) 1 133 := ⟨by decide +kernel, rfl⟩
theorem x_S_doCommand_133 : kt_sV i_S_doCommand 133 i_C_makeCancellation 0 2 136 := ⟨67, ⟨by decide +kernel, rfl⟩, Or.inr ⟨"KinderTowns", tw_517⟩, j_C_makeCancellation, ⟨tw_310, tp_19⟩, ⟨TX0, 11, rfl⟩, by decide, rfl⟩
theorem c_S_doCommand_133 {P : kt_P} {NM : Nat} {L : List (Option Value)} {rest : List Value} {N : Nat} {I : kt_I} {J : kt_J} {R : kt_R} {Q : Option Value → kt_I → kt_J → kt_R → Prop} {b : Nat} {x0 : Int32} {x1 : Int32} (hkd : kt_kd P N b = (0, 0)) (hrest : (rest.map fun v => v.category).sum ≤ 8) (kk : KW P i_C_makeCancellation N 0 [some (.ref b), some (.int x0), some (.int x1), none] [] N I J R (fun v I' J' R' => KW P i_S_doCommand NM 136 L (kt_pu v rest) N I' J' R' Q)) : KW P i_S_doCommand NM 133 L (.int x1 :: .int x0 :: .ref b :: rest) N I J R Q := kw_callV x_S_doCommand_133 (As := [.int x0, .int x1]) rfl rfl (Nat.le_of_ble_eq_true rfl) hrest hkd (Nat.le_refl N) (fun h => h) kk
theorem x_S_doCommand_136 : kt_dc i_S_doCommand 136 (.ireturn) 1 137 ∧ kt_rt i_S_doCommand = (some .int) := ⟨⟨by decide +kernel, rfl⟩, rfl⟩
theorem x_S_doCommand_137 : kt_dc i_S_doCommand 137 (.aload_n 1) 1 138 := ⟨by decide +kernel, rfl⟩
theorem x_S_doCommand_138 : kt_dc i_S_doCommand 138 (.aload_n 0) 1 139 := ⟨by decide +kernel, rfl⟩
theorem x_S_doCommand_139 : kt_sG i_S_doCommand 139 3 2 2 142 := ⟨15, RX3, TX3, 6, ⟨by decide +kernel, rfl⟩, rfl, by decide, rfl, by decide, Or.inl (tw_31)⟩
theorem x_S_doCommand_142 : kt_dc i_S_doCommand 142 (.iconst 0) 1 143 ∧ Int32.ofInt (0) = nI 0 := ⟨⟨by decide +kernel, rfl⟩, by decide⟩
theorem x_S_doCommand_143 : kt_dc i_S_doCommand 143 (.iaload) 1 144 := ⟨by decide +kernel, rfl⟩
theorem x_S_doCommand_144 : kt_dc i_S_doCommand 144 (.aload_n 0) 1 145 := ⟨by decide +kernel, rfl⟩
theorem x_S_doCommand_145 : kt_sG i_S_doCommand 145 3 2 2 148 := ⟨15, RX3, TX3, 6, ⟨by decide +kernel, rfl⟩, rfl, by decide, rfl, by decide, Or.inl (tw_31)⟩
theorem x_S_doCommand_148 : kt_dc i_S_doCommand 148 (.iconst 1) 1 149 ∧ Int32.ofInt (1) = nI 1 := ⟨⟨by decide +kernel, rfl⟩, by decide⟩
theorem x_S_doCommand_149 : kt_dc i_S_doCommand 149 (.iaload) 1 150 := ⟨by decide +kernel, rfl⟩
theorem x_S_doCommand_150 : kt_sV i_S_doCommand 150 i_C_letMeet 0 2 153 := ⟨71, ⟨by decide +kernel, rfl⟩, Or.inr ⟨"KinderTowns", tw_518⟩, j_C_letMeet, ⟨tw_324, tp_21⟩, ⟨TX0, 11, rfl⟩, by decide, rfl⟩
theorem c_S_doCommand_150 {P : kt_P} {NM : Nat} {L : List (Option Value)} {rest : List Value} {N : Nat} {I : kt_I} {J : kt_J} {R : kt_R} {Q : Option Value → kt_I → kt_J → kt_R → Prop} {b : Nat} {x0 : Int32} {x1 : Int32} (hkd : kt_kd P N b = (0, 0)) (hrest : (rest.map fun v => v.category).sum ≤ 8) (kk : KW P i_C_letMeet N 0 [some (.ref b), some (.int x0), some (.int x1), none] [] N I J R (fun v I' J' R' => KW P i_S_doCommand NM 153 L (kt_pu v rest) N I' J' R' Q)) : KW P i_S_doCommand NM 150 L (.int x1 :: .int x0 :: .ref b :: rest) N I J R Q := kw_callV x_S_doCommand_150 (As := [.int x0, .int x1]) rfl rfl (Nat.le_of_ble_eq_true rfl) hrest hkd (Nat.le_refl N) (fun h => h) kk
theorem x_S_doCommand_153 : kt_dc i_S_doCommand 153 (.ireturn) 1 154 ∧ kt_rt i_S_doCommand = (some .int) := ⟨⟨by decide +kernel, rfl⟩, rfl⟩
theorem x_S_doCommand_154 : kt_dc i_S_doCommand 154 (.aload_n 1) 1 155 := ⟨by decide +kernel, rfl⟩
theorem x_S_doCommand_155 : kt_dc i_S_doCommand 155 (.aload_n 0) 1 156 := ⟨by decide +kernel, rfl⟩
theorem x_S_doCommand_156 : kt_sG i_S_doCommand 156 3 2 2 159 := ⟨15, RX3, TX3, 6, ⟨by decide +kernel, rfl⟩, rfl, by decide, rfl, by decide, Or.inl (tw_31)⟩
theorem x_S_doCommand_159 : kt_dc i_S_doCommand 159 (.iconst 0) 1 160 ∧ Int32.ofInt (0) = nI 0 := ⟨⟨by decide +kernel, rfl⟩, by decide⟩
theorem x_S_doCommand_160 : kt_dc i_S_doCommand 160 (.iaload) 1 161 := ⟨by decide +kernel, rfl⟩
theorem x_S_doCommand_161 : kt_dc i_S_doCommand 161 (.aload_n 0) 1 162 := ⟨by decide +kernel, rfl⟩
theorem x_S_doCommand_162 : kt_sG i_S_doCommand 162 3 2 2 165 := ⟨15, RX3, TX3, 6, ⟨by decide +kernel, rfl⟩, rfl, by decide, rfl, by decide, Or.inl (tw_31)⟩
theorem x_S_doCommand_165 : kt_dc i_S_doCommand 165 (.iconst 1) 1 166 ∧ Int32.ofInt (1) = nI 1 := ⟨⟨by decide +kernel, rfl⟩, by decide⟩
theorem x_S_doCommand_166 : kt_dc i_S_doCommand 166 (.iaload) 1 167 := ⟨by decide +kernel, rfl⟩
theorem x_S_doCommand_167 : kt_sV i_S_doCommand 167 i_C_letHear 0 2 170 := ⟨74, ⟨by decide +kernel, rfl⟩, Or.inr ⟨"KinderTowns", tw_519⟩, j_C_letHear, ⟨tw_328, tp_22⟩, ⟨TX0, 11, rfl⟩, by decide, rfl⟩
theorem c_S_doCommand_167 {P : kt_P} {NM : Nat} {L : List (Option Value)} {rest : List Value} {N : Nat} {I : kt_I} {J : kt_J} {R : kt_R} {Q : Option Value → kt_I → kt_J → kt_R → Prop} {b : Nat} {x0 : Int32} {x1 : Int32} (hkd : kt_kd P N b = (0, 0)) (hrest : (rest.map fun v => v.category).sum ≤ 8) (kk : KW P i_C_letHear N 0 [some (.ref b), some (.int x0), some (.int x1), none] [] N I J R (fun v I' J' R' => KW P i_S_doCommand NM 170 L (kt_pu v rest) N I' J' R' Q)) : KW P i_S_doCommand NM 167 L (.int x1 :: .int x0 :: .ref b :: rest) N I J R Q := kw_callV x_S_doCommand_167 (As := [.int x0, .int x1]) rfl rfl (Nat.le_of_ble_eq_true rfl) hrest hkd (Nat.le_refl N) (fun h => h) kk
theorem x_S_doCommand_170 : kt_dc i_S_doCommand 170 (.ireturn) 1 171 ∧ kt_rt i_S_doCommand = (some .int) := ⟨⟨by decide +kernel, rfl⟩, rfl⟩
theorem x_S_doCommand_171 : kt_dc i_S_doCommand 171 (.aload_n 1) 1 172 := ⟨by decide +kernel, rfl⟩
theorem x_S_doCommand_172 : kt_dc i_S_doCommand 172 (.aload_n 0) 1 173 := ⟨by decide +kernel, rfl⟩
theorem x_S_doCommand_173 : kt_sG i_S_doCommand 173 3 2 2 176 := ⟨15, RX3, TX3, 6, ⟨by decide +kernel, rfl⟩, rfl, by decide, rfl, by decide, Or.inl (tw_31)⟩
theorem x_S_doCommand_176 : kt_dc i_S_doCommand 176 (.iconst 0) 1 177 ∧ Int32.ofInt (0) = nI 0 := ⟨⟨by decide +kernel, rfl⟩, by decide⟩
theorem x_S_doCommand_177 : kt_dc i_S_doCommand 177 (.iaload) 1 178 := ⟨by decide +kernel, rfl⟩
theorem x_S_doCommand_178 : kt_sV i_S_doCommand 178 i_C_setRule 0 1 181 := ⟨77, ⟨by decide +kernel, rfl⟩, Or.inr ⟨"KinderTowns", tw_520⟩, j_C_setRule, ⟨tw_355, tp_24⟩, ⟨TX0, 11, rfl⟩, by decide, rfl⟩
theorem c_S_doCommand_178 {P : kt_P} {NM : Nat} {L : List (Option Value)} {rest : List Value} {N : Nat} {I : kt_I} {J : kt_J} {R : kt_R} {Q : Option Value → kt_I → kt_J → kt_R → Prop} {b : Nat} {x0 : Int32} (hkd : kt_kd P N b = (0, 0)) (hrest : (rest.map fun v => v.category).sum ≤ 8) (kk : KW P i_C_setRule N 0 [some (.ref b), some (.int x0), none] [] N I J R (fun v I' J' R' => KW P i_S_doCommand NM 181 L (kt_pu v rest) N I' J' R' Q)) : KW P i_S_doCommand NM 178 L (.int x0 :: .ref b :: rest) N I J R Q := kw_callV x_S_doCommand_178 (As := [.int x0]) rfl rfl (Nat.le_of_ble_eq_true rfl) hrest hkd (Nat.le_refl N) (fun h => h) kk
theorem x_S_doCommand_181 : kt_dc i_S_doCommand 181 (.ireturn) 1 182 ∧ kt_rt i_S_doCommand = (some .int) := ⟨⟨by decide +kernel, rfl⟩, rfl⟩
theorem x_S_reasonOf_0 : kt_dc i_S_reasonOf 0 (.iload_n 0) 1 1 := ⟨by decide +kernel, rfl⟩
theorem x_S_reasonOf_1 : kt_dj i_S_reasonOf 1 (.ifCond .lt) 6 4 := ⟨5, by decide +kernel, by decide, rfl⟩
theorem x_S_reasonOf_4 : kt_dc i_S_reasonOf 4 (.iconst 0) 1 5 ∧ Int32.ofInt (0) = nI 0 := ⟨⟨by decide +kernel, rfl⟩, by decide⟩
theorem x_S_reasonOf_5 : kt_dc i_S_reasonOf 5 (.ireturn) 1 6 ∧ kt_rt i_S_reasonOf = (some .int) := ⟨⟨by decide +kernel, rfl⟩, rfl⟩
theorem x_S_reasonOf_6 : kt_dc i_S_reasonOf 6 (.iload_n 0) 1 7 := ⟨by decide +kernel, rfl⟩
theorem x_S_reasonOf_7 : kt_dc i_S_reasonOf 7 (.iconst (-1)) 1 8 ∧ Int32.ofInt (-1) = (-1 : Int32) := ⟨⟨by decide +kernel, rfl⟩, by decide⟩
theorem x_S_reasonOf_8 : kt_dj i_S_reasonOf 8 (.if_icmp .ne) 15 11 := ⟨7, by decide +kernel, by decide, rfl⟩
theorem x_S_reasonOf_11 : kt_dc i_S_reasonOf 11 (.iconst 2) 1 12 ∧ Int32.ofInt (2) = nI 2 := ⟨⟨by decide +kernel, rfl⟩, by decide⟩
theorem x_S_reasonOf_12 : kt_dj i_S_reasonOf 12 .goto 16 15 := ⟨4, by decide +kernel, by decide, rfl⟩
theorem x_S_reasonOf_15 : kt_dc i_S_reasonOf 15 (.iconst 3) 1 16 ∧ Int32.ofInt (3) = nI 3 := ⟨⟨by decide +kernel, rfl⟩, by decide⟩
theorem x_S_reasonOf_16 : kt_dc i_S_reasonOf 16 (.ireturn) 1 17 ∧ kt_rt i_S_reasonOf = (some .int) := ⟨⟨by decide +kernel, rfl⟩, rfl⟩
