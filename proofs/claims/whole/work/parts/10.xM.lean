theorem x_M_init_0 : kt_dc i_M_init 0 (.aload_n 0) 1 1 := ⟨by decide +kernel, rfl⟩
theorem x_M_init_1 : kt_dc i_M_init 1 (.invokespecial 1) 3 4 ∧ Cond.methodLink (kt_ow i_M_init) 1 Lib.objectInit ∈ kt_GW := ⟨⟨by decide +kernel, rfl⟩, tw_534⟩
theorem x_M_init_4 : kt_dc i_M_init 4 (.aload_n 0) 1 5 := ⟨by decide +kernel, rfl⟩
theorem x_M_init_5 : kt_dc i_M_init 5 (.sipush 548) 3 8 ∧ (Int16.ofInt (548)).toInt32 = nI 548 := ⟨⟨by decide +kernel, rfl⟩, by decide⟩
theorem x_M_init_8 : kt_dc i_M_init 8 (.newarray .int) 2 10 ∧ Cond.arrayClass .int ∈ kt_GW := ⟨⟨by decide +kernel, rfl⟩, tw_51⟩
theorem x_M_init_10 : kt_sP i_M_init 10 5 0 2 13 := ⟨7, RX5, TX5, 18, tyX5 0, ⟨by decide +kernel, rfl⟩, rfl, by decide, rfl, by decide, by decide +kernel, rfl, Or.inr ⟨rfl, rfl, rfl, tw_535⟩⟩
theorem x_M_init_13 : kt_dc i_M_init 13 (.aload_n 0) 1 14 := ⟨by decide +kernel, rfl⟩
theorem x_M_init_14 : kt_dc i_M_init 14 (.sipush 2192) 3 17 ∧ (Int16.ofInt (2192)).toInt32 = nI 2192 := ⟨⟨by decide +kernel, rfl⟩, by decide⟩
theorem x_M_init_17 : kt_dc i_M_init 17 (.newarray .int) 2 19 ∧ Cond.arrayClass .int ∈ kt_GW := ⟨⟨by decide +kernel, rfl⟩, tw_51⟩
theorem x_M_init_19 : kt_sP i_M_init 19 5 1 2 22 := ⟨13, RX5, TX5, 18, tyX5 1, ⟨by decide +kernel, rfl⟩, rfl, by decide, rfl, by decide, by decide +kernel, rfl, Or.inr ⟨rfl, rfl, rfl, tw_536⟩⟩
theorem x_M_init_22 : kt_dc i_M_init 22 (.aload_n 0) 1 23 := ⟨by decide +kernel, rfl⟩
theorem x_M_init_23 : kt_dc i_M_init 23 (.sipush 548) 3 26 ∧ (Int16.ofInt (548)).toInt32 = nI 548 := ⟨⟨by decide +kernel, rfl⟩, by decide⟩
theorem x_M_init_26 : kt_dc i_M_init 26 (.newarray .int) 2 28 ∧ Cond.arrayClass .int ∈ kt_GW := ⟨⟨by decide +kernel, rfl⟩, tw_51⟩
theorem x_M_init_28 : kt_sP i_M_init 28 5 2 2 31 := ⟨16, RX5, TX5, 18, tyX5 2, ⟨by decide +kernel, rfl⟩, rfl, by decide, rfl, by decide, by decide +kernel, rfl, Or.inr ⟨rfl, rfl, rfl, tw_537⟩⟩
theorem x_M_init_31 : kt_dc i_M_init 31 (.aload_n 0) 1 32 := ⟨by decide +kernel, rfl⟩
theorem x_M_init_32 : kt_dc i_M_init 32 (.sipush 548) 3 35 ∧ (Int16.ofInt (548)).toInt32 = nI 548 := ⟨⟨by decide +kernel, rfl⟩, by decide⟩
theorem x_M_init_35 : kt_dc i_M_init 35 (.newarray .int) 2 37 ∧ Cond.arrayClass .int ∈ kt_GW := ⟨⟨by decide +kernel, rfl⟩, tw_51⟩
theorem x_M_init_37 : kt_sP i_M_init 37 5 3 2 40 := ⟨19, RX5, TX5, 18, tyX5 3, ⟨by decide +kernel, rfl⟩, rfl, by decide, rfl, by decide, by decide +kernel, rfl, Or.inr ⟨rfl, rfl, rfl, tw_538⟩⟩
theorem x_M_init_40 : kt_dc i_M_init 40 (.aload_n 0) 1 41 := ⟨by decide +kernel, rfl⟩
theorem x_M_init_41 : kt_dc i_M_init 41 (.bipush 80) 2 43 ∧ (Int8.ofInt (80)).toInt32 = nI 80 := ⟨⟨by decide +kernel, rfl⟩, by decide⟩
theorem x_M_init_43 : kt_dc i_M_init 43 (.newarray .int) 2 45 ∧ Cond.arrayClass .int ∈ kt_GW := ⟨⟨by decide +kernel, rfl⟩, tw_51⟩
theorem x_M_init_45 : kt_sP i_M_init 45 5 6 2 48 := ⟨22, RX5, TX5, 18, tyX5 6, ⟨by decide +kernel, rfl⟩, rfl, by decide, rfl, by decide, by decide +kernel, rfl, Or.inr ⟨rfl, rfl, rfl, tw_541⟩⟩
theorem x_M_init_48 : kt_dc i_M_init 48 (.aload_n 0) 1 49 := ⟨by decide +kernel, rfl⟩
theorem x_M_init_49 : kt_dc i_M_init 49 (.bipush 60) 2 51 ∧ (Int8.ofInt (60)).toInt32 = nI 60 := ⟨⟨by decide +kernel, rfl⟩, by decide⟩
theorem x_M_init_51 : kt_dc i_M_init 51 (.newarray .int) 2 53 ∧ Cond.arrayClass .int ∈ kt_GW := ⟨⟨by decide +kernel, rfl⟩, tw_51⟩
theorem x_M_init_53 : kt_sP i_M_init 53 5 8 2 56 := ⟨25, RX5, TX5, 18, tyX5 8, ⟨by decide +kernel, rfl⟩, rfl, by decide, rfl, by decide, by decide +kernel, rfl, Or.inr ⟨rfl, rfl, rfl, tw_543⟩⟩
theorem x_M_init_56 : kt_dc i_M_init 56 (.aload_n 0) 1 57 := ⟨by decide +kernel, rfl⟩
theorem x_M_init_57 : kt_dc i_M_init 57 (.bipush 60) 2 59 ∧ (Int8.ofInt (60)).toInt32 = nI 60 := ⟨⟨by decide +kernel, rfl⟩, by decide⟩
theorem x_M_init_59 : kt_dc i_M_init 59 (.newarray .int) 2 61 ∧ Cond.arrayClass .int ∈ kt_GW := ⟨⟨by decide +kernel, rfl⟩, tw_51⟩
theorem x_M_init_61 : kt_sP i_M_init 61 5 9 2 64 := ⟨28, RX5, TX5, 18, tyX5 9, ⟨by decide +kernel, rfl⟩, rfl, by decide, rfl, by decide, by decide +kernel, rfl, Or.inr ⟨rfl, rfl, rfl, tw_544⟩⟩
theorem x_M_init_64 : kt_dc i_M_init 64 (.aload_n 0) 1 65 := ⟨by decide +kernel, rfl⟩
theorem x_M_init_65 : kt_dc i_M_init 65 (.bipush 10) 2 67 ∧ (Int8.ofInt (10)).toInt32 = nI 10 := ⟨⟨by decide +kernel, rfl⟩, by decide⟩
theorem x_M_init_67 : kt_dc i_M_init 67 (.newarray .int) 2 69 ∧ Cond.arrayClass .int ∈ kt_GW := ⟨⟨by decide +kernel, rfl⟩, tw_51⟩
theorem x_M_init_69 : kt_sP i_M_init 69 5 11 2 72 := ⟨31, RX5, TX5, 18, tyX5 11, ⟨by decide +kernel, rfl⟩, rfl, by decide, rfl, by decide, by decide +kernel, rfl, Or.inr ⟨rfl, rfl, rfl, tw_546⟩⟩
theorem x_M_init_72 : kt_dc i_M_init 72 (.aload_n 0) 1 73 := ⟨by decide +kernel, rfl⟩
theorem x_M_init_73 : kt_dc i_M_init 73 (.sipush 300) 3 76 ∧ (Int16.ofInt (300)).toInt32 = nI 300 := ⟨⟨by decide +kernel, rfl⟩, by decide⟩
theorem x_M_init_76 : kt_dc i_M_init 76 (.newarray .boolean) 2 78 ∧ Cond.arrayClass .boolean ∈ kt_GW := ⟨⟨by decide +kernel, rfl⟩, tw_590⟩
theorem x_M_init_78 : kt_sP i_M_init 78 5 12 2 81 := ⟨34, RX5, TX5, 18, tyX5 12, ⟨by decide +kernel, rfl⟩, rfl, by decide, rfl, by decide, by decide +kernel, rfl, Or.inr ⟨rfl, rfl, rfl, tw_547⟩⟩
theorem x_M_init_81 : kt_dc i_M_init 81 (.aload_n 0) 1 82 := ⟨by decide +kernel, rfl⟩
theorem x_M_init_82 : kt_dc i_M_init 82 (.bipush 120) 2 84 ∧ (Int8.ofInt (120)).toInt32 = nI 120 := ⟨⟨by decide +kernel, rfl⟩, by decide⟩
theorem x_M_init_84 : kt_dc i_M_init 84 (.newarray .int) 2 86 ∧ Cond.arrayClass .int ∈ kt_GW := ⟨⟨by decide +kernel, rfl⟩, tw_51⟩
theorem x_M_init_86 : kt_sP i_M_init 86 5 13 2 89 := ⟨38, RX5, TX5, 18, tyX5 13, ⟨by decide +kernel, rfl⟩, rfl, by decide, rfl, by decide, by decide +kernel, rfl, Or.inr ⟨rfl, rfl, rfl, tw_548⟩⟩
theorem x_M_init_89 : kt_dc i_M_init 89 (.aload_n 0) 1 90 := ⟨by decide +kernel, rfl⟩
theorem x_M_init_90 : kt_dc i_M_init 90 (.iconst 4) 1 91 ∧ Int32.ofInt (4) = nI 4 := ⟨⟨by decide +kernel, rfl⟩, by decide⟩
theorem x_M_init_91 : kt_dc i_M_init 91 (.newarray .int) 2 93 ∧ Cond.arrayClass .int ∈ kt_GW := ⟨⟨by decide +kernel, rfl⟩, tw_51⟩
theorem x_M_init_93 : kt_sP i_M_init 93 5 17 2 96 := ⟨41, RX5, TX5, 18, tyX5 17, ⟨by decide +kernel, rfl⟩, rfl, by decide, rfl, by decide, by decide +kernel, rfl, Or.inr ⟨rfl, rfl, rfl, tw_552⟩⟩
theorem x_M_init_96 : kt_dc i_M_init 96 (.aload_n 0) 1 97 := ⟨by decide +kernel, rfl⟩
theorem x_M_init_97 : kt_sG i_M_init 97 5 0 2 100 := ⟨7, RX5, TX5, 18, ⟨by decide +kernel, rfl⟩, rfl, by decide, rfl, by decide, Or.inl (tw_535)⟩
theorem x_M_init_100 : kt_dc i_M_init 100 (.iconst 0) 1 101 ∧ Int32.ofInt (0) = nI 0 := ⟨⟨by decide +kernel, rfl⟩, by decide⟩
theorem x_M_init_101 : kt_dc i_M_init 101 (.iconst 0) 1 102 ∧ Int32.ofInt (0) = nI 0 := ⟨⟨by decide +kernel, rfl⟩, by decide⟩
theorem x_M_init_102 : kt_dc i_M_init 102 (.iastore) 1 103 := ⟨by decide +kernel, rfl⟩
theorem x_M_init_103 : kt_dc i_M_init 103 (.return_) 1 104 ∧ kt_rt i_M_init = none := ⟨⟨by decide +kernel, rfl⟩, rfl⟩
theorem x_M_town_0 : kt_dc i_M_town 0 (.aload_n 0) 1 1 := ⟨by decide +kernel, rfl⟩
theorem x_M_town_1 : kt_sG i_M_town 1 5 0 2 4 := ⟨7, RX5, TX5, 18, ⟨by decide +kernel, rfl⟩, rfl, by decide, rfl, by decide, Or.inl (tw_535)⟩
theorem x_M_town_4 : kt_dc i_M_town 4 (.iconst 1) 1 5 ∧ Int32.ofInt (1) = nI 1 := ⟨⟨by decide +kernel, rfl⟩, by decide⟩
theorem x_M_town_5 : kt_dc i_M_town 5 (.iaload) 1 6 := ⟨by decide +kernel, rfl⟩
theorem x_M_town_6 : kt_dc i_M_town 6 (.iconst 5) 1 7 ∧ Int32.ofInt (5) = nI 5 := ⟨⟨by decide +kernel, rfl⟩, by decide⟩
theorem x_M_town_7 : kt_dj i_M_town 7 (.if_icmp .ne) 13 10 := ⟨6, by decide +kernel, by decide, rfl⟩
theorem x_M_town_10 : kt_dc i_M_town 10 (.bipush (-3)) 2 12 ∧ (Int8.ofInt (-3)).toInt32 = (-3 : Int32) := ⟨⟨by decide +kernel, rfl⟩, by decide⟩
theorem x_M_town_12 : kt_dc i_M_town 12 (.ireturn) 1 13 ∧ kt_rt i_M_town = (some .int) := ⟨⟨by decide +kernel, rfl⟩, rfl⟩
theorem x_M_town_13 : kt_dc i_M_town 13 (.aload_n 0) 1 14 := ⟨by decide +kernel, rfl⟩
theorem x_M_town_14 : kt_sV i_M_town 14 i_M_changes 5 0 17 := ⟨96, ⟨by decide +kernel, rfl⟩, Or.inl (tw_595), j_M_changes, ⟨tw_597, tp_45⟩, ⟨TX5, 18, rfl⟩, by decide, rfl⟩
theorem c_M_town_14 {P : kt_P} {NM : Nat} {L : List (Option Value)} {rest : List Value} {N : Nat} {I : kt_I} {J : kt_J} {R : kt_R} {Q : Option Value → kt_I → kt_J → kt_R → Prop} {b : Nat} (hkd : kt_kd P N b = (5, 0)) (hrest : (rest.map fun v => v.category).sum ≤ 8) (kk : KW P i_M_changes N 0 [some (.ref b)] [] N I J R (fun v I' J' R' => KW P i_M_town NM 17 L (kt_pu v rest) N I' J' R' Q)) : KW P i_M_town NM 14 L (.ref b :: rest) N I J R Q := kw_callV x_M_town_14 (As := []) rfl rfl (Nat.le_of_ble_eq_true rfl) hrest hkd (Nat.le_refl N) (fun h => h) kk
theorem x_M_town_17 : kt_dc i_M_town 17 (.aload_n 0) 1 18 := ⟨by decide +kernel, rfl⟩
theorem x_M_town_18 : kt_sG i_M_town 18 5 0 2 21 := ⟨7, RX5, TX5, 18, ⟨by decide +kernel, rfl⟩, rfl, by decide, rfl, by decide, Or.inl (tw_535)⟩
theorem x_M_town_21 : kt_dc i_M_town 21 (.iconst 1) 1 22 ∧ Int32.ofInt (1) = nI 1 := ⟨⟨by decide +kernel, rfl⟩, by decide⟩
theorem x_M_town_22 : kt_dc i_M_town 22 (.iaload) 1 23 := ⟨by decide +kernel, rfl⟩
theorem x_M_town_23 : kt_dc i_M_town 23 (.istore_n 1) 1 24 := ⟨by decide +kernel, rfl⟩
theorem x_M_town_24 : kt_dc i_M_town 24 (.aload_n 0) 1 25 := ⟨by decide +kernel, rfl⟩
theorem x_M_town_25 : kt_sG i_M_town 25 5 0 2 28 := ⟨7, RX5, TX5, 18, ⟨by decide +kernel, rfl⟩, rfl, by decide, rfl, by decide, Or.inl (tw_535)⟩
theorem x_M_town_28 : kt_dc i_M_town 28 (.iconst 3) 1 29 ∧ Int32.ofInt (3) = nI 3 := ⟨⟨by decide +kernel, rfl⟩, by decide⟩
theorem x_M_town_29 : kt_dc i_M_town 29 (.iload_n 1) 1 30 := ⟨by decide +kernel, rfl⟩
theorem x_M_town_30 : kt_dc i_M_town 30 (.iadd) 1 31 := ⟨by decide +kernel, rfl⟩
theorem x_M_town_31 : kt_dc i_M_town 31 (.iconst 0) 1 32 ∧ Int32.ofInt (0) = nI 0 := ⟨⟨by decide +kernel, rfl⟩, by decide⟩
theorem x_M_town_32 : kt_dc i_M_town 32 (.iastore) 1 33 := ⟨by decide +kernel, rfl⟩
theorem x_M_town_33 : kt_dc i_M_town 33 (.aload_n 0) 1 34 := ⟨by decide +kernel, rfl⟩
theorem x_M_town_34 : kt_sG i_M_town 34 5 0 2 37 := ⟨7, RX5, TX5, 18, ⟨by decide +kernel, rfl⟩, rfl, by decide, rfl, by decide, Or.inl (tw_535)⟩
theorem x_M_town_37 : kt_dc i_M_town 37 (.iconst 1) 1 38 ∧ Int32.ofInt (1) = nI 1 := ⟨⟨by decide +kernel, rfl⟩, by decide⟩
theorem x_M_town_38 : kt_dc i_M_town 38 (.dup2) 1 39 := ⟨by decide +kernel, rfl⟩
theorem x_M_town_39 : kt_dc i_M_town 39 (.iaload) 1 40 := ⟨by decide +kernel, rfl⟩
theorem x_M_town_40 : kt_dc i_M_town 40 (.iconst 1) 1 41 ∧ Int32.ofInt (1) = nI 1 := ⟨⟨by decide +kernel, rfl⟩, by decide⟩
theorem x_M_town_41 : kt_dc i_M_town 41 (.iadd) 1 42 := ⟨by decide +kernel, rfl⟩
theorem x_M_town_42 : kt_dc i_M_town 42 (.iastore) 1 43 := ⟨by decide +kernel, rfl⟩
theorem x_M_town_43 : kt_dc i_M_town 43 (.iload_n 1) 1 44 := ⟨by decide +kernel, rfl⟩
theorem x_M_town_44 : kt_dc i_M_town 44 (.ireturn) 1 45 ∧ kt_rt i_M_town = (some .int) := ⟨⟨by decide +kernel, rfl⟩, rfl⟩
theorem x_M_changes_0 : kt_dc i_M_changes 0 (.aload_n 0) 1 1 := ⟨by decide +kernel, rfl⟩
theorem x_M_changes_1 : kt_sG i_M_changes 1 5 5 3 4 := ⟨86, RX5, TX5, 18, ⟨by decide +kernel, rfl⟩, rfl, by decide, rfl, by decide, Or.inl (tw_540)⟩
theorem x_M_changes_4 : kt_dj i_M_changes 4 (.ifCond .ne) 11 7 := ⟨7, by decide +kernel, by decide, rfl⟩
theorem x_M_changes_7 : kt_dc i_M_changes 7 (.aload_n 0) 1 8 := ⟨by decide +kernel, rfl⟩
theorem x_M_changes_8 : kt_sV i_M_changes 8 i_M_records 5 0 11 := ⟨90, ⟨by decide +kernel, rfl⟩, Or.inl (tw_599), j_M_records, ⟨tw_601, tp_46⟩, ⟨TX5, 18, rfl⟩, by decide, rfl⟩
theorem c_M_changes_8 {P : kt_P} {NM : Nat} {L : List (Option Value)} {rest : List Value} {N : Nat} {I : kt_I} {J : kt_J} {R : kt_R} {Q : Option Value → kt_I → kt_J → kt_R → Prop} {b : Nat} (hkd : kt_kd P N b = (5, 0)) (hrest : (rest.map fun v => v.category).sum ≤ 8) (kk : KW P i_M_records N 0 [some (.ref b), none] [] N I J R (fun v I' J' R' => KW P i_M_changes NM 11 L (kt_pu v rest) N I' J' R' Q)) : KW P i_M_changes NM 8 L (.ref b :: rest) N I J R Q := kw_callV x_M_changes_8 (As := []) rfl rfl (Nat.le_of_ble_eq_true rfl) hrest hkd (Nat.le_refl N) (fun h => h) kk
theorem x_M_changes_11 : kt_dc i_M_changes 11 (.aload_n 0) 1 12 := ⟨by decide +kernel, rfl⟩
theorem x_M_changes_12 : kt_sV i_M_changes 12 i_M_remembers 5 0 15 := ⟨93, ⟨by decide +kernel, rfl⟩, Or.inl (tw_603), j_M_remembers, ⟨tw_605, tp_47⟩, ⟨TX5, 18, rfl⟩, by decide, rfl⟩
theorem c_M_changes_12 {P : kt_P} {NM : Nat} {L : List (Option Value)} {rest : List Value} {N : Nat} {I : kt_I} {J : kt_J} {R : kt_R} {Q : Option Value → kt_I → kt_J → kt_R → Prop} {b : Nat} (hkd : kt_kd P N b = (5, 0)) (hrest : (rest.map fun v => v.category).sum ≤ 8) (kk : KW P i_M_remembers N 0 [some (.ref b), none, none] [] N I J R (fun v I' J' R' => KW P i_M_changes NM 15 L (kt_pu v rest) N I' J' R' Q)) : KW P i_M_changes NM 12 L (.ref b :: rest) N I J R Q := kw_callV x_M_changes_12 (As := []) rfl rfl (Nat.le_of_ble_eq_true rfl) hrest hkd (Nat.le_refl N) (fun h => h) kk
theorem x_M_changes_15 : kt_dc i_M_changes 15 (.return_) 1 16 ∧ kt_rt i_M_changes = none := ⟨⟨by decide +kernel, rfl⟩, rfl⟩
theorem x_M_records_0 : kt_dc i_M_records 0 (.aload_n 0) 1 1 := ⟨by decide +kernel, rfl⟩
theorem x_M_records_1 : kt_sG i_M_records 1 5 4 0 4 := ⟨83, RX5, TX5, 18, ⟨by decide +kernel, rfl⟩, rfl, by decide, rfl, by decide, Or.inl (tw_539)⟩
theorem x_M_records_4 : kt_dc i_M_records 4 (.iconst 4) 1 5 ∧ Int32.ofInt (4) = nI 4 := ⟨⟨by decide +kernel, rfl⟩, by decide⟩
theorem x_M_records_5 : kt_dj i_M_records 5 (.if_icmp .ne) 49 8 := ⟨44, by decide +kernel, by decide, rfl⟩
theorem x_M_records_8 : kt_dc i_M_records 8 (.iconst 0) 1 9 ∧ Int32.ofInt (0) = nI 0 := ⟨⟨by decide +kernel, rfl⟩, by decide⟩
theorem x_M_records_9 : kt_dc i_M_records 9 (.istore_n 1) 1 10 := ⟨by decide +kernel, rfl⟩
theorem x_M_records_10 : kt_dc i_M_records 10 (.iload_n 1) 1 11 := ⟨by decide +kernel, rfl⟩
theorem x_M_records_11 : kt_dc i_M_records 11 (.sipush 1644) 3 14 ∧ (Int16.ofInt (1644)).toInt32 = nI 1644 := ⟨⟨by decide +kernel, rfl⟩, by decide⟩
theorem x_M_records_14 : kt_dj i_M_records 14 (.if_icmp .ge) 39 17 := ⟨25, by decide +kernel, by decide, rfl⟩
theorem x_M_records_17 : kt_dc i_M_records 17 (.aload_n 0) 1 18 := ⟨by decide +kernel, rfl⟩
theorem x_M_records_18 : kt_sG i_M_records 18 5 1 2 21 := ⟨13, RX5, TX5, 18, ⟨by decide +kernel, rfl⟩, rfl, by decide, rfl, by decide, Or.inl (tw_536)⟩
theorem x_M_records_21 : kt_dc i_M_records 21 (.iload_n 1) 1 22 := ⟨by decide +kernel, rfl⟩
theorem x_M_records_22 : kt_dc i_M_records 22 (.aload_n 0) 1 23 := ⟨by decide +kernel, rfl⟩
theorem x_M_records_23 : kt_sG i_M_records 23 5 1 2 26 := ⟨13, RX5, TX5, 18, ⟨by decide +kernel, rfl⟩, rfl, by decide, rfl, by decide, Or.inl (tw_536)⟩
theorem x_M_records_26 : kt_dc i_M_records 26 (.iload_n 1) 1 27 := ⟨by decide +kernel, rfl⟩
theorem x_M_records_27 : kt_dc i_M_records 27 (.sipush 548) 3 30 ∧ (Int16.ofInt (548)).toInt32 = nI 548 := ⟨⟨by decide +kernel, rfl⟩, by decide⟩
theorem x_M_records_30 : kt_dc i_M_records 30 (.iadd) 1 31 := ⟨by decide +kernel, rfl⟩
theorem x_M_records_31 : kt_dc i_M_records 31 (.iaload) 1 32 := ⟨by decide +kernel, rfl⟩
theorem x_M_records_32 : kt_dc i_M_records 32 (.iastore) 1 33 := ⟨by decide +kernel, rfl⟩
theorem x_M_records_33 : kt_dc i_M_records 33 (.iinc 1 1) 3 36 ∧ Int32.ofInt (1) = nI 1 := ⟨⟨by decide +kernel, rfl⟩, by decide⟩
theorem x_M_records_36 : kt_dj i_M_records 36 .goto 10 39 := ⟨-26, by decide +kernel, by decide, rfl⟩
theorem x_M_records_39 : kt_dc i_M_records 39 (.aload_n 0) 1 40 := ⟨by decide +kernel, rfl⟩
theorem x_M_records_40 : kt_dc i_M_records 40 (.dup) 1 41 := ⟨by decide +kernel, rfl⟩
theorem x_M_records_41 : kt_sG i_M_records 41 5 4 0 44 := ⟨83, RX5, TX5, 18, ⟨by decide +kernel, rfl⟩, rfl, by decide, rfl, by decide, Or.inl (tw_539)⟩
theorem x_M_records_44 : kt_dc i_M_records 44 (.iconst 1) 1 45 ∧ Int32.ofInt (1) = nI 1 := ⟨⟨by decide +kernel, rfl⟩, by decide⟩
theorem x_M_records_45 : kt_dc i_M_records 45 (.isub) 1 46 := ⟨by decide +kernel, rfl⟩
theorem x_M_records_46 : kt_sP i_M_records 46 5 4 0 49 := ⟨83, RX5, TX5, 18, tyX5 4, ⟨by decide +kernel, rfl⟩, rfl, by decide, rfl, by decide, by decide +kernel, rfl, Or.inl ⟨rfl, Or.inl (tw_539)⟩⟩
theorem x_M_records_49 : kt_dc i_M_records 49 (.iconst 0) 1 50 ∧ Int32.ofInt (0) = nI 0 := ⟨⟨by decide +kernel, rfl⟩, by decide⟩
theorem x_M_records_50 : kt_dc i_M_records 50 (.istore_n 1) 1 51 := ⟨by decide +kernel, rfl⟩
theorem x_M_records_51 : kt_dc i_M_records 51 (.iload_n 1) 1 52 := ⟨by decide +kernel, rfl⟩
theorem x_M_records_52 : kt_dc i_M_records 52 (.sipush 548) 3 55 ∧ (Int16.ofInt (548)).toInt32 = nI 548 := ⟨⟨by decide +kernel, rfl⟩, by decide⟩
theorem x_M_records_55 : kt_dj i_M_records 55 (.if_icmp .ge) 85 58 := ⟨30, by decide +kernel, by decide, rfl⟩
theorem x_M_records_58 : kt_dc i_M_records 58 (.aload_n 0) 1 59 := ⟨by decide +kernel, rfl⟩
theorem x_M_records_59 : kt_sG i_M_records 59 5 1 2 62 := ⟨13, RX5, TX5, 18, ⟨by decide +kernel, rfl⟩, rfl, by decide, rfl, by decide, Or.inl (tw_536)⟩
theorem x_M_records_62 : kt_dc i_M_records 62 (.sipush 548) 3 65 ∧ (Int16.ofInt (548)).toInt32 = nI 548 := ⟨⟨by decide +kernel, rfl⟩, by decide⟩
theorem x_M_records_65 : kt_dc i_M_records 65 (.aload_n 0) 1 66 := ⟨by decide +kernel, rfl⟩
theorem x_M_records_66 : kt_sG i_M_records 66 5 4 0 69 := ⟨83, RX5, TX5, 18, ⟨by decide +kernel, rfl⟩, rfl, by decide, rfl, by decide, Or.inl (tw_539)⟩
theorem x_M_records_69 : kt_dc i_M_records 69 (.imul) 1 70 := ⟨by decide +kernel, rfl⟩
theorem x_M_records_70 : kt_dc i_M_records 70 (.iload_n 1) 1 71 := ⟨by decide +kernel, rfl⟩
theorem x_M_records_71 : kt_dc i_M_records 71 (.iadd) 1 72 := ⟨by decide +kernel, rfl⟩
theorem x_M_records_72 : kt_dc i_M_records 72 (.aload_n 0) 1 73 := ⟨by decide +kernel, rfl⟩
theorem x_M_records_73 : kt_sG i_M_records 73 5 0 2 76 := ⟨7, RX5, TX5, 18, ⟨by decide +kernel, rfl⟩, rfl, by decide, rfl, by decide, Or.inl (tw_535)⟩
theorem x_M_records_76 : kt_dc i_M_records 76 (.iload_n 1) 1 77 := ⟨by decide +kernel, rfl⟩
theorem x_M_records_77 : kt_dc i_M_records 77 (.iaload) 1 78 := ⟨by decide +kernel, rfl⟩
theorem x_M_records_78 : kt_dc i_M_records 78 (.iastore) 1 79 := ⟨by decide +kernel, rfl⟩
theorem x_M_records_79 : kt_dc i_M_records 79 (.iinc 1 1) 3 82 ∧ Int32.ofInt (1) = nI 1 := ⟨⟨by decide +kernel, rfl⟩, by decide⟩
theorem x_M_records_82 : kt_dj i_M_records 82 .goto 51 85 := ⟨-31, by decide +kernel, by decide, rfl⟩
theorem x_M_records_85 : kt_dc i_M_records 85 (.aload_n 0) 1 86 := ⟨by decide +kernel, rfl⟩
theorem x_M_records_86 : kt_dc i_M_records 86 (.dup) 1 87 := ⟨by decide +kernel, rfl⟩
theorem x_M_records_87 : kt_sG i_M_records 87 5 4 0 90 := ⟨83, RX5, TX5, 18, ⟨by decide +kernel, rfl⟩, rfl, by decide, rfl, by decide, Or.inl (tw_539)⟩
theorem x_M_records_90 : kt_dc i_M_records 90 (.iconst 1) 1 91 ∧ Int32.ofInt (1) = nI 1 := ⟨⟨by decide +kernel, rfl⟩, by decide⟩
theorem x_M_records_91 : kt_dc i_M_records 91 (.iadd) 1 92 := ⟨by decide +kernel, rfl⟩
theorem x_M_records_92 : kt_sP i_M_records 92 5 4 0 95 := ⟨83, RX5, TX5, 18, tyX5 4, ⟨by decide +kernel, rfl⟩, rfl, by decide, rfl, by decide, by decide +kernel, rfl, Or.inl ⟨rfl, Or.inl (tw_539)⟩⟩
theorem x_M_records_95 : kt_dc i_M_records 95 (.return_) 1 96 ∧ kt_rt i_M_records = none := ⟨⟨by decide +kernel, rfl⟩, rfl⟩
theorem x_M_remembers_0 : kt_dc i_M_remembers 0 (.iconst 0) 1 1 ∧ Int32.ofInt (0) = nI 0 := ⟨⟨by decide +kernel, rfl⟩, by decide⟩
theorem x_M_remembers_1 : kt_dc i_M_remembers 1 (.istore_n 1) 1 2 := ⟨by decide +kernel, rfl⟩
theorem x_M_remembers_2 : kt_dc i_M_remembers 2 (.iload_n 1) 1 3 := ⟨by decide +kernel, rfl⟩
theorem x_M_remembers_3 : kt_dc i_M_remembers 3 (.aload_n 0) 1 4 := ⟨by decide +kernel, rfl⟩
theorem x_M_remembers_4 : kt_sG i_M_remembers 4 5 0 2 7 := ⟨7, RX5, TX5, 18, ⟨by decide +kernel, rfl⟩, rfl, by decide, rfl, by decide, Or.inl (tw_535)⟩
theorem x_M_remembers_7 : kt_dc i_M_remembers 7 (.iconst 1) 1 8 ∧ Int32.ofInt (1) = nI 1 := ⟨⟨by decide +kernel, rfl⟩, by decide⟩
theorem x_M_remembers_8 : kt_dc i_M_remembers 8 (.iaload) 1 9 := ⟨by decide +kernel, rfl⟩
theorem x_M_remembers_9 : kt_dj i_M_remembers 9 (.if_icmp .ge) 97 12 := ⟨88, by decide +kernel, by decide, rfl⟩
theorem x_M_remembers_12 : kt_dc i_M_remembers 12 (.aload_n 0) 1 13 := ⟨by decide +kernel, rfl⟩
theorem x_M_remembers_13 : kt_dc i_M_remembers 13 (.iload_n 1) 1 14 := ⟨by decide +kernel, rfl⟩
theorem x_M_remembers_14 : kt_sV i_M_remembers 14 i_M_thinksAll 5 1 17 := ⟨76, ⟨by decide +kernel, rfl⟩, Or.inl (tw_607), j_M_thinksAll, ⟨tw_609, tp_48⟩, ⟨TX5, 18, rfl⟩, by decide, rfl⟩
theorem c_M_remembers_14 {P : kt_P} {NM : Nat} {L : List (Option Value)} {rest : List Value} {N : Nat} {I : kt_I} {J : kt_J} {R : kt_R} {Q : Option Value → kt_I → kt_J → kt_R → Prop} {b : Nat} {x0 : Int32} (hkd : kt_kd P N b = (5, 0)) (hrest : (rest.map fun v => v.category).sum ≤ 8) (kk : KW P i_M_thinksAll N 0 [some (.ref b), some (.int x0), none] [] N I J R (fun v I' J' R' => KW P i_M_remembers NM 17 L (kt_pu v rest) N I' J' R' Q)) : KW P i_M_remembers NM 14 L (.int x0 :: .ref b :: rest) N I J R Q := kw_callV x_M_remembers_14 (As := [.int x0]) rfl rfl (Nat.le_of_ble_eq_true rfl) hrest hkd (Nat.le_refl N) (fun h => h) kk
theorem x_M_remembers_17 : kt_dc i_M_remembers 17 (.iconst 0) 1 18 ∧ Int32.ofInt (0) = nI 0 := ⟨⟨by decide +kernel, rfl⟩, by decide⟩
theorem x_M_remembers_18 : kt_dc i_M_remembers 18 (.istore_n 2) 1 19 := ⟨by decide +kernel, rfl⟩
theorem x_M_remembers_19 : kt_dc i_M_remembers 19 (.iload_n 2) 1 20 := ⟨by decide +kernel, rfl⟩
theorem x_M_remembers_20 : kt_dc i_M_remembers 20 (.aload_n 0) 1 21 := ⟨by decide +kernel, rfl⟩
theorem x_M_remembers_21 : kt_sG i_M_remembers 21 5 0 2 24 := ⟨7, RX5, TX5, 18, ⟨by decide +kernel, rfl⟩, rfl, by decide, rfl, by decide, Or.inl (tw_535)⟩
theorem x_M_remembers_24 : kt_dc i_M_remembers 24 (.iconst 2) 1 25 ∧ Int32.ofInt (2) = nI 2 := ⟨⟨by decide +kernel, rfl⟩, by decide⟩
theorem x_M_remembers_25 : kt_dc i_M_remembers 25 (.iaload) 1 26 := ⟨by decide +kernel, rfl⟩
theorem x_M_remembers_26 : kt_dj i_M_remembers 26 (.if_icmp .ge) 60 29 := ⟨34, by decide +kernel, by decide, rfl⟩
theorem x_M_remembers_29 : kt_dc i_M_remembers 29 (.aload_n 0) 1 30 := ⟨by decide +kernel, rfl⟩
theorem x_M_remembers_30 : kt_sG i_M_remembers 30 5 12 2 33 := ⟨34, RX5, TX5, 18, ⟨by decide +kernel, rfl⟩, rfl, by decide, rfl, by decide, Or.inl (tw_547)⟩
theorem x_M_remembers_33 : kt_dc i_M_remembers 33 (.bipush 60) 2 35 ∧ (Int8.ofInt (60)).toInt32 = nI 60 := ⟨⟨by decide +kernel, rfl⟩, by decide⟩
theorem x_M_remembers_35 : kt_dc i_M_remembers 35 (.iload_n 1) 1 36 := ⟨by decide +kernel, rfl⟩
theorem x_M_remembers_36 : kt_dc i_M_remembers 36 (.imul) 1 37 := ⟨by decide +kernel, rfl⟩
theorem x_M_remembers_37 : kt_dc i_M_remembers 37 (.iload_n 2) 1 38 := ⟨by decide +kernel, rfl⟩
theorem x_M_remembers_38 : kt_dc i_M_remembers 38 (.iadd) 1 39 := ⟨by decide +kernel, rfl⟩
theorem x_M_remembers_39 : kt_dc i_M_remembers 39 (.aload_n 0) 1 40 := ⟨by decide +kernel, rfl⟩
theorem x_M_remembers_40 : kt_sG i_M_remembers 40 5 8 2 43 := ⟨25, RX5, TX5, 18, ⟨by decide +kernel, rfl⟩, rfl, by decide, rfl, by decide, Or.inl (tw_543)⟩
theorem x_M_remembers_43 : kt_dc i_M_remembers 43 (.iload_n 2) 1 44 := ⟨by decide +kernel, rfl⟩
theorem x_M_remembers_44 : kt_dc i_M_remembers 44 (.iaload) 1 45 := ⟨by decide +kernel, rfl⟩
theorem x_M_remembers_45 : kt_dj i_M_remembers 45 (.ifCond .ne) 52 48 := ⟨7, by decide +kernel, by decide, rfl⟩
theorem x_M_remembers_48 : kt_dc i_M_remembers 48 (.iconst 1) 1 49 ∧ Int32.ofInt (1) = nI 1 := ⟨⟨by decide +kernel, rfl⟩, by decide⟩
theorem x_M_remembers_49 : kt_dj i_M_remembers 49 .goto 53 52 := ⟨4, by decide +kernel, by decide, rfl⟩
theorem x_M_remembers_52 : kt_dc i_M_remembers 52 (.iconst 0) 1 53 ∧ Int32.ofInt (0) = nI 0 := ⟨⟨by decide +kernel, rfl⟩, by decide⟩
theorem x_M_remembers_53 : kt_dc i_M_remembers 53 (.bastore) 1 54 := ⟨by decide +kernel, rfl⟩
theorem x_M_remembers_54 : kt_dc i_M_remembers 54 (.iinc 2 1) 3 57 ∧ Int32.ofInt (1) = nI 1 := ⟨⟨by decide +kernel, rfl⟩, by decide⟩
theorem x_M_remembers_57 : kt_dj i_M_remembers 57 .goto 19 60 := ⟨-38, by decide +kernel, by decide, rfl⟩
theorem x_M_remembers_60 : kt_dc i_M_remembers 60 (.aload_n 0) 1 61 := ⟨by decide +kernel, rfl⟩
theorem x_M_remembers_61 : kt_sG i_M_remembers 61 5 0 2 64 := ⟨7, RX5, TX5, 18, ⟨by decide +kernel, rfl⟩, rfl, by decide, rfl, by decide, Or.inl (tw_535)⟩
theorem x_M_remembers_64 : kt_dc i_M_remembers 64 (.iconst 2) 1 65 ∧ Int32.ofInt (2) = nI 2 := ⟨⟨by decide +kernel, rfl⟩, by decide⟩
theorem x_M_remembers_65 : kt_dc i_M_remembers 65 (.iaload) 1 66 := ⟨by decide +kernel, rfl⟩
theorem x_M_remembers_66 : kt_dc i_M_remembers 66 (.istore_n 2) 1 67 := ⟨by decide +kernel, rfl⟩
theorem x_M_remembers_67 : kt_dc i_M_remembers 67 (.iload_n 2) 1 68 := ⟨by decide +kernel, rfl⟩
theorem x_M_remembers_68 : kt_dc i_M_remembers 68 (.bipush 60) 2 70 ∧ (Int8.ofInt (60)).toInt32 = nI 60 := ⟨⟨by decide +kernel, rfl⟩, by decide⟩
theorem x_M_remembers_70 : kt_dj i_M_remembers 70 (.if_icmp .ge) 91 73 := ⟨21, by decide +kernel, by decide, rfl⟩
theorem x_M_remembers_73 : kt_dc i_M_remembers 73 (.aload_n 0) 1 74 := ⟨by decide +kernel, rfl⟩
theorem x_M_remembers_74 : kt_sG i_M_remembers 74 5 12 2 77 := ⟨34, RX5, TX5, 18, ⟨by decide +kernel, rfl⟩, rfl, by decide, rfl, by decide, Or.inl (tw_547)⟩
theorem x_M_remembers_77 : kt_dc i_M_remembers 77 (.bipush 60) 2 79 ∧ (Int8.ofInt (60)).toInt32 = nI 60 := ⟨⟨by decide +kernel, rfl⟩, by decide⟩
theorem x_M_remembers_79 : kt_dc i_M_remembers 79 (.iload_n 1) 1 80 := ⟨by decide +kernel, rfl⟩
theorem x_M_remembers_80 : kt_dc i_M_remembers 80 (.imul) 1 81 := ⟨by decide +kernel, rfl⟩
theorem x_M_remembers_81 : kt_dc i_M_remembers 81 (.iload_n 2) 1 82 := ⟨by decide +kernel, rfl⟩
theorem x_M_remembers_82 : kt_dc i_M_remembers 82 (.iadd) 1 83 := ⟨by decide +kernel, rfl⟩
theorem x_M_remembers_83 : kt_dc i_M_remembers 83 (.iconst 0) 1 84 ∧ Int32.ofInt (0) = nI 0 := ⟨⟨by decide +kernel, rfl⟩, by decide⟩
theorem x_M_remembers_84 : kt_dc i_M_remembers 84 (.bastore) 1 85 := ⟨by decide +kernel, rfl⟩
theorem x_M_remembers_85 : kt_dc i_M_remembers 85 (.iinc 2 1) 3 88 ∧ Int32.ofInt (1) = nI 1 := ⟨⟨by decide +kernel, rfl⟩, by decide⟩
theorem x_M_remembers_88 : kt_dj i_M_remembers 88 .goto 67 91 := ⟨-21, by decide +kernel, by decide, rfl⟩
theorem x_M_remembers_91 : kt_dc i_M_remembers 91 (.iinc 1 1) 3 94 ∧ Int32.ofInt (1) = nI 1 := ⟨⟨by decide +kernel, rfl⟩, by decide⟩
theorem x_M_remembers_94 : kt_dj i_M_remembers 94 .goto 2 97 := ⟨-92, by decide +kernel, by decide, rfl⟩
theorem x_M_remembers_97 : kt_dc i_M_remembers 97 (.return_) 1 98 ∧ kt_rt i_M_remembers = none := ⟨⟨by decide +kernel, rfl⟩, rfl⟩
theorem x_M_thinksAll_0 : kt_dc i_M_thinksAll 0 (.aload_n 0) 1 1 := ⟨by decide +kernel, rfl⟩
theorem x_M_thinksAll_1 : kt_dc i_M_thinksAll 1 (.iload_n 1) 1 2 := ⟨by decide +kernel, rfl⟩
theorem x_M_thinksAll_2 : kt_sV i_M_thinksAll 2 i_M_thinksOf 5 1 5 := ⟨68, ⟨by decide +kernel, rfl⟩, Or.inl (tw_611), j_M_thinksOf, ⟨tw_613, tp_49⟩, ⟨TX5, 18, rfl⟩, by decide, rfl⟩
theorem c_M_thinksAll_2 {P : kt_P} {NM : Nat} {L : List (Option Value)} {rest : List Value} {N : Nat} {I : kt_I} {J : kt_J} {R : kt_R} {Q : Option Value → kt_I → kt_J → kt_R → Prop} {b : Nat} {x0 : Int32} (hkd : kt_kd P N b = (5, 0)) (hrest : (rest.map fun v => v.category).sum ≤ 8) (kk : KW P i_M_thinksOf N 0 [some (.ref b), some (.int x0), none, none] [] N I J R (fun v I' J' R' => KW P i_M_thinksAll NM 5 L (kt_pu v rest) N I' J' R' Q)) : KW P i_M_thinksAll NM 2 L (.int x0 :: .ref b :: rest) N I J R Q := kw_callV x_M_thinksAll_2 (As := [.int x0]) rfl rfl (Nat.le_of_ble_eq_true rfl) hrest hkd (Nat.le_refl N) (fun h => h) kk
theorem x_M_thinksAll_5 : kt_dc i_M_thinksAll 5 (.iconst 0) 1 6 ∧ Int32.ofInt (0) = nI 0 := ⟨⟨by decide +kernel, rfl⟩, by decide⟩
theorem x_M_thinksAll_6 : kt_dc i_M_thinksAll 6 (.istore_n 2) 1 7 := ⟨by decide +kernel, rfl⟩
theorem x_M_thinksAll_7 : kt_dc i_M_thinksAll 7 (.iload_n 2) 1 8 := ⟨by decide +kernel, rfl⟩
theorem x_M_thinksAll_8 : kt_dc i_M_thinksAll 8 (.bipush 6) 2 10 ∧ (Int8.ofInt (6)).toInt32 = nI 6 := ⟨⟨by decide +kernel, rfl⟩, by decide⟩
theorem x_M_thinksAll_10 : kt_dj i_M_thinksAll 10 (.if_icmp .ge) 25 13 := ⟨15, by decide +kernel, by decide, rfl⟩
theorem x_M_thinksAll_13 : kt_dc i_M_thinksAll 13 (.aload_n 0) 1 14 := ⟨by decide +kernel, rfl⟩
theorem x_M_thinksAll_14 : kt_dc i_M_thinksAll 14 (.iload_n 1) 1 15 := ⟨by decide +kernel, rfl⟩
theorem x_M_thinksAll_15 : kt_dc i_M_thinksAll 15 (.iload_n 2) 1 16 := ⟨by decide +kernel, rfl⟩
theorem x_M_thinksAll_16 : kt_sV i_M_thinksAll 16 i_M_looks 5 2 19 := ⟨72, ⟨by decide +kernel, rfl⟩, Or.inl (tw_627), j_M_looks, ⟨tw_629, tp_53⟩, ⟨TX5, 18, rfl⟩, by decide, rfl⟩
theorem c_M_thinksAll_16 {P : kt_P} {NM : Nat} {L : List (Option Value)} {rest : List Value} {N : Nat} {I : kt_I} {J : kt_J} {R : kt_R} {Q : Option Value → kt_I → kt_J → kt_R → Prop} {b : Nat} {x0 : Int32} {x1 : Int32} (hkd : kt_kd P N b = (5, 0)) (hrest : (rest.map fun v => v.category).sum ≤ 8) (kk : KW P i_M_looks N 0 [some (.ref b), some (.int x0), some (.int x1), none, none, none, none] [] N I J R (fun v I' J' R' => KW P i_M_thinksAll NM 19 L (kt_pu v rest) N I' J' R' Q)) : KW P i_M_thinksAll NM 16 L (.int x1 :: .int x0 :: .ref b :: rest) N I J R Q := kw_callV x_M_thinksAll_16 (As := [.int x0, .int x1]) rfl rfl (Nat.le_of_ble_eq_true rfl) hrest hkd (Nat.le_refl N) (fun h => h) kk
theorem x_M_thinksAll_19 : kt_dc i_M_thinksAll 19 (.iinc 2 1) 3 22 ∧ Int32.ofInt (1) = nI 1 := ⟨⟨by decide +kernel, rfl⟩, by decide⟩
theorem x_M_thinksAll_22 : kt_dj i_M_thinksAll 22 .goto 7 25 := ⟨-15, by decide +kernel, by decide, rfl⟩
theorem x_M_thinksAll_25 : kt_dc i_M_thinksAll 25 (.return_) 1 26 ∧ kt_rt i_M_thinksAll = none := ⟨⟨by decide +kernel, rfl⟩, rfl⟩
theorem x_M_thinksOf_0 : kt_dc i_M_thinksOf 0 (.iconst 0) 1 1 ∧ Int32.ofInt (0) = nI 0 := ⟨⟨by decide +kernel, rfl⟩, by decide⟩
theorem x_M_thinksOf_1 : kt_dc i_M_thinksOf 1 (.istore_n 2) 1 2 := ⟨by decide +kernel, rfl⟩
theorem x_M_thinksOf_2 : kt_dc i_M_thinksOf 2 (.iload_n 2) 1 3 := ⟨by decide +kernel, rfl⟩
theorem x_M_thinksOf_3 : kt_dc i_M_thinksOf 3 (.aload_n 0) 1 4 := ⟨by decide +kernel, rfl⟩
theorem x_M_thinksOf_4 : kt_sG i_M_thinksOf 4 5 0 2 7 := ⟨7, RX5, TX5, 18, ⟨by decide +kernel, rfl⟩, rfl, by decide, rfl, by decide, Or.inl (tw_535)⟩
theorem x_M_thinksOf_7 : kt_dc i_M_thinksOf 7 (.iconst 2) 1 8 ∧ Int32.ofInt (2) = nI 2 := ⟨⟨by decide +kernel, rfl⟩, by decide⟩
theorem x_M_thinksOf_8 : kt_dc i_M_thinksOf 8 (.iaload) 1 9 := ⟨by decide +kernel, rfl⟩
theorem x_M_thinksOf_9 : kt_dj i_M_thinksOf 9 (.if_icmp .ge) 68 12 := ⟨59, by decide +kernel, by decide, rfl⟩
theorem x_M_thinksOf_12 : kt_dc i_M_thinksOf 12 (.aload_n 0) 1 13 := ⟨by decide +kernel, rfl⟩
theorem x_M_thinksOf_13 : kt_dc i_M_thinksOf 13 (.iload_n 2) 1 14 := ⟨by decide +kernel, rfl⟩
theorem x_M_thinksOf_14 : kt_dc i_M_thinksOf 14 (.iconst 0) 1 15 ∧ Int32.ofInt (0) = nI 0 := ⟨⟨by decide +kernel, rfl⟩, by decide⟩
theorem x_M_thinksOf_15 : kt_sV i_M_thinksOf 15 i_M_of 5 2 18 := ⟨44, ⟨by decide +kernel, rfl⟩, Or.inl (tw_615), j_M_of, ⟨tw_617, tp_50⟩, ⟨TX5, 18, rfl⟩, by decide, rfl⟩
theorem c_M_thinksOf_15 {P : kt_P} {NM : Nat} {L : List (Option Value)} {rest : List Value} {N : Nat} {I : kt_I} {J : kt_J} {R : kt_R} {Q : Option Value → kt_I → kt_J → kt_R → Prop} {b : Nat} {x0 : Int32} {x1 : Int32} (hkd : kt_kd P N b = (5, 0)) (hrest : (rest.map fun v => v.category).sum ≤ 8) (kk : KW P i_M_of N 0 [some (.ref b), some (.int x0), some (.int x1)] [] N I J R (fun v I' J' R' => KW P i_M_thinksOf NM 18 L (kt_pu v rest) N I' J' R' Q)) : KW P i_M_thinksOf NM 15 L (.int x1 :: .int x0 :: .ref b :: rest) N I J R Q := kw_callV x_M_thinksOf_15 (As := [.int x0, .int x1]) rfl rfl (Nat.le_of_ble_eq_true rfl) hrest hkd (Nat.le_refl N) (fun h => h) kk
theorem x_M_thinksOf_18 : kt_dc i_M_thinksOf 18 (.iconst 1) 1 19 ∧ Int32.ofInt (1) = nI 1 := ⟨⟨by decide +kernel, rfl⟩, by decide⟩
theorem x_M_thinksOf_19 : kt_dj i_M_thinksOf 19 (.if_icmp .ne) 35 22 := ⟨16, by decide +kernel, by decide, rfl⟩
theorem x_M_thinksOf_22 : kt_dc i_M_thinksOf 22 (.aload_n 0) 1 23 := ⟨by decide +kernel, rfl⟩
theorem x_M_thinksOf_23 : kt_dc i_M_thinksOf 23 (.iload_n 1) 1 24 := ⟨by decide +kernel, rfl⟩
theorem x_M_thinksOf_24 : kt_dc i_M_thinksOf 24 (.iload_n 2) 1 25 := ⟨by decide +kernel, rfl⟩
theorem x_M_thinksOf_25 : kt_sV i_M_thinksOf 25 i_M_knows 5 2 28 := ⟨48, ⟨by decide +kernel, rfl⟩, Or.inl (tw_619), j_M_knows, ⟨tw_621, tp_51⟩, ⟨TX5, 18, rfl⟩, by decide, rfl⟩
theorem c_M_thinksOf_25 {P : kt_P} {NM : Nat} {L : List (Option Value)} {rest : List Value} {N : Nat} {I : kt_I} {J : kt_J} {R : kt_R} {Q : Option Value → kt_I → kt_J → kt_R → Prop} {b : Nat} {x0 : Int32} {x1 : Int32} (hkd : kt_kd P N b = (5, 0)) (hrest : (rest.map fun v => v.category).sum ≤ 8) (kk : KW P i_M_knows N 0 [some (.ref b), some (.int x0), some (.int x1)] [] N I J R (fun v I' J' R' => KW P i_M_thinksOf NM 28 L (kt_pu v rest) N I' J' R' Q)) : KW P i_M_thinksOf NM 25 L (.int x1 :: .int x0 :: .ref b :: rest) N I J R Q := kw_callV x_M_thinksOf_25 (As := [.int x0, .int x1]) rfl rfl (Nat.le_of_ble_eq_true rfl) hrest hkd (Nat.le_refl N) (fun h => h) kk
theorem x_M_thinksOf_28 : kt_dj i_M_thinksOf 28 (.ifCond .eq) 35 31 := ⟨7, by decide +kernel, by decide, rfl⟩
theorem x_M_thinksOf_31 : kt_dc i_M_thinksOf 31 (.iconst 1) 1 32 ∧ Int32.ofInt (1) = nI 1 := ⟨⟨by decide +kernel, rfl⟩, by decide⟩
theorem x_M_thinksOf_32 : kt_dj i_M_thinksOf 32 .goto 36 35 := ⟨4, by decide +kernel, by decide, rfl⟩
theorem x_M_thinksOf_35 : kt_dc i_M_thinksOf 35 (.iconst 0) 1 36 ∧ Int32.ofInt (0) = nI 0 := ⟨⟨by decide +kernel, rfl⟩, by decide⟩
theorem x_M_thinksOf_36 : kt_dc i_M_thinksOf 36 (.istore_n 3) 1 37 := ⟨by decide +kernel, rfl⟩
theorem x_M_thinksOf_37 : kt_dc i_M_thinksOf 37 (.aload_n 0) 1 38 := ⟨by decide +kernel, rfl⟩
theorem x_M_thinksOf_38 : kt_sG i_M_thinksOf 38 5 8 2 41 := ⟨25, RX5, TX5, 18, ⟨by decide +kernel, rfl⟩, rfl, by decide, rfl, by decide, Or.inl (tw_543)⟩
theorem x_M_thinksOf_41 : kt_dc i_M_thinksOf 41 (.iload_n 2) 1 42 := ⟨by decide +kernel, rfl⟩
theorem x_M_thinksOf_42 : kt_dc i_M_thinksOf 42 (.iload_n 3) 1 43 := ⟨by decide +kernel, rfl⟩
theorem x_M_thinksOf_43 : kt_dj i_M_thinksOf 43 (.ifCond .eq) 59 46 := ⟨16, by decide +kernel, by decide, rfl⟩
theorem x_M_thinksOf_46 : kt_dc i_M_thinksOf 46 (.aload_n 0) 1 47 := ⟨by decide +kernel, rfl⟩
theorem x_M_thinksOf_47 : kt_dc i_M_thinksOf 47 (.iload_n 1) 1 48 := ⟨by decide +kernel, rfl⟩
theorem x_M_thinksOf_48 : kt_dc i_M_thinksOf 48 (.iload_n 2) 1 49 := ⟨by decide +kernel, rfl⟩
theorem x_M_thinksOf_49 : kt_sV i_M_thinksOf 49 i_M_isCancelled 5 2 52 := ⟨65, ⟨by decide +kernel, rfl⟩, Or.inl (tw_623), j_M_isCancelled, ⟨tw_625, tp_52⟩, ⟨TX5, 18, rfl⟩, by decide, rfl⟩
theorem c_M_thinksOf_49 {P : kt_P} {NM : Nat} {L : List (Option Value)} {rest : List Value} {N : Nat} {I : kt_I} {J : kt_J} {R : kt_R} {Q : Option Value → kt_I → kt_J → kt_R → Prop} {b : Nat} {x0 : Int32} {x1 : Int32} (hkd : kt_kd P N b = (5, 0)) (hrest : (rest.map fun v => v.category).sum ≤ 8) (kk : KW P i_M_isCancelled N 0 [some (.ref b), some (.int x0), some (.int x1), none, none] [] N I J R (fun v I' J' R' => KW P i_M_thinksOf NM 52 L (kt_pu v rest) N I' J' R' Q)) : KW P i_M_thinksOf NM 49 L (.int x1 :: .int x0 :: .ref b :: rest) N I J R Q := kw_callV x_M_thinksOf_49 (As := [.int x0, .int x1]) rfl rfl (Nat.le_of_ble_eq_true rfl) hrest hkd (Nat.le_refl N) (fun h => h) kk
theorem x_M_thinksOf_52 : kt_dj i_M_thinksOf 52 (.ifCond .eq) 59 55 := ⟨7, by decide +kernel, by decide, rfl⟩
theorem x_M_thinksOf_55 : kt_dc i_M_thinksOf 55 (.iconst 2) 1 56 ∧ Int32.ofInt (2) = nI 2 := ⟨⟨by decide +kernel, rfl⟩, by decide⟩
theorem x_M_thinksOf_56 : kt_dj i_M_thinksOf 56 .goto 61 59 := ⟨5, by decide +kernel, by decide, rfl⟩
theorem x_M_thinksOf_59 : kt_dc i_M_thinksOf 59 (.bipush (-4)) 2 61 ∧ (Int8.ofInt (-4)).toInt32 = (-4 : Int32) := ⟨⟨by decide +kernel, rfl⟩, by decide⟩
theorem x_M_thinksOf_61 : kt_dc i_M_thinksOf 61 (.iastore) 1 62 := ⟨by decide +kernel, rfl⟩
theorem x_M_thinksOf_62 : kt_dc i_M_thinksOf 62 (.iinc 2 1) 3 65 ∧ Int32.ofInt (1) = nI 1 := ⟨⟨by decide +kernel, rfl⟩, by decide⟩
theorem x_M_thinksOf_65 : kt_dj i_M_thinksOf 65 .goto 2 68 := ⟨-63, by decide +kernel, by decide, rfl⟩
theorem x_M_thinksOf_68 : kt_dc i_M_thinksOf 68 (.return_) 1 69 ∧ kt_rt i_M_thinksOf = none := ⟨⟨by decide +kernel, rfl⟩, rfl⟩
theorem x_M_of_0 : kt_dc i_M_of 0 (.aload_n 0) 1 1 := ⟨by decide +kernel, rfl⟩
theorem x_M_of_1 : kt_sG i_M_of 1 5 0 2 4 := ⟨7, RX5, TX5, 18, ⟨by decide +kernel, rfl⟩, rfl, by decide, rfl, by decide, Or.inl (tw_535)⟩
theorem x_M_of_4 : kt_dc i_M_of 4 (.bipush 8) 2 6 ∧ (Int8.ofInt (8)).toInt32 = nI 8 := ⟨⟨by decide +kernel, rfl⟩, by decide⟩
theorem x_M_of_6 : kt_dc i_M_of 6 (.bipush 9) 2 8 ∧ (Int8.ofInt (9)).toInt32 = nI 9 := ⟨⟨by decide +kernel, rfl⟩, by decide⟩
theorem x_M_of_8 : kt_dc i_M_of 8 (.iload_n 1) 1 9 := ⟨by decide +kernel, rfl⟩
theorem x_M_of_9 : kt_dc i_M_of 9 (.imul) 1 10 := ⟨by decide +kernel, rfl⟩
theorem x_M_of_10 : kt_dc i_M_of 10 (.iadd) 1 11 := ⟨by decide +kernel, rfl⟩
theorem x_M_of_11 : kt_dc i_M_of 11 (.iload_n 2) 1 12 := ⟨by decide +kernel, rfl⟩
theorem x_M_of_12 : kt_dc i_M_of 12 (.iadd) 1 13 := ⟨by decide +kernel, rfl⟩
theorem x_M_of_13 : kt_dc i_M_of 13 (.iaload) 1 14 := ⟨by decide +kernel, rfl⟩
theorem x_M_of_14 : kt_dc i_M_of 14 (.ireturn) 1 15 ∧ kt_rt i_M_of = (some .int) := ⟨⟨by decide +kernel, rfl⟩, rfl⟩
theorem x_M_knows_0 : kt_dc i_M_knows 0 (.iload_n 1) 1 1 := ⟨by decide +kernel, rfl⟩
theorem x_M_knows_1 : kt_dc i_M_knows 1 (.iconst 5) 1 2 ∧ Int32.ofInt (5) = nI 5 := ⟨⟨by decide +kernel, rfl⟩, by decide⟩
theorem x_M_knows_2 : kt_dj i_M_knows 2 (.if_icmp .eq) 20 5 := ⟨18, by decide +kernel, by decide, rfl⟩
theorem x_M_knows_5 : kt_dc i_M_knows 5 (.aload_n 0) 1 6 := ⟨by decide +kernel, rfl⟩
theorem x_M_knows_6 : kt_dc i_M_knows 6 (.iload_n 2) 1 7 := ⟨by decide +kernel, rfl⟩
theorem x_M_knows_7 : kt_dc i_M_knows 7 (.bipush 7) 2 9 ∧ (Int8.ofInt (7)).toInt32 = nI 7 := ⟨⟨by decide +kernel, rfl⟩, by decide⟩
theorem x_M_knows_9 : kt_sV i_M_knows 9 i_M_of 5 2 12 := ⟨44, ⟨by decide +kernel, rfl⟩, Or.inl (tw_615), j_M_of, ⟨tw_617, tp_50⟩, ⟨TX5, 18, rfl⟩, by decide, rfl⟩
theorem c_M_knows_9 {P : kt_P} {NM : Nat} {L : List (Option Value)} {rest : List Value} {N : Nat} {I : kt_I} {J : kt_J} {R : kt_R} {Q : Option Value → kt_I → kt_J → kt_R → Prop} {b : Nat} {x0 : Int32} {x1 : Int32} (hkd : kt_kd P N b = (5, 0)) (hrest : (rest.map fun v => v.category).sum ≤ 8) (kk : KW P i_M_of N 0 [some (.ref b), some (.int x0), some (.int x1)] [] N I J R (fun v I' J' R' => KW P i_M_knows NM 12 L (kt_pu v rest) N I' J' R' Q)) : KW P i_M_knows NM 9 L (.int x1 :: .int x0 :: .ref b :: rest) N I J R Q := kw_callV x_M_knows_9 (As := [.int x0, .int x1]) rfl rfl (Nat.le_of_ble_eq_true rfl) hrest hkd (Nat.le_refl N) (fun h => h) kk
theorem x_M_knows_12 : kt_dc i_M_knows 12 (.iload_n 1) 1 13 := ⟨by decide +kernel, rfl⟩
theorem x_M_knows_13 : kt_dc i_M_knows 13 (.ishr) 1 14 := ⟨by decide +kernel, rfl⟩
theorem x_M_knows_14 : kt_dc i_M_knows 14 (.iconst 1) 1 15 ∧ Int32.ofInt (1) = nI 1 := ⟨⟨by decide +kernel, rfl⟩, by decide⟩
theorem x_M_knows_15 : kt_dc i_M_knows 15 (.iand) 1 16 := ⟨by decide +kernel, rfl⟩
theorem x_M_knows_16 : kt_dc i_M_knows 16 (.iconst 1) 1 17 ∧ Int32.ofInt (1) = nI 1 := ⟨⟨by decide +kernel, rfl⟩, by decide⟩
theorem x_M_knows_17 : kt_dj i_M_knows 17 (.if_icmp .ne) 24 20 := ⟨7, by decide +kernel, by decide, rfl⟩
theorem x_M_knows_20 : kt_dc i_M_knows 20 (.iconst 1) 1 21 ∧ Int32.ofInt (1) = nI 1 := ⟨⟨by decide +kernel, rfl⟩, by decide⟩
theorem x_M_knows_21 : kt_dj i_M_knows 21 .goto 25 24 := ⟨4, by decide +kernel, by decide, rfl⟩
theorem x_M_knows_24 : kt_dc i_M_knows 24 (.iconst 0) 1 25 ∧ Int32.ofInt (0) = nI 0 := ⟨⟨by decide +kernel, rfl⟩, by decide⟩
theorem x_M_knows_25 : kt_dc i_M_knows 25 (.ireturn) 1 26 ∧ kt_rt i_M_knows = (some .boolean) := ⟨⟨by decide +kernel, rfl⟩, rfl⟩
theorem x_M_isCancelled_0 : kt_dc i_M_isCancelled 0 (.iconst 0) 1 1 ∧ Int32.ofInt (0) = nI 0 := ⟨⟨by decide +kernel, rfl⟩, by decide⟩
theorem x_M_isCancelled_1 : kt_dc i_M_isCancelled 1 (.istore_n 3) 1 2 := ⟨by decide +kernel, rfl⟩
theorem x_M_isCancelled_2 : kt_dc i_M_isCancelled 2 (.iload_n 2) 1 3 := ⟨by decide +kernel, rfl⟩
theorem x_M_isCancelled_3 : kt_dc i_M_isCancelled 3 (.iconst 1) 1 4 ∧ Int32.ofInt (1) = nI 1 := ⟨⟨by decide +kernel, rfl⟩, by decide⟩
theorem x_M_isCancelled_4 : kt_dc i_M_isCancelled 4 (.iadd) 1 5 := ⟨by decide +kernel, rfl⟩
theorem x_M_isCancelled_5 : kt_dc i_M_isCancelled 5 (.istore 4) 2 7 := ⟨by decide +kernel, rfl⟩
theorem x_M_isCancelled_7 : kt_dc i_M_isCancelled 7 (.iload 4) 2 9 := ⟨by decide +kernel, rfl⟩
theorem x_M_isCancelled_9 : kt_dc i_M_isCancelled 9 (.aload_n 0) 1 10 := ⟨by decide +kernel, rfl⟩
theorem x_M_isCancelled_10 : kt_sG i_M_isCancelled 10 5 0 2 13 := ⟨7, RX5, TX5, 18, ⟨by decide +kernel, rfl⟩, rfl, by decide, rfl, by decide, Or.inl (tw_535)⟩
theorem x_M_isCancelled_13 : kt_dc i_M_isCancelled 13 (.iconst 2) 1 14 ∧ Int32.ofInt (2) = nI 2 := ⟨⟨by decide +kernel, rfl⟩, by decide⟩
theorem x_M_isCancelled_14 : kt_dc i_M_isCancelled 14 (.iaload) 1 15 := ⟨by decide +kernel, rfl⟩
theorem x_M_isCancelled_15 : kt_dj i_M_isCancelled 15 (.if_icmp .ge) 67 18 := ⟨52, by decide +kernel, by decide, rfl⟩
theorem x_M_isCancelled_18 : kt_dc i_M_isCancelled 18 (.iload_n 3) 1 19 := ⟨by decide +kernel, rfl⟩
theorem x_M_isCancelled_19 : kt_dj i_M_isCancelled 19 (.ifCond .ne) 55 22 := ⟨36, by decide +kernel, by decide, rfl⟩
theorem x_M_isCancelled_22 : kt_dc i_M_isCancelled 22 (.aload_n 0) 1 23 := ⟨by decide +kernel, rfl⟩
theorem x_M_isCancelled_23 : kt_dc i_M_isCancelled 23 (.iload 4) 2 25 := ⟨by decide +kernel, rfl⟩
theorem x_M_isCancelled_25 : kt_dc i_M_isCancelled 25 (.iconst 0) 1 26 ∧ Int32.ofInt (0) = nI 0 := ⟨⟨by decide +kernel, rfl⟩, by decide⟩
theorem x_M_isCancelled_26 : kt_sV i_M_isCancelled 26 i_M_of 5 2 29 := ⟨44, ⟨by decide +kernel, rfl⟩, Or.inl (tw_615), j_M_of, ⟨tw_617, tp_50⟩, ⟨TX5, 18, rfl⟩, by decide, rfl⟩
theorem c_M_isCancelled_26 {P : kt_P} {NM : Nat} {L : List (Option Value)} {rest : List Value} {N : Nat} {I : kt_I} {J : kt_J} {R : kt_R} {Q : Option Value → kt_I → kt_J → kt_R → Prop} {b : Nat} {x0 : Int32} {x1 : Int32} (hkd : kt_kd P N b = (5, 0)) (hrest : (rest.map fun v => v.category).sum ≤ 8) (kk : KW P i_M_of N 0 [some (.ref b), some (.int x0), some (.int x1)] [] N I J R (fun v I' J' R' => KW P i_M_isCancelled NM 29 L (kt_pu v rest) N I' J' R' Q)) : KW P i_M_isCancelled NM 26 L (.int x1 :: .int x0 :: .ref b :: rest) N I J R Q := kw_callV x_M_isCancelled_26 (As := [.int x0, .int x1]) rfl rfl (Nat.le_of_ble_eq_true rfl) hrest hkd (Nat.le_refl N) (fun h => h) kk
theorem x_M_isCancelled_29 : kt_dc i_M_isCancelled 29 (.iconst 2) 1 30 ∧ Int32.ofInt (2) = nI 2 := ⟨⟨by decide +kernel, rfl⟩, by decide⟩
theorem x_M_isCancelled_30 : kt_dj i_M_isCancelled 30 (.if_icmp .ne) 59 33 := ⟨29, by decide +kernel, by decide, rfl⟩
theorem x_M_isCancelled_33 : kt_dc i_M_isCancelled 33 (.aload_n 0) 1 34 := ⟨by decide +kernel, rfl⟩
theorem x_M_isCancelled_34 : kt_dc i_M_isCancelled 34 (.iload 4) 2 36 := ⟨by decide +kernel, rfl⟩
theorem x_M_isCancelled_36 : kt_dc i_M_isCancelled 36 (.bipush 6) 2 38 ∧ (Int8.ofInt (6)).toInt32 = nI 6 := ⟨⟨by decide +kernel, rfl⟩, by decide⟩
theorem x_M_isCancelled_38 : kt_sV i_M_isCancelled 38 i_M_of 5 2 41 := ⟨44, ⟨by decide +kernel, rfl⟩, Or.inl (tw_615), j_M_of, ⟨tw_617, tp_50⟩, ⟨TX5, 18, rfl⟩, by decide, rfl⟩
theorem c_M_isCancelled_38 {P : kt_P} {NM : Nat} {L : List (Option Value)} {rest : List Value} {N : Nat} {I : kt_I} {J : kt_J} {R : kt_R} {Q : Option Value → kt_I → kt_J → kt_R → Prop} {b : Nat} {x0 : Int32} {x1 : Int32} (hkd : kt_kd P N b = (5, 0)) (hrest : (rest.map fun v => v.category).sum ≤ 8) (kk : KW P i_M_of N 0 [some (.ref b), some (.int x0), some (.int x1)] [] N I J R (fun v I' J' R' => KW P i_M_isCancelled NM 41 L (kt_pu v rest) N I' J' R' Q)) : KW P i_M_isCancelled NM 38 L (.int x1 :: .int x0 :: .ref b :: rest) N I J R Q := kw_callV x_M_isCancelled_38 (As := [.int x0, .int x1]) rfl rfl (Nat.le_of_ble_eq_true rfl) hrest hkd (Nat.le_refl N) (fun h => h) kk
theorem x_M_isCancelled_41 : kt_dc i_M_isCancelled 41 (.iload_n 2) 1 42 := ⟨by decide +kernel, rfl⟩
theorem x_M_isCancelled_42 : kt_dj i_M_isCancelled 42 (.if_icmp .ne) 59 45 := ⟨17, by decide +kernel, by decide, rfl⟩
theorem x_M_isCancelled_45 : kt_dc i_M_isCancelled 45 (.aload_n 0) 1 46 := ⟨by decide +kernel, rfl⟩
theorem x_M_isCancelled_46 : kt_dc i_M_isCancelled 46 (.iload_n 1) 1 47 := ⟨by decide +kernel, rfl⟩
theorem x_M_isCancelled_47 : kt_dc i_M_isCancelled 47 (.iload 4) 2 49 := ⟨by decide +kernel, rfl⟩
theorem x_M_isCancelled_49 : kt_sV i_M_isCancelled 49 i_M_knows 5 2 52 := ⟨48, ⟨by decide +kernel, rfl⟩, Or.inl (tw_619), j_M_knows, ⟨tw_621, tp_51⟩, ⟨TX5, 18, rfl⟩, by decide, rfl⟩
theorem c_M_isCancelled_49 {P : kt_P} {NM : Nat} {L : List (Option Value)} {rest : List Value} {N : Nat} {I : kt_I} {J : kt_J} {R : kt_R} {Q : Option Value → kt_I → kt_J → kt_R → Prop} {b : Nat} {x0 : Int32} {x1 : Int32} (hkd : kt_kd P N b = (5, 0)) (hrest : (rest.map fun v => v.category).sum ≤ 8) (kk : KW P i_M_knows N 0 [some (.ref b), some (.int x0), some (.int x1)] [] N I J R (fun v I' J' R' => KW P i_M_isCancelled NM 52 L (kt_pu v rest) N I' J' R' Q)) : KW P i_M_isCancelled NM 49 L (.int x1 :: .int x0 :: .ref b :: rest) N I J R Q := kw_callV x_M_isCancelled_49 (As := [.int x0, .int x1]) rfl rfl (Nat.le_of_ble_eq_true rfl) hrest hkd (Nat.le_refl N) (fun h => h) kk
theorem x_M_isCancelled_52 : kt_dj i_M_isCancelled 52 (.ifCond .eq) 59 55 := ⟨7, by decide +kernel, by decide, rfl⟩
theorem x_M_isCancelled_55 : kt_dc i_M_isCancelled 55 (.iconst 1) 1 56 ∧ Int32.ofInt (1) = nI 1 := ⟨⟨by decide +kernel, rfl⟩, by decide⟩
theorem x_M_isCancelled_56 : kt_dj i_M_isCancelled 56 .goto 60 59 := ⟨4, by decide +kernel, by decide, rfl⟩
theorem x_M_isCancelled_59 : kt_dc i_M_isCancelled 59 (.iconst 0) 1 60 ∧ Int32.ofInt (0) = nI 0 := ⟨⟨by decide +kernel, rfl⟩, by decide⟩
theorem x_M_isCancelled_60 : kt_dc i_M_isCancelled 60 (.istore_n 3) 1 61 := ⟨by decide +kernel, rfl⟩
theorem x_M_isCancelled_61 : kt_dc i_M_isCancelled 61 (.iinc 4 1) 3 64 ∧ Int32.ofInt (1) = nI 1 := ⟨⟨by decide +kernel, rfl⟩, by decide⟩
theorem x_M_isCancelled_64 : kt_dj i_M_isCancelled 64 .goto 7 67 := ⟨-57, by decide +kernel, by decide, rfl⟩
theorem x_M_isCancelled_67 : kt_dc i_M_isCancelled 67 (.iload_n 3) 1 68 := ⟨by decide +kernel, rfl⟩
theorem x_M_isCancelled_68 : kt_dc i_M_isCancelled 68 (.ireturn) 1 69 ∧ kt_rt i_M_isCancelled = (some .boolean) := ⟨⟨by decide +kernel, rfl⟩, rfl⟩
theorem x_M_looks_0 : kt_dc i_M_looks 0 (.aload_n 0) 1 1 := ⟨by decide +kernel, rfl⟩
theorem x_M_looks_1 : kt_dc i_M_looks 1 (.iload_n 1) 1 2 := ⟨by decide +kernel, rfl⟩
theorem x_M_looks_2 : kt_dc i_M_looks 2 (.iload_n 2) 1 3 := ⟨by decide +kernel, rfl⟩
theorem x_M_looks_3 : kt_sV i_M_looks 3 i_M_stock 5 2 6 := ⟨55, ⟨by decide +kernel, rfl⟩, Or.inl (tw_631), j_M_stock, ⟨tw_633, tp_54⟩, ⟨TX5, 18, rfl⟩, by decide, rfl⟩
theorem c_M_looks_3 {P : kt_P} {NM : Nat} {L : List (Option Value)} {rest : List Value} {N : Nat} {I : kt_I} {J : kt_J} {R : kt_R} {Q : Option Value → kt_I → kt_J → kt_R → Prop} {b : Nat} {x0 : Int32} {x1 : Int32} (hkd : kt_kd P N b = (5, 0)) (hrest : (rest.map fun v => v.category).sum ≤ 8) (kk : KW P i_M_stock N 0 [some (.ref b), some (.int x0), some (.int x1), none, none] [] N I J R (fun v I' J' R' => KW P i_M_looks NM 6 L (kt_pu v rest) N I' J' R' Q)) : KW P i_M_looks NM 3 L (.int x1 :: .int x0 :: .ref b :: rest) N I J R Q := kw_callV x_M_looks_3 (As := [.int x0, .int x1]) rfl rfl (Nat.le_of_ble_eq_true rfl) hrest hkd (Nat.le_refl N) (fun h => h) kk
theorem x_M_looks_6 : kt_dc i_M_looks 6 (.istore_n 3) 1 7 := ⟨by decide +kernel, rfl⟩
theorem x_M_looks_7 : kt_dc i_M_looks 7 (.aload_n 0) 1 8 := ⟨by decide +kernel, rfl⟩
theorem x_M_looks_8 : kt_dc i_M_looks 8 (.iconst 0) 1 9 ∧ Int32.ofInt (0) = nI 0 := ⟨⟨by decide +kernel, rfl⟩, by decide⟩
theorem x_M_looks_9 : kt_sP i_M_looks 9 5 10 0 12 := ⟨58, RX5, TX5, 18, tyX5 10, ⟨by decide +kernel, rfl⟩, rfl, by decide, rfl, by decide, by decide +kernel, rfl, Or.inl ⟨rfl, Or.inl (tw_545)⟩⟩
theorem x_M_looks_12 : kt_dc i_M_looks 12 (.iconst 0) 1 13 ∧ Int32.ofInt (0) = nI 0 := ⟨⟨by decide +kernel, rfl⟩, by decide⟩
theorem x_M_looks_13 : kt_dc i_M_looks 13 (.istore 4) 2 15 := ⟨by decide +kernel, rfl⟩
theorem x_M_looks_15 : kt_dc i_M_looks 15 (.iload 4) 2 17 := ⟨by decide +kernel, rfl⟩
theorem x_M_looks_17 : kt_dc i_M_looks 17 (.bipush 10) 2 19 ∧ (Int8.ofInt (10)).toInt32 = nI 10 := ⟨⟨by decide +kernel, rfl⟩, by decide⟩
theorem x_M_looks_19 : kt_dj i_M_looks 19 (.if_icmp .ge) 36 22 := ⟨17, by decide +kernel, by decide, rfl⟩
theorem x_M_looks_22 : kt_dc i_M_looks 22 (.aload_n 0) 1 23 := ⟨by decide +kernel, rfl⟩
theorem x_M_looks_23 : kt_sG i_M_looks 23 5 11 2 26 := ⟨31, RX5, TX5, 18, ⟨by decide +kernel, rfl⟩, rfl, by decide, rfl, by decide, Or.inl (tw_546)⟩
theorem x_M_looks_26 : kt_dc i_M_looks 26 (.iload 4) 2 28 := ⟨by decide +kernel, rfl⟩
theorem x_M_looks_28 : kt_dc i_M_looks 28 (.iconst 0) 1 29 ∧ Int32.ofInt (0) = nI 0 := ⟨⟨by decide +kernel, rfl⟩, by decide⟩
theorem x_M_looks_29 : kt_dc i_M_looks 29 (.iastore) 1 30 := ⟨by decide +kernel, rfl⟩
theorem x_M_looks_30 : kt_dc i_M_looks 30 (.iinc 4 1) 3 33 ∧ Int32.ofInt (1) = nI 1 := ⟨⟨by decide +kernel, rfl⟩, by decide⟩
theorem x_M_looks_33 : kt_dj i_M_looks 33 .goto 15 36 := ⟨-18, by decide +kernel, by decide, rfl⟩
theorem x_M_looks_36 : kt_dc i_M_looks 36 (.iconst 0) 1 37 ∧ Int32.ofInt (0) = nI 0 := ⟨⟨by decide +kernel, rfl⟩, by decide⟩
theorem x_M_looks_37 : kt_dc i_M_looks 37 (.istore 4) 2 39 := ⟨by decide +kernel, rfl⟩
theorem x_M_looks_39 : kt_dc i_M_looks 39 (.iload 4) 2 41 := ⟨by decide +kernel, rfl⟩
theorem x_M_looks_41 : kt_dj i_M_looks 41 (.ifCond .lt) 263 44 := ⟨222, by decide +kernel, by decide, rfl⟩
theorem x_M_looks_44 : kt_dc i_M_looks 44 (.bipush (-4)) 2 46 ∧ (Int8.ofInt (-4)).toInt32 = (-4 : Int32) := ⟨⟨by decide +kernel, rfl⟩, by decide⟩
theorem x_M_looks_46 : kt_dc i_M_looks 46 (.istore 4) 2 48 := ⟨by decide +kernel, rfl⟩
theorem x_M_looks_48 : kt_dc i_M_looks 48 (.iconst 0) 1 49 ∧ Int32.ofInt (0) = nI 0 := ⟨⟨by decide +kernel, rfl⟩, by decide⟩
theorem x_M_looks_49 : kt_dc i_M_looks 49 (.istore 5) 2 51 := ⟨by decide +kernel, rfl⟩
theorem x_M_looks_51 : kt_dc i_M_looks 51 (.iload 5) 2 53 := ⟨by decide +kernel, rfl⟩
theorem x_M_looks_53 : kt_dc i_M_looks 53 (.aload_n 0) 1 54 := ⟨by decide +kernel, rfl⟩
theorem x_M_looks_54 : kt_sG i_M_looks 54 5 0 2 57 := ⟨7, RX5, TX5, 18, ⟨by decide +kernel, rfl⟩, rfl, by decide, rfl, by decide, Or.inl (tw_535)⟩
theorem x_M_looks_57 : kt_dc i_M_looks 57 (.iconst 2) 1 58 ∧ Int32.ofInt (2) = nI 2 := ⟨⟨by decide +kernel, rfl⟩, by decide⟩
theorem x_M_looks_58 : kt_dc i_M_looks 58 (.iaload) 1 59 := ⟨by decide +kernel, rfl⟩
theorem x_M_looks_59 : kt_dj i_M_looks 59 (.if_icmp .ge) 149 62 := ⟨90, by decide +kernel, by decide, rfl⟩
theorem x_M_looks_62 : kt_dc i_M_looks 62 (.aload_n 0) 1 63 := ⟨by decide +kernel, rfl⟩
theorem x_M_looks_63 : kt_sG i_M_looks 63 5 8 2 66 := ⟨25, RX5, TX5, 18, ⟨by decide +kernel, rfl⟩, rfl, by decide, rfl, by decide, Or.inl (tw_543)⟩
theorem x_M_looks_66 : kt_dc i_M_looks 66 (.iload 5) 2 68 := ⟨by decide +kernel, rfl⟩
theorem x_M_looks_68 : kt_dc i_M_looks 68 (.iaload) 1 69 := ⟨by decide +kernel, rfl⟩
theorem x_M_looks_69 : kt_dc i_M_looks 69 (.bipush (-4)) 2 71 ∧ (Int8.ofInt (-4)).toInt32 = (-4 : Int32) := ⟨⟨by decide +kernel, rfl⟩, by decide⟩
theorem x_M_looks_71 : kt_dj i_M_looks 71 (.if_icmp .ne) 110 74 := ⟨39, by decide +kernel, by decide, rfl⟩
theorem x_M_looks_74 : kt_dc i_M_looks 74 (.aload_n 0) 1 75 := ⟨by decide +kernel, rfl⟩
theorem x_M_looks_75 : kt_dc i_M_looks 75 (.iload 5) 2 77 := ⟨by decide +kernel, rfl⟩
theorem x_M_looks_77 : kt_dc i_M_looks 77 (.iconst 0) 1 78 ∧ Int32.ofInt (0) = nI 0 := ⟨⟨by decide +kernel, rfl⟩, by decide⟩
theorem x_M_looks_78 : kt_sV i_M_looks 78 i_M_of 5 2 81 := ⟨44, ⟨by decide +kernel, rfl⟩, Or.inl (tw_615), j_M_of, ⟨tw_617, tp_50⟩, ⟨TX5, 18, rfl⟩, by decide, rfl⟩
theorem c_M_looks_78 {P : kt_P} {NM : Nat} {L : List (Option Value)} {rest : List Value} {N : Nat} {I : kt_I} {J : kt_J} {R : kt_R} {Q : Option Value → kt_I → kt_J → kt_R → Prop} {b : Nat} {x0 : Int32} {x1 : Int32} (hkd : kt_kd P N b = (5, 0)) (hrest : (rest.map fun v => v.category).sum ≤ 8) (kk : KW P i_M_of N 0 [some (.ref b), some (.int x0), some (.int x1)] [] N I J R (fun v I' J' R' => KW P i_M_looks NM 81 L (kt_pu v rest) N I' J' R' Q)) : KW P i_M_looks NM 78 L (.int x1 :: .int x0 :: .ref b :: rest) N I J R Q := kw_callV x_M_looks_78 (As := [.int x0, .int x1]) rfl rfl (Nat.le_of_ble_eq_true rfl) hrest hkd (Nat.le_refl N) (fun h => h) kk
theorem x_M_looks_81 : kt_dc i_M_looks 81 (.iconst 1) 1 82 ∧ Int32.ofInt (1) = nI 1 := ⟨⟨by decide +kernel, rfl⟩, by decide⟩
theorem x_M_looks_82 : kt_dj i_M_looks 82 (.if_icmp .ne) 110 85 := ⟨28, by decide +kernel, by decide, rfl⟩
theorem x_M_looks_85 : kt_dc i_M_looks 85 (.aload_n 0) 1 86 := ⟨by decide +kernel, rfl⟩
theorem x_M_looks_86 : kt_dc i_M_looks 86 (.iload 5) 2 88 := ⟨by decide +kernel, rfl⟩
theorem x_M_looks_88 : kt_dc i_M_looks 88 (.iconst 3) 1 89 ∧ Int32.ofInt (3) = nI 3 := ⟨⟨by decide +kernel, rfl⟩, by decide⟩
theorem x_M_looks_89 : kt_sV i_M_looks 89 i_M_of 5 2 92 := ⟨44, ⟨by decide +kernel, rfl⟩, Or.inl (tw_615), j_M_of, ⟨tw_617, tp_50⟩, ⟨TX5, 18, rfl⟩, by decide, rfl⟩
theorem c_M_looks_89 {P : kt_P} {NM : Nat} {L : List (Option Value)} {rest : List Value} {N : Nat} {I : kt_I} {J : kt_J} {R : kt_R} {Q : Option Value → kt_I → kt_J → kt_R → Prop} {b : Nat} {x0 : Int32} {x1 : Int32} (hkd : kt_kd P N b = (5, 0)) (hrest : (rest.map fun v => v.category).sum ≤ 8) (kk : KW P i_M_of N 0 [some (.ref b), some (.int x0), some (.int x1)] [] N I J R (fun v I' J' R' => KW P i_M_looks NM 92 L (kt_pu v rest) N I' J' R' Q)) : KW P i_M_looks NM 89 L (.int x1 :: .int x0 :: .ref b :: rest) N I J R Q := kw_callV x_M_looks_89 (As := [.int x0, .int x1]) rfl rfl (Nat.le_of_ble_eq_true rfl) hrest hkd (Nat.le_refl N) (fun h => h) kk
theorem x_M_looks_92 : kt_dc i_M_looks 92 (.iload_n 2) 1 93 := ⟨by decide +kernel, rfl⟩
theorem x_M_looks_93 : kt_dj i_M_looks 93 (.if_icmp .ne) 110 96 := ⟨17, by decide +kernel, by decide, rfl⟩
theorem x_M_looks_96 : kt_dc i_M_looks 96 (.aload_n 0) 1 97 := ⟨by decide +kernel, rfl⟩
theorem x_M_looks_97 : kt_dc i_M_looks 97 (.iload_n 1) 1 98 := ⟨by decide +kernel, rfl⟩
theorem x_M_looks_98 : kt_dc i_M_looks 98 (.iload 5) 2 100 := ⟨by decide +kernel, rfl⟩
theorem x_M_looks_100 : kt_sV i_M_looks 100 i_M_knows 5 2 103 := ⟨48, ⟨by decide +kernel, rfl⟩, Or.inl (tw_619), j_M_knows, ⟨tw_621, tp_51⟩, ⟨TX5, 18, rfl⟩, by decide, rfl⟩
theorem c_M_looks_100 {P : kt_P} {NM : Nat} {L : List (Option Value)} {rest : List Value} {N : Nat} {I : kt_I} {J : kt_J} {R : kt_R} {Q : Option Value → kt_I → kt_J → kt_R → Prop} {b : Nat} {x0 : Int32} {x1 : Int32} (hkd : kt_kd P N b = (5, 0)) (hrest : (rest.map fun v => v.category).sum ≤ 8) (kk : KW P i_M_knows N 0 [some (.ref b), some (.int x0), some (.int x1)] [] N I J R (fun v I' J' R' => KW P i_M_looks NM 103 L (kt_pu v rest) N I' J' R' Q)) : KW P i_M_looks NM 100 L (.int x1 :: .int x0 :: .ref b :: rest) N I J R Q := kw_callV x_M_looks_100 (As := [.int x0, .int x1]) rfl rfl (Nat.le_of_ble_eq_true rfl) hrest hkd (Nat.le_refl N) (fun h => h) kk
theorem x_M_looks_103 : kt_dj i_M_looks 103 (.ifCond .eq) 110 106 := ⟨7, by decide +kernel, by decide, rfl⟩
theorem x_M_looks_106 : kt_dc i_M_looks 106 (.iconst 1) 1 107 ∧ Int32.ofInt (1) = nI 1 := ⟨⟨by decide +kernel, rfl⟩, by decide⟩
theorem x_M_looks_107 : kt_dj i_M_looks 107 .goto 111 110 := ⟨4, by decide +kernel, by decide, rfl⟩
theorem x_M_looks_110 : kt_dc i_M_looks 110 (.iconst 0) 1 111 ∧ Int32.ofInt (0) = nI 0 := ⟨⟨by decide +kernel, rfl⟩, by decide⟩
theorem x_M_looks_111 : kt_dc i_M_looks 111 (.istore 6) 2 113 := ⟨by decide +kernel, rfl⟩
theorem x_M_looks_113 : kt_dc i_M_looks 113 (.iload 6) 2 115 := ⟨by decide +kernel, rfl⟩
theorem x_M_looks_115 : kt_dj i_M_looks 115 (.ifCond .eq) 139 118 := ⟨24, by decide +kernel, by decide, rfl⟩
theorem x_M_looks_118 : kt_dc i_M_looks 118 (.iload 4) 2 120 := ⟨by decide +kernel, rfl⟩
theorem x_M_looks_120 : kt_dj i_M_looks 120 (.ifCond .lt) 134 123 := ⟨14, by decide +kernel, by decide, rfl⟩
theorem x_M_looks_123 : kt_dc i_M_looks 123 (.aload_n 0) 1 124 := ⟨by decide +kernel, rfl⟩
theorem x_M_looks_124 : kt_dc i_M_looks 124 (.iload 5) 2 126 := ⟨by decide +kernel, rfl⟩
theorem x_M_looks_126 : kt_dc i_M_looks 126 (.iload 4) 2 128 := ⟨by decide +kernel, rfl⟩
theorem x_M_looks_128 : kt_sV i_M_looks 128 i_M_isAhead 5 2 131 := ⟨62, ⟨by decide +kernel, rfl⟩, Or.inl (tw_635), j_M_isAhead, ⟨tw_637, tp_55⟩, ⟨TX5, 18, rfl⟩, by decide, rfl⟩
theorem c_M_looks_128 {P : kt_P} {NM : Nat} {L : List (Option Value)} {rest : List Value} {N : Nat} {I : kt_I} {J : kt_J} {R : kt_R} {Q : Option Value → kt_I → kt_J → kt_R → Prop} {b : Nat} {x0 : Int32} {x1 : Int32} (hkd : kt_kd P N b = (5, 0)) (hrest : (rest.map fun v => v.category).sum ≤ 8) (kk : KW P i_M_isAhead N 0 [some (.ref b), some (.int x0), some (.int x1), none] [] N I J R (fun v I' J' R' => KW P i_M_looks NM 131 L (kt_pu v rest) N I' J' R' Q)) : KW P i_M_looks NM 128 L (.int x1 :: .int x0 :: .ref b :: rest) N I J R Q := kw_callV x_M_looks_128 (As := [.int x0, .int x1]) rfl rfl (Nat.le_of_ble_eq_true rfl) hrest hkd (Nat.le_refl N) (fun h => h) kk
theorem x_M_looks_131 : kt_dj i_M_looks 131 (.ifCond .eq) 139 134 := ⟨8, by decide +kernel, by decide, rfl⟩
theorem x_M_looks_134 : kt_dc i_M_looks 134 (.iload 5) 2 136 := ⟨by decide +kernel, rfl⟩
theorem x_M_looks_136 : kt_dj i_M_looks 136 .goto 141 139 := ⟨5, by decide +kernel, by decide, rfl⟩
theorem x_M_looks_139 : kt_dc i_M_looks 139 (.iload 4) 2 141 := ⟨by decide +kernel, rfl⟩
theorem x_M_looks_141 : kt_dc i_M_looks 141 (.istore 4) 2 143 := ⟨by decide +kernel, rfl⟩
theorem x_M_looks_143 : kt_dc i_M_looks 143 (.iinc 5 1) 3 146 ∧ Int32.ofInt (1) = nI 1 := ⟨⟨by decide +kernel, rfl⟩, by decide⟩
theorem x_M_looks_146 : kt_dj i_M_looks 146 .goto 51 149 := ⟨-95, by decide +kernel, by decide, rfl⟩
theorem x_M_looks_149 : kt_dc i_M_looks 149 (.iload 4) 2 151 := ⟨by decide +kernel, rfl⟩
theorem x_M_looks_151 : kt_dj i_M_looks 151 (.ifCond .lt) 39 154 := ⟨-112, by decide +kernel, by decide, rfl⟩
theorem x_M_looks_154 : kt_dc i_M_looks 154 (.aload_n 0) 1 155 := ⟨by decide +kernel, rfl⟩
theorem x_M_looks_155 : kt_dc i_M_looks 155 (.iload 4) 2 157 := ⟨by decide +kernel, rfl⟩
theorem x_M_looks_157 : kt_dc i_M_looks 157 (.iconst 4) 1 158 ∧ Int32.ofInt (4) = nI 4 := ⟨⟨by decide +kernel, rfl⟩, by decide⟩
theorem x_M_looks_158 : kt_sV i_M_looks 158 i_M_of 5 2 161 := ⟨44, ⟨by decide +kernel, rfl⟩, Or.inl (tw_615), j_M_of, ⟨tw_617, tp_50⟩, ⟨TX5, 18, rfl⟩, by decide, rfl⟩
theorem c_M_looks_158 {P : kt_P} {NM : Nat} {L : List (Option Value)} {rest : List Value} {N : Nat} {I : kt_I} {J : kt_J} {R : kt_R} {Q : Option Value → kt_I → kt_J → kt_R → Prop} {b : Nat} {x0 : Int32} {x1 : Int32} (hkd : kt_kd P N b = (5, 0)) (hrest : (rest.map fun v => v.category).sum ≤ 8) (kk : KW P i_M_of N 0 [some (.ref b), some (.int x0), some (.int x1)] [] N I J R (fun v I' J' R' => KW P i_M_looks NM 161 L (kt_pu v rest) N I' J' R' Q)) : KW P i_M_looks NM 158 L (.int x1 :: .int x0 :: .ref b :: rest) N I J R Q := kw_callV x_M_looks_158 (As := [.int x0, .int x1]) rfl rfl (Nat.le_of_ble_eq_true rfl) hrest hkd (Nat.le_refl N) (fun h => h) kk
theorem x_M_looks_161 : kt_dc i_M_looks 161 (.iload_n 3) 1 162 := ⟨by decide +kernel, rfl⟩
theorem x_M_looks_162 : kt_dj i_M_looks 162 (.if_icmp .gt) 169 165 := ⟨7, by decide +kernel, by decide, rfl⟩
theorem x_M_looks_165 : kt_dc i_M_looks 165 (.iconst 1) 1 166 ∧ Int32.ofInt (1) = nI 1 := ⟨⟨by decide +kernel, rfl⟩, by decide⟩
theorem x_M_looks_166 : kt_dj i_M_looks 166 .goto 170 169 := ⟨4, by decide +kernel, by decide, rfl⟩
theorem x_M_looks_169 : kt_dc i_M_looks 169 (.iconst 0) 1 170 ∧ Int32.ofInt (0) = nI 0 := ⟨⟨by decide +kernel, rfl⟩, by decide⟩
theorem x_M_looks_170 : kt_dc i_M_looks 170 (.istore 5) 2 172 := ⟨by decide +kernel, rfl⟩
theorem x_M_looks_172 : kt_dc i_M_looks 172 (.aload_n 0) 1 173 := ⟨by decide +kernel, rfl⟩
theorem x_M_looks_173 : kt_sG i_M_looks 173 5 8 2 176 := ⟨25, RX5, TX5, 18, ⟨by decide +kernel, rfl⟩, rfl, by decide, rfl, by decide, Or.inl (tw_543)⟩
theorem x_M_looks_176 : kt_dc i_M_looks 176 (.iload 4) 2 178 := ⟨by decide +kernel, rfl⟩
theorem x_M_looks_178 : kt_dc i_M_looks 178 (.iload 5) 2 180 := ⟨by decide +kernel, rfl⟩
theorem x_M_looks_180 : kt_dj i_M_looks 180 (.ifCond .eq) 187 183 := ⟨7, by decide +kernel, by decide, rfl⟩
theorem x_M_looks_183 : kt_dc i_M_looks 183 (.iconst 0) 1 184 ∧ Int32.ofInt (0) = nI 0 := ⟨⟨by decide +kernel, rfl⟩, by decide⟩
theorem x_M_looks_184 : kt_dj i_M_looks 184 .goto 188 187 := ⟨4, by decide +kernel, by decide, rfl⟩
theorem x_M_looks_187 : kt_dc i_M_looks 187 (.iconst 1) 1 188 ∧ Int32.ofInt (1) = nI 1 := ⟨⟨by decide +kernel, rfl⟩, by decide⟩
theorem x_M_looks_188 : kt_dc i_M_looks 188 (.iastore) 1 189 := ⟨by decide +kernel, rfl⟩
theorem x_M_looks_189 : kt_dc i_M_looks 189 (.iload_n 3) 1 190 := ⟨by decide +kernel, rfl⟩
theorem x_M_looks_190 : kt_dc i_M_looks 190 (.iload 5) 2 192 := ⟨by decide +kernel, rfl⟩
theorem x_M_looks_192 : kt_dj i_M_looks 192 (.ifCond .eq) 205 195 := ⟨13, by decide +kernel, by decide, rfl⟩
theorem x_M_looks_195 : kt_dc i_M_looks 195 (.aload_n 0) 1 196 := ⟨by decide +kernel, rfl⟩
theorem x_M_looks_196 : kt_dc i_M_looks 196 (.iload 4) 2 198 := ⟨by decide +kernel, rfl⟩
theorem x_M_looks_198 : kt_dc i_M_looks 198 (.iconst 4) 1 199 ∧ Int32.ofInt (4) = nI 4 := ⟨⟨by decide +kernel, rfl⟩, by decide⟩
theorem x_M_looks_199 : kt_sV i_M_looks 199 i_M_of 5 2 202 := ⟨44, ⟨by decide +kernel, rfl⟩, Or.inl (tw_615), j_M_of, ⟨tw_617, tp_50⟩, ⟨TX5, 18, rfl⟩, by decide, rfl⟩
theorem c_M_looks_199 {P : kt_P} {NM : Nat} {L : List (Option Value)} {rest : List Value} {N : Nat} {I : kt_I} {J : kt_J} {R : kt_R} {Q : Option Value → kt_I → kt_J → kt_R → Prop} {b : Nat} {x0 : Int32} {x1 : Int32} (hkd : kt_kd P N b = (5, 0)) (hrest : (rest.map fun v => v.category).sum ≤ 8) (kk : KW P i_M_of N 0 [some (.ref b), some (.int x0), some (.int x1)] [] N I J R (fun v I' J' R' => KW P i_M_looks NM 202 L (kt_pu v rest) N I' J' R' Q)) : KW P i_M_looks NM 199 L (.int x1 :: .int x0 :: .ref b :: rest) N I J R Q := kw_callV x_M_looks_199 (As := [.int x0, .int x1]) rfl rfl (Nat.le_of_ble_eq_true rfl) hrest hkd (Nat.le_refl N) (fun h => h) kk
theorem x_M_looks_202 : kt_dj i_M_looks 202 .goto 206 205 := ⟨4, by decide +kernel, by decide, rfl⟩
theorem x_M_looks_205 : kt_dc i_M_looks 205 (.iconst 0) 1 206 ∧ Int32.ofInt (0) = nI 0 := ⟨⟨by decide +kernel, rfl⟩, by decide⟩
theorem x_M_looks_206 : kt_dc i_M_looks 206 (.isub) 1 207 := ⟨by decide +kernel, rfl⟩
theorem x_M_looks_207 : kt_dc i_M_looks 207 (.istore_n 3) 1 208 := ⟨by decide +kernel, rfl⟩
theorem x_M_looks_208 : kt_dc i_M_looks 208 (.aload_n 0) 1 209 := ⟨by decide +kernel, rfl⟩
theorem x_M_looks_209 : kt_sG i_M_looks 209 5 11 2 212 := ⟨31, RX5, TX5, 18, ⟨by decide +kernel, rfl⟩, rfl, by decide, rfl, by decide, Or.inl (tw_546)⟩
theorem x_M_looks_212 : kt_dc i_M_looks 212 (.aload_n 0) 1 213 := ⟨by decide +kernel, rfl⟩
theorem x_M_looks_213 : kt_dc i_M_looks 213 (.iload 4) 2 215 := ⟨by decide +kernel, rfl⟩
theorem x_M_looks_215 : kt_dc i_M_looks 215 (.iconst 5) 1 216 ∧ Int32.ofInt (5) = nI 5 := ⟨⟨by decide +kernel, rfl⟩, by decide⟩
theorem x_M_looks_216 : kt_sV i_M_looks 216 i_M_of 5 2 219 := ⟨44, ⟨by decide +kernel, rfl⟩, Or.inl (tw_615), j_M_of, ⟨tw_617, tp_50⟩, ⟨TX5, 18, rfl⟩, by decide, rfl⟩
theorem c_M_looks_216 {P : kt_P} {NM : Nat} {L : List (Option Value)} {rest : List Value} {N : Nat} {I : kt_I} {J : kt_J} {R : kt_R} {Q : Option Value → kt_I → kt_J → kt_R → Prop} {b : Nat} {x0 : Int32} {x1 : Int32} (hkd : kt_kd P N b = (5, 0)) (hrest : (rest.map fun v => v.category).sum ≤ 8) (kk : KW P i_M_of N 0 [some (.ref b), some (.int x0), some (.int x1)] [] N I J R (fun v I' J' R' => KW P i_M_looks NM 219 L (kt_pu v rest) N I' J' R' Q)) : KW P i_M_looks NM 216 L (.int x1 :: .int x0 :: .ref b :: rest) N I J R Q := kw_callV x_M_looks_216 (As := [.int x0, .int x1]) rfl rfl (Nat.le_of_ble_eq_true rfl) hrest hkd (Nat.le_refl N) (fun h => h) kk
theorem x_M_looks_219 : kt_dc i_M_looks 219 (.dup2) 1 220 := ⟨by decide +kernel, rfl⟩
theorem x_M_looks_220 : kt_dc i_M_looks 220 (.iaload) 1 221 := ⟨by decide +kernel, rfl⟩
theorem x_M_looks_221 : kt_dc i_M_looks 221 (.iload 5) 2 223 := ⟨by decide +kernel, rfl⟩
theorem x_M_looks_223 : kt_dj i_M_looks 223 (.ifCond .eq) 236 226 := ⟨13, by decide +kernel, by decide, rfl⟩
theorem x_M_looks_226 : kt_dc i_M_looks 226 (.aload_n 0) 1 227 := ⟨by decide +kernel, rfl⟩
theorem x_M_looks_227 : kt_dc i_M_looks 227 (.iload 4) 2 229 := ⟨by decide +kernel, rfl⟩
theorem x_M_looks_229 : kt_dc i_M_looks 229 (.iconst 4) 1 230 ∧ Int32.ofInt (4) = nI 4 := ⟨⟨by decide +kernel, rfl⟩, by decide⟩
theorem x_M_looks_230 : kt_sV i_M_looks 230 i_M_of 5 2 233 := ⟨44, ⟨by decide +kernel, rfl⟩, Or.inl (tw_615), j_M_of, ⟨tw_617, tp_50⟩, ⟨TX5, 18, rfl⟩, by decide, rfl⟩
theorem c_M_looks_230 {P : kt_P} {NM : Nat} {L : List (Option Value)} {rest : List Value} {N : Nat} {I : kt_I} {J : kt_J} {R : kt_R} {Q : Option Value → kt_I → kt_J → kt_R → Prop} {b : Nat} {x0 : Int32} {x1 : Int32} (hkd : kt_kd P N b = (5, 0)) (hrest : (rest.map fun v => v.category).sum ≤ 8) (kk : KW P i_M_of N 0 [some (.ref b), some (.int x0), some (.int x1)] [] N I J R (fun v I' J' R' => KW P i_M_looks NM 233 L (kt_pu v rest) N I' J' R' Q)) : KW P i_M_looks NM 230 L (.int x1 :: .int x0 :: .ref b :: rest) N I J R Q := kw_callV x_M_looks_230 (As := [.int x0, .int x1]) rfl rfl (Nat.le_of_ble_eq_true rfl) hrest hkd (Nat.le_refl N) (fun h => h) kk
theorem x_M_looks_233 : kt_dj i_M_looks 233 .goto 237 236 := ⟨4, by decide +kernel, by decide, rfl⟩
theorem x_M_looks_236 : kt_dc i_M_looks 236 (.iconst 0) 1 237 ∧ Int32.ofInt (0) = nI 0 := ⟨⟨by decide +kernel, rfl⟩, by decide⟩
theorem x_M_looks_237 : kt_dc i_M_looks 237 (.iadd) 1 238 := ⟨by decide +kernel, rfl⟩
theorem x_M_looks_238 : kt_dc i_M_looks 238 (.iastore) 1 239 := ⟨by decide +kernel, rfl⟩
theorem x_M_looks_239 : kt_dc i_M_looks 239 (.aload_n 0) 1 240 := ⟨by decide +kernel, rfl⟩
theorem x_M_looks_240 : kt_sG i_M_looks 240 5 9 2 243 := ⟨28, RX5, TX5, 18, ⟨by decide +kernel, rfl⟩, rfl, by decide, rfl, by decide, Or.inl (tw_544)⟩
theorem x_M_looks_243 : kt_dc i_M_looks 243 (.aload_n 0) 1 244 := ⟨by decide +kernel, rfl⟩
theorem x_M_looks_244 : kt_sG i_M_looks 244 5 10 0 247 := ⟨58, RX5, TX5, 18, ⟨by decide +kernel, rfl⟩, rfl, by decide, rfl, by decide, Or.inl (tw_545)⟩
theorem x_M_looks_247 : kt_dc i_M_looks 247 (.iload 4) 2 249 := ⟨by decide +kernel, rfl⟩
theorem x_M_looks_249 : kt_dc i_M_looks 249 (.iastore) 1 250 := ⟨by decide +kernel, rfl⟩
theorem x_M_looks_250 : kt_dc i_M_looks 250 (.aload_n 0) 1 251 := ⟨by decide +kernel, rfl⟩
theorem x_M_looks_251 : kt_dc i_M_looks 251 (.dup) 1 252 := ⟨by decide +kernel, rfl⟩
theorem x_M_looks_252 : kt_sG i_M_looks 252 5 10 0 255 := ⟨58, RX5, TX5, 18, ⟨by decide +kernel, rfl⟩, rfl, by decide, rfl, by decide, Or.inl (tw_545)⟩
theorem x_M_looks_255 : kt_dc i_M_looks 255 (.iconst 1) 1 256 ∧ Int32.ofInt (1) = nI 1 := ⟨⟨by decide +kernel, rfl⟩, by decide⟩
theorem x_M_looks_256 : kt_dc i_M_looks 256 (.iadd) 1 257 := ⟨by decide +kernel, rfl⟩
theorem x_M_looks_257 : kt_sP i_M_looks 257 5 10 0 260 := ⟨58, RX5, TX5, 18, tyX5 10, ⟨by decide +kernel, rfl⟩, rfl, by decide, rfl, by decide, by decide +kernel, rfl, Or.inl ⟨rfl, Or.inl (tw_545)⟩⟩
theorem x_M_looks_260 : kt_dj i_M_looks 260 .goto 39 263 := ⟨-221, by decide +kernel, by decide, rfl⟩
theorem x_M_looks_263 : kt_dc i_M_looks 263 (.return_) 1 264 ∧ kt_rt i_M_looks = none := ⟨⟨by decide +kernel, rfl⟩, rfl⟩
theorem x_M_stock_0 : kt_dc i_M_stock 0 (.iconst 0) 1 1 ∧ Int32.ofInt (0) = nI 0 := ⟨⟨by decide +kernel, rfl⟩, by decide⟩
theorem x_M_stock_1 : kt_dc i_M_stock 1 (.istore_n 3) 1 2 := ⟨by decide +kernel, rfl⟩
theorem x_M_stock_2 : kt_dc i_M_stock 2 (.iconst 0) 1 3 ∧ Int32.ofInt (0) = nI 0 := ⟨⟨by decide +kernel, rfl⟩, by decide⟩
theorem x_M_stock_3 : kt_dc i_M_stock 3 (.istore 4) 2 5 := ⟨by decide +kernel, rfl⟩
theorem x_M_stock_5 : kt_dc i_M_stock 5 (.iload 4) 2 7 := ⟨by decide +kernel, rfl⟩
theorem x_M_stock_7 : kt_dc i_M_stock 7 (.aload_n 0) 1 8 := ⟨by decide +kernel, rfl⟩
theorem x_M_stock_8 : kt_sG i_M_stock 8 5 0 2 11 := ⟨7, RX5, TX5, 18, ⟨by decide +kernel, rfl⟩, rfl, by decide, rfl, by decide, Or.inl (tw_535)⟩
theorem x_M_stock_11 : kt_dc i_M_stock 11 (.iconst 2) 1 12 ∧ Int32.ofInt (2) = nI 2 := ⟨⟨by decide +kernel, rfl⟩, by decide⟩
theorem x_M_stock_12 : kt_dc i_M_stock 12 (.iaload) 1 13 := ⟨by decide +kernel, rfl⟩
theorem x_M_stock_13 : kt_dj i_M_stock 13 (.if_icmp .ge) 67 16 := ⟨54, by decide +kernel, by decide, rfl⟩
theorem x_M_stock_16 : kt_dc i_M_stock 16 (.iload_n 3) 1 17 := ⟨by decide +kernel, rfl⟩
theorem x_M_stock_17 : kt_dc i_M_stock 17 (.aload_n 0) 1 18 := ⟨by decide +kernel, rfl⟩
theorem x_M_stock_18 : kt_dc i_M_stock 18 (.iload 4) 2 20 := ⟨by decide +kernel, rfl⟩
theorem x_M_stock_20 : kt_dc i_M_stock 20 (.iconst 0) 1 21 ∧ Int32.ofInt (0) = nI 0 := ⟨⟨by decide +kernel, rfl⟩, by decide⟩
theorem x_M_stock_21 : kt_sV i_M_stock 21 i_M_of 5 2 24 := ⟨44, ⟨by decide +kernel, rfl⟩, Or.inl (tw_615), j_M_of, ⟨tw_617, tp_50⟩, ⟨TX5, 18, rfl⟩, by decide, rfl⟩
theorem c_M_stock_21 {P : kt_P} {NM : Nat} {L : List (Option Value)} {rest : List Value} {N : Nat} {I : kt_I} {J : kt_J} {R : kt_R} {Q : Option Value → kt_I → kt_J → kt_R → Prop} {b : Nat} {x0 : Int32} {x1 : Int32} (hkd : kt_kd P N b = (5, 0)) (hrest : (rest.map fun v => v.category).sum ≤ 8) (kk : KW P i_M_of N 0 [some (.ref b), some (.int x0), some (.int x1)] [] N I J R (fun v I' J' R' => KW P i_M_stock NM 24 L (kt_pu v rest) N I' J' R' Q)) : KW P i_M_stock NM 21 L (.int x1 :: .int x0 :: .ref b :: rest) N I J R Q := kw_callV x_M_stock_21 (As := [.int x0, .int x1]) rfl rfl (Nat.le_of_ble_eq_true rfl) hrest hkd (Nat.le_refl N) (fun h => h) kk
theorem x_M_stock_24 : kt_dj i_M_stock 24 (.ifCond .ne) 58 27 := ⟨34, by decide +kernel, by decide, rfl⟩
theorem x_M_stock_27 : kt_dc i_M_stock 27 (.aload_n 0) 1 28 := ⟨by decide +kernel, rfl⟩
theorem x_M_stock_28 : kt_dc i_M_stock 28 (.iload 4) 2 30 := ⟨by decide +kernel, rfl⟩
theorem x_M_stock_30 : kt_dc i_M_stock 30 (.iconst 3) 1 31 ∧ Int32.ofInt (3) = nI 3 := ⟨⟨by decide +kernel, rfl⟩, by decide⟩
theorem x_M_stock_31 : kt_sV i_M_stock 31 i_M_of 5 2 34 := ⟨44, ⟨by decide +kernel, rfl⟩, Or.inl (tw_615), j_M_of, ⟨tw_617, tp_50⟩, ⟨TX5, 18, rfl⟩, by decide, rfl⟩
theorem c_M_stock_31 {P : kt_P} {NM : Nat} {L : List (Option Value)} {rest : List Value} {N : Nat} {I : kt_I} {J : kt_J} {R : kt_R} {Q : Option Value → kt_I → kt_J → kt_R → Prop} {b : Nat} {x0 : Int32} {x1 : Int32} (hkd : kt_kd P N b = (5, 0)) (hrest : (rest.map fun v => v.category).sum ≤ 8) (kk : KW P i_M_of N 0 [some (.ref b), some (.int x0), some (.int x1)] [] N I J R (fun v I' J' R' => KW P i_M_stock NM 34 L (kt_pu v rest) N I' J' R' Q)) : KW P i_M_stock NM 31 L (.int x1 :: .int x0 :: .ref b :: rest) N I J R Q := kw_callV x_M_stock_31 (As := [.int x0, .int x1]) rfl rfl (Nat.le_of_ble_eq_true rfl) hrest hkd (Nat.le_refl N) (fun h => h) kk
theorem x_M_stock_34 : kt_dc i_M_stock 34 (.iload_n 2) 1 35 := ⟨by decide +kernel, rfl⟩
theorem x_M_stock_35 : kt_dj i_M_stock 35 (.if_icmp .ne) 58 38 := ⟨23, by decide +kernel, by decide, rfl⟩
theorem x_M_stock_38 : kt_dc i_M_stock 38 (.aload_n 0) 1 39 := ⟨by decide +kernel, rfl⟩
theorem x_M_stock_39 : kt_dc i_M_stock 39 (.iload_n 1) 1 40 := ⟨by decide +kernel, rfl⟩
theorem x_M_stock_40 : kt_dc i_M_stock 40 (.iload 4) 2 42 := ⟨by decide +kernel, rfl⟩
theorem x_M_stock_42 : kt_sV i_M_stock 42 i_M_knows 5 2 45 := ⟨48, ⟨by decide +kernel, rfl⟩, Or.inl (tw_619), j_M_knows, ⟨tw_621, tp_51⟩, ⟨TX5, 18, rfl⟩, by decide, rfl⟩
theorem c_M_stock_42 {P : kt_P} {NM : Nat} {L : List (Option Value)} {rest : List Value} {N : Nat} {I : kt_I} {J : kt_J} {R : kt_R} {Q : Option Value → kt_I → kt_J → kt_R → Prop} {b : Nat} {x0 : Int32} {x1 : Int32} (hkd : kt_kd P N b = (5, 0)) (hrest : (rest.map fun v => v.category).sum ≤ 8) (kk : KW P i_M_knows N 0 [some (.ref b), some (.int x0), some (.int x1)] [] N I J R (fun v I' J' R' => KW P i_M_stock NM 45 L (kt_pu v rest) N I' J' R' Q)) : KW P i_M_stock NM 42 L (.int x1 :: .int x0 :: .ref b :: rest) N I J R Q := kw_callV x_M_stock_42 (As := [.int x0, .int x1]) rfl rfl (Nat.le_of_ble_eq_true rfl) hrest hkd (Nat.le_refl N) (fun h => h) kk
theorem x_M_stock_45 : kt_dj i_M_stock 45 (.ifCond .eq) 58 48 := ⟨13, by decide +kernel, by decide, rfl⟩
theorem x_M_stock_48 : kt_dc i_M_stock 48 (.aload_n 0) 1 49 := ⟨by decide +kernel, rfl⟩
theorem x_M_stock_49 : kt_dc i_M_stock 49 (.iload 4) 2 51 := ⟨by decide +kernel, rfl⟩
theorem x_M_stock_51 : kt_dc i_M_stock 51 (.iconst 4) 1 52 ∧ Int32.ofInt (4) = nI 4 := ⟨⟨by decide +kernel, rfl⟩, by decide⟩
theorem x_M_stock_52 : kt_sV i_M_stock 52 i_M_of 5 2 55 := ⟨44, ⟨by decide +kernel, rfl⟩, Or.inl (tw_615), j_M_of, ⟨tw_617, tp_50⟩, ⟨TX5, 18, rfl⟩, by decide, rfl⟩
theorem c_M_stock_52 {P : kt_P} {NM : Nat} {L : List (Option Value)} {rest : List Value} {N : Nat} {I : kt_I} {J : kt_J} {R : kt_R} {Q : Option Value → kt_I → kt_J → kt_R → Prop} {b : Nat} {x0 : Int32} {x1 : Int32} (hkd : kt_kd P N b = (5, 0)) (hrest : (rest.map fun v => v.category).sum ≤ 8) (kk : KW P i_M_of N 0 [some (.ref b), some (.int x0), some (.int x1)] [] N I J R (fun v I' J' R' => KW P i_M_stock NM 55 L (kt_pu v rest) N I' J' R' Q)) : KW P i_M_stock NM 52 L (.int x1 :: .int x0 :: .ref b :: rest) N I J R Q := kw_callV x_M_stock_52 (As := [.int x0, .int x1]) rfl rfl (Nat.le_of_ble_eq_true rfl) hrest hkd (Nat.le_refl N) (fun h => h) kk
theorem x_M_stock_55 : kt_dj i_M_stock 55 .goto 59 58 := ⟨4, by decide +kernel, by decide, rfl⟩
theorem x_M_stock_58 : kt_dc i_M_stock 58 (.iconst 0) 1 59 ∧ Int32.ofInt (0) = nI 0 := ⟨⟨by decide +kernel, rfl⟩, by decide⟩
theorem x_M_stock_59 : kt_dc i_M_stock 59 (.iadd) 1 60 := ⟨by decide +kernel, rfl⟩
theorem x_M_stock_60 : kt_dc i_M_stock 60 (.istore_n 3) 1 61 := ⟨by decide +kernel, rfl⟩
theorem x_M_stock_61 : kt_dc i_M_stock 61 (.iinc 4 1) 3 64 ∧ Int32.ofInt (1) = nI 1 := ⟨⟨by decide +kernel, rfl⟩, by decide⟩
theorem x_M_stock_64 : kt_dj i_M_stock 64 .goto 5 67 := ⟨-59, by decide +kernel, by decide, rfl⟩
theorem x_M_stock_67 : kt_dc i_M_stock 67 (.iload_n 3) 1 68 := ⟨by decide +kernel, rfl⟩
theorem x_M_stock_68 : kt_dc i_M_stock 68 (.ireturn) 1 69 ∧ kt_rt i_M_stock = (some .int) := ⟨⟨by decide +kernel, rfl⟩, rfl⟩
theorem x_M_isAhead_0 : kt_dc i_M_isAhead 0 (.aload_n 0) 1 1 := ⟨by decide +kernel, rfl⟩
theorem x_M_isAhead_1 : kt_sG i_M_isAhead 1 5 0 2 4 := ⟨7, RX5, TX5, 18, ⟨by decide +kernel, rfl⟩, rfl, by decide, rfl, by decide, Or.inl (tw_535)⟩
theorem x_M_isAhead_4 : kt_dc i_M_isAhead 4 (.iconst 0) 1 5 ∧ Int32.ofInt (0) = nI 0 := ⟨⟨by decide +kernel, rfl⟩, by decide⟩
theorem x_M_isAhead_5 : kt_dc i_M_isAhead 5 (.iaload) 1 6 := ⟨by decide +kernel, rfl⟩
theorem x_M_isAhead_6 : kt_dj i_M_isAhead 6 (.ifCond .ne) 13 9 := ⟨7, by decide +kernel, by decide, rfl⟩
theorem x_M_isAhead_9 : kt_dc i_M_isAhead 9 (.iconst 0) 1 10 ∧ Int32.ofInt (0) = nI 0 := ⟨⟨by decide +kernel, rfl⟩, by decide⟩
theorem x_M_isAhead_10 : kt_dj i_M_isAhead 10 .goto 62 13 := ⟨52, by decide +kernel, by decide, rfl⟩
theorem x_M_isAhead_13 : kt_dc i_M_isAhead 13 (.aload_n 0) 1 14 := ⟨by decide +kernel, rfl⟩
theorem x_M_isAhead_14 : kt_sG i_M_isAhead 14 5 0 2 17 := ⟨7, RX5, TX5, 18, ⟨by decide +kernel, rfl⟩, rfl, by decide, rfl, by decide, Or.inl (tw_535)⟩
theorem x_M_isAhead_17 : kt_dc i_M_isAhead 17 (.iconst 0) 1 18 ∧ Int32.ofInt (0) = nI 0 := ⟨⟨by decide +kernel, rfl⟩, by decide⟩
theorem x_M_isAhead_18 : kt_dc i_M_isAhead 18 (.iaload) 1 19 := ⟨by decide +kernel, rfl⟩
theorem x_M_isAhead_19 : kt_dc i_M_isAhead 19 (.iconst 1) 1 20 ∧ Int32.ofInt (1) = nI 1 := ⟨⟨by decide +kernel, rfl⟩, by decide⟩
theorem x_M_isAhead_20 : kt_dj i_M_isAhead 20 (.if_icmp .ne) 39 23 := ⟨19, by decide +kernel, by decide, rfl⟩
theorem x_M_isAhead_23 : kt_dc i_M_isAhead 23 (.aload_n 0) 1 24 := ⟨by decide +kernel, rfl⟩
theorem x_M_isAhead_24 : kt_dc i_M_isAhead 24 (.iload_n 1) 1 25 := ⟨by decide +kernel, rfl⟩
theorem x_M_isAhead_25 : kt_dc i_M_isAhead 25 (.iconst 4) 1 26 ∧ Int32.ofInt (4) = nI 4 := ⟨⟨by decide +kernel, rfl⟩, by decide⟩
theorem x_M_isAhead_26 : kt_sV i_M_isAhead 26 i_M_of 5 2 29 := ⟨44, ⟨by decide +kernel, rfl⟩, Or.inl (tw_615), j_M_of, ⟨tw_617, tp_50⟩, ⟨TX5, 18, rfl⟩, by decide, rfl⟩
theorem c_M_isAhead_26 {P : kt_P} {NM : Nat} {L : List (Option Value)} {rest : List Value} {N : Nat} {I : kt_I} {J : kt_J} {R : kt_R} {Q : Option Value → kt_I → kt_J → kt_R → Prop} {b : Nat} {x0 : Int32} {x1 : Int32} (hkd : kt_kd P N b = (5, 0)) (hrest : (rest.map fun v => v.category).sum ≤ 8) (kk : KW P i_M_of N 0 [some (.ref b), some (.int x0), some (.int x1)] [] N I J R (fun v I' J' R' => KW P i_M_isAhead NM 29 L (kt_pu v rest) N I' J' R' Q)) : KW P i_M_isAhead NM 26 L (.int x1 :: .int x0 :: .ref b :: rest) N I J R Q := kw_callV x_M_isAhead_26 (As := [.int x0, .int x1]) rfl rfl (Nat.le_of_ble_eq_true rfl) hrest hkd (Nat.le_refl N) (fun h => h) kk
theorem x_M_isAhead_29 : kt_dc i_M_isAhead 29 (.aload_n 0) 1 30 := ⟨by decide +kernel, rfl⟩
theorem x_M_isAhead_30 : kt_dc i_M_isAhead 30 (.iload_n 2) 1 31 := ⟨by decide +kernel, rfl⟩
theorem x_M_isAhead_31 : kt_dc i_M_isAhead 31 (.iconst 4) 1 32 ∧ Int32.ofInt (4) = nI 4 := ⟨⟨by decide +kernel, rfl⟩, by decide⟩
theorem x_M_isAhead_32 : kt_sV i_M_isAhead 32 i_M_of 5 2 35 := ⟨44, ⟨by decide +kernel, rfl⟩, Or.inl (tw_615), j_M_of, ⟨tw_617, tp_50⟩, ⟨TX5, 18, rfl⟩, by decide, rfl⟩
theorem c_M_isAhead_32 {P : kt_P} {NM : Nat} {L : List (Option Value)} {rest : List Value} {N : Nat} {I : kt_I} {J : kt_J} {R : kt_R} {Q : Option Value → kt_I → kt_J → kt_R → Prop} {b : Nat} {x0 : Int32} {x1 : Int32} (hkd : kt_kd P N b = (5, 0)) (hrest : (rest.map fun v => v.category).sum ≤ 8) (kk : KW P i_M_of N 0 [some (.ref b), some (.int x0), some (.int x1)] [] N I J R (fun v I' J' R' => KW P i_M_isAhead NM 35 L (kt_pu v rest) N I' J' R' Q)) : KW P i_M_isAhead NM 32 L (.int x1 :: .int x0 :: .ref b :: rest) N I J R Q := kw_callV x_M_isAhead_32 (As := [.int x0, .int x1]) rfl rfl (Nat.le_of_ble_eq_true rfl) hrest hkd (Nat.le_refl N) (fun h => h) kk
theorem x_M_isAhead_35 : kt_dc i_M_isAhead 35 (.isub) 1 36 := ⟨by decide +kernel, rfl⟩
theorem x_M_isAhead_36 : kt_dj i_M_isAhead 36 .goto 62 39 := ⟨26, by decide +kernel, by decide, rfl⟩
theorem x_M_isAhead_39 : kt_dc i_M_isAhead 39 (.aload_n 0) 1 40 := ⟨by decide +kernel, rfl⟩
theorem x_M_isAhead_40 : kt_sG i_M_isAhead 40 5 11 2 43 := ⟨31, RX5, TX5, 18, ⟨by decide +kernel, rfl⟩, rfl, by decide, rfl, by decide, Or.inl (tw_546)⟩
theorem x_M_isAhead_43 : kt_dc i_M_isAhead 43 (.aload_n 0) 1 44 := ⟨by decide +kernel, rfl⟩
theorem x_M_isAhead_44 : kt_dc i_M_isAhead 44 (.iload_n 1) 1 45 := ⟨by decide +kernel, rfl⟩
theorem x_M_isAhead_45 : kt_dc i_M_isAhead 45 (.iconst 5) 1 46 ∧ Int32.ofInt (5) = nI 5 := ⟨⟨by decide +kernel, rfl⟩, by decide⟩
theorem x_M_isAhead_46 : kt_sV i_M_isAhead 46 i_M_of 5 2 49 := ⟨44, ⟨by decide +kernel, rfl⟩, Or.inl (tw_615), j_M_of, ⟨tw_617, tp_50⟩, ⟨TX5, 18, rfl⟩, by decide, rfl⟩
theorem c_M_isAhead_46 {P : kt_P} {NM : Nat} {L : List (Option Value)} {rest : List Value} {N : Nat} {I : kt_I} {J : kt_J} {R : kt_R} {Q : Option Value → kt_I → kt_J → kt_R → Prop} {b : Nat} {x0 : Int32} {x1 : Int32} (hkd : kt_kd P N b = (5, 0)) (hrest : (rest.map fun v => v.category).sum ≤ 8) (kk : KW P i_M_of N 0 [some (.ref b), some (.int x0), some (.int x1)] [] N I J R (fun v I' J' R' => KW P i_M_isAhead NM 49 L (kt_pu v rest) N I' J' R' Q)) : KW P i_M_isAhead NM 46 L (.int x1 :: .int x0 :: .ref b :: rest) N I J R Q := kw_callV x_M_isAhead_46 (As := [.int x0, .int x1]) rfl rfl (Nat.le_of_ble_eq_true rfl) hrest hkd (Nat.le_refl N) (fun h => h) kk
theorem x_M_isAhead_49 : kt_dc i_M_isAhead 49 (.iaload) 1 50 := ⟨by decide +kernel, rfl⟩
theorem x_M_isAhead_50 : kt_dc i_M_isAhead 50 (.aload_n 0) 1 51 := ⟨by decide +kernel, rfl⟩
theorem x_M_isAhead_51 : kt_sG i_M_isAhead 51 5 11 2 54 := ⟨31, RX5, TX5, 18, ⟨by decide +kernel, rfl⟩, rfl, by decide, rfl, by decide, Or.inl (tw_546)⟩
theorem x_M_isAhead_54 : kt_dc i_M_isAhead 54 (.aload_n 0) 1 55 := ⟨by decide +kernel, rfl⟩
theorem x_M_isAhead_55 : kt_dc i_M_isAhead 55 (.iload_n 2) 1 56 := ⟨by decide +kernel, rfl⟩
theorem x_M_isAhead_56 : kt_dc i_M_isAhead 56 (.iconst 5) 1 57 ∧ Int32.ofInt (5) = nI 5 := ⟨⟨by decide +kernel, rfl⟩, by decide⟩
theorem x_M_isAhead_57 : kt_sV i_M_isAhead 57 i_M_of 5 2 60 := ⟨44, ⟨by decide +kernel, rfl⟩, Or.inl (tw_615), j_M_of, ⟨tw_617, tp_50⟩, ⟨TX5, 18, rfl⟩, by decide, rfl⟩
theorem c_M_isAhead_57 {P : kt_P} {NM : Nat} {L : List (Option Value)} {rest : List Value} {N : Nat} {I : kt_I} {J : kt_J} {R : kt_R} {Q : Option Value → kt_I → kt_J → kt_R → Prop} {b : Nat} {x0 : Int32} {x1 : Int32} (hkd : kt_kd P N b = (5, 0)) (hrest : (rest.map fun v => v.category).sum ≤ 8) (kk : KW P i_M_of N 0 [some (.ref b), some (.int x0), some (.int x1)] [] N I J R (fun v I' J' R' => KW P i_M_isAhead NM 60 L (kt_pu v rest) N I' J' R' Q)) : KW P i_M_isAhead NM 57 L (.int x1 :: .int x0 :: .ref b :: rest) N I J R Q := kw_callV x_M_isAhead_57 (As := [.int x0, .int x1]) rfl rfl (Nat.le_of_ble_eq_true rfl) hrest hkd (Nat.le_refl N) (fun h => h) kk
theorem x_M_isAhead_60 : kt_dc i_M_isAhead 60 (.iaload) 1 61 := ⟨by decide +kernel, rfl⟩
theorem x_M_isAhead_61 : kt_dc i_M_isAhead 61 (.isub) 1 62 := ⟨by decide +kernel, rfl⟩
theorem x_M_isAhead_62 : kt_dc i_M_isAhead 62 (.istore_n 3) 1 63 := ⟨by decide +kernel, rfl⟩
theorem x_M_isAhead_63 : kt_dc i_M_isAhead 63 (.iload_n 3) 1 64 := ⟨by decide +kernel, rfl⟩
theorem x_M_isAhead_64 : kt_dj i_M_isAhead 64 (.ifCond .lt) 80 67 := ⟨16, by decide +kernel, by decide, rfl⟩
theorem x_M_isAhead_67 : kt_dc i_M_isAhead 67 (.iload_n 3) 1 68 := ⟨by decide +kernel, rfl⟩
theorem x_M_isAhead_68 : kt_dj i_M_isAhead 68 (.ifCond .ne) 84 71 := ⟨16, by decide +kernel, by decide, rfl⟩
theorem x_M_isAhead_71 : kt_dc i_M_isAhead 71 (.aload_n 0) 1 72 := ⟨by decide +kernel, rfl⟩
theorem x_M_isAhead_72 : kt_dc i_M_isAhead 72 (.iload_n 1) 1 73 := ⟨by decide +kernel, rfl⟩
theorem x_M_isAhead_73 : kt_dc i_M_isAhead 73 (.iload_n 2) 1 74 := ⟨by decide +kernel, rfl⟩
theorem x_M_isAhead_74 : kt_sV i_M_isAhead 74 i_M_isEarlier 5 2 77 := ⟨52, ⟨by decide +kernel, rfl⟩, Or.inl (tw_639), j_M_isEarlier, ⟨tw_641, tp_56⟩, ⟨TX5, 18, rfl⟩, by decide, rfl⟩
theorem c_M_isAhead_74 {P : kt_P} {NM : Nat} {L : List (Option Value)} {rest : List Value} {N : Nat} {I : kt_I} {J : kt_J} {R : kt_R} {Q : Option Value → kt_I → kt_J → kt_R → Prop} {b : Nat} {x0 : Int32} {x1 : Int32} (hkd : kt_kd P N b = (5, 0)) (hrest : (rest.map fun v => v.category).sum ≤ 8) (kk : KW P i_M_isEarlier N 0 [some (.ref b), some (.int x0), some (.int x1), none] [] N I J R (fun v I' J' R' => KW P i_M_isAhead NM 77 L (kt_pu v rest) N I' J' R' Q)) : KW P i_M_isAhead NM 74 L (.int x1 :: .int x0 :: .ref b :: rest) N I J R Q := kw_callV x_M_isAhead_74 (As := [.int x0, .int x1]) rfl rfl (Nat.le_of_ble_eq_true rfl) hrest hkd (Nat.le_refl N) (fun h => h) kk
theorem x_M_isAhead_77 : kt_dj i_M_isAhead 77 (.ifCond .eq) 84 80 := ⟨7, by decide +kernel, by decide, rfl⟩
theorem x_M_isAhead_80 : kt_dc i_M_isAhead 80 (.iconst 1) 1 81 ∧ Int32.ofInt (1) = nI 1 := ⟨⟨by decide +kernel, rfl⟩, by decide⟩
theorem x_M_isAhead_81 : kt_dj i_M_isAhead 81 .goto 85 84 := ⟨4, by decide +kernel, by decide, rfl⟩
theorem x_M_isAhead_84 : kt_dc i_M_isAhead 84 (.iconst 0) 1 85 ∧ Int32.ofInt (0) = nI 0 := ⟨⟨by decide +kernel, rfl⟩, by decide⟩
theorem x_M_isAhead_85 : kt_dc i_M_isAhead 85 (.ireturn) 1 86 ∧ kt_rt i_M_isAhead = (some .boolean) := ⟨⟨by decide +kernel, rfl⟩, rfl⟩
theorem x_M_isEarlier_0 : kt_dc i_M_isEarlier 0 (.aload_n 0) 1 1 := ⟨by decide +kernel, rfl⟩
theorem x_M_isEarlier_1 : kt_dc i_M_isEarlier 1 (.iload_n 1) 1 2 := ⟨by decide +kernel, rfl⟩
theorem x_M_isEarlier_2 : kt_dc i_M_isEarlier 2 (.iconst 2) 1 3 ∧ Int32.ofInt (2) = nI 2 := ⟨⟨by decide +kernel, rfl⟩, by decide⟩
theorem x_M_isEarlier_3 : kt_sV i_M_isEarlier 3 i_M_of 5 2 6 := ⟨44, ⟨by decide +kernel, rfl⟩, Or.inl (tw_615), j_M_of, ⟨tw_617, tp_50⟩, ⟨TX5, 18, rfl⟩, by decide, rfl⟩
theorem c_M_isEarlier_3 {P : kt_P} {NM : Nat} {L : List (Option Value)} {rest : List Value} {N : Nat} {I : kt_I} {J : kt_J} {R : kt_R} {Q : Option Value → kt_I → kt_J → kt_R → Prop} {b : Nat} {x0 : Int32} {x1 : Int32} (hkd : kt_kd P N b = (5, 0)) (hrest : (rest.map fun v => v.category).sum ≤ 8) (kk : KW P i_M_of N 0 [some (.ref b), some (.int x0), some (.int x1)] [] N I J R (fun v I' J' R' => KW P i_M_isEarlier NM 6 L (kt_pu v rest) N I' J' R' Q)) : KW P i_M_isEarlier NM 3 L (.int x1 :: .int x0 :: .ref b :: rest) N I J R Q := kw_callV x_M_isEarlier_3 (As := [.int x0, .int x1]) rfl rfl (Nat.le_of_ble_eq_true rfl) hrest hkd (Nat.le_refl N) (fun h => h) kk
theorem x_M_isEarlier_6 : kt_dc i_M_isEarlier 6 (.aload_n 0) 1 7 := ⟨by decide +kernel, rfl⟩
theorem x_M_isEarlier_7 : kt_dc i_M_isEarlier 7 (.iload_n 2) 1 8 := ⟨by decide +kernel, rfl⟩
theorem x_M_isEarlier_8 : kt_dc i_M_isEarlier 8 (.iconst 2) 1 9 ∧ Int32.ofInt (2) = nI 2 := ⟨⟨by decide +kernel, rfl⟩, by decide⟩
theorem x_M_isEarlier_9 : kt_sV i_M_isEarlier 9 i_M_of 5 2 12 := ⟨44, ⟨by decide +kernel, rfl⟩, Or.inl (tw_615), j_M_of, ⟨tw_617, tp_50⟩, ⟨TX5, 18, rfl⟩, by decide, rfl⟩
theorem c_M_isEarlier_9 {P : kt_P} {NM : Nat} {L : List (Option Value)} {rest : List Value} {N : Nat} {I : kt_I} {J : kt_J} {R : kt_R} {Q : Option Value → kt_I → kt_J → kt_R → Prop} {b : Nat} {x0 : Int32} {x1 : Int32} (hkd : kt_kd P N b = (5, 0)) (hrest : (rest.map fun v => v.category).sum ≤ 8) (kk : KW P i_M_of N 0 [some (.ref b), some (.int x0), some (.int x1)] [] N I J R (fun v I' J' R' => KW P i_M_isEarlier NM 12 L (kt_pu v rest) N I' J' R' Q)) : KW P i_M_isEarlier NM 9 L (.int x1 :: .int x0 :: .ref b :: rest) N I J R Q := kw_callV x_M_isEarlier_9 (As := [.int x0, .int x1]) rfl rfl (Nat.le_of_ble_eq_true rfl) hrest hkd (Nat.le_refl N) (fun h => h) kk
theorem x_M_isEarlier_12 : kt_dc i_M_isEarlier 12 (.isub) 1 13 := ⟨by decide +kernel, rfl⟩
theorem x_M_isEarlier_13 : kt_dc i_M_isEarlier 13 (.istore_n 3) 1 14 := ⟨by decide +kernel, rfl⟩
theorem x_M_isEarlier_14 : kt_dc i_M_isEarlier 14 (.iload_n 3) 1 15 := ⟨by decide +kernel, rfl⟩
theorem x_M_isEarlier_15 : kt_dj i_M_isEarlier 15 (.ifCond .lt) 37 18 := ⟨22, by decide +kernel, by decide, rfl⟩
theorem x_M_isEarlier_18 : kt_dc i_M_isEarlier 18 (.iload_n 3) 1 19 := ⟨by decide +kernel, rfl⟩
theorem x_M_isEarlier_19 : kt_dj i_M_isEarlier 19 (.ifCond .ne) 41 22 := ⟨22, by decide +kernel, by decide, rfl⟩
theorem x_M_isEarlier_22 : kt_dc i_M_isEarlier 22 (.aload_n 0) 1 23 := ⟨by decide +kernel, rfl⟩
theorem x_M_isEarlier_23 : kt_dc i_M_isEarlier 23 (.iload_n 1) 1 24 := ⟨by decide +kernel, rfl⟩
theorem x_M_isEarlier_24 : kt_dc i_M_isEarlier 24 (.iconst 1) 1 25 ∧ Int32.ofInt (1) = nI 1 := ⟨⟨by decide +kernel, rfl⟩, by decide⟩
theorem x_M_isEarlier_25 : kt_sV i_M_isEarlier 25 i_M_of 5 2 28 := ⟨44, ⟨by decide +kernel, rfl⟩, Or.inl (tw_615), j_M_of, ⟨tw_617, tp_50⟩, ⟨TX5, 18, rfl⟩, by decide, rfl⟩
theorem c_M_isEarlier_25 {P : kt_P} {NM : Nat} {L : List (Option Value)} {rest : List Value} {N : Nat} {I : kt_I} {J : kt_J} {R : kt_R} {Q : Option Value → kt_I → kt_J → kt_R → Prop} {b : Nat} {x0 : Int32} {x1 : Int32} (hkd : kt_kd P N b = (5, 0)) (hrest : (rest.map fun v => v.category).sum ≤ 8) (kk : KW P i_M_of N 0 [some (.ref b), some (.int x0), some (.int x1)] [] N I J R (fun v I' J' R' => KW P i_M_isEarlier NM 28 L (kt_pu v rest) N I' J' R' Q)) : KW P i_M_isEarlier NM 25 L (.int x1 :: .int x0 :: .ref b :: rest) N I J R Q := kw_callV x_M_isEarlier_25 (As := [.int x0, .int x1]) rfl rfl (Nat.le_of_ble_eq_true rfl) hrest hkd (Nat.le_refl N) (fun h => h) kk
theorem x_M_isEarlier_28 : kt_dc i_M_isEarlier 28 (.aload_n 0) 1 29 := ⟨by decide +kernel, rfl⟩
theorem x_M_isEarlier_29 : kt_dc i_M_isEarlier 29 (.iload_n 2) 1 30 := ⟨by decide +kernel, rfl⟩
theorem x_M_isEarlier_30 : kt_dc i_M_isEarlier 30 (.iconst 1) 1 31 ∧ Int32.ofInt (1) = nI 1 := ⟨⟨by decide +kernel, rfl⟩, by decide⟩
theorem x_M_isEarlier_31 : kt_sV i_M_isEarlier 31 i_M_of 5 2 34 := ⟨44, ⟨by decide +kernel, rfl⟩, Or.inl (tw_615), j_M_of, ⟨tw_617, tp_50⟩, ⟨TX5, 18, rfl⟩, by decide, rfl⟩
theorem c_M_isEarlier_31 {P : kt_P} {NM : Nat} {L : List (Option Value)} {rest : List Value} {N : Nat} {I : kt_I} {J : kt_J} {R : kt_R} {Q : Option Value → kt_I → kt_J → kt_R → Prop} {b : Nat} {x0 : Int32} {x1 : Int32} (hkd : kt_kd P N b = (5, 0)) (hrest : (rest.map fun v => v.category).sum ≤ 8) (kk : KW P i_M_of N 0 [some (.ref b), some (.int x0), some (.int x1)] [] N I J R (fun v I' J' R' => KW P i_M_isEarlier NM 34 L (kt_pu v rest) N I' J' R' Q)) : KW P i_M_isEarlier NM 31 L (.int x1 :: .int x0 :: .ref b :: rest) N I J R Q := kw_callV x_M_isEarlier_31 (As := [.int x0, .int x1]) rfl rfl (Nat.le_of_ble_eq_true rfl) hrest hkd (Nat.le_refl N) (fun h => h) kk
theorem x_M_isEarlier_34 : kt_dj i_M_isEarlier 34 (.if_icmp .ge) 41 37 := ⟨7, by decide +kernel, by decide, rfl⟩
theorem x_M_isEarlier_37 : kt_dc i_M_isEarlier 37 (.iconst 1) 1 38 ∧ Int32.ofInt (1) = nI 1 := ⟨⟨by decide +kernel, rfl⟩, by decide⟩
theorem x_M_isEarlier_38 : kt_dj i_M_isEarlier 38 .goto 42 41 := ⟨4, by decide +kernel, by decide, rfl⟩
theorem x_M_isEarlier_41 : kt_dc i_M_isEarlier 41 (.iconst 0) 1 42 ∧ Int32.ofInt (0) = nI 0 := ⟨⟨by decide +kernel, rfl⟩, by decide⟩
theorem x_M_isEarlier_42 : kt_dc i_M_isEarlier 42 (.ireturn) 1 43 ∧ kt_rt i_M_isEarlier = (some .boolean) := ⟨⟨by decide +kernel, rfl⟩, rfl⟩
theorem x_M_deliver_0 : kt_dc i_M_deliver 0 (.aload_n 0) 1 1 := ⟨by decide +kernel, rfl⟩
theorem x_M_deliver_1 : kt_dc i_M_deliver 1 (.iload_n 1) 1 2 := ⟨by decide +kernel, rfl⟩
theorem x_M_deliver_2 : kt_sV i_M_deliver 2 i_M_isTown 5 1 5 := ⟨103, ⟨by decide +kernel, rfl⟩, Or.inl (tw_647), j_M_isTown, ⟨tw_649, tp_57⟩, ⟨TX5, 18, rfl⟩, by decide, rfl⟩
theorem c_M_deliver_2 {P : kt_P} {NM : Nat} {L : List (Option Value)} {rest : List Value} {N : Nat} {I : kt_I} {J : kt_J} {R : kt_R} {Q : Option Value → kt_I → kt_J → kt_R → Prop} {b : Nat} {x0 : Int32} (hkd : kt_kd P N b = (5, 0)) (hrest : (rest.map fun v => v.category).sum ≤ 8) (kk : KW P i_M_isTown N 0 [some (.ref b), some (.int x0)] [] N I J R (fun v I' J' R' => KW P i_M_deliver NM 5 L (kt_pu v rest) N I' J' R' Q)) : KW P i_M_deliver NM 2 L (.int x0 :: .ref b :: rest) N I J R Q := kw_callV x_M_deliver_2 (As := [.int x0]) rfl rfl (Nat.le_of_ble_eq_true rfl) hrest hkd (Nat.le_refl N) (fun h => h) kk
theorem x_M_deliver_5 : kt_dj i_M_deliver 5 (.ifCond .eq) 27 8 := ⟨22, by decide +kernel, by decide, rfl⟩
theorem x_M_deliver_8 : kt_dc i_M_deliver 8 (.iload_n 2) 1 9 := ⟨by decide +kernel, rfl⟩
theorem x_M_deliver_9 : kt_dc i_M_deliver 9 (.iconst 0) 1 10 ∧ Int32.ofInt (0) = nI 0 := ⟨⟨by decide +kernel, rfl⟩, by decide⟩
theorem x_M_deliver_10 : kt_dc i_M_deliver 10 (.iconst 5) 1 11 ∧ Int32.ofInt (5) = nI 5 := ⟨⟨by decide +kernel, rfl⟩, by decide⟩
theorem x_M_deliver_11 : kt_sS i_M_deliver 11 i_M_in 3 14 := ⟨107, ⟨by decide +kernel, rfl⟩, Or.inl (tw_651), j_M_in, tw_652, rfl⟩
theorem c_M_deliver_11 {P : kt_P} {NM : Nat} {L : List (Option Value)} {rest : List Value} {N : Nat} {I : kt_I} {J : kt_J} {R : kt_R} {Q : Option Value → kt_I → kt_J → kt_R → Prop} {x0 : Int32} {x1 : Int32} {x2 : Int32} (hrest : (rest.map fun v => v.category).sum ≤ 8) (kk : KW P i_M_in N 0 [some (.int x0), some (.int x1), some (.int x2)] [] N I J R (fun v I' J' R' => KW P i_M_deliver NM 14 L (kt_pu v rest) N I' J' R' Q)) : KW P i_M_deliver NM 11 L (.int x2 :: .int x1 :: .int x0 :: rest) N I J R Q := kw_callS x_M_deliver_11 (As := [.int x0, .int x1, .int x2]) rfl rfl (Nat.le_of_ble_eq_true rfl) hrest (Nat.le_refl N) (fun h => h) kk
theorem x_M_deliver_14 : kt_dj i_M_deliver 14 (.ifCond .eq) 27 17 := ⟨13, by decide +kernel, by decide, rfl⟩
theorem x_M_deliver_17 : kt_dc i_M_deliver 17 (.iload_n 3) 1 18 := ⟨by decide +kernel, rfl⟩
theorem x_M_deliver_18 : kt_dc i_M_deliver 18 (.iconst 1) 1 19 ∧ Int32.ofInt (1) = nI 1 := ⟨⟨by decide +kernel, rfl⟩, by decide⟩
theorem x_M_deliver_19 : kt_dc i_M_deliver 19 (.bipush 99) 2 21 ∧ (Int8.ofInt (99)).toInt32 = nI 99 := ⟨⟨by decide +kernel, rfl⟩, by decide⟩
theorem x_M_deliver_21 : kt_sS i_M_deliver 21 i_M_in 3 24 := ⟨107, ⟨by decide +kernel, rfl⟩, Or.inl (tw_651), j_M_in, tw_652, rfl⟩
theorem c_M_deliver_21 {P : kt_P} {NM : Nat} {L : List (Option Value)} {rest : List Value} {N : Nat} {I : kt_I} {J : kt_J} {R : kt_R} {Q : Option Value → kt_I → kt_J → kt_R → Prop} {x0 : Int32} {x1 : Int32} {x2 : Int32} (hrest : (rest.map fun v => v.category).sum ≤ 8) (kk : KW P i_M_in N 0 [some (.int x0), some (.int x1), some (.int x2)] [] N I J R (fun v I' J' R' => KW P i_M_deliver NM 24 L (kt_pu v rest) N I' J' R' Q)) : KW P i_M_deliver NM 21 L (.int x2 :: .int x1 :: .int x0 :: rest) N I J R Q := kw_callS x_M_deliver_21 (As := [.int x0, .int x1, .int x2]) rfl rfl (Nat.le_of_ble_eq_true rfl) hrest (Nat.le_refl N) (fun h => h) kk
theorem x_M_deliver_24 : kt_dj i_M_deliver 24 (.ifCond .ne) 29 27 := ⟨5, by decide +kernel, by decide, rfl⟩
theorem x_M_deliver_27 : kt_dc i_M_deliver 27 (.iconst (-1)) 1 28 ∧ Int32.ofInt (-1) = (-1 : Int32) := ⟨⟨by decide +kernel, rfl⟩, by decide⟩
theorem x_M_deliver_28 : kt_dc i_M_deliver 28 (.ireturn) 1 29 ∧ kt_rt i_M_deliver = (some .int) := ⟨⟨by decide +kernel, rfl⟩, rfl⟩
theorem x_M_deliver_29 : kt_dc i_M_deliver 29 (.aload_n 0) 1 30 := ⟨by decide +kernel, rfl⟩
theorem x_M_deliver_30 : kt_sG i_M_deliver 30 5 0 2 33 := ⟨7, RX5, TX5, 18, ⟨by decide +kernel, rfl⟩, rfl, by decide, rfl, by decide, Or.inl (tw_535)⟩
theorem x_M_deliver_33 : kt_dc i_M_deliver 33 (.iconst 2) 1 34 ∧ Int32.ofInt (2) = nI 2 := ⟨⟨by decide +kernel, rfl⟩, by decide⟩
theorem x_M_deliver_34 : kt_dc i_M_deliver 34 (.iaload) 1 35 := ⟨by decide +kernel, rfl⟩
theorem x_M_deliver_35 : kt_dc i_M_deliver 35 (.bipush 60) 2 37 ∧ (Int8.ofInt (60)).toInt32 = nI 60 := ⟨⟨by decide +kernel, rfl⟩, by decide⟩
theorem x_M_deliver_37 : kt_dj i_M_deliver 37 (.if_icmp .ne) 45 40 := ⟨8, by decide +kernel, by decide, rfl⟩
theorem x_M_deliver_40 : kt_dc i_M_deliver 40 (.bipush (-3)) 2 42 ∧ (Int8.ofInt (-3)).toInt32 = (-3 : Int32) := ⟨⟨by decide +kernel, rfl⟩, by decide⟩
theorem x_M_deliver_42 : kt_dj i_M_deliver 42 .goto 57 45 := ⟨15, by decide +kernel, by decide, rfl⟩
theorem x_M_deliver_45 : kt_dc i_M_deliver 45 (.aload_n 0) 1 46 := ⟨by decide +kernel, rfl⟩
theorem x_M_deliver_46 : kt_dc i_M_deliver 46 (.iload_n 1) 1 47 := ⟨by decide +kernel, rfl⟩
theorem x_M_deliver_47 : kt_dc i_M_deliver 47 (.iconst 0) 1 48 ∧ Int32.ofInt (0) = nI 0 := ⟨⟨by decide +kernel, rfl⟩, by decide⟩
theorem x_M_deliver_48 : kt_dc i_M_deliver 48 (.iload_n 2) 1 49 := ⟨by decide +kernel, rfl⟩
theorem x_M_deliver_49 : kt_dc i_M_deliver 49 (.iload_n 3) 1 50 := ⟨by decide +kernel, rfl⟩
theorem x_M_deliver_50 : kt_dc i_M_deliver 50 (.bipush (-4)) 2 52 ∧ (Int8.ofInt (-4)).toInt32 = (-4 : Int32) := ⟨⟨by decide +kernel, rfl⟩, by decide⟩
theorem x_M_deliver_52 : kt_dc i_M_deliver 52 (.bipush (-4)) 2 54 ∧ (Int8.ofInt (-4)).toInt32 = (-4 : Int32) := ⟨⟨by decide +kernel, rfl⟩, by decide⟩
theorem x_M_deliver_54 : kt_sV i_M_deliver 54 i_M_makes 5 6 57 := ⟨111, ⟨by decide +kernel, rfl⟩, Or.inl (tw_654), j_M_makes, ⟨tw_656, tp_58⟩, ⟨TX5, 18, rfl⟩, by decide, rfl⟩
theorem c_M_deliver_54 {P : kt_P} {NM : Nat} {L : List (Option Value)} {rest : List Value} {N : Nat} {I : kt_I} {J : kt_J} {R : kt_R} {Q : Option Value → kt_I → kt_J → kt_R → Prop} {b : Nat} {x0 : Int32} {x1 : Int32} {x2 : Int32} {x3 : Int32} {x4 : Int32} {x5 : Int32} (hkd : kt_kd P N b = (5, 0)) (hrest : (rest.map fun v => v.category).sum ≤ 8) (kk : KW P i_M_makes N 0 [some (.ref b), some (.int x0), some (.int x1), some (.int x2), some (.int x3), some (.int x4), some (.int x5), none] [] N I J R (fun v I' J' R' => KW P i_M_deliver NM 57 L (kt_pu v rest) N I' J' R' Q)) : KW P i_M_deliver NM 54 L (.int x5 :: .int x4 :: .int x3 :: .int x2 :: .int x1 :: .int x0 :: .ref b :: rest) N I J R Q := kw_callV x_M_deliver_54 (As := [.int x0, .int x1, .int x2, .int x3, .int x4, .int x5]) rfl rfl (Nat.le_of_ble_eq_true rfl) hrest hkd (Nat.le_refl N) (fun h => h) kk
theorem x_M_deliver_57 : kt_dc i_M_deliver 57 (.ireturn) 1 58 ∧ kt_rt i_M_deliver = (some .int) := ⟨⟨by decide +kernel, rfl⟩, rfl⟩
theorem x_M_isTown_0 : kt_dc i_M_isTown 0 (.iload_n 1) 1 1 := ⟨by decide +kernel, rfl⟩
theorem x_M_isTown_1 : kt_dj i_M_isTown 1 (.ifCond .lt) 18 4 := ⟨17, by decide +kernel, by decide, rfl⟩
theorem x_M_isTown_4 : kt_dc i_M_isTown 4 (.iload_n 1) 1 5 := ⟨by decide +kernel, rfl⟩
theorem x_M_isTown_5 : kt_dc i_M_isTown 5 (.aload_n 0) 1 6 := ⟨by decide +kernel, rfl⟩
theorem x_M_isTown_6 : kt_sG i_M_isTown 6 5 0 2 9 := ⟨7, RX5, TX5, 18, ⟨by decide +kernel, rfl⟩, rfl, by decide, rfl, by decide, Or.inl (tw_535)⟩
theorem x_M_isTown_9 : kt_dc i_M_isTown 9 (.iconst 1) 1 10 ∧ Int32.ofInt (1) = nI 1 := ⟨⟨by decide +kernel, rfl⟩, by decide⟩
theorem x_M_isTown_10 : kt_dc i_M_isTown 10 (.iaload) 1 11 := ⟨by decide +kernel, rfl⟩
theorem x_M_isTown_11 : kt_dj i_M_isTown 11 (.if_icmp .ge) 18 14 := ⟨7, by decide +kernel, by decide, rfl⟩
theorem x_M_isTown_14 : kt_dc i_M_isTown 14 (.iconst 1) 1 15 ∧ Int32.ofInt (1) = nI 1 := ⟨⟨by decide +kernel, rfl⟩, by decide⟩
theorem x_M_isTown_15 : kt_dj i_M_isTown 15 .goto 19 18 := ⟨4, by decide +kernel, by decide, rfl⟩
theorem x_M_isTown_18 : kt_dc i_M_isTown 18 (.iconst 0) 1 19 ∧ Int32.ofInt (0) = nI 0 := ⟨⟨by decide +kernel, rfl⟩, by decide⟩
theorem x_M_isTown_19 : kt_dc i_M_isTown 19 (.ireturn) 1 20 ∧ kt_rt i_M_isTown = (some .boolean) := ⟨⟨by decide +kernel, rfl⟩, rfl⟩
theorem x_M_in_0 : kt_dc i_M_in 0 (.iload_n 0) 1 1 := ⟨by decide +kernel, rfl⟩
theorem x_M_in_1 : kt_dc i_M_in 1 (.iload_n 1) 1 2 := ⟨by decide +kernel, rfl⟩
theorem x_M_in_2 : kt_dj i_M_in 2 (.if_icmp .lt) 14 5 := ⟨12, by decide +kernel, by decide, rfl⟩
theorem x_M_in_5 : kt_dc i_M_in 5 (.iload_n 0) 1 6 := ⟨by decide +kernel, rfl⟩
theorem x_M_in_6 : kt_dc i_M_in 6 (.iload_n 2) 1 7 := ⟨by decide +kernel, rfl⟩
theorem x_M_in_7 : kt_dj i_M_in 7 (.if_icmp .gt) 14 10 := ⟨7, by decide +kernel, by decide, rfl⟩
theorem x_M_in_10 : kt_dc i_M_in 10 (.iconst 1) 1 11 ∧ Int32.ofInt (1) = nI 1 := ⟨⟨by decide +kernel, rfl⟩, by decide⟩
theorem x_M_in_11 : kt_dj i_M_in 11 .goto 15 14 := ⟨4, by decide +kernel, by decide, rfl⟩
theorem x_M_in_14 : kt_dc i_M_in 14 (.iconst 0) 1 15 ∧ Int32.ofInt (0) = nI 0 := ⟨⟨by decide +kernel, rfl⟩, by decide⟩
theorem x_M_in_15 : kt_dc i_M_in 15 (.ireturn) 1 16 ∧ kt_rt i_M_in = (some .boolean) := ⟨⟨by decide +kernel, rfl⟩, rfl⟩
theorem x_M_makes_0 : kt_dc i_M_makes 0 (.aload_n 0) 1 1 := ⟨by decide +kernel, rfl⟩
theorem x_M_makes_1 : kt_sV i_M_makes 1 i_M_changes 5 0 4 := ⟨96, ⟨by decide +kernel, rfl⟩, Or.inl (tw_595), j_M_changes, ⟨tw_597, tp_45⟩, ⟨TX5, 18, rfl⟩, by decide, rfl⟩
theorem c_M_makes_1 {P : kt_P} {NM : Nat} {L : List (Option Value)} {rest : List Value} {N : Nat} {I : kt_I} {J : kt_J} {R : kt_R} {Q : Option Value → kt_I → kt_J → kt_R → Prop} {b : Nat} (hkd : kt_kd P N b = (5, 0)) (hrest : (rest.map fun v => v.category).sum ≤ 8) (kk : KW P i_M_changes N 0 [some (.ref b)] [] N I J R (fun v I' J' R' => KW P i_M_makes NM 4 L (kt_pu v rest) N I' J' R' Q)) : KW P i_M_makes NM 1 L (.ref b :: rest) N I J R Q := kw_callV x_M_makes_1 (As := []) rfl rfl (Nat.le_of_ble_eq_true rfl) hrest hkd (Nat.le_refl N) (fun h => h) kk
theorem x_M_makes_4 : kt_dc i_M_makes 4 (.aload_n 0) 1 5 := ⟨by decide +kernel, rfl⟩
theorem x_M_makes_5 : kt_sG i_M_makes 5 5 0 2 8 := ⟨7, RX5, TX5, 18, ⟨by decide +kernel, rfl⟩, rfl, by decide, rfl, by decide, Or.inl (tw_535)⟩
theorem x_M_makes_8 : kt_dc i_M_makes 8 (.iconst 2) 1 9 ∧ Int32.ofInt (2) = nI 2 := ⟨⟨by decide +kernel, rfl⟩, by decide⟩
theorem x_M_makes_9 : kt_dc i_M_makes 9 (.iaload) 1 10 := ⟨by decide +kernel, rfl⟩
theorem x_M_makes_10 : kt_dc i_M_makes 10 (.istore 7) 2 12 := ⟨by decide +kernel, rfl⟩
theorem x_M_makes_12 : kt_dc i_M_makes 12 (.aload_n 0) 1 13 := ⟨by decide +kernel, rfl⟩
theorem x_M_makes_13 : kt_sG i_M_makes 13 5 0 2 16 := ⟨7, RX5, TX5, 18, ⟨by decide +kernel, rfl⟩, rfl, by decide, rfl, by decide, Or.inl (tw_535)⟩
theorem x_M_makes_16 : kt_dc i_M_makes 16 (.iconst 2) 1 17 ∧ Int32.ofInt (2) = nI 2 := ⟨⟨by decide +kernel, rfl⟩, by decide⟩
theorem x_M_makes_17 : kt_dc i_M_makes 17 (.dup2) 1 18 := ⟨by decide +kernel, rfl⟩
theorem x_M_makes_18 : kt_dc i_M_makes 18 (.iaload) 1 19 := ⟨by decide +kernel, rfl⟩
theorem x_M_makes_19 : kt_dc i_M_makes 19 (.iconst 1) 1 20 ∧ Int32.ofInt (1) = nI 1 := ⟨⟨by decide +kernel, rfl⟩, by decide⟩
theorem x_M_makes_20 : kt_dc i_M_makes 20 (.iadd) 1 21 := ⟨by decide +kernel, rfl⟩
theorem x_M_makes_21 : kt_dc i_M_makes 21 (.iastore) 1 22 := ⟨by decide +kernel, rfl⟩
theorem x_M_makes_22 : kt_dc i_M_makes 22 (.aload_n 0) 1 23 := ⟨by decide +kernel, rfl⟩
theorem x_M_makes_23 : kt_sG i_M_makes 23 5 0 2 26 := ⟨7, RX5, TX5, 18, ⟨by decide +kernel, rfl⟩, rfl, by decide, rfl, by decide, Or.inl (tw_535)⟩
theorem x_M_makes_26 : kt_dc i_M_makes 26 (.iconst 3) 1 27 ∧ Int32.ofInt (3) = nI 3 := ⟨⟨by decide +kernel, rfl⟩, by decide⟩
theorem x_M_makes_27 : kt_dc i_M_makes 27 (.iload_n 1) 1 28 := ⟨by decide +kernel, rfl⟩
theorem x_M_makes_28 : kt_dc i_M_makes 28 (.iadd) 1 29 := ⟨by decide +kernel, rfl⟩
theorem x_M_makes_29 : kt_dc i_M_makes 29 (.dup2) 1 30 := ⟨by decide +kernel, rfl⟩
theorem x_M_makes_30 : kt_dc i_M_makes 30 (.iaload) 1 31 := ⟨by decide +kernel, rfl⟩
theorem x_M_makes_31 : kt_dc i_M_makes 31 (.iconst 1) 1 32 ∧ Int32.ofInt (1) = nI 1 := ⟨⟨by decide +kernel, rfl⟩, by decide⟩
theorem x_M_makes_32 : kt_dc i_M_makes 32 (.iadd) 1 33 := ⟨by decide +kernel, rfl⟩
theorem x_M_makes_33 : kt_dc i_M_makes 33 (.iastore) 1 34 := ⟨by decide +kernel, rfl⟩
theorem x_M_makes_34 : kt_dc i_M_makes 34 (.aload_n 0) 1 35 := ⟨by decide +kernel, rfl⟩
theorem x_M_makes_35 : kt_dc i_M_makes 35 (.iload 7) 2 37 := ⟨by decide +kernel, rfl⟩
theorem x_M_makes_37 : kt_dc i_M_makes 37 (.iconst 0) 1 38 ∧ Int32.ofInt (0) = nI 0 := ⟨⟨by decide +kernel, rfl⟩, by decide⟩
theorem x_M_makes_38 : kt_dc i_M_makes 38 (.iload_n 2) 1 39 := ⟨by decide +kernel, rfl⟩
theorem x_M_makes_39 : kt_sV i_M_makes 39 i_M_puts 5 3 42 := ⟨79, ⟨by decide +kernel, rfl⟩, Or.inl (tw_658), j_M_puts, ⟨tw_660, tp_59⟩, ⟨TX5, 18, rfl⟩, by decide, rfl⟩
theorem c_M_makes_39 {P : kt_P} {NM : Nat} {L : List (Option Value)} {rest : List Value} {N : Nat} {I : kt_I} {J : kt_J} {R : kt_R} {Q : Option Value → kt_I → kt_J → kt_R → Prop} {b : Nat} {x0 : Int32} {x1 : Int32} {x2 : Int32} (hkd : kt_kd P N b = (5, 0)) (hrest : (rest.map fun v => v.category).sum ≤ 8) (kk : KW P i_M_puts N 0 [some (.ref b), some (.int x0), some (.int x1), some (.int x2)] [] N I J R (fun v I' J' R' => KW P i_M_makes NM 42 L (kt_pu v rest) N I' J' R' Q)) : KW P i_M_makes NM 39 L (.int x2 :: .int x1 :: .int x0 :: .ref b :: rest) N I J R Q := kw_callV x_M_makes_39 (As := [.int x0, .int x1, .int x2]) rfl rfl (Nat.le_of_ble_eq_true rfl) hrest hkd (Nat.le_refl N) (fun h => h) kk
theorem x_M_makes_42 : kt_dc i_M_makes 42 (.aload_n 0) 1 43 := ⟨by decide +kernel, rfl⟩
theorem x_M_makes_43 : kt_dc i_M_makes 43 (.iload 7) 2 45 := ⟨by decide +kernel, rfl⟩
theorem x_M_makes_45 : kt_dc i_M_makes 45 (.iconst 1) 1 46 ∧ Int32.ofInt (1) = nI 1 := ⟨⟨by decide +kernel, rfl⟩, by decide⟩
theorem x_M_makes_46 : kt_dc i_M_makes 46 (.iload_n 1) 1 47 := ⟨by decide +kernel, rfl⟩
theorem x_M_makes_47 : kt_sV i_M_makes 47 i_M_puts 5 3 50 := ⟨79, ⟨by decide +kernel, rfl⟩, Or.inl (tw_658), j_M_puts, ⟨tw_660, tp_59⟩, ⟨TX5, 18, rfl⟩, by decide, rfl⟩
theorem c_M_makes_47 {P : kt_P} {NM : Nat} {L : List (Option Value)} {rest : List Value} {N : Nat} {I : kt_I} {J : kt_J} {R : kt_R} {Q : Option Value → kt_I → kt_J → kt_R → Prop} {b : Nat} {x0 : Int32} {x1 : Int32} {x2 : Int32} (hkd : kt_kd P N b = (5, 0)) (hrest : (rest.map fun v => v.category).sum ≤ 8) (kk : KW P i_M_puts N 0 [some (.ref b), some (.int x0), some (.int x1), some (.int x2)] [] N I J R (fun v I' J' R' => KW P i_M_makes NM 50 L (kt_pu v rest) N I' J' R' Q)) : KW P i_M_makes NM 47 L (.int x2 :: .int x1 :: .int x0 :: .ref b :: rest) N I J R Q := kw_callV x_M_makes_47 (As := [.int x0, .int x1, .int x2]) rfl rfl (Nat.le_of_ble_eq_true rfl) hrest hkd (Nat.le_refl N) (fun h => h) kk
theorem x_M_makes_50 : kt_dc i_M_makes 50 (.aload_n 0) 1 51 := ⟨by decide +kernel, rfl⟩
theorem x_M_makes_51 : kt_dc i_M_makes 51 (.iload 7) 2 53 := ⟨by decide +kernel, rfl⟩
theorem x_M_makes_53 : kt_dc i_M_makes 53 (.iconst 2) 1 54 ∧ Int32.ofInt (2) = nI 2 := ⟨⟨by decide +kernel, rfl⟩, by decide⟩
theorem x_M_makes_54 : kt_dc i_M_makes 54 (.aload_n 0) 1 55 := ⟨by decide +kernel, rfl⟩
theorem x_M_makes_55 : kt_sG i_M_makes 55 5 0 2 58 := ⟨7, RX5, TX5, 18, ⟨by decide +kernel, rfl⟩, rfl, by decide, rfl, by decide, Or.inl (tw_535)⟩
theorem x_M_makes_58 : kt_dc i_M_makes 58 (.iconst 3) 1 59 ∧ Int32.ofInt (3) = nI 3 := ⟨⟨by decide +kernel, rfl⟩, by decide⟩
theorem x_M_makes_59 : kt_dc i_M_makes 59 (.iload_n 1) 1 60 := ⟨by decide +kernel, rfl⟩
theorem x_M_makes_60 : kt_dc i_M_makes 60 (.iadd) 1 61 := ⟨by decide +kernel, rfl⟩
theorem x_M_makes_61 : kt_dc i_M_makes 61 (.iaload) 1 62 := ⟨by decide +kernel, rfl⟩
theorem x_M_makes_62 : kt_sV i_M_makes 62 i_M_puts 5 3 65 := ⟨79, ⟨by decide +kernel, rfl⟩, Or.inl (tw_658), j_M_puts, ⟨tw_660, tp_59⟩, ⟨TX5, 18, rfl⟩, by decide, rfl⟩
theorem c_M_makes_62 {P : kt_P} {NM : Nat} {L : List (Option Value)} {rest : List Value} {N : Nat} {I : kt_I} {J : kt_J} {R : kt_R} {Q : Option Value → kt_I → kt_J → kt_R → Prop} {b : Nat} {x0 : Int32} {x1 : Int32} {x2 : Int32} (hkd : kt_kd P N b = (5, 0)) (hrest : (rest.map fun v => v.category).sum ≤ 8) (kk : KW P i_M_puts N 0 [some (.ref b), some (.int x0), some (.int x1), some (.int x2)] [] N I J R (fun v I' J' R' => KW P i_M_makes NM 65 L (kt_pu v rest) N I' J' R' Q)) : KW P i_M_makes NM 62 L (.int x2 :: .int x1 :: .int x0 :: .ref b :: rest) N I J R Q := kw_callV x_M_makes_62 (As := [.int x0, .int x1, .int x2]) rfl rfl (Nat.le_of_ble_eq_true rfl) hrest hkd (Nat.le_refl N) (fun h => h) kk
theorem x_M_makes_65 : kt_dc i_M_makes 65 (.aload_n 0) 1 66 := ⟨by decide +kernel, rfl⟩
theorem x_M_makes_66 : kt_dc i_M_makes 66 (.iload 7) 2 68 := ⟨by decide +kernel, rfl⟩
theorem x_M_makes_68 : kt_dc i_M_makes 68 (.iconst 3) 1 69 ∧ Int32.ofInt (3) = nI 3 := ⟨⟨by decide +kernel, rfl⟩, by decide⟩
theorem x_M_makes_69 : kt_dc i_M_makes 69 (.iload_n 3) 1 70 := ⟨by decide +kernel, rfl⟩
theorem x_M_makes_70 : kt_sV i_M_makes 70 i_M_puts 5 3 73 := ⟨79, ⟨by decide +kernel, rfl⟩, Or.inl (tw_658), j_M_puts, ⟨tw_660, tp_59⟩, ⟨TX5, 18, rfl⟩, by decide, rfl⟩
theorem c_M_makes_70 {P : kt_P} {NM : Nat} {L : List (Option Value)} {rest : List Value} {N : Nat} {I : kt_I} {J : kt_J} {R : kt_R} {Q : Option Value → kt_I → kt_J → kt_R → Prop} {b : Nat} {x0 : Int32} {x1 : Int32} {x2 : Int32} (hkd : kt_kd P N b = (5, 0)) (hrest : (rest.map fun v => v.category).sum ≤ 8) (kk : KW P i_M_puts N 0 [some (.ref b), some (.int x0), some (.int x1), some (.int x2)] [] N I J R (fun v I' J' R' => KW P i_M_makes NM 73 L (kt_pu v rest) N I' J' R' Q)) : KW P i_M_makes NM 70 L (.int x2 :: .int x1 :: .int x0 :: .ref b :: rest) N I J R Q := kw_callV x_M_makes_70 (As := [.int x0, .int x1, .int x2]) rfl rfl (Nat.le_of_ble_eq_true rfl) hrest hkd (Nat.le_refl N) (fun h => h) kk
theorem x_M_makes_73 : kt_dc i_M_makes 73 (.aload_n 0) 1 74 := ⟨by decide +kernel, rfl⟩
theorem x_M_makes_74 : kt_dc i_M_makes 74 (.iload 7) 2 76 := ⟨by decide +kernel, rfl⟩
theorem x_M_makes_76 : kt_dc i_M_makes 76 (.iconst 4) 1 77 ∧ Int32.ofInt (4) = nI 4 := ⟨⟨by decide +kernel, rfl⟩, by decide⟩
theorem x_M_makes_77 : kt_dc i_M_makes 77 (.iload 4) 2 79 := ⟨by decide +kernel, rfl⟩
theorem x_M_makes_79 : kt_sV i_M_makes 79 i_M_puts 5 3 82 := ⟨79, ⟨by decide +kernel, rfl⟩, Or.inl (tw_658), j_M_puts, ⟨tw_660, tp_59⟩, ⟨TX5, 18, rfl⟩, by decide, rfl⟩
theorem c_M_makes_79 {P : kt_P} {NM : Nat} {L : List (Option Value)} {rest : List Value} {N : Nat} {I : kt_I} {J : kt_J} {R : kt_R} {Q : Option Value → kt_I → kt_J → kt_R → Prop} {b : Nat} {x0 : Int32} {x1 : Int32} {x2 : Int32} (hkd : kt_kd P N b = (5, 0)) (hrest : (rest.map fun v => v.category).sum ≤ 8) (kk : KW P i_M_puts N 0 [some (.ref b), some (.int x0), some (.int x1), some (.int x2)] [] N I J R (fun v I' J' R' => KW P i_M_makes NM 82 L (kt_pu v rest) N I' J' R' Q)) : KW P i_M_makes NM 79 L (.int x2 :: .int x1 :: .int x0 :: .ref b :: rest) N I J R Q := kw_callV x_M_makes_79 (As := [.int x0, .int x1, .int x2]) rfl rfl (Nat.le_of_ble_eq_true rfl) hrest hkd (Nat.le_refl N) (fun h => h) kk
theorem x_M_makes_82 : kt_dc i_M_makes 82 (.aload_n 0) 1 83 := ⟨by decide +kernel, rfl⟩
theorem x_M_makes_83 : kt_dc i_M_makes 83 (.iload 7) 2 85 := ⟨by decide +kernel, rfl⟩
theorem x_M_makes_85 : kt_dc i_M_makes 85 (.iconst 5) 1 86 ∧ Int32.ofInt (5) = nI 5 := ⟨⟨by decide +kernel, rfl⟩, by decide⟩
theorem x_M_makes_86 : kt_dc i_M_makes 86 (.iload 5) 2 88 := ⟨by decide +kernel, rfl⟩
theorem x_M_makes_88 : kt_sV i_M_makes 88 i_M_puts 5 3 91 := ⟨79, ⟨by decide +kernel, rfl⟩, Or.inl (tw_658), j_M_puts, ⟨tw_660, tp_59⟩, ⟨TX5, 18, rfl⟩, by decide, rfl⟩
theorem c_M_makes_88 {P : kt_P} {NM : Nat} {L : List (Option Value)} {rest : List Value} {N : Nat} {I : kt_I} {J : kt_J} {R : kt_R} {Q : Option Value → kt_I → kt_J → kt_R → Prop} {b : Nat} {x0 : Int32} {x1 : Int32} {x2 : Int32} (hkd : kt_kd P N b = (5, 0)) (hrest : (rest.map fun v => v.category).sum ≤ 8) (kk : KW P i_M_puts N 0 [some (.ref b), some (.int x0), some (.int x1), some (.int x2)] [] N I J R (fun v I' J' R' => KW P i_M_makes NM 91 L (kt_pu v rest) N I' J' R' Q)) : KW P i_M_makes NM 88 L (.int x2 :: .int x1 :: .int x0 :: .ref b :: rest) N I J R Q := kw_callV x_M_makes_88 (As := [.int x0, .int x1, .int x2]) rfl rfl (Nat.le_of_ble_eq_true rfl) hrest hkd (Nat.le_refl N) (fun h => h) kk
theorem x_M_makes_91 : kt_dc i_M_makes 91 (.aload_n 0) 1 92 := ⟨by decide +kernel, rfl⟩
theorem x_M_makes_92 : kt_dc i_M_makes 92 (.iload 7) 2 94 := ⟨by decide +kernel, rfl⟩
theorem x_M_makes_94 : kt_dc i_M_makes 94 (.bipush 6) 2 96 ∧ (Int8.ofInt (6)).toInt32 = nI 6 := ⟨⟨by decide +kernel, rfl⟩, by decide⟩
theorem x_M_makes_96 : kt_dc i_M_makes 96 (.iload 6) 2 98 := ⟨by decide +kernel, rfl⟩
theorem x_M_makes_98 : kt_sV i_M_makes 98 i_M_puts 5 3 101 := ⟨79, ⟨by decide +kernel, rfl⟩, Or.inl (tw_658), j_M_puts, ⟨tw_660, tp_59⟩, ⟨TX5, 18, rfl⟩, by decide, rfl⟩
theorem c_M_makes_98 {P : kt_P} {NM : Nat} {L : List (Option Value)} {rest : List Value} {N : Nat} {I : kt_I} {J : kt_J} {R : kt_R} {Q : Option Value → kt_I → kt_J → kt_R → Prop} {b : Nat} {x0 : Int32} {x1 : Int32} {x2 : Int32} (hkd : kt_kd P N b = (5, 0)) (hrest : (rest.map fun v => v.category).sum ≤ 8) (kk : KW P i_M_puts N 0 [some (.ref b), some (.int x0), some (.int x1), some (.int x2)] [] N I J R (fun v I' J' R' => KW P i_M_makes NM 101 L (kt_pu v rest) N I' J' R' Q)) : KW P i_M_makes NM 98 L (.int x2 :: .int x1 :: .int x0 :: .ref b :: rest) N I J R Q := kw_callV x_M_makes_98 (As := [.int x0, .int x1, .int x2]) rfl rfl (Nat.le_of_ble_eq_true rfl) hrest hkd (Nat.le_refl N) (fun h => h) kk
theorem x_M_makes_101 : kt_dc i_M_makes 101 (.aload_n 0) 1 102 := ⟨by decide +kernel, rfl⟩
theorem x_M_makes_102 : kt_dc i_M_makes 102 (.iload 7) 2 104 := ⟨by decide +kernel, rfl⟩
theorem x_M_makes_104 : kt_dc i_M_makes 104 (.bipush 7) 2 106 ∧ (Int8.ofInt (7)).toInt32 = nI 7 := ⟨⟨by decide +kernel, rfl⟩, by decide⟩
theorem x_M_makes_106 : kt_dc i_M_makes 106 (.iconst 1) 1 107 ∧ Int32.ofInt (1) = nI 1 := ⟨⟨by decide +kernel, rfl⟩, by decide⟩
theorem x_M_makes_107 : kt_dc i_M_makes 107 (.iload_n 1) 1 108 := ⟨by decide +kernel, rfl⟩
theorem x_M_makes_108 : kt_dc i_M_makes 108 (.ishl) 1 109 := ⟨by decide +kernel, rfl⟩
theorem x_M_makes_109 : kt_sV i_M_makes 109 i_M_puts 5 3 112 := ⟨79, ⟨by decide +kernel, rfl⟩, Or.inl (tw_658), j_M_puts, ⟨tw_660, tp_59⟩, ⟨TX5, 18, rfl⟩, by decide, rfl⟩
theorem c_M_makes_109 {P : kt_P} {NM : Nat} {L : List (Option Value)} {rest : List Value} {N : Nat} {I : kt_I} {J : kt_J} {R : kt_R} {Q : Option Value → kt_I → kt_J → kt_R → Prop} {b : Nat} {x0 : Int32} {x1 : Int32} {x2 : Int32} (hkd : kt_kd P N b = (5, 0)) (hrest : (rest.map fun v => v.category).sum ≤ 8) (kk : KW P i_M_puts N 0 [some (.ref b), some (.int x0), some (.int x1), some (.int x2)] [] N I J R (fun v I' J' R' => KW P i_M_makes NM 112 L (kt_pu v rest) N I' J' R' Q)) : KW P i_M_makes NM 109 L (.int x2 :: .int x1 :: .int x0 :: .ref b :: rest) N I J R Q := kw_callV x_M_makes_109 (As := [.int x0, .int x1, .int x2]) rfl rfl (Nat.le_of_ble_eq_true rfl) hrest hkd (Nat.le_refl N) (fun h => h) kk
theorem x_M_makes_112 : kt_dc i_M_makes 112 (.aload_n 0) 1 113 := ⟨by decide +kernel, rfl⟩
theorem x_M_makes_113 : kt_dc i_M_makes 113 (.iload 7) 2 115 := ⟨by decide +kernel, rfl⟩
theorem x_M_makes_115 : kt_dc i_M_makes 115 (.bipush 8) 2 117 ∧ (Int8.ofInt (8)).toInt32 = nI 8 := ⟨⟨by decide +kernel, rfl⟩, by decide⟩
theorem x_M_makes_117 : kt_dc i_M_makes 117 (.iconst 0) 1 118 ∧ Int32.ofInt (0) = nI 0 := ⟨⟨by decide +kernel, rfl⟩, by decide⟩
theorem x_M_makes_118 : kt_sV i_M_makes 118 i_M_puts 5 3 121 := ⟨79, ⟨by decide +kernel, rfl⟩, Or.inl (tw_658), j_M_puts, ⟨tw_660, tp_59⟩, ⟨TX5, 18, rfl⟩, by decide, rfl⟩
theorem c_M_makes_118 {P : kt_P} {NM : Nat} {L : List (Option Value)} {rest : List Value} {N : Nat} {I : kt_I} {J : kt_J} {R : kt_R} {Q : Option Value → kt_I → kt_J → kt_R → Prop} {b : Nat} {x0 : Int32} {x1 : Int32} {x2 : Int32} (hkd : kt_kd P N b = (5, 0)) (hrest : (rest.map fun v => v.category).sum ≤ 8) (kk : KW P i_M_puts N 0 [some (.ref b), some (.int x0), some (.int x1), some (.int x2)] [] N I J R (fun v I' J' R' => KW P i_M_makes NM 121 L (kt_pu v rest) N I' J' R' Q)) : KW P i_M_makes NM 118 L (.int x2 :: .int x1 :: .int x0 :: .ref b :: rest) N I J R Q := kw_callV x_M_makes_118 (As := [.int x0, .int x1, .int x2]) rfl rfl (Nat.le_of_ble_eq_true rfl) hrest hkd (Nat.le_refl N) (fun h => h) kk
theorem x_M_makes_121 : kt_dc i_M_makes 121 (.aload_n 0) 1 122 := ⟨by decide +kernel, rfl⟩
theorem x_M_makes_122 : kt_dc i_M_makes 122 (.aload_n 0) 1 123 := ⟨by decide +kernel, rfl⟩
theorem x_M_makes_123 : kt_sG i_M_makes 123 5 0 2 126 := ⟨7, RX5, TX5, 18, ⟨by decide +kernel, rfl⟩, rfl, by decide, rfl, by decide, Or.inl (tw_535)⟩
theorem x_M_makes_126 : kt_dc i_M_makes 126 (.iconst 1) 1 127 ∧ Int32.ofInt (1) = nI 1 := ⟨⟨by decide +kernel, rfl⟩, by decide⟩
theorem x_M_makes_127 : kt_dc i_M_makes 127 (.iaload) 1 128 := ⟨by decide +kernel, rfl⟩
theorem x_M_makes_128 : kt_sV i_M_makes 128 i_M_apologizes 5 1 131 := ⟨99, ⟨by decide +kernel, rfl⟩, Or.inl (tw_662), j_M_apologizes, ⟨tw_664, tp_60⟩, ⟨TX5, 18, rfl⟩, by decide, rfl⟩
theorem c_M_makes_128 {P : kt_P} {NM : Nat} {L : List (Option Value)} {rest : List Value} {N : Nat} {I : kt_I} {J : kt_J} {R : kt_R} {Q : Option Value → kt_I → kt_J → kt_R → Prop} {b : Nat} {x0 : Int32} (hkd : kt_kd P N b = (5, 0)) (hrest : (rest.map fun v => v.category).sum ≤ 8) (kk : KW P i_M_apologizes N 0 [some (.ref b), some (.int x0), none, none, none] [] N I J R (fun v I' J' R' => KW P i_M_makes NM 131 L (kt_pu v rest) N I' J' R' Q)) : KW P i_M_makes NM 128 L (.int x0 :: .ref b :: rest) N I J R Q := kw_callV x_M_makes_128 (As := [.int x0]) rfl rfl (Nat.le_of_ble_eq_true rfl) hrest hkd (Nat.le_refl N) (fun h => h) kk
theorem x_M_makes_131 : kt_dc i_M_makes 131 (.pop) 1 132 := ⟨by decide +kernel, rfl⟩
theorem x_M_makes_132 : kt_dc i_M_makes 132 (.iload 7) 2 134 := ⟨by decide +kernel, rfl⟩
theorem x_M_makes_134 : kt_dc i_M_makes 134 (.ireturn) 1 135 ∧ kt_rt i_M_makes = (some .int) := ⟨⟨by decide +kernel, rfl⟩, rfl⟩
theorem x_M_puts_0 : kt_dc i_M_puts 0 (.aload_n 0) 1 1 := ⟨by decide +kernel, rfl⟩
theorem x_M_puts_1 : kt_sG i_M_puts 1 5 0 2 4 := ⟨7, RX5, TX5, 18, ⟨by decide +kernel, rfl⟩, rfl, by decide, rfl, by decide, Or.inl (tw_535)⟩
theorem x_M_puts_4 : kt_dc i_M_puts 4 (.bipush 8) 2 6 ∧ (Int8.ofInt (8)).toInt32 = nI 8 := ⟨⟨by decide +kernel, rfl⟩, by decide⟩
theorem x_M_puts_6 : kt_dc i_M_puts 6 (.bipush 9) 2 8 ∧ (Int8.ofInt (9)).toInt32 = nI 9 := ⟨⟨by decide +kernel, rfl⟩, by decide⟩
theorem x_M_puts_8 : kt_dc i_M_puts 8 (.iload_n 1) 1 9 := ⟨by decide +kernel, rfl⟩
theorem x_M_puts_9 : kt_dc i_M_puts 9 (.imul) 1 10 := ⟨by decide +kernel, rfl⟩
theorem x_M_puts_10 : kt_dc i_M_puts 10 (.iadd) 1 11 := ⟨by decide +kernel, rfl⟩
theorem x_M_puts_11 : kt_dc i_M_puts 11 (.iload_n 2) 1 12 := ⟨by decide +kernel, rfl⟩
theorem x_M_puts_12 : kt_dc i_M_puts 12 (.iadd) 1 13 := ⟨by decide +kernel, rfl⟩
theorem x_M_puts_13 : kt_dc i_M_puts 13 (.iload_n 3) 1 14 := ⟨by decide +kernel, rfl⟩
theorem x_M_puts_14 : kt_dc i_M_puts 14 (.iastore) 1 15 := ⟨by decide +kernel, rfl⟩
theorem x_M_puts_15 : kt_dc i_M_puts 15 (.return_) 1 16 ∧ kt_rt i_M_puts = none := ⟨⟨by decide +kernel, rfl⟩, rfl⟩
theorem x_M_apologizes_0 : kt_dc i_M_apologizes 0 (.iconst 0) 1 1 ∧ Int32.ofInt (0) = nI 0 := ⟨⟨by decide +kernel, rfl⟩, by decide⟩
theorem x_M_apologizes_1 : kt_dc i_M_apologizes 1 (.istore_n 2) 1 2 := ⟨by decide +kernel, rfl⟩
theorem x_M_apologizes_2 : kt_dc i_M_apologizes 2 (.iconst 0) 1 3 ∧ Int32.ofInt (0) = nI 0 := ⟨⟨by decide +kernel, rfl⟩, by decide⟩
theorem x_M_apologizes_3 : kt_dc i_M_apologizes 3 (.istore_n 3) 1 4 := ⟨by decide +kernel, rfl⟩
theorem x_M_apologizes_4 : kt_dc i_M_apologizes 4 (.iload_n 3) 1 5 := ⟨by decide +kernel, rfl⟩
theorem x_M_apologizes_5 : kt_dc i_M_apologizes 5 (.iload_n 1) 1 6 := ⟨by decide +kernel, rfl⟩
theorem x_M_apologizes_6 : kt_dj i_M_apologizes 6 (.if_icmp .ge) 104 9 := ⟨98, by decide +kernel, by decide, rfl⟩
theorem x_M_apologizes_9 : kt_dc i_M_apologizes 9 (.aload_n 0) 1 10 := ⟨by decide +kernel, rfl⟩
theorem x_M_apologizes_10 : kt_dc i_M_apologizes 10 (.iload_n 3) 1 11 := ⟨by decide +kernel, rfl⟩
theorem x_M_apologizes_11 : kt_sV i_M_apologizes 11 i_M_thinksAll 5 1 14 := ⟨76, ⟨by decide +kernel, rfl⟩, Or.inl (tw_607), j_M_thinksAll, ⟨tw_609, tp_48⟩, ⟨TX5, 18, rfl⟩, by decide, rfl⟩
theorem c_M_apologizes_11 {P : kt_P} {NM : Nat} {L : List (Option Value)} {rest : List Value} {N : Nat} {I : kt_I} {J : kt_J} {R : kt_R} {Q : Option Value → kt_I → kt_J → kt_R → Prop} {b : Nat} {x0 : Int32} (hkd : kt_kd P N b = (5, 0)) (hrest : (rest.map fun v => v.category).sum ≤ 8) (kk : KW P i_M_thinksAll N 0 [some (.ref b), some (.int x0), none] [] N I J R (fun v I' J' R' => KW P i_M_apologizes NM 14 L (kt_pu v rest) N I' J' R' Q)) : KW P i_M_apologizes NM 11 L (.int x0 :: .ref b :: rest) N I J R Q := kw_callV x_M_apologizes_11 (As := [.int x0]) rfl rfl (Nat.le_of_ble_eq_true rfl) hrest hkd (Nat.le_refl N) (fun h => h) kk
theorem x_M_apologizes_14 : kt_dc i_M_apologizes 14 (.iconst 0) 1 15 ∧ Int32.ofInt (0) = nI 0 := ⟨⟨by decide +kernel, rfl⟩, by decide⟩
theorem x_M_apologizes_15 : kt_dc i_M_apologizes 15 (.istore 4) 2 17 := ⟨by decide +kernel, rfl⟩
theorem x_M_apologizes_17 : kt_dc i_M_apologizes 17 (.iload 4) 2 19 := ⟨by decide +kernel, rfl⟩
theorem x_M_apologizes_19 : kt_dc i_M_apologizes 19 (.aload_n 0) 1 20 := ⟨by decide +kernel, rfl⟩
theorem x_M_apologizes_20 : kt_sG i_M_apologizes 20 5 0 2 23 := ⟨7, RX5, TX5, 18, ⟨by decide +kernel, rfl⟩, rfl, by decide, rfl, by decide, Or.inl (tw_535)⟩
theorem x_M_apologizes_23 : kt_dc i_M_apologizes 23 (.iconst 2) 1 24 ∧ Int32.ofInt (2) = nI 2 := ⟨⟨by decide +kernel, rfl⟩, by decide⟩
theorem x_M_apologizes_24 : kt_dc i_M_apologizes 24 (.iaload) 1 25 := ⟨by decide +kernel, rfl⟩
theorem x_M_apologizes_25 : kt_dj i_M_apologizes 25 (.if_icmp .ge) 98 28 := ⟨73, by decide +kernel, by decide, rfl⟩
theorem x_M_apologizes_28 : kt_dc i_M_apologizes 28 (.aload_n 0) 1 29 := ⟨by decide +kernel, rfl⟩
theorem x_M_apologizes_29 : kt_sG i_M_apologizes 29 5 12 2 32 := ⟨34, RX5, TX5, 18, ⟨by decide +kernel, rfl⟩, rfl, by decide, rfl, by decide, Or.inl (tw_547)⟩
theorem x_M_apologizes_32 : kt_dc i_M_apologizes 32 (.bipush 60) 2 34 ∧ (Int8.ofInt (60)).toInt32 = nI 60 := ⟨⟨by decide +kernel, rfl⟩, by decide⟩
theorem x_M_apologizes_34 : kt_dc i_M_apologizes 34 (.iload_n 3) 1 35 := ⟨by decide +kernel, rfl⟩
theorem x_M_apologizes_35 : kt_dc i_M_apologizes 35 (.imul) 1 36 := ⟨by decide +kernel, rfl⟩
theorem x_M_apologizes_36 : kt_dc i_M_apologizes 36 (.iload 4) 2 38 := ⟨by decide +kernel, rfl⟩
theorem x_M_apologizes_38 : kt_dc i_M_apologizes 38 (.iadd) 1 39 := ⟨by decide +kernel, rfl⟩
theorem x_M_apologizes_39 : kt_dc i_M_apologizes 39 (.baload) 1 40 := ⟨by decide +kernel, rfl⟩
theorem x_M_apologizes_40 : kt_dj i_M_apologizes 40 (.ifCond .eq) 92 43 := ⟨52, by decide +kernel, by decide, rfl⟩
theorem x_M_apologizes_43 : kt_dc i_M_apologizes 43 (.aload_n 0) 1 44 := ⟨by decide +kernel, rfl⟩
theorem x_M_apologizes_44 : kt_sG i_M_apologizes 44 5 8 2 47 := ⟨25, RX5, TX5, 18, ⟨by decide +kernel, rfl⟩, rfl, by decide, rfl, by decide, Or.inl (tw_543)⟩
theorem x_M_apologizes_47 : kt_dc i_M_apologizes 47 (.iload 4) 2 49 := ⟨by decide +kernel, rfl⟩
theorem x_M_apologizes_49 : kt_dc i_M_apologizes 49 (.iaload) 1 50 := ⟨by decide +kernel, rfl⟩
theorem x_M_apologizes_50 : kt_dc i_M_apologizes 50 (.iconst 1) 1 51 ∧ Int32.ofInt (1) = nI 1 := ⟨⟨by decide +kernel, rfl⟩, by decide⟩
theorem x_M_apologizes_51 : kt_dj i_M_apologizes 51 (.if_icmp .ne) 92 54 := ⟨41, by decide +kernel, by decide, rfl⟩
theorem x_M_apologizes_54 : kt_dc i_M_apologizes 54 (.aload_n 0) 1 55 := ⟨by decide +kernel, rfl⟩
theorem x_M_apologizes_55 : kt_dc i_M_apologizes 55 (.iload 4) 2 57 := ⟨by decide +kernel, rfl⟩
theorem x_M_apologizes_57 : kt_dc i_M_apologizes 57 (.bipush 8) 2 59 ∧ (Int8.ofInt (8)).toInt32 = nI 8 := ⟨⟨by decide +kernel, rfl⟩, by decide⟩
theorem x_M_apologizes_59 : kt_sV i_M_apologizes 59 i_M_of 5 2 62 := ⟨44, ⟨by decide +kernel, rfl⟩, Or.inl (tw_615), j_M_of, ⟨tw_617, tp_50⟩, ⟨TX5, 18, rfl⟩, by decide, rfl⟩
theorem c_M_apologizes_59 {P : kt_P} {NM : Nat} {L : List (Option Value)} {rest : List Value} {N : Nat} {I : kt_I} {J : kt_J} {R : kt_R} {Q : Option Value → kt_I → kt_J → kt_R → Prop} {b : Nat} {x0 : Int32} {x1 : Int32} (hkd : kt_kd P N b = (5, 0)) (hrest : (rest.map fun v => v.category).sum ≤ 8) (kk : KW P i_M_of N 0 [some (.ref b), some (.int x0), some (.int x1)] [] N I J R (fun v I' J' R' => KW P i_M_apologizes NM 62 L (kt_pu v rest) N I' J' R' Q)) : KW P i_M_apologizes NM 59 L (.int x1 :: .int x0 :: .ref b :: rest) N I J R Q := kw_callV x_M_apologizes_59 (As := [.int x0, .int x1]) rfl rfl (Nat.le_of_ble_eq_true rfl) hrest hkd (Nat.le_refl N) (fun h => h) kk
theorem x_M_apologizes_62 : kt_dc i_M_apologizes 62 (.iload_n 3) 1 63 := ⟨by decide +kernel, rfl⟩
theorem x_M_apologizes_63 : kt_dc i_M_apologizes 63 (.ishr) 1 64 := ⟨by decide +kernel, rfl⟩
theorem x_M_apologizes_64 : kt_dc i_M_apologizes 64 (.iconst 1) 1 65 ∧ Int32.ofInt (1) = nI 1 := ⟨⟨by decide +kernel, rfl⟩, by decide⟩
theorem x_M_apologizes_65 : kt_dc i_M_apologizes 65 (.iand) 1 66 := ⟨by decide +kernel, rfl⟩
theorem x_M_apologizes_66 : kt_dj i_M_apologizes 66 (.ifCond .ne) 92 69 := ⟨26, by decide +kernel, by decide, rfl⟩
theorem x_M_apologizes_69 : kt_dc i_M_apologizes 69 (.aload_n 0) 1 70 := ⟨by decide +kernel, rfl⟩
theorem x_M_apologizes_70 : kt_dc i_M_apologizes 70 (.iload 4) 2 72 := ⟨by decide +kernel, rfl⟩
theorem x_M_apologizes_72 : kt_dc i_M_apologizes 72 (.bipush 8) 2 74 ∧ (Int8.ofInt (8)).toInt32 = nI 8 := ⟨⟨by decide +kernel, rfl⟩, by decide⟩
theorem x_M_apologizes_74 : kt_dc i_M_apologizes 74 (.aload_n 0) 1 75 := ⟨by decide +kernel, rfl⟩
theorem x_M_apologizes_75 : kt_dc i_M_apologizes 75 (.iload 4) 2 77 := ⟨by decide +kernel, rfl⟩
theorem x_M_apologizes_77 : kt_dc i_M_apologizes 77 (.bipush 8) 2 79 ∧ (Int8.ofInt (8)).toInt32 = nI 8 := ⟨⟨by decide +kernel, rfl⟩, by decide⟩
theorem x_M_apologizes_79 : kt_sV i_M_apologizes 79 i_M_of 5 2 82 := ⟨44, ⟨by decide +kernel, rfl⟩, Or.inl (tw_615), j_M_of, ⟨tw_617, tp_50⟩, ⟨TX5, 18, rfl⟩, by decide, rfl⟩
theorem c_M_apologizes_79 {P : kt_P} {NM : Nat} {L : List (Option Value)} {rest : List Value} {N : Nat} {I : kt_I} {J : kt_J} {R : kt_R} {Q : Option Value → kt_I → kt_J → kt_R → Prop} {b : Nat} {x0 : Int32} {x1 : Int32} (hkd : kt_kd P N b = (5, 0)) (hrest : (rest.map fun v => v.category).sum ≤ 8) (kk : KW P i_M_of N 0 [some (.ref b), some (.int x0), some (.int x1)] [] N I J R (fun v I' J' R' => KW P i_M_apologizes NM 82 L (kt_pu v rest) N I' J' R' Q)) : KW P i_M_apologizes NM 79 L (.int x1 :: .int x0 :: .ref b :: rest) N I J R Q := kw_callV x_M_apologizes_79 (As := [.int x0, .int x1]) rfl rfl (Nat.le_of_ble_eq_true rfl) hrest hkd (Nat.le_refl N) (fun h => h) kk
theorem x_M_apologizes_82 : kt_dc i_M_apologizes 82 (.iconst 1) 1 83 ∧ Int32.ofInt (1) = nI 1 := ⟨⟨by decide +kernel, rfl⟩, by decide⟩
theorem x_M_apologizes_83 : kt_dc i_M_apologizes 83 (.iload_n 3) 1 84 := ⟨by decide +kernel, rfl⟩
theorem x_M_apologizes_84 : kt_dc i_M_apologizes 84 (.ishl) 1 85 := ⟨by decide +kernel, rfl⟩
theorem x_M_apologizes_85 : kt_dc i_M_apologizes 85 (.ior) 1 86 := ⟨by decide +kernel, rfl⟩
theorem x_M_apologizes_86 : kt_sV i_M_apologizes 86 i_M_puts 5 3 89 := ⟨79, ⟨by decide +kernel, rfl⟩, Or.inl (tw_658), j_M_puts, ⟨tw_660, tp_59⟩, ⟨TX5, 18, rfl⟩, by decide, rfl⟩
theorem c_M_apologizes_86 {P : kt_P} {NM : Nat} {L : List (Option Value)} {rest : List Value} {N : Nat} {I : kt_I} {J : kt_J} {R : kt_R} {Q : Option Value → kt_I → kt_J → kt_R → Prop} {b : Nat} {x0 : Int32} {x1 : Int32} {x2 : Int32} (hkd : kt_kd P N b = (5, 0)) (hrest : (rest.map fun v => v.category).sum ≤ 8) (kk : KW P i_M_puts N 0 [some (.ref b), some (.int x0), some (.int x1), some (.int x2)] [] N I J R (fun v I' J' R' => KW P i_M_apologizes NM 89 L (kt_pu v rest) N I' J' R' Q)) : KW P i_M_apologizes NM 86 L (.int x2 :: .int x1 :: .int x0 :: .ref b :: rest) N I J R Q := kw_callV x_M_apologizes_86 (As := [.int x0, .int x1, .int x2]) rfl rfl (Nat.le_of_ble_eq_true rfl) hrest hkd (Nat.le_refl N) (fun h => h) kk
theorem x_M_apologizes_89 : kt_dc i_M_apologizes 89 (.iinc 2 1) 3 92 ∧ Int32.ofInt (1) = nI 1 := ⟨⟨by decide +kernel, rfl⟩, by decide⟩
theorem x_M_apologizes_92 : kt_dc i_M_apologizes 92 (.iinc 4 1) 3 95 ∧ Int32.ofInt (1) = nI 1 := ⟨⟨by decide +kernel, rfl⟩, by decide⟩
theorem x_M_apologizes_95 : kt_dj i_M_apologizes 95 .goto 17 98 := ⟨-78, by decide +kernel, by decide, rfl⟩
theorem x_M_apologizes_98 : kt_dc i_M_apologizes 98 (.iinc 3 1) 3 101 ∧ Int32.ofInt (1) = nI 1 := ⟨⟨by decide +kernel, rfl⟩, by decide⟩
theorem x_M_apologizes_101 : kt_dj i_M_apologizes 101 .goto 4 104 := ⟨-97, by decide +kernel, by decide, rfl⟩
theorem x_M_apologizes_104 : kt_dc i_M_apologizes 104 (.iload_n 2) 1 105 := ⟨by decide +kernel, rfl⟩
theorem x_M_apologizes_105 : kt_dc i_M_apologizes 105 (.ireturn) 1 106 ∧ kt_rt i_M_apologizes = (some .int) := ⟨⟨by decide +kernel, rfl⟩, rfl⟩
theorem x_M_order_0 : kt_dc i_M_order 0 (.aload_n 0) 1 1 := ⟨by decide +kernel, rfl⟩
theorem x_M_order_1 : kt_dc i_M_order 1 (.iload_n 1) 1 2 := ⟨by decide +kernel, rfl⟩
theorem x_M_order_2 : kt_sV i_M_order 2 i_M_isTown 5 1 5 := ⟨103, ⟨by decide +kernel, rfl⟩, Or.inl (tw_647), j_M_isTown, ⟨tw_649, tp_57⟩, ⟨TX5, 18, rfl⟩, by decide, rfl⟩
theorem c_M_order_2 {P : kt_P} {NM : Nat} {L : List (Option Value)} {rest : List Value} {N : Nat} {I : kt_I} {J : kt_J} {R : kt_R} {Q : Option Value → kt_I → kt_J → kt_R → Prop} {b : Nat} {x0 : Int32} (hkd : kt_kd P N b = (5, 0)) (hrest : (rest.map fun v => v.category).sum ≤ 8) (kk : KW P i_M_isTown N 0 [some (.ref b), some (.int x0)] [] N I J R (fun v I' J' R' => KW P i_M_order NM 5 L (kt_pu v rest) N I' J' R' Q)) : KW P i_M_order NM 2 L (.int x0 :: .ref b :: rest) N I J R Q := kw_callV x_M_order_2 (As := [.int x0]) rfl rfl (Nat.le_of_ble_eq_true rfl) hrest hkd (Nat.le_refl N) (fun h => h) kk
theorem x_M_order_5 : kt_dj i_M_order 5 (.ifCond .eq) 38 8 := ⟨33, by decide +kernel, by decide, rfl⟩
theorem x_M_order_8 : kt_dc i_M_order 8 (.iload_n 2) 1 9 := ⟨by decide +kernel, rfl⟩
theorem x_M_order_9 : kt_dc i_M_order 9 (.iconst 0) 1 10 ∧ Int32.ofInt (0) = nI 0 := ⟨⟨by decide +kernel, rfl⟩, by decide⟩
theorem x_M_order_10 : kt_dc i_M_order 10 (.bipush 9) 2 12 ∧ (Int8.ofInt (9)).toInt32 = nI 9 := ⟨⟨by decide +kernel, rfl⟩, by decide⟩
theorem x_M_order_12 : kt_sS i_M_order 12 i_M_in 3 15 := ⟨107, ⟨by decide +kernel, rfl⟩, Or.inl (tw_651), j_M_in, tw_652, rfl⟩
theorem c_M_order_12 {P : kt_P} {NM : Nat} {L : List (Option Value)} {rest : List Value} {N : Nat} {I : kt_I} {J : kt_J} {R : kt_R} {Q : Option Value → kt_I → kt_J → kt_R → Prop} {x0 : Int32} {x1 : Int32} {x2 : Int32} (hrest : (rest.map fun v => v.category).sum ≤ 8) (kk : KW P i_M_in N 0 [some (.int x0), some (.int x1), some (.int x2)] [] N I J R (fun v I' J' R' => KW P i_M_order NM 15 L (kt_pu v rest) N I' J' R' Q)) : KW P i_M_order NM 12 L (.int x2 :: .int x1 :: .int x0 :: rest) N I J R Q := kw_callS x_M_order_12 (As := [.int x0, .int x1, .int x2]) rfl rfl (Nat.le_of_ble_eq_true rfl) hrest (Nat.le_refl N) (fun h => h) kk
theorem x_M_order_15 : kt_dj i_M_order 15 (.ifCond .eq) 38 18 := ⟨23, by decide +kernel, by decide, rfl⟩
theorem x_M_order_18 : kt_dc i_M_order 18 (.iload_n 3) 1 19 := ⟨by decide +kernel, rfl⟩
theorem x_M_order_19 : kt_dc i_M_order 19 (.iconst 0) 1 20 ∧ Int32.ofInt (0) = nI 0 := ⟨⟨by decide +kernel, rfl⟩, by decide⟩
theorem x_M_order_20 : kt_dc i_M_order 20 (.iconst 5) 1 21 ∧ Int32.ofInt (5) = nI 5 := ⟨⟨by decide +kernel, rfl⟩, by decide⟩
theorem x_M_order_21 : kt_sS i_M_order 21 i_M_in 3 24 := ⟨107, ⟨by decide +kernel, rfl⟩, Or.inl (tw_651), j_M_in, tw_652, rfl⟩
theorem c_M_order_21 {P : kt_P} {NM : Nat} {L : List (Option Value)} {rest : List Value} {N : Nat} {I : kt_I} {J : kt_J} {R : kt_R} {Q : Option Value → kt_I → kt_J → kt_R → Prop} {x0 : Int32} {x1 : Int32} {x2 : Int32} (hrest : (rest.map fun v => v.category).sum ≤ 8) (kk : KW P i_M_in N 0 [some (.int x0), some (.int x1), some (.int x2)] [] N I J R (fun v I' J' R' => KW P i_M_order NM 24 L (kt_pu v rest) N I' J' R' Q)) : KW P i_M_order NM 21 L (.int x2 :: .int x1 :: .int x0 :: rest) N I J R Q := kw_callS x_M_order_21 (As := [.int x0, .int x1, .int x2]) rfl rfl (Nat.le_of_ble_eq_true rfl) hrest (Nat.le_refl N) (fun h => h) kk
theorem x_M_order_24 : kt_dj i_M_order 24 (.ifCond .eq) 38 27 := ⟨14, by decide +kernel, by decide, rfl⟩
theorem x_M_order_27 : kt_dc i_M_order 27 (.iload 4) 2 29 := ⟨by decide +kernel, rfl⟩
theorem x_M_order_29 : kt_dc i_M_order 29 (.iconst 1) 1 30 ∧ Int32.ofInt (1) = nI 1 := ⟨⟨by decide +kernel, rfl⟩, by decide⟩
theorem x_M_order_30 : kt_dc i_M_order 30 (.bipush 99) 2 32 ∧ (Int8.ofInt (99)).toInt32 = nI 99 := ⟨⟨by decide +kernel, rfl⟩, by decide⟩
theorem x_M_order_32 : kt_sS i_M_order 32 i_M_in 3 35 := ⟨107, ⟨by decide +kernel, rfl⟩, Or.inl (tw_651), j_M_in, tw_652, rfl⟩
theorem c_M_order_32 {P : kt_P} {NM : Nat} {L : List (Option Value)} {rest : List Value} {N : Nat} {I : kt_I} {J : kt_J} {R : kt_R} {Q : Option Value → kt_I → kt_J → kt_R → Prop} {x0 : Int32} {x1 : Int32} {x2 : Int32} (hrest : (rest.map fun v => v.category).sum ≤ 8) (kk : KW P i_M_in N 0 [some (.int x0), some (.int x1), some (.int x2)] [] N I J R (fun v I' J' R' => KW P i_M_order NM 35 L (kt_pu v rest) N I' J' R' Q)) : KW P i_M_order NM 32 L (.int x2 :: .int x1 :: .int x0 :: rest) N I J R Q := kw_callS x_M_order_32 (As := [.int x0, .int x1, .int x2]) rfl rfl (Nat.le_of_ble_eq_true rfl) hrest (Nat.le_refl N) (fun h => h) kk
theorem x_M_order_35 : kt_dj i_M_order 35 (.ifCond .ne) 40 38 := ⟨5, by decide +kernel, by decide, rfl⟩
theorem x_M_order_38 : kt_dc i_M_order 38 (.iconst (-1)) 1 39 ∧ Int32.ofInt (-1) = (-1 : Int32) := ⟨⟨by decide +kernel, rfl⟩, by decide⟩
theorem x_M_order_39 : kt_dc i_M_order 39 (.ireturn) 1 40 ∧ kt_rt i_M_order = (some .int) := ⟨⟨by decide +kernel, rfl⟩, rfl⟩
theorem x_M_order_40 : kt_dc i_M_order 40 (.aload_n 0) 1 41 := ⟨by decide +kernel, rfl⟩
theorem x_M_order_41 : kt_sG i_M_order 41 5 0 2 44 := ⟨7, RX5, TX5, 18, ⟨by decide +kernel, rfl⟩, rfl, by decide, rfl, by decide, Or.inl (tw_535)⟩
theorem x_M_order_44 : kt_dc i_M_order 44 (.iconst 2) 1 45 ∧ Int32.ofInt (2) = nI 2 := ⟨⟨by decide +kernel, rfl⟩, by decide⟩
theorem x_M_order_45 : kt_dc i_M_order 45 (.iaload) 1 46 := ⟨by decide +kernel, rfl⟩
theorem x_M_order_46 : kt_dc i_M_order 46 (.bipush 60) 2 48 ∧ (Int8.ofInt (60)).toInt32 = nI 60 := ⟨⟨by decide +kernel, rfl⟩, by decide⟩
theorem x_M_order_48 : kt_dj i_M_order 48 (.if_icmp .ne) 56 51 := ⟨8, by decide +kernel, by decide, rfl⟩
theorem x_M_order_51 : kt_dc i_M_order 51 (.bipush (-3)) 2 53 ∧ (Int8.ofInt (-3)).toInt32 = (-3 : Int32) := ⟨⟨by decide +kernel, rfl⟩, by decide⟩
theorem x_M_order_53 : kt_dj i_M_order 53 .goto 68 56 := ⟨15, by decide +kernel, by decide, rfl⟩
theorem x_M_order_56 : kt_dc i_M_order 56 (.aload_n 0) 1 57 := ⟨by decide +kernel, rfl⟩
theorem x_M_order_57 : kt_dc i_M_order 57 (.iload_n 1) 1 58 := ⟨by decide +kernel, rfl⟩
theorem x_M_order_58 : kt_dc i_M_order 58 (.iconst 1) 1 59 ∧ Int32.ofInt (1) = nI 1 := ⟨⟨by decide +kernel, rfl⟩, by decide⟩
theorem x_M_order_59 : kt_dc i_M_order 59 (.iload_n 3) 1 60 := ⟨by decide +kernel, rfl⟩
theorem x_M_order_60 : kt_dc i_M_order 60 (.iload 4) 2 62 := ⟨by decide +kernel, rfl⟩
theorem x_M_order_62 : kt_dc i_M_order 62 (.iload_n 2) 1 63 := ⟨by decide +kernel, rfl⟩
theorem x_M_order_63 : kt_dc i_M_order 63 (.bipush (-4)) 2 65 ∧ (Int8.ofInt (-4)).toInt32 = (-4 : Int32) := ⟨⟨by decide +kernel, rfl⟩, by decide⟩
theorem x_M_order_65 : kt_sV i_M_order 65 i_M_makes 5 6 68 := ⟨111, ⟨by decide +kernel, rfl⟩, Or.inl (tw_654), j_M_makes, ⟨tw_656, tp_58⟩, ⟨TX5, 18, rfl⟩, by decide, rfl⟩
theorem c_M_order_65 {P : kt_P} {NM : Nat} {L : List (Option Value)} {rest : List Value} {N : Nat} {I : kt_I} {J : kt_J} {R : kt_R} {Q : Option Value → kt_I → kt_J → kt_R → Prop} {b : Nat} {x0 : Int32} {x1 : Int32} {x2 : Int32} {x3 : Int32} {x4 : Int32} {x5 : Int32} (hkd : kt_kd P N b = (5, 0)) (hrest : (rest.map fun v => v.category).sum ≤ 8) (kk : KW P i_M_makes N 0 [some (.ref b), some (.int x0), some (.int x1), some (.int x2), some (.int x3), some (.int x4), some (.int x5), none] [] N I J R (fun v I' J' R' => KW P i_M_order NM 68 L (kt_pu v rest) N I' J' R' Q)) : KW P i_M_order NM 65 L (.int x5 :: .int x4 :: .int x3 :: .int x2 :: .int x1 :: .int x0 :: .ref b :: rest) N I J R Q := kw_callV x_M_order_65 (As := [.int x0, .int x1, .int x2, .int x3, .int x4, .int x5]) rfl rfl (Nat.le_of_ble_eq_true rfl) hrest hkd (Nat.le_refl N) (fun h => h) kk
theorem x_M_order_68 : kt_dc i_M_order 68 (.ireturn) 1 69 ∧ kt_rt i_M_order = (some .int) := ⟨⟨by decide +kernel, rfl⟩, rfl⟩
theorem x_M_cancel_0 : kt_dc i_M_cancel 0 (.aload_n 0) 1 1 := ⟨by decide +kernel, rfl⟩
theorem x_M_cancel_1 : kt_dc i_M_cancel 1 (.iload_n 1) 1 2 := ⟨by decide +kernel, rfl⟩
theorem x_M_cancel_2 : kt_sV i_M_cancel 2 i_M_isTown 5 1 5 := ⟨103, ⟨by decide +kernel, rfl⟩, Or.inl (tw_647), j_M_isTown, ⟨tw_649, tp_57⟩, ⟨TX5, 18, rfl⟩, by decide, rfl⟩
theorem c_M_cancel_2 {P : kt_P} {NM : Nat} {L : List (Option Value)} {rest : List Value} {N : Nat} {I : kt_I} {J : kt_J} {R : kt_R} {Q : Option Value → kt_I → kt_J → kt_R → Prop} {b : Nat} {x0 : Int32} (hkd : kt_kd P N b = (5, 0)) (hrest : (rest.map fun v => v.category).sum ≤ 8) (kk : KW P i_M_isTown N 0 [some (.ref b), some (.int x0)] [] N I J R (fun v I' J' R' => KW P i_M_cancel NM 5 L (kt_pu v rest) N I' J' R' Q)) : KW P i_M_cancel NM 2 L (.int x0 :: .ref b :: rest) N I J R Q := kw_callV x_M_cancel_2 (As := [.int x0]) rfl rfl (Nat.le_of_ble_eq_true rfl) hrest hkd (Nat.le_refl N) (fun h => h) kk
theorem x_M_cancel_5 : kt_dj i_M_cancel 5 (.ifCond .eq) 16 8 := ⟨11, by decide +kernel, by decide, rfl⟩
theorem x_M_cancel_8 : kt_dc i_M_cancel 8 (.aload_n 0) 1 9 := ⟨by decide +kernel, rfl⟩
theorem x_M_cancel_9 : kt_dc i_M_cancel 9 (.iload_n 2) 1 10 := ⟨by decide +kernel, rfl⟩
theorem x_M_cancel_10 : kt_sV i_M_cancel 10 i_M_isEvent 5 1 13 := ⟨115, ⟨by decide +kernel, rfl⟩, Or.inl (tw_674), j_M_isEvent, ⟨tw_676, tp_61⟩, ⟨TX5, 18, rfl⟩, by decide, rfl⟩
theorem c_M_cancel_10 {P : kt_P} {NM : Nat} {L : List (Option Value)} {rest : List Value} {N : Nat} {I : kt_I} {J : kt_J} {R : kt_R} {Q : Option Value → kt_I → kt_J → kt_R → Prop} {b : Nat} {x0 : Int32} (hkd : kt_kd P N b = (5, 0)) (hrest : (rest.map fun v => v.category).sum ≤ 8) (kk : KW P i_M_isEvent N 0 [some (.ref b), some (.int x0)] [] N I J R (fun v I' J' R' => KW P i_M_cancel NM 13 L (kt_pu v rest) N I' J' R' Q)) : KW P i_M_cancel NM 10 L (.int x0 :: .ref b :: rest) N I J R Q := kw_callV x_M_cancel_10 (As := [.int x0]) rfl rfl (Nat.le_of_ble_eq_true rfl) hrest hkd (Nat.le_refl N) (fun h => h) kk
theorem x_M_cancel_13 : kt_dj i_M_cancel 13 (.ifCond .ne) 18 16 := ⟨5, by decide +kernel, by decide, rfl⟩
theorem x_M_cancel_16 : kt_dc i_M_cancel 16 (.iconst (-1)) 1 17 ∧ Int32.ofInt (-1) = (-1 : Int32) := ⟨⟨by decide +kernel, rfl⟩, by decide⟩
theorem x_M_cancel_17 : kt_dc i_M_cancel 17 (.ireturn) 1 18 ∧ kt_rt i_M_cancel = (some .int) := ⟨⟨by decide +kernel, rfl⟩, rfl⟩
theorem x_M_cancel_18 : kt_dc i_M_cancel 18 (.aload_n 0) 1 19 := ⟨by decide +kernel, rfl⟩
theorem x_M_cancel_19 : kt_dc i_M_cancel 19 (.iload_n 2) 1 20 := ⟨by decide +kernel, rfl⟩
theorem x_M_cancel_20 : kt_dc i_M_cancel 20 (.iconst 0) 1 21 ∧ Int32.ofInt (0) = nI 0 := ⟨⟨by decide +kernel, rfl⟩, by decide⟩
theorem x_M_cancel_21 : kt_sV i_M_cancel 21 i_M_of 5 2 24 := ⟨44, ⟨by decide +kernel, rfl⟩, Or.inl (tw_615), j_M_of, ⟨tw_617, tp_50⟩, ⟨TX5, 18, rfl⟩, by decide, rfl⟩
theorem c_M_cancel_21 {P : kt_P} {NM : Nat} {L : List (Option Value)} {rest : List Value} {N : Nat} {I : kt_I} {J : kt_J} {R : kt_R} {Q : Option Value → kt_I → kt_J → kt_R → Prop} {b : Nat} {x0 : Int32} {x1 : Int32} (hkd : kt_kd P N b = (5, 0)) (hrest : (rest.map fun v => v.category).sum ≤ 8) (kk : KW P i_M_of N 0 [some (.ref b), some (.int x0), some (.int x1)] [] N I J R (fun v I' J' R' => KW P i_M_cancel NM 24 L (kt_pu v rest) N I' J' R' Q)) : KW P i_M_cancel NM 21 L (.int x1 :: .int x0 :: .ref b :: rest) N I J R Q := kw_callV x_M_cancel_21 (As := [.int x0, .int x1]) rfl rfl (Nat.le_of_ble_eq_true rfl) hrest hkd (Nat.le_refl N) (fun h => h) kk
theorem x_M_cancel_24 : kt_dc i_M_cancel 24 (.iconst 1) 1 25 ∧ Int32.ofInt (1) = nI 1 := ⟨⟨by decide +kernel, rfl⟩, by decide⟩
theorem x_M_cancel_25 : kt_dj i_M_cancel 25 (.if_icmp .ne) 46 28 := ⟨21, by decide +kernel, by decide, rfl⟩
theorem x_M_cancel_28 : kt_dc i_M_cancel 28 (.aload_n 0) 1 29 := ⟨by decide +kernel, rfl⟩
theorem x_M_cancel_29 : kt_dc i_M_cancel 29 (.iload_n 1) 1 30 := ⟨by decide +kernel, rfl⟩
theorem x_M_cancel_30 : kt_dc i_M_cancel 30 (.iload_n 2) 1 31 := ⟨by decide +kernel, rfl⟩
theorem x_M_cancel_31 : kt_sV i_M_cancel 31 i_M_knows 5 2 34 := ⟨48, ⟨by decide +kernel, rfl⟩, Or.inl (tw_619), j_M_knows, ⟨tw_621, tp_51⟩, ⟨TX5, 18, rfl⟩, by decide, rfl⟩
theorem c_M_cancel_31 {P : kt_P} {NM : Nat} {L : List (Option Value)} {rest : List Value} {N : Nat} {I : kt_I} {J : kt_J} {R : kt_R} {Q : Option Value → kt_I → kt_J → kt_R → Prop} {b : Nat} {x0 : Int32} {x1 : Int32} (hkd : kt_kd P N b = (5, 0)) (hrest : (rest.map fun v => v.category).sum ≤ 8) (kk : KW P i_M_knows N 0 [some (.ref b), some (.int x0), some (.int x1)] [] N I J R (fun v I' J' R' => KW P i_M_cancel NM 34 L (kt_pu v rest) N I' J' R' Q)) : KW P i_M_cancel NM 31 L (.int x1 :: .int x0 :: .ref b :: rest) N I J R Q := kw_callV x_M_cancel_31 (As := [.int x0, .int x1]) rfl rfl (Nat.le_of_ble_eq_true rfl) hrest hkd (Nat.le_refl N) (fun h => h) kk
theorem x_M_cancel_34 : kt_dj i_M_cancel 34 (.ifCond .eq) 46 37 := ⟨12, by decide +kernel, by decide, rfl⟩
theorem x_M_cancel_37 : kt_dc i_M_cancel 37 (.aload_n 0) 1 38 := ⟨by decide +kernel, rfl⟩
theorem x_M_cancel_38 : kt_dc i_M_cancel 38 (.iload_n 1) 1 39 := ⟨by decide +kernel, rfl⟩
theorem x_M_cancel_39 : kt_dc i_M_cancel 39 (.iload_n 2) 1 40 := ⟨by decide +kernel, rfl⟩
theorem x_M_cancel_40 : kt_sV i_M_cancel 40 i_M_isCancelled 5 2 43 := ⟨65, ⟨by decide +kernel, rfl⟩, Or.inl (tw_623), j_M_isCancelled, ⟨tw_625, tp_52⟩, ⟨TX5, 18, rfl⟩, by decide, rfl⟩
theorem c_M_cancel_40 {P : kt_P} {NM : Nat} {L : List (Option Value)} {rest : List Value} {N : Nat} {I : kt_I} {J : kt_J} {R : kt_R} {Q : Option Value → kt_I → kt_J → kt_R → Prop} {b : Nat} {x0 : Int32} {x1 : Int32} (hkd : kt_kd P N b = (5, 0)) (hrest : (rest.map fun v => v.category).sum ≤ 8) (kk : KW P i_M_isCancelled N 0 [some (.ref b), some (.int x0), some (.int x1), none, none] [] N I J R (fun v I' J' R' => KW P i_M_cancel NM 43 L (kt_pu v rest) N I' J' R' Q)) : KW P i_M_cancel NM 40 L (.int x1 :: .int x0 :: .ref b :: rest) N I J R Q := kw_callV x_M_cancel_40 (As := [.int x0, .int x1]) rfl rfl (Nat.le_of_ble_eq_true rfl) hrest hkd (Nat.le_refl N) (fun h => h) kk
theorem x_M_cancel_43 : kt_dj i_M_cancel 43 (.ifCond .eq) 49 46 := ⟨6, by decide +kernel, by decide, rfl⟩
theorem x_M_cancel_46 : kt_dc i_M_cancel 46 (.bipush (-2)) 2 48 ∧ (Int8.ofInt (-2)).toInt32 = (-2 : Int32) := ⟨⟨by decide +kernel, rfl⟩, by decide⟩
theorem x_M_cancel_48 : kt_dc i_M_cancel 48 (.ireturn) 1 49 ∧ kt_rt i_M_cancel = (some .int) := ⟨⟨by decide +kernel, rfl⟩, rfl⟩
theorem x_M_cancel_49 : kt_dc i_M_cancel 49 (.aload_n 0) 1 50 := ⟨by decide +kernel, rfl⟩
theorem x_M_cancel_50 : kt_sG i_M_cancel 50 5 0 2 53 := ⟨7, RX5, TX5, 18, ⟨by decide +kernel, rfl⟩, rfl, by decide, rfl, by decide, Or.inl (tw_535)⟩
theorem x_M_cancel_53 : kt_dc i_M_cancel 53 (.iconst 2) 1 54 ∧ Int32.ofInt (2) = nI 2 := ⟨⟨by decide +kernel, rfl⟩, by decide⟩
theorem x_M_cancel_54 : kt_dc i_M_cancel 54 (.iaload) 1 55 := ⟨by decide +kernel, rfl⟩
theorem x_M_cancel_55 : kt_dc i_M_cancel 55 (.bipush 60) 2 57 ∧ (Int8.ofInt (60)).toInt32 = nI 60 := ⟨⟨by decide +kernel, rfl⟩, by decide⟩
theorem x_M_cancel_57 : kt_dj i_M_cancel 57 (.if_icmp .ne) 65 60 := ⟨8, by decide +kernel, by decide, rfl⟩
theorem x_M_cancel_60 : kt_dc i_M_cancel 60 (.bipush (-3)) 2 62 ∧ (Int8.ofInt (-3)).toInt32 = (-3 : Int32) := ⟨⟨by decide +kernel, rfl⟩, by decide⟩
theorem x_M_cancel_62 : kt_dj i_M_cancel 62 .goto 90 65 := ⟨28, by decide +kernel, by decide, rfl⟩
theorem x_M_cancel_65 : kt_dc i_M_cancel 65 (.aload_n 0) 1 66 := ⟨by decide +kernel, rfl⟩
theorem x_M_cancel_66 : kt_dc i_M_cancel 66 (.iload_n 1) 1 67 := ⟨by decide +kernel, rfl⟩
theorem x_M_cancel_67 : kt_dc i_M_cancel 67 (.iconst 2) 1 68 ∧ Int32.ofInt (2) = nI 2 := ⟨⟨by decide +kernel, rfl⟩, by decide⟩
theorem x_M_cancel_68 : kt_dc i_M_cancel 68 (.aload_n 0) 1 69 := ⟨by decide +kernel, rfl⟩
theorem x_M_cancel_69 : kt_dc i_M_cancel 69 (.iload_n 2) 1 70 := ⟨by decide +kernel, rfl⟩
theorem x_M_cancel_70 : kt_dc i_M_cancel 70 (.iconst 3) 1 71 ∧ Int32.ofInt (3) = nI 3 := ⟨⟨by decide +kernel, rfl⟩, by decide⟩
theorem x_M_cancel_71 : kt_sV i_M_cancel 71 i_M_of 5 2 74 := ⟨44, ⟨by decide +kernel, rfl⟩, Or.inl (tw_615), j_M_of, ⟨tw_617, tp_50⟩, ⟨TX5, 18, rfl⟩, by decide, rfl⟩
theorem c_M_cancel_71 {P : kt_P} {NM : Nat} {L : List (Option Value)} {rest : List Value} {N : Nat} {I : kt_I} {J : kt_J} {R : kt_R} {Q : Option Value → kt_I → kt_J → kt_R → Prop} {b : Nat} {x0 : Int32} {x1 : Int32} (hkd : kt_kd P N b = (5, 0)) (hrest : (rest.map fun v => v.category).sum ≤ 8) (kk : KW P i_M_of N 0 [some (.ref b), some (.int x0), some (.int x1)] [] N I J R (fun v I' J' R' => KW P i_M_cancel NM 74 L (kt_pu v rest) N I' J' R' Q)) : KW P i_M_cancel NM 71 L (.int x1 :: .int x0 :: .ref b :: rest) N I J R Q := kw_callV x_M_cancel_71 (As := [.int x0, .int x1]) rfl rfl (Nat.le_of_ble_eq_true rfl) hrest hkd (Nat.le_refl N) (fun h => h) kk
theorem x_M_cancel_74 : kt_dc i_M_cancel 74 (.aload_n 0) 1 75 := ⟨by decide +kernel, rfl⟩
theorem x_M_cancel_75 : kt_dc i_M_cancel 75 (.iload_n 2) 1 76 := ⟨by decide +kernel, rfl⟩
theorem x_M_cancel_76 : kt_dc i_M_cancel 76 (.iconst 4) 1 77 ∧ Int32.ofInt (4) = nI 4 := ⟨⟨by decide +kernel, rfl⟩, by decide⟩
theorem x_M_cancel_77 : kt_sV i_M_cancel 77 i_M_of 5 2 80 := ⟨44, ⟨by decide +kernel, rfl⟩, Or.inl (tw_615), j_M_of, ⟨tw_617, tp_50⟩, ⟨TX5, 18, rfl⟩, by decide, rfl⟩
theorem c_M_cancel_77 {P : kt_P} {NM : Nat} {L : List (Option Value)} {rest : List Value} {N : Nat} {I : kt_I} {J : kt_J} {R : kt_R} {Q : Option Value → kt_I → kt_J → kt_R → Prop} {b : Nat} {x0 : Int32} {x1 : Int32} (hkd : kt_kd P N b = (5, 0)) (hrest : (rest.map fun v => v.category).sum ≤ 8) (kk : KW P i_M_of N 0 [some (.ref b), some (.int x0), some (.int x1)] [] N I J R (fun v I' J' R' => KW P i_M_cancel NM 80 L (kt_pu v rest) N I' J' R' Q)) : KW P i_M_cancel NM 77 L (.int x1 :: .int x0 :: .ref b :: rest) N I J R Q := kw_callV x_M_cancel_77 (As := [.int x0, .int x1]) rfl rfl (Nat.le_of_ble_eq_true rfl) hrest hkd (Nat.le_refl N) (fun h => h) kk
theorem x_M_cancel_80 : kt_dc i_M_cancel 80 (.aload_n 0) 1 81 := ⟨by decide +kernel, rfl⟩
theorem x_M_cancel_81 : kt_dc i_M_cancel 81 (.iload_n 2) 1 82 := ⟨by decide +kernel, rfl⟩
theorem x_M_cancel_82 : kt_dc i_M_cancel 82 (.iconst 5) 1 83 ∧ Int32.ofInt (5) = nI 5 := ⟨⟨by decide +kernel, rfl⟩, by decide⟩
theorem x_M_cancel_83 : kt_sV i_M_cancel 83 i_M_of 5 2 86 := ⟨44, ⟨by decide +kernel, rfl⟩, Or.inl (tw_615), j_M_of, ⟨tw_617, tp_50⟩, ⟨TX5, 18, rfl⟩, by decide, rfl⟩
theorem c_M_cancel_83 {P : kt_P} {NM : Nat} {L : List (Option Value)} {rest : List Value} {N : Nat} {I : kt_I} {J : kt_J} {R : kt_R} {Q : Option Value → kt_I → kt_J → kt_R → Prop} {b : Nat} {x0 : Int32} {x1 : Int32} (hkd : kt_kd P N b = (5, 0)) (hrest : (rest.map fun v => v.category).sum ≤ 8) (kk : KW P i_M_of N 0 [some (.ref b), some (.int x0), some (.int x1)] [] N I J R (fun v I' J' R' => KW P i_M_cancel NM 86 L (kt_pu v rest) N I' J' R' Q)) : KW P i_M_cancel NM 83 L (.int x1 :: .int x0 :: .ref b :: rest) N I J R Q := kw_callV x_M_cancel_83 (As := [.int x0, .int x1]) rfl rfl (Nat.le_of_ble_eq_true rfl) hrest hkd (Nat.le_refl N) (fun h => h) kk
theorem x_M_cancel_86 : kt_dc i_M_cancel 86 (.iload_n 2) 1 87 := ⟨by decide +kernel, rfl⟩
theorem x_M_cancel_87 : kt_sV i_M_cancel 87 i_M_makes 5 6 90 := ⟨111, ⟨by decide +kernel, rfl⟩, Or.inl (tw_654), j_M_makes, ⟨tw_656, tp_58⟩, ⟨TX5, 18, rfl⟩, by decide, rfl⟩
theorem c_M_cancel_87 {P : kt_P} {NM : Nat} {L : List (Option Value)} {rest : List Value} {N : Nat} {I : kt_I} {J : kt_J} {R : kt_R} {Q : Option Value → kt_I → kt_J → kt_R → Prop} {b : Nat} {x0 : Int32} {x1 : Int32} {x2 : Int32} {x3 : Int32} {x4 : Int32} {x5 : Int32} (hkd : kt_kd P N b = (5, 0)) (hrest : (rest.map fun v => v.category).sum ≤ 8) (kk : KW P i_M_makes N 0 [some (.ref b), some (.int x0), some (.int x1), some (.int x2), some (.int x3), some (.int x4), some (.int x5), none] [] N I J R (fun v I' J' R' => KW P i_M_cancel NM 90 L (kt_pu v rest) N I' J' R' Q)) : KW P i_M_cancel NM 87 L (.int x5 :: .int x4 :: .int x3 :: .int x2 :: .int x1 :: .int x0 :: .ref b :: rest) N I J R Q := kw_callV x_M_cancel_87 (As := [.int x0, .int x1, .int x2, .int x3, .int x4, .int x5]) rfl rfl (Nat.le_of_ble_eq_true rfl) hrest hkd (Nat.le_refl N) (fun h => h) kk
theorem x_M_cancel_90 : kt_dc i_M_cancel 90 (.ireturn) 1 91 ∧ kt_rt i_M_cancel = (some .int) := ⟨⟨by decide +kernel, rfl⟩, rfl⟩
theorem x_M_isEvent_0 : kt_dc i_M_isEvent 0 (.iload_n 1) 1 1 := ⟨by decide +kernel, rfl⟩
theorem x_M_isEvent_1 : kt_dj i_M_isEvent 1 (.ifCond .lt) 18 4 := ⟨17, by decide +kernel, by decide, rfl⟩
theorem x_M_isEvent_4 : kt_dc i_M_isEvent 4 (.iload_n 1) 1 5 := ⟨by decide +kernel, rfl⟩
theorem x_M_isEvent_5 : kt_dc i_M_isEvent 5 (.aload_n 0) 1 6 := ⟨by decide +kernel, rfl⟩
theorem x_M_isEvent_6 : kt_sG i_M_isEvent 6 5 0 2 9 := ⟨7, RX5, TX5, 18, ⟨by decide +kernel, rfl⟩, rfl, by decide, rfl, by decide, Or.inl (tw_535)⟩
theorem x_M_isEvent_9 : kt_dc i_M_isEvent 9 (.iconst 2) 1 10 ∧ Int32.ofInt (2) = nI 2 := ⟨⟨by decide +kernel, rfl⟩, by decide⟩
theorem x_M_isEvent_10 : kt_dc i_M_isEvent 10 (.iaload) 1 11 := ⟨by decide +kernel, rfl⟩
theorem x_M_isEvent_11 : kt_dj i_M_isEvent 11 (.if_icmp .ge) 18 14 := ⟨7, by decide +kernel, by decide, rfl⟩
theorem x_M_isEvent_14 : kt_dc i_M_isEvent 14 (.iconst 1) 1 15 ∧ Int32.ofInt (1) = nI 1 := ⟨⟨by decide +kernel, rfl⟩, by decide⟩
theorem x_M_isEvent_15 : kt_dj i_M_isEvent 15 .goto 19 18 := ⟨4, by decide +kernel, by decide, rfl⟩
theorem x_M_isEvent_18 : kt_dc i_M_isEvent 18 (.iconst 0) 1 19 ∧ Int32.ofInt (0) = nI 0 := ⟨⟨by decide +kernel, rfl⟩, by decide⟩
theorem x_M_isEvent_19 : kt_dc i_M_isEvent 19 (.ireturn) 1 20 ∧ kt_rt i_M_isEvent = (some .boolean) := ⟨⟨by decide +kernel, rfl⟩, rfl⟩
theorem x_M_meet_0 : kt_dc i_M_meet 0 (.aload_n 0) 1 1 := ⟨by decide +kernel, rfl⟩
theorem x_M_meet_1 : kt_dc i_M_meet 1 (.iload_n 1) 1 2 := ⟨by decide +kernel, rfl⟩
theorem x_M_meet_2 : kt_sV i_M_meet 2 i_M_isTown 5 1 5 := ⟨103, ⟨by decide +kernel, rfl⟩, Or.inl (tw_647), j_M_isTown, ⟨tw_649, tp_57⟩, ⟨TX5, 18, rfl⟩, by decide, rfl⟩
theorem c_M_meet_2 {P : kt_P} {NM : Nat} {L : List (Option Value)} {rest : List Value} {N : Nat} {I : kt_I} {J : kt_J} {R : kt_R} {Q : Option Value → kt_I → kt_J → kt_R → Prop} {b : Nat} {x0 : Int32} (hkd : kt_kd P N b = (5, 0)) (hrest : (rest.map fun v => v.category).sum ≤ 8) (kk : KW P i_M_isTown N 0 [some (.ref b), some (.int x0)] [] N I J R (fun v I' J' R' => KW P i_M_meet NM 5 L (kt_pu v rest) N I' J' R' Q)) : KW P i_M_meet NM 2 L (.int x0 :: .ref b :: rest) N I J R Q := kw_callV x_M_meet_2 (As := [.int x0]) rfl rfl (Nat.le_of_ble_eq_true rfl) hrest hkd (Nat.le_refl N) (fun h => h) kk
theorem x_M_meet_5 : kt_dj i_M_meet 5 (.ifCond .eq) 21 8 := ⟨16, by decide +kernel, by decide, rfl⟩
theorem x_M_meet_8 : kt_dc i_M_meet 8 (.aload_n 0) 1 9 := ⟨by decide +kernel, rfl⟩
theorem x_M_meet_9 : kt_dc i_M_meet 9 (.iload_n 2) 1 10 := ⟨by decide +kernel, rfl⟩
theorem x_M_meet_10 : kt_sV i_M_meet 10 i_M_isTown 5 1 13 := ⟨103, ⟨by decide +kernel, rfl⟩, Or.inl (tw_647), j_M_isTown, ⟨tw_649, tp_57⟩, ⟨TX5, 18, rfl⟩, by decide, rfl⟩
theorem c_M_meet_10 {P : kt_P} {NM : Nat} {L : List (Option Value)} {rest : List Value} {N : Nat} {I : kt_I} {J : kt_J} {R : kt_R} {Q : Option Value → kt_I → kt_J → kt_R → Prop} {b : Nat} {x0 : Int32} (hkd : kt_kd P N b = (5, 0)) (hrest : (rest.map fun v => v.category).sum ≤ 8) (kk : KW P i_M_isTown N 0 [some (.ref b), some (.int x0)] [] N I J R (fun v I' J' R' => KW P i_M_meet NM 13 L (kt_pu v rest) N I' J' R' Q)) : KW P i_M_meet NM 10 L (.int x0 :: .ref b :: rest) N I J R Q := kw_callV x_M_meet_10 (As := [.int x0]) rfl rfl (Nat.le_of_ble_eq_true rfl) hrest hkd (Nat.le_refl N) (fun h => h) kk
theorem x_M_meet_13 : kt_dj i_M_meet 13 (.ifCond .eq) 21 16 := ⟨8, by decide +kernel, by decide, rfl⟩
theorem x_M_meet_16 : kt_dc i_M_meet 16 (.iload_n 1) 1 17 := ⟨by decide +kernel, rfl⟩
theorem x_M_meet_17 : kt_dc i_M_meet 17 (.iload_n 2) 1 18 := ⟨by decide +kernel, rfl⟩
theorem x_M_meet_18 : kt_dj i_M_meet 18 (.if_icmp .ne) 23 21 := ⟨5, by decide +kernel, by decide, rfl⟩
theorem x_M_meet_21 : kt_dc i_M_meet 21 (.iconst (-1)) 1 22 ∧ Int32.ofInt (-1) = (-1 : Int32) := ⟨⟨by decide +kernel, rfl⟩, by decide⟩
theorem x_M_meet_22 : kt_dc i_M_meet 22 (.ireturn) 1 23 ∧ kt_rt i_M_meet = (some .int) := ⟨⟨by decide +kernel, rfl⟩, rfl⟩
theorem x_M_meet_23 : kt_dc i_M_meet 23 (.aload_n 0) 1 24 := ⟨by decide +kernel, rfl⟩
theorem x_M_meet_24 : kt_sV i_M_meet 24 i_M_changes 5 0 27 := ⟨96, ⟨by decide +kernel, rfl⟩, Or.inl (tw_595), j_M_changes, ⟨tw_597, tp_45⟩, ⟨TX5, 18, rfl⟩, by decide, rfl⟩
theorem c_M_meet_24 {P : kt_P} {NM : Nat} {L : List (Option Value)} {rest : List Value} {N : Nat} {I : kt_I} {J : kt_J} {R : kt_R} {Q : Option Value → kt_I → kt_J → kt_R → Prop} {b : Nat} (hkd : kt_kd P N b = (5, 0)) (hrest : (rest.map fun v => v.category).sum ≤ 8) (kk : KW P i_M_changes N 0 [some (.ref b)] [] N I J R (fun v I' J' R' => KW P i_M_meet NM 27 L (kt_pu v rest) N I' J' R' Q)) : KW P i_M_meet NM 24 L (.ref b :: rest) N I J R Q := kw_callV x_M_meet_24 (As := []) rfl rfl (Nat.le_of_ble_eq_true rfl) hrest hkd (Nat.le_refl N) (fun h => h) kk
theorem x_M_meet_27 : kt_dc i_M_meet 27 (.aload_n 0) 1 28 := ⟨by decide +kernel, rfl⟩
theorem x_M_meet_28 : kt_dc i_M_meet 28 (.iload_n 1) 1 29 := ⟨by decide +kernel, rfl⟩
theorem x_M_meet_29 : kt_dc i_M_meet 29 (.iload_n 2) 1 30 := ⟨by decide +kernel, rfl⟩
theorem x_M_meet_30 : kt_dc i_M_meet 30 (.iconst 1) 1 31 ∧ Int32.ofInt (1) = nI 1 := ⟨⟨by decide +kernel, rfl⟩, by decide⟩
theorem x_M_meet_31 : kt_sV i_M_meet 31 i_M_hears 5 3 34 := ⟨118, ⟨by decide +kernel, rfl⟩, Or.inl (tw_682), j_M_hears, ⟨tw_684, tp_62⟩, ⟨TX5, 18, rfl⟩, by decide, rfl⟩
theorem c_M_meet_31 {P : kt_P} {NM : Nat} {L : List (Option Value)} {rest : List Value} {N : Nat} {I : kt_I} {J : kt_J} {R : kt_R} {Q : Option Value → kt_I → kt_J → kt_R → Prop} {b : Nat} {x0 : Int32} {x1 : Int32} {x2 : Int32} (hkd : kt_kd P N b = (5, 0)) (hrest : (rest.map fun v => v.category).sum ≤ 8) (kk : KW P i_M_hears N 0 [some (.ref b), some (.int x0), some (.int x1), some (.int x2), none, none, none, none, none, none] [] N I J R (fun v I' J' R' => KW P i_M_meet NM 34 L (kt_pu v rest) N I' J' R' Q)) : KW P i_M_meet NM 31 L (.int x2 :: .int x1 :: .int x0 :: .ref b :: rest) N I J R Q := kw_callV x_M_meet_31 (As := [.int x0, .int x1, .int x2]) rfl rfl (Nat.le_of_ble_eq_true rfl) hrest hkd (Nat.le_refl N) (fun h => h) kk
theorem x_M_meet_34 : kt_dc i_M_meet 34 (.istore_n 3) 1 35 := ⟨by decide +kernel, rfl⟩
theorem x_M_meet_35 : kt_dc i_M_meet 35 (.aload_n 0) 1 36 := ⟨by decide +kernel, rfl⟩
theorem x_M_meet_36 : kt_dc i_M_meet 36 (.aload_n 0) 1 37 := ⟨by decide +kernel, rfl⟩
theorem x_M_meet_37 : kt_sG i_M_meet 37 5 0 2 40 := ⟨7, RX5, TX5, 18, ⟨by decide +kernel, rfl⟩, rfl, by decide, rfl, by decide, Or.inl (tw_535)⟩
theorem x_M_meet_40 : kt_dc i_M_meet 40 (.iconst 1) 1 41 ∧ Int32.ofInt (1) = nI 1 := ⟨⟨by decide +kernel, rfl⟩, by decide⟩
theorem x_M_meet_41 : kt_dc i_M_meet 41 (.iaload) 1 42 := ⟨by decide +kernel, rfl⟩
theorem x_M_meet_42 : kt_sV i_M_meet 42 i_M_apologizes 5 1 45 := ⟨99, ⟨by decide +kernel, rfl⟩, Or.inl (tw_662), j_M_apologizes, ⟨tw_664, tp_60⟩, ⟨TX5, 18, rfl⟩, by decide, rfl⟩
theorem c_M_meet_42 {P : kt_P} {NM : Nat} {L : List (Option Value)} {rest : List Value} {N : Nat} {I : kt_I} {J : kt_J} {R : kt_R} {Q : Option Value → kt_I → kt_J → kt_R → Prop} {b : Nat} {x0 : Int32} (hkd : kt_kd P N b = (5, 0)) (hrest : (rest.map fun v => v.category).sum ≤ 8) (kk : KW P i_M_apologizes N 0 [some (.ref b), some (.int x0), none, none, none] [] N I J R (fun v I' J' R' => KW P i_M_meet NM 45 L (kt_pu v rest) N I' J' R' Q)) : KW P i_M_meet NM 42 L (.int x0 :: .ref b :: rest) N I J R Q := kw_callV x_M_meet_42 (As := [.int x0]) rfl rfl (Nat.le_of_ble_eq_true rfl) hrest hkd (Nat.le_refl N) (fun h => h) kk
theorem x_M_meet_45 : kt_dc i_M_meet 45 (.pop) 1 46 := ⟨by decide +kernel, rfl⟩
theorem x_M_meet_46 : kt_dc i_M_meet 46 (.iload_n 3) 1 47 := ⟨by decide +kernel, rfl⟩
theorem x_M_meet_47 : kt_dc i_M_meet 47 (.ireturn) 1 48 ∧ kt_rt i_M_meet = (some .int) := ⟨⟨by decide +kernel, rfl⟩, rfl⟩
theorem x_M_hears_0 : kt_dc i_M_hears 0 (.iconst 0) 1 1 ∧ Int32.ofInt (0) = nI 0 := ⟨⟨by decide +kernel, rfl⟩, by decide⟩
theorem x_M_hears_1 : kt_dc i_M_hears 1 (.istore 4) 2 3 := ⟨by decide +kernel, rfl⟩
theorem x_M_hears_3 : kt_dc i_M_hears 3 (.iconst 0) 1 4 ∧ Int32.ofInt (0) = nI 0 := ⟨⟨by decide +kernel, rfl⟩, by decide⟩
theorem x_M_hears_4 : kt_dc i_M_hears 4 (.istore 5) 2 6 := ⟨by decide +kernel, rfl⟩
theorem x_M_hears_6 : kt_dc i_M_hears 6 (.iload 5) 2 8 := ⟨by decide +kernel, rfl⟩
theorem x_M_hears_8 : kt_dc i_M_hears 8 (.aload_n 0) 1 9 := ⟨by decide +kernel, rfl⟩
theorem x_M_hears_9 : kt_sG i_M_hears 9 5 0 2 12 := ⟨7, RX5, TX5, 18, ⟨by decide +kernel, rfl⟩, rfl, by decide, rfl, by decide, Or.inl (tw_535)⟩
theorem x_M_hears_12 : kt_dc i_M_hears 12 (.iconst 2) 1 13 ∧ Int32.ofInt (2) = nI 2 := ⟨⟨by decide +kernel, rfl⟩, by decide⟩
theorem x_M_hears_13 : kt_dc i_M_hears 13 (.iaload) 1 14 := ⟨by decide +kernel, rfl⟩
theorem x_M_hears_14 : kt_dj i_M_hears 14 (.if_icmp .ge) 141 17 := ⟨127, by decide +kernel, by decide, rfl⟩
theorem x_M_hears_17 : kt_dc i_M_hears 17 (.aload_n 0) 1 18 := ⟨by decide +kernel, rfl⟩
theorem x_M_hears_18 : kt_dc i_M_hears 18 (.iload_n 1) 1 19 := ⟨by decide +kernel, rfl⟩
theorem x_M_hears_19 : kt_dc i_M_hears 19 (.iload 5) 2 21 := ⟨by decide +kernel, rfl⟩
theorem x_M_hears_21 : kt_sV i_M_hears 21 i_M_knows 5 2 24 := ⟨48, ⟨by decide +kernel, rfl⟩, Or.inl (tw_619), j_M_knows, ⟨tw_621, tp_51⟩, ⟨TX5, 18, rfl⟩, by decide, rfl⟩
theorem c_M_hears_21 {P : kt_P} {NM : Nat} {L : List (Option Value)} {rest : List Value} {N : Nat} {I : kt_I} {J : kt_J} {R : kt_R} {Q : Option Value → kt_I → kt_J → kt_R → Prop} {b : Nat} {x0 : Int32} {x1 : Int32} (hkd : kt_kd P N b = (5, 0)) (hrest : (rest.map fun v => v.category).sum ≤ 8) (kk : KW P i_M_knows N 0 [some (.ref b), some (.int x0), some (.int x1)] [] N I J R (fun v I' J' R' => KW P i_M_hears NM 24 L (kt_pu v rest) N I' J' R' Q)) : KW P i_M_hears NM 21 L (.int x1 :: .int x0 :: .ref b :: rest) N I J R Q := kw_callV x_M_hears_21 (As := [.int x0, .int x1]) rfl rfl (Nat.le_of_ble_eq_true rfl) hrest hkd (Nat.le_refl N) (fun h => h) kk
theorem x_M_hears_24 : kt_dc i_M_hears 24 (.istore 6) 2 26 := ⟨by decide +kernel, rfl⟩
theorem x_M_hears_26 : kt_dc i_M_hears 26 (.aload_n 0) 1 27 := ⟨by decide +kernel, rfl⟩
theorem x_M_hears_27 : kt_dc i_M_hears 27 (.iload_n 2) 1 28 := ⟨by decide +kernel, rfl⟩
theorem x_M_hears_28 : kt_dc i_M_hears 28 (.iload 5) 2 30 := ⟨by decide +kernel, rfl⟩
theorem x_M_hears_30 : kt_sV i_M_hears 30 i_M_knows 5 2 33 := ⟨48, ⟨by decide +kernel, rfl⟩, Or.inl (tw_619), j_M_knows, ⟨tw_621, tp_51⟩, ⟨TX5, 18, rfl⟩, by decide, rfl⟩
theorem c_M_hears_30 {P : kt_P} {NM : Nat} {L : List (Option Value)} {rest : List Value} {N : Nat} {I : kt_I} {J : kt_J} {R : kt_R} {Q : Option Value → kt_I → kt_J → kt_R → Prop} {b : Nat} {x0 : Int32} {x1 : Int32} (hkd : kt_kd P N b = (5, 0)) (hrest : (rest.map fun v => v.category).sum ≤ 8) (kk : KW P i_M_knows N 0 [some (.ref b), some (.int x0), some (.int x1)] [] N I J R (fun v I' J' R' => KW P i_M_hears NM 33 L (kt_pu v rest) N I' J' R' Q)) : KW P i_M_hears NM 30 L (.int x1 :: .int x0 :: .ref b :: rest) N I J R Q := kw_callV x_M_hears_30 (As := [.int x0, .int x1]) rfl rfl (Nat.le_of_ble_eq_true rfl) hrest hkd (Nat.le_refl N) (fun h => h) kk
theorem x_M_hears_33 : kt_dc i_M_hears 33 (.istore 7) 2 35 := ⟨by decide +kernel, rfl⟩
theorem x_M_hears_35 : kt_dc i_M_hears 35 (.iload 7) 2 37 := ⟨by decide +kernel, rfl⟩
theorem x_M_hears_37 : kt_dj i_M_hears 37 (.ifCond .eq) 49 40 := ⟨12, by decide +kernel, by decide, rfl⟩
theorem x_M_hears_40 : kt_dc i_M_hears 40 (.iload 6) 2 42 := ⟨by decide +kernel, rfl⟩
theorem x_M_hears_42 : kt_dj i_M_hears 42 (.ifCond .ne) 49 45 := ⟨7, by decide +kernel, by decide, rfl⟩
theorem x_M_hears_45 : kt_dc i_M_hears 45 (.iconst 1) 1 46 ∧ Int32.ofInt (1) = nI 1 := ⟨⟨by decide +kernel, rfl⟩, by decide⟩
theorem x_M_hears_46 : kt_dj i_M_hears 46 .goto 50 49 := ⟨4, by decide +kernel, by decide, rfl⟩
theorem x_M_hears_49 : kt_dc i_M_hears 49 (.iconst 0) 1 50 ∧ Int32.ofInt (0) = nI 0 := ⟨⟨by decide +kernel, rfl⟩, by decide⟩
theorem x_M_hears_50 : kt_dc i_M_hears 50 (.istore 8) 2 52 := ⟨by decide +kernel, rfl⟩
theorem x_M_hears_52 : kt_dc i_M_hears 52 (.iload_n 3) 1 53 := ⟨by decide +kernel, rfl⟩
theorem x_M_hears_53 : kt_dj i_M_hears 53 (.ifCond .eq) 70 56 := ⟨17, by decide +kernel, by decide, rfl⟩
theorem x_M_hears_56 : kt_dc i_M_hears 56 (.iload 6) 2 58 := ⟨by decide +kernel, rfl⟩
theorem x_M_hears_58 : kt_dj i_M_hears 58 (.ifCond .eq) 70 61 := ⟨12, by decide +kernel, by decide, rfl⟩
theorem x_M_hears_61 : kt_dc i_M_hears 61 (.iload 7) 2 63 := ⟨by decide +kernel, rfl⟩
theorem x_M_hears_63 : kt_dj i_M_hears 63 (.ifCond .ne) 70 66 := ⟨7, by decide +kernel, by decide, rfl⟩
theorem x_M_hears_66 : kt_dc i_M_hears 66 (.iconst 1) 1 67 ∧ Int32.ofInt (1) = nI 1 := ⟨⟨by decide +kernel, rfl⟩, by decide⟩
theorem x_M_hears_67 : kt_dj i_M_hears 67 .goto 71 70 := ⟨4, by decide +kernel, by decide, rfl⟩
theorem x_M_hears_70 : kt_dc i_M_hears 70 (.iconst 0) 1 71 ∧ Int32.ofInt (0) = nI 0 := ⟨⟨by decide +kernel, rfl⟩, by decide⟩
theorem x_M_hears_71 : kt_dc i_M_hears 71 (.istore 9) 2 73 := ⟨by decide +kernel, rfl⟩
theorem x_M_hears_73 : kt_dc i_M_hears 73 (.aload_n 0) 1 74 := ⟨by decide +kernel, rfl⟩
theorem x_M_hears_74 : kt_dc i_M_hears 74 (.iload 5) 2 76 := ⟨by decide +kernel, rfl⟩
theorem x_M_hears_76 : kt_dc i_M_hears 76 (.bipush 7) 2 78 ∧ (Int8.ofInt (7)).toInt32 = nI 7 := ⟨⟨by decide +kernel, rfl⟩, by decide⟩
theorem x_M_hears_78 : kt_dc i_M_hears 78 (.aload_n 0) 1 79 := ⟨by decide +kernel, rfl⟩
theorem x_M_hears_79 : kt_dc i_M_hears 79 (.iload 5) 2 81 := ⟨by decide +kernel, rfl⟩
theorem x_M_hears_81 : kt_dc i_M_hears 81 (.bipush 7) 2 83 ∧ (Int8.ofInt (7)).toInt32 = nI 7 := ⟨⟨by decide +kernel, rfl⟩, by decide⟩
theorem x_M_hears_83 : kt_sV i_M_hears 83 i_M_of 5 2 86 := ⟨44, ⟨by decide +kernel, rfl⟩, Or.inl (tw_615), j_M_of, ⟨tw_617, tp_50⟩, ⟨TX5, 18, rfl⟩, by decide, rfl⟩
theorem c_M_hears_83 {P : kt_P} {NM : Nat} {L : List (Option Value)} {rest : List Value} {N : Nat} {I : kt_I} {J : kt_J} {R : kt_R} {Q : Option Value → kt_I → kt_J → kt_R → Prop} {b : Nat} {x0 : Int32} {x1 : Int32} (hkd : kt_kd P N b = (5, 0)) (hrest : (rest.map fun v => v.category).sum ≤ 8) (kk : KW P i_M_of N 0 [some (.ref b), some (.int x0), some (.int x1)] [] N I J R (fun v I' J' R' => KW P i_M_hears NM 86 L (kt_pu v rest) N I' J' R' Q)) : KW P i_M_hears NM 83 L (.int x1 :: .int x0 :: .ref b :: rest) N I J R Q := kw_callV x_M_hears_83 (As := [.int x0, .int x1]) rfl rfl (Nat.le_of_ble_eq_true rfl) hrest hkd (Nat.le_refl N) (fun h => h) kk
theorem x_M_hears_86 : kt_dc i_M_hears 86 (.iload 8) 2 88 := ⟨by decide +kernel, rfl⟩
theorem x_M_hears_88 : kt_dj i_M_hears 88 (.ifCond .eq) 97 91 := ⟨9, by decide +kernel, by decide, rfl⟩
theorem x_M_hears_91 : kt_dc i_M_hears 91 (.iconst 1) 1 92 ∧ Int32.ofInt (1) = nI 1 := ⟨⟨by decide +kernel, rfl⟩, by decide⟩
theorem x_M_hears_92 : kt_dc i_M_hears 92 (.iload_n 1) 1 93 := ⟨by decide +kernel, rfl⟩
theorem x_M_hears_93 : kt_dc i_M_hears 93 (.ishl) 1 94 := ⟨by decide +kernel, rfl⟩
theorem x_M_hears_94 : kt_dj i_M_hears 94 .goto 98 97 := ⟨4, by decide +kernel, by decide, rfl⟩
theorem x_M_hears_97 : kt_dc i_M_hears 97 (.iconst 0) 1 98 ∧ Int32.ofInt (0) = nI 0 := ⟨⟨by decide +kernel, rfl⟩, by decide⟩
theorem x_M_hears_98 : kt_dc i_M_hears 98 (.ior) 1 99 := ⟨by decide +kernel, rfl⟩
theorem x_M_hears_99 : kt_dc i_M_hears 99 (.iload 9) 2 101 := ⟨by decide +kernel, rfl⟩
theorem x_M_hears_101 : kt_dj i_M_hears 101 (.ifCond .eq) 110 104 := ⟨9, by decide +kernel, by decide, rfl⟩
theorem x_M_hears_104 : kt_dc i_M_hears 104 (.iconst 1) 1 105 ∧ Int32.ofInt (1) = nI 1 := ⟨⟨by decide +kernel, rfl⟩, by decide⟩
theorem x_M_hears_105 : kt_dc i_M_hears 105 (.iload_n 2) 1 106 := ⟨by decide +kernel, rfl⟩
theorem x_M_hears_106 : kt_dc i_M_hears 106 (.ishl) 1 107 := ⟨by decide +kernel, rfl⟩
theorem x_M_hears_107 : kt_dj i_M_hears 107 .goto 111 110 := ⟨4, by decide +kernel, by decide, rfl⟩
theorem x_M_hears_110 : kt_dc i_M_hears 110 (.iconst 0) 1 111 ∧ Int32.ofInt (0) = nI 0 := ⟨⟨by decide +kernel, rfl⟩, by decide⟩
theorem x_M_hears_111 : kt_dc i_M_hears 111 (.ior) 1 112 := ⟨by decide +kernel, rfl⟩
theorem x_M_hears_112 : kt_sV i_M_hears 112 i_M_puts 5 3 115 := ⟨79, ⟨by decide +kernel, rfl⟩, Or.inl (tw_658), j_M_puts, ⟨tw_660, tp_59⟩, ⟨TX5, 18, rfl⟩, by decide, rfl⟩
theorem c_M_hears_112 {P : kt_P} {NM : Nat} {L : List (Option Value)} {rest : List Value} {N : Nat} {I : kt_I} {J : kt_J} {R : kt_R} {Q : Option Value → kt_I → kt_J → kt_R → Prop} {b : Nat} {x0 : Int32} {x1 : Int32} {x2 : Int32} (hkd : kt_kd P N b = (5, 0)) (hrest : (rest.map fun v => v.category).sum ≤ 8) (kk : KW P i_M_puts N 0 [some (.ref b), some (.int x0), some (.int x1), some (.int x2)] [] N I J R (fun v I' J' R' => KW P i_M_hears NM 115 L (kt_pu v rest) N I' J' R' Q)) : KW P i_M_hears NM 112 L (.int x2 :: .int x1 :: .int x0 :: .ref b :: rest) N I J R Q := kw_callV x_M_hears_112 (As := [.int x0, .int x1, .int x2]) rfl rfl (Nat.le_of_ble_eq_true rfl) hrest hkd (Nat.le_refl N) (fun h => h) kk
theorem x_M_hears_115 : kt_dc i_M_hears 115 (.iload 4) 2 117 := ⟨by decide +kernel, rfl⟩
theorem x_M_hears_117 : kt_dc i_M_hears 117 (.iload 8) 2 119 := ⟨by decide +kernel, rfl⟩
theorem x_M_hears_119 : kt_dj i_M_hears 119 (.ifCond .ne) 127 122 := ⟨8, by decide +kernel, by decide, rfl⟩
theorem x_M_hears_122 : kt_dc i_M_hears 122 (.iload 9) 2 124 := ⟨by decide +kernel, rfl⟩
theorem x_M_hears_124 : kt_dj i_M_hears 124 (.ifCond .eq) 131 127 := ⟨7, by decide +kernel, by decide, rfl⟩
theorem x_M_hears_127 : kt_dc i_M_hears 127 (.iconst 1) 1 128 ∧ Int32.ofInt (1) = nI 1 := ⟨⟨by decide +kernel, rfl⟩, by decide⟩
theorem x_M_hears_128 : kt_dj i_M_hears 128 .goto 132 131 := ⟨4, by decide +kernel, by decide, rfl⟩
theorem x_M_hears_131 : kt_dc i_M_hears 131 (.iconst 0) 1 132 ∧ Int32.ofInt (0) = nI 0 := ⟨⟨by decide +kernel, rfl⟩, by decide⟩
theorem x_M_hears_132 : kt_dc i_M_hears 132 (.iadd) 1 133 := ⟨by decide +kernel, rfl⟩
theorem x_M_hears_133 : kt_dc i_M_hears 133 (.istore 4) 2 135 := ⟨by decide +kernel, rfl⟩
theorem x_M_hears_135 : kt_dc i_M_hears 135 (.iinc 5 1) 3 138 ∧ Int32.ofInt (1) = nI 1 := ⟨⟨by decide +kernel, rfl⟩, by decide⟩
theorem x_M_hears_138 : kt_dj i_M_hears 138 .goto 6 141 := ⟨-132, by decide +kernel, by decide, rfl⟩
theorem x_M_hears_141 : kt_dc i_M_hears 141 (.aload_n 0) 1 142 := ⟨by decide +kernel, rfl⟩
theorem x_M_hears_142 : kt_sG i_M_hears 142 5 0 2 145 := ⟨7, RX5, TX5, 18, ⟨by decide +kernel, rfl⟩, rfl, by decide, rfl, by decide, Or.inl (tw_535)⟩
theorem x_M_hears_145 : kt_dc i_M_hears 145 (.iconst 3) 1 146 ∧ Int32.ofInt (3) = nI 3 := ⟨⟨by decide +kernel, rfl⟩, by decide⟩
theorem x_M_hears_146 : kt_dc i_M_hears 146 (.iload_n 1) 1 147 := ⟨by decide +kernel, rfl⟩
theorem x_M_hears_147 : kt_dc i_M_hears 147 (.iadd) 1 148 := ⟨by decide +kernel, rfl⟩
theorem x_M_hears_148 : kt_dc i_M_hears 148 (.iaload) 1 149 := ⟨by decide +kernel, rfl⟩
theorem x_M_hears_149 : kt_dc i_M_hears 149 (.aload_n 0) 1 150 := ⟨by decide +kernel, rfl⟩
theorem x_M_hears_150 : kt_sG i_M_hears 150 5 0 2 153 := ⟨7, RX5, TX5, 18, ⟨by decide +kernel, rfl⟩, rfl, by decide, rfl, by decide, Or.inl (tw_535)⟩
theorem x_M_hears_153 : kt_dc i_M_hears 153 (.iconst 3) 1 154 ∧ Int32.ofInt (3) = nI 3 := ⟨⟨by decide +kernel, rfl⟩, by decide⟩
theorem x_M_hears_154 : kt_dc i_M_hears 154 (.iload_n 2) 1 155 := ⟨by decide +kernel, rfl⟩
theorem x_M_hears_155 : kt_dc i_M_hears 155 (.iadd) 1 156 := ⟨by decide +kernel, rfl⟩
theorem x_M_hears_156 : kt_dc i_M_hears 156 (.iaload) 1 157 := ⟨by decide +kernel, rfl⟩
theorem x_M_hears_157 : kt_dj i_M_hears 157 (.if_icmp .le) 171 160 := ⟨14, by decide +kernel, by decide, rfl⟩
theorem x_M_hears_160 : kt_dc i_M_hears 160 (.aload_n 0) 1 161 := ⟨by decide +kernel, rfl⟩
theorem x_M_hears_161 : kt_sG i_M_hears 161 5 0 2 164 := ⟨7, RX5, TX5, 18, ⟨by decide +kernel, rfl⟩, rfl, by decide, rfl, by decide, Or.inl (tw_535)⟩
theorem x_M_hears_164 : kt_dc i_M_hears 164 (.iconst 3) 1 165 ∧ Int32.ofInt (3) = nI 3 := ⟨⟨by decide +kernel, rfl⟩, by decide⟩
theorem x_M_hears_165 : kt_dc i_M_hears 165 (.iload_n 1) 1 166 := ⟨by decide +kernel, rfl⟩
theorem x_M_hears_166 : kt_dc i_M_hears 166 (.iadd) 1 167 := ⟨by decide +kernel, rfl⟩
theorem x_M_hears_167 : kt_dc i_M_hears 167 (.iaload) 1 168 := ⟨by decide +kernel, rfl⟩
theorem x_M_hears_168 : kt_dj i_M_hears 168 .goto 179 171 := ⟨11, by decide +kernel, by decide, rfl⟩
theorem x_M_hears_171 : kt_dc i_M_hears 171 (.aload_n 0) 1 172 := ⟨by decide +kernel, rfl⟩
theorem x_M_hears_172 : kt_sG i_M_hears 172 5 0 2 175 := ⟨7, RX5, TX5, 18, ⟨by decide +kernel, rfl⟩, rfl, by decide, rfl, by decide, Or.inl (tw_535)⟩
theorem x_M_hears_175 : kt_dc i_M_hears 175 (.iconst 3) 1 176 ∧ Int32.ofInt (3) = nI 3 := ⟨⟨by decide +kernel, rfl⟩, by decide⟩
theorem x_M_hears_176 : kt_dc i_M_hears 176 (.iload_n 2) 1 177 := ⟨by decide +kernel, rfl⟩
theorem x_M_hears_177 : kt_dc i_M_hears 177 (.iadd) 1 178 := ⟨by decide +kernel, rfl⟩
theorem x_M_hears_178 : kt_dc i_M_hears 178 (.iaload) 1 179 := ⟨by decide +kernel, rfl⟩
theorem x_M_hears_179 : kt_dc i_M_hears 179 (.istore 5) 2 181 := ⟨by decide +kernel, rfl⟩
theorem x_M_hears_181 : kt_dc i_M_hears 181 (.aload_n 0) 1 182 := ⟨by decide +kernel, rfl⟩
theorem x_M_hears_182 : kt_sG i_M_hears 182 5 0 2 185 := ⟨7, RX5, TX5, 18, ⟨by decide +kernel, rfl⟩, rfl, by decide, rfl, by decide, Or.inl (tw_535)⟩
theorem x_M_hears_185 : kt_dc i_M_hears 185 (.iconst 3) 1 186 ∧ Int32.ofInt (3) = nI 3 := ⟨⟨by decide +kernel, rfl⟩, by decide⟩
theorem x_M_hears_186 : kt_dc i_M_hears 186 (.iload_n 1) 1 187 := ⟨by decide +kernel, rfl⟩
theorem x_M_hears_187 : kt_dc i_M_hears 187 (.iadd) 1 188 := ⟨by decide +kernel, rfl⟩
theorem x_M_hears_188 : kt_dc i_M_hears 188 (.iload 5) 2 190 := ⟨by decide +kernel, rfl⟩
theorem x_M_hears_190 : kt_dc i_M_hears 190 (.iastore) 1 191 := ⟨by decide +kernel, rfl⟩
theorem x_M_hears_191 : kt_dc i_M_hears 191 (.aload_n 0) 1 192 := ⟨by decide +kernel, rfl⟩
theorem x_M_hears_192 : kt_sG i_M_hears 192 5 0 2 195 := ⟨7, RX5, TX5, 18, ⟨by decide +kernel, rfl⟩, rfl, by decide, rfl, by decide, Or.inl (tw_535)⟩
theorem x_M_hears_195 : kt_dc i_M_hears 195 (.iconst 3) 1 196 ∧ Int32.ofInt (3) = nI 3 := ⟨⟨by decide +kernel, rfl⟩, by decide⟩
theorem x_M_hears_196 : kt_dc i_M_hears 196 (.iload_n 2) 1 197 := ⟨by decide +kernel, rfl⟩
theorem x_M_hears_197 : kt_dc i_M_hears 197 (.iadd) 1 198 := ⟨by decide +kernel, rfl⟩
theorem x_M_hears_198 : kt_dc i_M_hears 198 (.iload_n 3) 1 199 := ⟨by decide +kernel, rfl⟩
theorem x_M_hears_199 : kt_dj i_M_hears 199 (.ifCond .eq) 207 202 := ⟨8, by decide +kernel, by decide, rfl⟩
theorem x_M_hears_202 : kt_dc i_M_hears 202 (.iload 5) 2 204 := ⟨by decide +kernel, rfl⟩
theorem x_M_hears_204 : kt_dj i_M_hears 204 .goto 215 207 := ⟨11, by decide +kernel, by decide, rfl⟩
theorem x_M_hears_207 : kt_dc i_M_hears 207 (.aload_n 0) 1 208 := ⟨by decide +kernel, rfl⟩
theorem x_M_hears_208 : kt_sG i_M_hears 208 5 0 2 211 := ⟨7, RX5, TX5, 18, ⟨by decide +kernel, rfl⟩, rfl, by decide, rfl, by decide, Or.inl (tw_535)⟩
theorem x_M_hears_211 : kt_dc i_M_hears 211 (.iconst 3) 1 212 ∧ Int32.ofInt (3) = nI 3 := ⟨⟨by decide +kernel, rfl⟩, by decide⟩
theorem x_M_hears_212 : kt_dc i_M_hears 212 (.iload_n 2) 1 213 := ⟨by decide +kernel, rfl⟩
theorem x_M_hears_213 : kt_dc i_M_hears 213 (.iadd) 1 214 := ⟨by decide +kernel, rfl⟩
theorem x_M_hears_214 : kt_dc i_M_hears 214 (.iaload) 1 215 := ⟨by decide +kernel, rfl⟩
theorem x_M_hears_215 : kt_dc i_M_hears 215 (.iastore) 1 216 := ⟨by decide +kernel, rfl⟩
theorem x_M_hears_216 : kt_dc i_M_hears 216 (.iload 4) 2 218 := ⟨by decide +kernel, rfl⟩
theorem x_M_hears_218 : kt_dc i_M_hears 218 (.ireturn) 1 219 ∧ kt_rt i_M_hears = (some .int) := ⟨⟨by decide +kernel, rfl⟩, rfl⟩
theorem x_M_hear_0 : kt_dc i_M_hear 0 (.aload_n 0) 1 1 := ⟨by decide +kernel, rfl⟩
theorem x_M_hear_1 : kt_dc i_M_hear 1 (.iload_n 1) 1 2 := ⟨by decide +kernel, rfl⟩
theorem x_M_hear_2 : kt_sV i_M_hear 2 i_M_isTown 5 1 5 := ⟨103, ⟨by decide +kernel, rfl⟩, Or.inl (tw_647), j_M_isTown, ⟨tw_649, tp_57⟩, ⟨TX5, 18, rfl⟩, by decide, rfl⟩
theorem c_M_hear_2 {P : kt_P} {NM : Nat} {L : List (Option Value)} {rest : List Value} {N : Nat} {I : kt_I} {J : kt_J} {R : kt_R} {Q : Option Value → kt_I → kt_J → kt_R → Prop} {b : Nat} {x0 : Int32} (hkd : kt_kd P N b = (5, 0)) (hrest : (rest.map fun v => v.category).sum ≤ 8) (kk : KW P i_M_isTown N 0 [some (.ref b), some (.int x0)] [] N I J R (fun v I' J' R' => KW P i_M_hear NM 5 L (kt_pu v rest) N I' J' R' Q)) : KW P i_M_hear NM 2 L (.int x0 :: .ref b :: rest) N I J R Q := kw_callV x_M_hear_2 (As := [.int x0]) rfl rfl (Nat.le_of_ble_eq_true rfl) hrest hkd (Nat.le_refl N) (fun h => h) kk
theorem x_M_hear_5 : kt_dj i_M_hear 5 (.ifCond .eq) 21 8 := ⟨16, by decide +kernel, by decide, rfl⟩
theorem x_M_hear_8 : kt_dc i_M_hear 8 (.aload_n 0) 1 9 := ⟨by decide +kernel, rfl⟩
theorem x_M_hear_9 : kt_dc i_M_hear 9 (.iload_n 2) 1 10 := ⟨by decide +kernel, rfl⟩
theorem x_M_hear_10 : kt_sV i_M_hear 10 i_M_isTown 5 1 13 := ⟨103, ⟨by decide +kernel, rfl⟩, Or.inl (tw_647), j_M_isTown, ⟨tw_649, tp_57⟩, ⟨TX5, 18, rfl⟩, by decide, rfl⟩
theorem c_M_hear_10 {P : kt_P} {NM : Nat} {L : List (Option Value)} {rest : List Value} {N : Nat} {I : kt_I} {J : kt_J} {R : kt_R} {Q : Option Value → kt_I → kt_J → kt_R → Prop} {b : Nat} {x0 : Int32} (hkd : kt_kd P N b = (5, 0)) (hrest : (rest.map fun v => v.category).sum ≤ 8) (kk : KW P i_M_isTown N 0 [some (.ref b), some (.int x0)] [] N I J R (fun v I' J' R' => KW P i_M_hear NM 13 L (kt_pu v rest) N I' J' R' Q)) : KW P i_M_hear NM 10 L (.int x0 :: .ref b :: rest) N I J R Q := kw_callV x_M_hear_10 (As := [.int x0]) rfl rfl (Nat.le_of_ble_eq_true rfl) hrest hkd (Nat.le_refl N) (fun h => h) kk
theorem x_M_hear_13 : kt_dj i_M_hear 13 (.ifCond .eq) 21 16 := ⟨8, by decide +kernel, by decide, rfl⟩
theorem x_M_hear_16 : kt_dc i_M_hear 16 (.iload_n 1) 1 17 := ⟨by decide +kernel, rfl⟩
theorem x_M_hear_17 : kt_dc i_M_hear 17 (.iload_n 2) 1 18 := ⟨by decide +kernel, rfl⟩
theorem x_M_hear_18 : kt_dj i_M_hear 18 (.if_icmp .ne) 23 21 := ⟨5, by decide +kernel, by decide, rfl⟩
theorem x_M_hear_21 : kt_dc i_M_hear 21 (.iconst (-1)) 1 22 ∧ Int32.ofInt (-1) = (-1 : Int32) := ⟨⟨by decide +kernel, rfl⟩, by decide⟩
theorem x_M_hear_22 : kt_dc i_M_hear 22 (.ireturn) 1 23 ∧ kt_rt i_M_hear = (some .int) := ⟨⟨by decide +kernel, rfl⟩, rfl⟩
theorem x_M_hear_23 : kt_dc i_M_hear 23 (.aload_n 0) 1 24 := ⟨by decide +kernel, rfl⟩
theorem x_M_hear_24 : kt_sV i_M_hear 24 i_M_changes 5 0 27 := ⟨96, ⟨by decide +kernel, rfl⟩, Or.inl (tw_595), j_M_changes, ⟨tw_597, tp_45⟩, ⟨TX5, 18, rfl⟩, by decide, rfl⟩
theorem c_M_hear_24 {P : kt_P} {NM : Nat} {L : List (Option Value)} {rest : List Value} {N : Nat} {I : kt_I} {J : kt_J} {R : kt_R} {Q : Option Value → kt_I → kt_J → kt_R → Prop} {b : Nat} (hkd : kt_kd P N b = (5, 0)) (hrest : (rest.map fun v => v.category).sum ≤ 8) (kk : KW P i_M_changes N 0 [some (.ref b)] [] N I J R (fun v I' J' R' => KW P i_M_hear NM 27 L (kt_pu v rest) N I' J' R' Q)) : KW P i_M_hear NM 24 L (.ref b :: rest) N I J R Q := kw_callV x_M_hear_24 (As := []) rfl rfl (Nat.le_of_ble_eq_true rfl) hrest hkd (Nat.le_refl N) (fun h => h) kk
theorem x_M_hear_27 : kt_dc i_M_hear 27 (.aload_n 0) 1 28 := ⟨by decide +kernel, rfl⟩
theorem x_M_hear_28 : kt_dc i_M_hear 28 (.iload_n 1) 1 29 := ⟨by decide +kernel, rfl⟩
theorem x_M_hear_29 : kt_dc i_M_hear 29 (.iload_n 2) 1 30 := ⟨by decide +kernel, rfl⟩
theorem x_M_hear_30 : kt_dc i_M_hear 30 (.iconst 0) 1 31 ∧ Int32.ofInt (0) = nI 0 := ⟨⟨by decide +kernel, rfl⟩, by decide⟩
theorem x_M_hear_31 : kt_sV i_M_hear 31 i_M_hears 5 3 34 := ⟨118, ⟨by decide +kernel, rfl⟩, Or.inl (tw_682), j_M_hears, ⟨tw_684, tp_62⟩, ⟨TX5, 18, rfl⟩, by decide, rfl⟩
theorem c_M_hear_31 {P : kt_P} {NM : Nat} {L : List (Option Value)} {rest : List Value} {N : Nat} {I : kt_I} {J : kt_J} {R : kt_R} {Q : Option Value → kt_I → kt_J → kt_R → Prop} {b : Nat} {x0 : Int32} {x1 : Int32} {x2 : Int32} (hkd : kt_kd P N b = (5, 0)) (hrest : (rest.map fun v => v.category).sum ≤ 8) (kk : KW P i_M_hears N 0 [some (.ref b), some (.int x0), some (.int x1), some (.int x2), none, none, none, none, none, none] [] N I J R (fun v I' J' R' => KW P i_M_hear NM 34 L (kt_pu v rest) N I' J' R' Q)) : KW P i_M_hear NM 31 L (.int x2 :: .int x1 :: .int x0 :: .ref b :: rest) N I J R Q := kw_callV x_M_hear_31 (As := [.int x0, .int x1, .int x2]) rfl rfl (Nat.le_of_ble_eq_true rfl) hrest hkd (Nat.le_refl N) (fun h => h) kk
theorem x_M_hear_34 : kt_dc i_M_hear 34 (.istore_n 3) 1 35 := ⟨by decide +kernel, rfl⟩
theorem x_M_hear_35 : kt_dc i_M_hear 35 (.aload_n 0) 1 36 := ⟨by decide +kernel, rfl⟩
theorem x_M_hear_36 : kt_dc i_M_hear 36 (.aload_n 0) 1 37 := ⟨by decide +kernel, rfl⟩
theorem x_M_hear_37 : kt_sG i_M_hear 37 5 0 2 40 := ⟨7, RX5, TX5, 18, ⟨by decide +kernel, rfl⟩, rfl, by decide, rfl, by decide, Or.inl (tw_535)⟩
theorem x_M_hear_40 : kt_dc i_M_hear 40 (.iconst 1) 1 41 ∧ Int32.ofInt (1) = nI 1 := ⟨⟨by decide +kernel, rfl⟩, by decide⟩
theorem x_M_hear_41 : kt_dc i_M_hear 41 (.iaload) 1 42 := ⟨by decide +kernel, rfl⟩
theorem x_M_hear_42 : kt_sV i_M_hear 42 i_M_apologizes 5 1 45 := ⟨99, ⟨by decide +kernel, rfl⟩, Or.inl (tw_662), j_M_apologizes, ⟨tw_664, tp_60⟩, ⟨TX5, 18, rfl⟩, by decide, rfl⟩
theorem c_M_hear_42 {P : kt_P} {NM : Nat} {L : List (Option Value)} {rest : List Value} {N : Nat} {I : kt_I} {J : kt_J} {R : kt_R} {Q : Option Value → kt_I → kt_J → kt_R → Prop} {b : Nat} {x0 : Int32} (hkd : kt_kd P N b = (5, 0)) (hrest : (rest.map fun v => v.category).sum ≤ 8) (kk : KW P i_M_apologizes N 0 [some (.ref b), some (.int x0), none, none, none] [] N I J R (fun v I' J' R' => KW P i_M_hear NM 45 L (kt_pu v rest) N I' J' R' Q)) : KW P i_M_hear NM 42 L (.int x0 :: .ref b :: rest) N I J R Q := kw_callV x_M_hear_42 (As := [.int x0]) rfl rfl (Nat.le_of_ble_eq_true rfl) hrest hkd (Nat.le_refl N) (fun h => h) kk
theorem x_M_hear_45 : kt_dc i_M_hear 45 (.pop) 1 46 := ⟨by decide +kernel, rfl⟩
theorem x_M_hear_46 : kt_dc i_M_hear 46 (.iload_n 3) 1 47 := ⟨by decide +kernel, rfl⟩
theorem x_M_hear_47 : kt_dc i_M_hear 47 (.ireturn) 1 48 ∧ kt_rt i_M_hear = (some .int) := ⟨⟨by decide +kernel, rfl⟩, rfl⟩
theorem x_M_rule_0 : kt_dc i_M_rule 0 (.iload_n 1) 1 1 := ⟨by decide +kernel, rfl⟩
theorem x_M_rule_1 : kt_dc i_M_rule 1 (.iconst 0) 1 2 ∧ Int32.ofInt (0) = nI 0 := ⟨⟨by decide +kernel, rfl⟩, by decide⟩
theorem x_M_rule_2 : kt_dc i_M_rule 2 (.iconst 2) 1 3 ∧ Int32.ofInt (2) = nI 2 := ⟨⟨by decide +kernel, rfl⟩, by decide⟩
theorem x_M_rule_3 : kt_sS i_M_rule 3 i_M_in 3 6 := ⟨107, ⟨by decide +kernel, rfl⟩, Or.inl (tw_651), j_M_in, tw_652, rfl⟩
theorem c_M_rule_3 {P : kt_P} {NM : Nat} {L : List (Option Value)} {rest : List Value} {N : Nat} {I : kt_I} {J : kt_J} {R : kt_R} {Q : Option Value → kt_I → kt_J → kt_R → Prop} {x0 : Int32} {x1 : Int32} {x2 : Int32} (hrest : (rest.map fun v => v.category).sum ≤ 8) (kk : KW P i_M_in N 0 [some (.int x0), some (.int x1), some (.int x2)] [] N I J R (fun v I' J' R' => KW P i_M_rule NM 6 L (kt_pu v rest) N I' J' R' Q)) : KW P i_M_rule NM 3 L (.int x2 :: .int x1 :: .int x0 :: rest) N I J R Q := kw_callS x_M_rule_3 (As := [.int x0, .int x1, .int x2]) rfl rfl (Nat.le_of_ble_eq_true rfl) hrest (Nat.le_refl N) (fun h => h) kk
theorem x_M_rule_6 : kt_dj i_M_rule 6 (.ifCond .ne) 11 9 := ⟨5, by decide +kernel, by decide, rfl⟩
theorem x_M_rule_9 : kt_dc i_M_rule 9 (.iconst (-1)) 1 10 ∧ Int32.ofInt (-1) = (-1 : Int32) := ⟨⟨by decide +kernel, rfl⟩, by decide⟩
theorem x_M_rule_10 : kt_dc i_M_rule 10 (.ireturn) 1 11 ∧ kt_rt i_M_rule = (some .int) := ⟨⟨by decide +kernel, rfl⟩, rfl⟩
theorem x_M_rule_11 : kt_dc i_M_rule 11 (.aload_n 0) 1 12 := ⟨by decide +kernel, rfl⟩
theorem x_M_rule_12 : kt_sV i_M_rule 12 i_M_changes 5 0 15 := ⟨96, ⟨by decide +kernel, rfl⟩, Or.inl (tw_595), j_M_changes, ⟨tw_597, tp_45⟩, ⟨TX5, 18, rfl⟩, by decide, rfl⟩
theorem c_M_rule_12 {P : kt_P} {NM : Nat} {L : List (Option Value)} {rest : List Value} {N : Nat} {I : kt_I} {J : kt_J} {R : kt_R} {Q : Option Value → kt_I → kt_J → kt_R → Prop} {b : Nat} (hkd : kt_kd P N b = (5, 0)) (hrest : (rest.map fun v => v.category).sum ≤ 8) (kk : KW P i_M_changes N 0 [some (.ref b)] [] N I J R (fun v I' J' R' => KW P i_M_rule NM 15 L (kt_pu v rest) N I' J' R' Q)) : KW P i_M_rule NM 12 L (.ref b :: rest) N I J R Q := kw_callV x_M_rule_12 (As := []) rfl rfl (Nat.le_of_ble_eq_true rfl) hrest hkd (Nat.le_refl N) (fun h => h) kk
theorem x_M_rule_15 : kt_dc i_M_rule 15 (.aload_n 0) 1 16 := ⟨by decide +kernel, rfl⟩
theorem x_M_rule_16 : kt_sG i_M_rule 16 5 0 2 19 := ⟨7, RX5, TX5, 18, ⟨by decide +kernel, rfl⟩, rfl, by decide, rfl, by decide, Or.inl (tw_535)⟩
theorem x_M_rule_19 : kt_dc i_M_rule 19 (.iconst 0) 1 20 ∧ Int32.ofInt (0) = nI 0 := ⟨⟨by decide +kernel, rfl⟩, by decide⟩
theorem x_M_rule_20 : kt_dc i_M_rule 20 (.iaload) 1 21 := ⟨by decide +kernel, rfl⟩
theorem x_M_rule_21 : kt_dc i_M_rule 21 (.istore_n 2) 1 22 := ⟨by decide +kernel, rfl⟩
theorem x_M_rule_22 : kt_dc i_M_rule 22 (.aload_n 0) 1 23 := ⟨by decide +kernel, rfl⟩
theorem x_M_rule_23 : kt_sG i_M_rule 23 5 0 2 26 := ⟨7, RX5, TX5, 18, ⟨by decide +kernel, rfl⟩, rfl, by decide, rfl, by decide, Or.inl (tw_535)⟩
theorem x_M_rule_26 : kt_dc i_M_rule 26 (.iconst 0) 1 27 ∧ Int32.ofInt (0) = nI 0 := ⟨⟨by decide +kernel, rfl⟩, by decide⟩
theorem x_M_rule_27 : kt_dc i_M_rule 27 (.iload_n 1) 1 28 := ⟨by decide +kernel, rfl⟩
theorem x_M_rule_28 : kt_dc i_M_rule 28 (.iastore) 1 29 := ⟨by decide +kernel, rfl⟩
theorem x_M_rule_29 : kt_dc i_M_rule 29 (.aload_n 0) 1 30 := ⟨by decide +kernel, rfl⟩
theorem x_M_rule_30 : kt_dc i_M_rule 30 (.aload_n 0) 1 31 := ⟨by decide +kernel, rfl⟩
theorem x_M_rule_31 : kt_sG i_M_rule 31 5 0 2 34 := ⟨7, RX5, TX5, 18, ⟨by decide +kernel, rfl⟩, rfl, by decide, rfl, by decide, Or.inl (tw_535)⟩
theorem x_M_rule_34 : kt_dc i_M_rule 34 (.iconst 1) 1 35 ∧ Int32.ofInt (1) = nI 1 := ⟨⟨by decide +kernel, rfl⟩, by decide⟩
theorem x_M_rule_35 : kt_dc i_M_rule 35 (.iaload) 1 36 := ⟨by decide +kernel, rfl⟩
theorem x_M_rule_36 : kt_sV i_M_rule 36 i_M_apologizes 5 1 39 := ⟨99, ⟨by decide +kernel, rfl⟩, Or.inl (tw_662), j_M_apologizes, ⟨tw_664, tp_60⟩, ⟨TX5, 18, rfl⟩, by decide, rfl⟩
theorem c_M_rule_36 {P : kt_P} {NM : Nat} {L : List (Option Value)} {rest : List Value} {N : Nat} {I : kt_I} {J : kt_J} {R : kt_R} {Q : Option Value → kt_I → kt_J → kt_R → Prop} {b : Nat} {x0 : Int32} (hkd : kt_kd P N b = (5, 0)) (hrest : (rest.map fun v => v.category).sum ≤ 8) (kk : KW P i_M_apologizes N 0 [some (.ref b), some (.int x0), none, none, none] [] N I J R (fun v I' J' R' => KW P i_M_rule NM 39 L (kt_pu v rest) N I' J' R' Q)) : KW P i_M_rule NM 36 L (.int x0 :: .ref b :: rest) N I J R Q := kw_callV x_M_rule_36 (As := [.int x0]) rfl rfl (Nat.le_of_ble_eq_true rfl) hrest hkd (Nat.le_refl N) (fun h => h) kk
theorem x_M_rule_39 : kt_dc i_M_rule 39 (.pop) 1 40 := ⟨by decide +kernel, rfl⟩
theorem x_M_rule_40 : kt_dc i_M_rule 40 (.iload_n 2) 1 41 := ⟨by decide +kernel, rfl⟩
theorem x_M_rule_41 : kt_dc i_M_rule 41 (.ireturn) 1 42 ∧ kt_rt i_M_rule = (some .int) := ⟨⟨by decide +kernel, rfl⟩, rfl⟩
theorem x_M_eventOf_0 : kt_dc i_M_eventOf 0 (.aload_n 0) 1 1 := ⟨by decide +kernel, rfl⟩
theorem x_M_eventOf_1 : kt_dc i_M_eventOf 1 (.iload_n 1) 1 2 := ⟨by decide +kernel, rfl⟩
theorem x_M_eventOf_2 : kt_sV i_M_eventOf 2 i_M_isEvent 5 1 5 := ⟨115, ⟨by decide +kernel, rfl⟩, Or.inl (tw_674), j_M_isEvent, ⟨tw_676, tp_61⟩, ⟨TX5, 18, rfl⟩, by decide, rfl⟩
theorem c_M_eventOf_2 {P : kt_P} {NM : Nat} {L : List (Option Value)} {rest : List Value} {N : Nat} {I : kt_I} {J : kt_J} {R : kt_R} {Q : Option Value → kt_I → kt_J → kt_R → Prop} {b : Nat} {x0 : Int32} (hkd : kt_kd P N b = (5, 0)) (hrest : (rest.map fun v => v.category).sum ≤ 8) (kk : KW P i_M_isEvent N 0 [some (.ref b), some (.int x0)] [] N I J R (fun v I' J' R' => KW P i_M_eventOf NM 5 L (kt_pu v rest) N I' J' R' Q)) : KW P i_M_eventOf NM 2 L (.int x0 :: .ref b :: rest) N I J R Q := kw_callV x_M_eventOf_2 (As := [.int x0]) rfl rfl (Nat.le_of_ble_eq_true rfl) hrest hkd (Nat.le_refl N) (fun h => h) kk
theorem x_M_eventOf_5 : kt_dj i_M_eventOf 5 (.ifCond .eq) 18 8 := ⟨13, by decide +kernel, by decide, rfl⟩
theorem x_M_eventOf_8 : kt_dc i_M_eventOf 8 (.iload_n 2) 1 9 := ⟨by decide +kernel, rfl⟩
theorem x_M_eventOf_9 : kt_dc i_M_eventOf 9 (.iconst 0) 1 10 ∧ Int32.ofInt (0) = nI 0 := ⟨⟨by decide +kernel, rfl⟩, by decide⟩
theorem x_M_eventOf_10 : kt_dc i_M_eventOf 10 (.bipush 8) 2 12 ∧ (Int8.ofInt (8)).toInt32 = nI 8 := ⟨⟨by decide +kernel, rfl⟩, by decide⟩
theorem x_M_eventOf_12 : kt_sS i_M_eventOf 12 i_M_in 3 15 := ⟨107, ⟨by decide +kernel, rfl⟩, Or.inl (tw_651), j_M_in, tw_652, rfl⟩
theorem c_M_eventOf_12 {P : kt_P} {NM : Nat} {L : List (Option Value)} {rest : List Value} {N : Nat} {I : kt_I} {J : kt_J} {R : kt_R} {Q : Option Value → kt_I → kt_J → kt_R → Prop} {x0 : Int32} {x1 : Int32} {x2 : Int32} (hrest : (rest.map fun v => v.category).sum ≤ 8) (kk : KW P i_M_in N 0 [some (.int x0), some (.int x1), some (.int x2)] [] N I J R (fun v I' J' R' => KW P i_M_eventOf NM 15 L (kt_pu v rest) N I' J' R' Q)) : KW P i_M_eventOf NM 12 L (.int x2 :: .int x1 :: .int x0 :: rest) N I J R Q := kw_callS x_M_eventOf_12 (As := [.int x0, .int x1, .int x2]) rfl rfl (Nat.le_of_ble_eq_true rfl) hrest (Nat.le_refl N) (fun h => h) kk
theorem x_M_eventOf_15 : kt_dj i_M_eventOf 15 (.ifCond .ne) 20 18 := ⟨5, by decide +kernel, by decide, rfl⟩
theorem x_M_eventOf_18 : kt_dc i_M_eventOf 18 (.iconst (-1)) 1 19 ∧ Int32.ofInt (-1) = (-1 : Int32) := ⟨⟨by decide +kernel, rfl⟩, by decide⟩
theorem x_M_eventOf_19 : kt_dc i_M_eventOf 19 (.ireturn) 1 20 ∧ kt_rt i_M_eventOf = (some .int) := ⟨⟨by decide +kernel, rfl⟩, rfl⟩
theorem x_M_eventOf_20 : kt_dc i_M_eventOf 20 (.aload_n 0) 1 21 := ⟨by decide +kernel, rfl⟩
theorem x_M_eventOf_21 : kt_dc i_M_eventOf 21 (.iload_n 1) 1 22 := ⟨by decide +kernel, rfl⟩
theorem x_M_eventOf_22 : kt_dc i_M_eventOf 22 (.iload_n 2) 1 23 := ⟨by decide +kernel, rfl⟩
theorem x_M_eventOf_23 : kt_sV i_M_eventOf 23 i_M_of 5 2 26 := ⟨44, ⟨by decide +kernel, rfl⟩, Or.inl (tw_615), j_M_of, ⟨tw_617, tp_50⟩, ⟨TX5, 18, rfl⟩, by decide, rfl⟩
theorem c_M_eventOf_23 {P : kt_P} {NM : Nat} {L : List (Option Value)} {rest : List Value} {N : Nat} {I : kt_I} {J : kt_J} {R : kt_R} {Q : Option Value → kt_I → kt_J → kt_R → Prop} {b : Nat} {x0 : Int32} {x1 : Int32} (hkd : kt_kd P N b = (5, 0)) (hrest : (rest.map fun v => v.category).sum ≤ 8) (kk : KW P i_M_of N 0 [some (.ref b), some (.int x0), some (.int x1)] [] N I J R (fun v I' J' R' => KW P i_M_eventOf NM 26 L (kt_pu v rest) N I' J' R' Q)) : KW P i_M_eventOf NM 23 L (.int x1 :: .int x0 :: .ref b :: rest) N I J R Q := kw_callV x_M_eventOf_23 (As := [.int x0, .int x1]) rfl rfl (Nat.le_of_ble_eq_true rfl) hrest hkd (Nat.le_refl N) (fun h => h) kk
theorem x_M_eventOf_26 : kt_dc i_M_eventOf 26 (.ireturn) 1 27 ∧ kt_rt i_M_eventOf = (some .int) := ⟨⟨by decide +kernel, rfl⟩, rfl⟩
theorem x_M_thinks_0 : kt_dc i_M_thinks 0 (.aload_n 0) 1 1 := ⟨by decide +kernel, rfl⟩
theorem x_M_thinks_1 : kt_dc i_M_thinks 1 (.iload_n 1) 1 2 := ⟨by decide +kernel, rfl⟩
theorem x_M_thinks_2 : kt_sV i_M_thinks 2 i_M_isTown 5 1 5 := ⟨103, ⟨by decide +kernel, rfl⟩, Or.inl (tw_647), j_M_isTown, ⟨tw_649, tp_57⟩, ⟨TX5, 18, rfl⟩, by decide, rfl⟩
theorem c_M_thinks_2 {P : kt_P} {NM : Nat} {L : List (Option Value)} {rest : List Value} {N : Nat} {I : kt_I} {J : kt_J} {R : kt_R} {Q : Option Value → kt_I → kt_J → kt_R → Prop} {b : Nat} {x0 : Int32} (hkd : kt_kd P N b = (5, 0)) (hrest : (rest.map fun v => v.category).sum ≤ 8) (kk : KW P i_M_isTown N 0 [some (.ref b), some (.int x0)] [] N I J R (fun v I' J' R' => KW P i_M_thinks NM 5 L (kt_pu v rest) N I' J' R' Q)) : KW P i_M_thinks NM 2 L (.int x0 :: .ref b :: rest) N I J R Q := kw_callV x_M_thinks_2 (As := [.int x0]) rfl rfl (Nat.le_of_ble_eq_true rfl) hrest hkd (Nat.le_refl N) (fun h => h) kk
theorem x_M_thinks_5 : kt_dj i_M_thinks 5 (.ifCond .eq) 16 8 := ⟨11, by decide +kernel, by decide, rfl⟩
theorem x_M_thinks_8 : kt_dc i_M_thinks 8 (.aload_n 0) 1 9 := ⟨by decide +kernel, rfl⟩
theorem x_M_thinks_9 : kt_dc i_M_thinks 9 (.iload_n 2) 1 10 := ⟨by decide +kernel, rfl⟩
theorem x_M_thinks_10 : kt_sV i_M_thinks 10 i_M_isEvent 5 1 13 := ⟨115, ⟨by decide +kernel, rfl⟩, Or.inl (tw_674), j_M_isEvent, ⟨tw_676, tp_61⟩, ⟨TX5, 18, rfl⟩, by decide, rfl⟩
theorem c_M_thinks_10 {P : kt_P} {NM : Nat} {L : List (Option Value)} {rest : List Value} {N : Nat} {I : kt_I} {J : kt_J} {R : kt_R} {Q : Option Value → kt_I → kt_J → kt_R → Prop} {b : Nat} {x0 : Int32} (hkd : kt_kd P N b = (5, 0)) (hrest : (rest.map fun v => v.category).sum ≤ 8) (kk : KW P i_M_isEvent N 0 [some (.ref b), some (.int x0)] [] N I J R (fun v I' J' R' => KW P i_M_thinks NM 13 L (kt_pu v rest) N I' J' R' Q)) : KW P i_M_thinks NM 10 L (.int x0 :: .ref b :: rest) N I J R Q := kw_callV x_M_thinks_10 (As := [.int x0]) rfl rfl (Nat.le_of_ble_eq_true rfl) hrest hkd (Nat.le_refl N) (fun h => h) kk
theorem x_M_thinks_13 : kt_dj i_M_thinks 13 (.ifCond .ne) 18 16 := ⟨5, by decide +kernel, by decide, rfl⟩
theorem x_M_thinks_16 : kt_dc i_M_thinks 16 (.iconst (-1)) 1 17 ∧ Int32.ofInt (-1) = (-1 : Int32) := ⟨⟨by decide +kernel, rfl⟩, by decide⟩
theorem x_M_thinks_17 : kt_dc i_M_thinks 17 (.ireturn) 1 18 ∧ kt_rt i_M_thinks = (some .int) := ⟨⟨by decide +kernel, rfl⟩, rfl⟩
theorem x_M_thinks_18 : kt_dc i_M_thinks 18 (.aload_n 0) 1 19 := ⟨by decide +kernel, rfl⟩
theorem x_M_thinks_19 : kt_dc i_M_thinks 19 (.iload_n 2) 1 20 := ⟨by decide +kernel, rfl⟩
theorem x_M_thinks_20 : kt_dc i_M_thinks 20 (.iconst 0) 1 21 ∧ Int32.ofInt (0) = nI 0 := ⟨⟨by decide +kernel, rfl⟩, by decide⟩
theorem x_M_thinks_21 : kt_sV i_M_thinks 21 i_M_of 5 2 24 := ⟨44, ⟨by decide +kernel, rfl⟩, Or.inl (tw_615), j_M_of, ⟨tw_617, tp_50⟩, ⟨TX5, 18, rfl⟩, by decide, rfl⟩
theorem c_M_thinks_21 {P : kt_P} {NM : Nat} {L : List (Option Value)} {rest : List Value} {N : Nat} {I : kt_I} {J : kt_J} {R : kt_R} {Q : Option Value → kt_I → kt_J → kt_R → Prop} {b : Nat} {x0 : Int32} {x1 : Int32} (hkd : kt_kd P N b = (5, 0)) (hrest : (rest.map fun v => v.category).sum ≤ 8) (kk : KW P i_M_of N 0 [some (.ref b), some (.int x0), some (.int x1)] [] N I J R (fun v I' J' R' => KW P i_M_thinks NM 24 L (kt_pu v rest) N I' J' R' Q)) : KW P i_M_thinks NM 21 L (.int x1 :: .int x0 :: .ref b :: rest) N I J R Q := kw_callV x_M_thinks_21 (As := [.int x0, .int x1]) rfl rfl (Nat.le_of_ble_eq_true rfl) hrest hkd (Nat.le_refl N) (fun h => h) kk
theorem x_M_thinks_24 : kt_dc i_M_thinks 24 (.iconst 1) 1 25 ∧ Int32.ofInt (1) = nI 1 := ⟨⟨by decide +kernel, rfl⟩, by decide⟩
theorem x_M_thinks_25 : kt_dj i_M_thinks 25 (.if_icmp .eq) 31 28 := ⟨6, by decide +kernel, by decide, rfl⟩
theorem x_M_thinks_28 : kt_dc i_M_thinks 28 (.bipush (-2)) 2 30 ∧ (Int8.ofInt (-2)).toInt32 = (-2 : Int32) := ⟨⟨by decide +kernel, rfl⟩, by decide⟩
theorem x_M_thinks_30 : kt_dc i_M_thinks 30 (.ireturn) 1 31 ∧ kt_rt i_M_thinks = (some .int) := ⟨⟨by decide +kernel, rfl⟩, rfl⟩
theorem x_M_thinks_31 : kt_dc i_M_thinks 31 (.aload_n 0) 1 32 := ⟨by decide +kernel, rfl⟩
theorem x_M_thinks_32 : kt_dc i_M_thinks 32 (.iload_n 1) 1 33 := ⟨by decide +kernel, rfl⟩
theorem x_M_thinks_33 : kt_sV i_M_thinks 33 i_M_thinksAll 5 1 36 := ⟨76, ⟨by decide +kernel, rfl⟩, Or.inl (tw_607), j_M_thinksAll, ⟨tw_609, tp_48⟩, ⟨TX5, 18, rfl⟩, by decide, rfl⟩
theorem c_M_thinks_33 {P : kt_P} {NM : Nat} {L : List (Option Value)} {rest : List Value} {N : Nat} {I : kt_I} {J : kt_J} {R : kt_R} {Q : Option Value → kt_I → kt_J → kt_R → Prop} {b : Nat} {x0 : Int32} (hkd : kt_kd P N b = (5, 0)) (hrest : (rest.map fun v => v.category).sum ≤ 8) (kk : KW P i_M_thinksAll N 0 [some (.ref b), some (.int x0), none] [] N I J R (fun v I' J' R' => KW P i_M_thinks NM 36 L (kt_pu v rest) N I' J' R' Q)) : KW P i_M_thinks NM 33 L (.int x0 :: .ref b :: rest) N I J R Q := kw_callV x_M_thinks_33 (As := [.int x0]) rfl rfl (Nat.le_of_ble_eq_true rfl) hrest hkd (Nat.le_refl N) (fun h => h) kk
theorem x_M_thinks_36 : kt_dc i_M_thinks 36 (.aload_n 0) 1 37 := ⟨by decide +kernel, rfl⟩
theorem x_M_thinks_37 : kt_sG i_M_thinks 37 5 8 2 40 := ⟨25, RX5, TX5, 18, ⟨by decide +kernel, rfl⟩, rfl, by decide, rfl, by decide, Or.inl (tw_543)⟩
theorem x_M_thinks_40 : kt_dc i_M_thinks 40 (.iload_n 2) 1 41 := ⟨by decide +kernel, rfl⟩
theorem x_M_thinks_41 : kt_dc i_M_thinks 41 (.iaload) 1 42 := ⟨by decide +kernel, rfl⟩
theorem x_M_thinks_42 : kt_dc i_M_thinks 42 (.ireturn) 1 43 ∧ kt_rt i_M_thinks = (some .int) := ⟨⟨by decide +kernel, rfl⟩, rfl⟩
theorem x_M_townOf_0 : kt_dc i_M_townOf 0 (.aload_n 0) 1 1 := ⟨by decide +kernel, rfl⟩
theorem x_M_townOf_1 : kt_dc i_M_townOf 1 (.iload_n 1) 1 2 := ⟨by decide +kernel, rfl⟩
theorem x_M_townOf_2 : kt_sV i_M_townOf 2 i_M_isTown 5 1 5 := ⟨103, ⟨by decide +kernel, rfl⟩, Or.inl (tw_647), j_M_isTown, ⟨tw_649, tp_57⟩, ⟨TX5, 18, rfl⟩, by decide, rfl⟩
theorem c_M_townOf_2 {P : kt_P} {NM : Nat} {L : List (Option Value)} {rest : List Value} {N : Nat} {I : kt_I} {J : kt_J} {R : kt_R} {Q : Option Value → kt_I → kt_J → kt_R → Prop} {b : Nat} {x0 : Int32} (hkd : kt_kd P N b = (5, 0)) (hrest : (rest.map fun v => v.category).sum ≤ 8) (kk : KW P i_M_isTown N 0 [some (.ref b), some (.int x0)] [] N I J R (fun v I' J' R' => KW P i_M_townOf NM 5 L (kt_pu v rest) N I' J' R' Q)) : KW P i_M_townOf NM 2 L (.int x0 :: .ref b :: rest) N I J R Q := kw_callV x_M_townOf_2 (As := [.int x0]) rfl rfl (Nat.le_of_ble_eq_true rfl) hrest hkd (Nat.le_refl N) (fun h => h) kk
theorem x_M_townOf_5 : kt_dj i_M_townOf 5 (.ifCond .ne) 10 8 := ⟨5, by decide +kernel, by decide, rfl⟩
theorem x_M_townOf_8 : kt_dc i_M_townOf 8 (.iconst (-1)) 1 9 ∧ Int32.ofInt (-1) = (-1 : Int32) := ⟨⟨by decide +kernel, rfl⟩, by decide⟩
theorem x_M_townOf_9 : kt_dc i_M_townOf 9 (.ireturn) 1 10 ∧ kt_rt i_M_townOf = (some .int) := ⟨⟨by decide +kernel, rfl⟩, rfl⟩
theorem x_M_townOf_10 : kt_dc i_M_townOf 10 (.iload_n 2) 1 11 := ⟨by decide +kernel, rfl⟩
theorem x_M_townOf_11 : kt_dt i_M_townOf 11 0 [56, 65, 71, 71, 71, 80, 86, 92] 98 := ⟨87, 7, #[45, 54, 60, 60, 60, 69, 75, 81], 45, by decide +kernel, by decide, by decide, by decide⟩
theorem s_M_townOf_11 {P : kt_P} {NM : Nat} {L : List (Option Value)} {st : List Value} {N : Nat} {I : kt_I} {J : kt_J} {R : kt_R} {Q : Option Value → kt_I → kt_J → kt_R → Prop} {x : Int32} (h0 : x = nI 0 → KW P i_M_townOf NM 56 L st N I J R Q) (h1 : x = nI 1 → KW P i_M_townOf NM 65 L st N I J R Q) (h2 : x = nI 2 → KW P i_M_townOf NM 71 L st N I J R Q) (h3 : x = nI 3 → KW P i_M_townOf NM 71 L st N I J R Q) (h4 : x = nI 4 → KW P i_M_townOf NM 71 L st N I J R Q) (h5 : x = nI 5 → KW P i_M_townOf NM 80 L st N I J R Q) (h6 : x = nI 6 → KW P i_M_townOf NM 86 L st N I J R Q) (h7 : x = nI 7 → KW P i_M_townOf NM 92 L st N I J R Q) (hd : ¬ x = nI 0 → ¬ x = nI 1 → ¬ x = nI 2 → ¬ x = nI 3 → ¬ x = nI 4 → ¬ x = nI 5 → ¬ x = nI 6 → ¬ x = nI 7 → KW P i_M_townOf NM 98 L st N I J R Q) : KW P i_M_townOf NM 11 L (.int x :: st) N I J R Q :=
  kw_tsw x_M_townOf_11 (fun j t hj hx => by
    match j, hj, hx with
    | 0, hj, hx => cases hj; exact h0 (Int32.toInt_inj.mp (hx.trans (by decide)))
    | 1, hj, hx => cases hj; exact h1 (Int32.toInt_inj.mp (hx.trans (by decide)))
    | 2, hj, hx => cases hj; exact h2 (Int32.toInt_inj.mp (hx.trans (by decide)))
    | 3, hj, hx => cases hj; exact h3 (Int32.toInt_inj.mp (hx.trans (by decide)))
    | 4, hj, hx => cases hj; exact h4 (Int32.toInt_inj.mp (hx.trans (by decide)))
    | 5, hj, hx => cases hj; exact h5 (Int32.toInt_inj.mp (hx.trans (by decide)))
    | 6, hj, hx => cases hj; exact h6 (Int32.toInt_inj.mp (hx.trans (by decide)))
    | 7, hj, hx => cases hj; exact h7 (Int32.toInt_inj.mp (hx.trans (by decide)))
    | n + 8, hj, hx => simp at hj)
    (fun h => hd (fun e => by subst e; revert h; decide) (fun e => by subst e; revert h; decide) (fun e => by subst e; revert h; decide) (fun e => by subst e; revert h; decide) (fun e => by subst e; revert h; decide) (fun e => by subst e; revert h; decide) (fun e => by subst e; revert h; decide) (fun e => by subst e; revert h; decide))
theorem x_M_townOf_56 : kt_dc i_M_townOf 56 (.aload_n 0) 1 57 := ⟨by decide +kernel, rfl⟩
theorem x_M_townOf_57 : kt_sG i_M_townOf 57 5 0 2 60 := ⟨7, RX5, TX5, 18, ⟨by decide +kernel, rfl⟩, rfl, by decide, rfl, by decide, Or.inl (tw_535)⟩
theorem x_M_townOf_60 : kt_dc i_M_townOf 60 (.iconst 3) 1 61 ∧ Int32.ofInt (3) = nI 3 := ⟨⟨by decide +kernel, rfl⟩, by decide⟩
theorem x_M_townOf_61 : kt_dc i_M_townOf 61 (.iload_n 1) 1 62 := ⟨by decide +kernel, rfl⟩
theorem x_M_townOf_62 : kt_dc i_M_townOf 62 (.iadd) 1 63 := ⟨by decide +kernel, rfl⟩
theorem x_M_townOf_63 : kt_dc i_M_townOf 63 (.iaload) 1 64 := ⟨by decide +kernel, rfl⟩
theorem x_M_townOf_64 : kt_dc i_M_townOf 64 (.ireturn) 1 65 ∧ kt_rt i_M_townOf = (some .int) := ⟨⟨by decide +kernel, rfl⟩, rfl⟩
theorem x_M_townOf_65 : kt_dc i_M_townOf 65 (.aload_n 0) 1 66 := ⟨by decide +kernel, rfl⟩
theorem x_M_townOf_66 : kt_dc i_M_townOf 66 (.iload_n 1) 1 67 := ⟨by decide +kernel, rfl⟩
theorem x_M_townOf_67 : kt_sV i_M_townOf 67 i_M_knownBy 5 1 70 := ⟨122, ⟨by decide +kernel, rfl⟩, Or.inl (tw_706), j_M_knownBy, ⟨tw_708, tp_63⟩, ⟨TX5, 18, rfl⟩, by decide, rfl⟩
theorem c_M_townOf_67 {P : kt_P} {NM : Nat} {L : List (Option Value)} {rest : List Value} {N : Nat} {I : kt_I} {J : kt_J} {R : kt_R} {Q : Option Value → kt_I → kt_J → kt_R → Prop} {b : Nat} {x0 : Int32} (hkd : kt_kd P N b = (5, 0)) (hrest : (rest.map fun v => v.category).sum ≤ 8) (kk : KW P i_M_knownBy N 0 [some (.ref b), some (.int x0), none, none] [] N I J R (fun v I' J' R' => KW P i_M_townOf NM 70 L (kt_pu v rest) N I' J' R' Q)) : KW P i_M_townOf NM 67 L (.int x0 :: .ref b :: rest) N I J R Q := kw_callV x_M_townOf_67 (As := [.int x0]) rfl rfl (Nat.le_of_ble_eq_true rfl) hrest hkd (Nat.le_refl N) (fun h => h) kk
theorem x_M_townOf_70 : kt_dc i_M_townOf 70 (.ireturn) 1 71 ∧ kt_rt i_M_townOf = (some .int) := ⟨⟨by decide +kernel, rfl⟩, rfl⟩
theorem x_M_townOf_71 : kt_dc i_M_townOf 71 (.aload_n 0) 1 72 := ⟨by decide +kernel, rfl⟩
theorem x_M_townOf_72 : kt_dc i_M_townOf 72 (.iload_n 1) 1 73 := ⟨by decide +kernel, rfl⟩
theorem x_M_townOf_73 : kt_dc i_M_townOf 73 (.iload_n 2) 1 74 := ⟨by decide +kernel, rfl⟩
theorem x_M_townOf_74 : kt_dc i_M_townOf 74 (.iconst 2) 1 75 ∧ Int32.ofInt (2) = nI 2 := ⟨⟨by decide +kernel, rfl⟩, by decide⟩
theorem x_M_townOf_75 : kt_dc i_M_townOf 75 (.isub) 1 76 := ⟨by decide +kernel, rfl⟩
theorem x_M_townOf_76 : kt_sV i_M_townOf 76 i_M_withStatus 5 2 79 := ⟨125, ⟨by decide +kernel, rfl⟩, Or.inl (tw_710), j_M_withStatus, ⟨tw_712, tp_64⟩, ⟨TX5, 18, rfl⟩, by decide, rfl⟩
theorem c_M_townOf_76 {P : kt_P} {NM : Nat} {L : List (Option Value)} {rest : List Value} {N : Nat} {I : kt_I} {J : kt_J} {R : kt_R} {Q : Option Value → kt_I → kt_J → kt_R → Prop} {b : Nat} {x0 : Int32} {x1 : Int32} (hkd : kt_kd P N b = (5, 0)) (hrest : (rest.map fun v => v.category).sum ≤ 8) (kk : KW P i_M_withStatus N 0 [some (.ref b), some (.int x0), some (.int x1), none, none] [] N I J R (fun v I' J' R' => KW P i_M_townOf NM 79 L (kt_pu v rest) N I' J' R' Q)) : KW P i_M_townOf NM 76 L (.int x1 :: .int x0 :: .ref b :: rest) N I J R Q := kw_callV x_M_townOf_76 (As := [.int x0, .int x1]) rfl rfl (Nat.le_of_ble_eq_true rfl) hrest hkd (Nat.le_refl N) (fun h => h) kk
theorem x_M_townOf_79 : kt_dc i_M_townOf 79 (.ireturn) 1 80 ∧ kt_rt i_M_townOf = (some .int) := ⟨⟨by decide +kernel, rfl⟩, rfl⟩
theorem x_M_townOf_80 : kt_dc i_M_townOf 80 (.aload_n 0) 1 81 := ⟨by decide +kernel, rfl⟩
theorem x_M_townOf_81 : kt_dc i_M_townOf 81 (.iload_n 1) 1 82 := ⟨by decide +kernel, rfl⟩
theorem x_M_townOf_82 : kt_sV i_M_townOf 82 i_M_sorry 5 1 85 := ⟨128, ⟨by decide +kernel, rfl⟩, Or.inl (tw_714), j_M_sorry, ⟨tw_716, tp_65⟩, ⟨TX5, 18, rfl⟩, by decide, rfl⟩
theorem c_M_townOf_82 {P : kt_P} {NM : Nat} {L : List (Option Value)} {rest : List Value} {N : Nat} {I : kt_I} {J : kt_J} {R : kt_R} {Q : Option Value → kt_I → kt_J → kt_R → Prop} {b : Nat} {x0 : Int32} (hkd : kt_kd P N b = (5, 0)) (hrest : (rest.map fun v => v.category).sum ≤ 8) (kk : KW P i_M_sorry N 0 [some (.ref b), some (.int x0), none, none] [] N I J R (fun v I' J' R' => KW P i_M_townOf NM 85 L (kt_pu v rest) N I' J' R' Q)) : KW P i_M_townOf NM 82 L (.int x0 :: .ref b :: rest) N I J R Q := kw_callV x_M_townOf_82 (As := [.int x0]) rfl rfl (Nat.le_of_ble_eq_true rfl) hrest hkd (Nat.le_refl N) (fun h => h) kk
theorem x_M_townOf_85 : kt_dc i_M_townOf 85 (.ireturn) 1 86 ∧ kt_rt i_M_townOf = (some .int) := ⟨⟨by decide +kernel, rfl⟩, rfl⟩
theorem x_M_townOf_86 : kt_dc i_M_townOf 86 (.aload_n 0) 1 87 := ⟨by decide +kernel, rfl⟩
theorem x_M_townOf_87 : kt_dc i_M_townOf 87 (.iload_n 1) 1 88 := ⟨by decide +kernel, rfl⟩
theorem x_M_townOf_88 : kt_sV i_M_townOf 88 i_M_madeIn 5 1 91 := ⟨131, ⟨by decide +kernel, rfl⟩, Or.inl (tw_718), j_M_madeIn, ⟨tw_720, tp_66⟩, ⟨TX5, 18, rfl⟩, by decide, rfl⟩
theorem c_M_townOf_88 {P : kt_P} {NM : Nat} {L : List (Option Value)} {rest : List Value} {N : Nat} {I : kt_I} {J : kt_J} {R : kt_R} {Q : Option Value → kt_I → kt_J → kt_R → Prop} {b : Nat} {x0 : Int32} (hkd : kt_kd P N b = (5, 0)) (hrest : (rest.map fun v => v.category).sum ≤ 8) (kk : KW P i_M_madeIn N 0 [some (.ref b), some (.int x0), none, none] [] N I J R (fun v I' J' R' => KW P i_M_townOf NM 91 L (kt_pu v rest) N I' J' R' Q)) : KW P i_M_townOf NM 88 L (.int x0 :: .ref b :: rest) N I J R Q := kw_callV x_M_townOf_88 (As := [.int x0]) rfl rfl (Nat.le_of_ble_eq_true rfl) hrest hkd (Nat.le_refl N) (fun h => h) kk
theorem x_M_townOf_91 : kt_dc i_M_townOf 91 (.ireturn) 1 92 ∧ kt_rt i_M_townOf = (some .int) := ⟨⟨by decide +kernel, rfl⟩, rfl⟩
theorem x_M_townOf_92 : kt_dc i_M_townOf 92 (.aload_n 0) 1 93 := ⟨by decide +kernel, rfl⟩
theorem x_M_townOf_93 : kt_dc i_M_townOf 93 (.iload_n 1) 1 94 := ⟨by decide +kernel, rfl⟩
theorem x_M_townOf_94 : kt_sV i_M_townOf 94 i_M_likes 5 1 97 := ⟨134, ⟨by decide +kernel, rfl⟩, Or.inl (tw_722), j_M_likes, ⟨tw_724, tp_67⟩, ⟨TX5, 18, rfl⟩, by decide, rfl⟩
theorem c_M_townOf_94 {P : kt_P} {NM : Nat} {L : List (Option Value)} {rest : List Value} {N : Nat} {I : kt_I} {J : kt_J} {R : kt_R} {Q : Option Value → kt_I → kt_J → kt_R → Prop} {b : Nat} {x0 : Int32} (hkd : kt_kd P N b = (5, 0)) (hrest : (rest.map fun v => v.category).sum ≤ 8) (kk : KW P i_M_likes N 0 [some (.ref b), some (.int x0), none, none, none, none] [] N I J R (fun v I' J' R' => KW P i_M_townOf NM 97 L (kt_pu v rest) N I' J' R' Q)) : KW P i_M_townOf NM 94 L (.int x0 :: .ref b :: rest) N I J R Q := kw_callV x_M_townOf_94 (As := [.int x0]) rfl rfl (Nat.le_of_ble_eq_true rfl) hrest hkd (Nat.le_refl N) (fun h => h) kk
theorem x_M_townOf_97 : kt_dc i_M_townOf 97 (.ireturn) 1 98 ∧ kt_rt i_M_townOf = (some .int) := ⟨⟨by decide +kernel, rfl⟩, rfl⟩
theorem x_M_townOf_98 : kt_dc i_M_townOf 98 (.iconst (-1)) 1 99 ∧ Int32.ofInt (-1) = (-1 : Int32) := ⟨⟨by decide +kernel, rfl⟩, by decide⟩
theorem x_M_townOf_99 : kt_dc i_M_townOf 99 (.ireturn) 1 100 ∧ kt_rt i_M_townOf = (some .int) := ⟨⟨by decide +kernel, rfl⟩, rfl⟩
theorem x_M_knownBy_0 : kt_dc i_M_knownBy 0 (.iconst 0) 1 1 ∧ Int32.ofInt (0) = nI 0 := ⟨⟨by decide +kernel, rfl⟩, by decide⟩
theorem x_M_knownBy_1 : kt_dc i_M_knownBy 1 (.istore_n 2) 1 2 := ⟨by decide +kernel, rfl⟩
theorem x_M_knownBy_2 : kt_dc i_M_knownBy 2 (.iconst 0) 1 3 ∧ Int32.ofInt (0) = nI 0 := ⟨⟨by decide +kernel, rfl⟩, by decide⟩
theorem x_M_knownBy_3 : kt_dc i_M_knownBy 3 (.istore_n 3) 1 4 := ⟨by decide +kernel, rfl⟩
theorem x_M_knownBy_4 : kt_dc i_M_knownBy 4 (.iload_n 3) 1 5 := ⟨by decide +kernel, rfl⟩
theorem x_M_knownBy_5 : kt_dc i_M_knownBy 5 (.aload_n 0) 1 6 := ⟨by decide +kernel, rfl⟩
theorem x_M_knownBy_6 : kt_sG i_M_knownBy 6 5 0 2 9 := ⟨7, RX5, TX5, 18, ⟨by decide +kernel, rfl⟩, rfl, by decide, rfl, by decide, Or.inl (tw_535)⟩
theorem x_M_knownBy_9 : kt_dc i_M_knownBy 9 (.iconst 2) 1 10 ∧ Int32.ofInt (2) = nI 2 := ⟨⟨by decide +kernel, rfl⟩, by decide⟩
theorem x_M_knownBy_10 : kt_dc i_M_knownBy 10 (.iaload) 1 11 := ⟨by decide +kernel, rfl⟩
theorem x_M_knownBy_11 : kt_dj i_M_knownBy 11 (.if_icmp .ge) 37 14 := ⟨26, by decide +kernel, by decide, rfl⟩
theorem x_M_knownBy_14 : kt_dc i_M_knownBy 14 (.iload_n 2) 1 15 := ⟨by decide +kernel, rfl⟩
theorem x_M_knownBy_15 : kt_dc i_M_knownBy 15 (.aload_n 0) 1 16 := ⟨by decide +kernel, rfl⟩
theorem x_M_knownBy_16 : kt_dc i_M_knownBy 16 (.iload_n 1) 1 17 := ⟨by decide +kernel, rfl⟩
theorem x_M_knownBy_17 : kt_dc i_M_knownBy 17 (.iload_n 3) 1 18 := ⟨by decide +kernel, rfl⟩
theorem x_M_knownBy_18 : kt_sV i_M_knownBy 18 i_M_knows 5 2 21 := ⟨48, ⟨by decide +kernel, rfl⟩, Or.inl (tw_619), j_M_knows, ⟨tw_621, tp_51⟩, ⟨TX5, 18, rfl⟩, by decide, rfl⟩
theorem c_M_knownBy_18 {P : kt_P} {NM : Nat} {L : List (Option Value)} {rest : List Value} {N : Nat} {I : kt_I} {J : kt_J} {R : kt_R} {Q : Option Value → kt_I → kt_J → kt_R → Prop} {b : Nat} {x0 : Int32} {x1 : Int32} (hkd : kt_kd P N b = (5, 0)) (hrest : (rest.map fun v => v.category).sum ≤ 8) (kk : KW P i_M_knows N 0 [some (.ref b), some (.int x0), some (.int x1)] [] N I J R (fun v I' J' R' => KW P i_M_knownBy NM 21 L (kt_pu v rest) N I' J' R' Q)) : KW P i_M_knownBy NM 18 L (.int x1 :: .int x0 :: .ref b :: rest) N I J R Q := kw_callV x_M_knownBy_18 (As := [.int x0, .int x1]) rfl rfl (Nat.le_of_ble_eq_true rfl) hrest hkd (Nat.le_refl N) (fun h => h) kk
theorem x_M_knownBy_21 : kt_dj i_M_knownBy 21 (.ifCond .eq) 28 24 := ⟨7, by decide +kernel, by decide, rfl⟩
theorem x_M_knownBy_24 : kt_dc i_M_knownBy 24 (.iconst 1) 1 25 ∧ Int32.ofInt (1) = nI 1 := ⟨⟨by decide +kernel, rfl⟩, by decide⟩
theorem x_M_knownBy_25 : kt_dj i_M_knownBy 25 .goto 29 28 := ⟨4, by decide +kernel, by decide, rfl⟩
theorem x_M_knownBy_28 : kt_dc i_M_knownBy 28 (.iconst 0) 1 29 ∧ Int32.ofInt (0) = nI 0 := ⟨⟨by decide +kernel, rfl⟩, by decide⟩
theorem x_M_knownBy_29 : kt_dc i_M_knownBy 29 (.iadd) 1 30 := ⟨by decide +kernel, rfl⟩
theorem x_M_knownBy_30 : kt_dc i_M_knownBy 30 (.istore_n 2) 1 31 := ⟨by decide +kernel, rfl⟩
theorem x_M_knownBy_31 : kt_dc i_M_knownBy 31 (.iinc 3 1) 3 34 ∧ Int32.ofInt (1) = nI 1 := ⟨⟨by decide +kernel, rfl⟩, by decide⟩
theorem x_M_knownBy_34 : kt_dj i_M_knownBy 34 .goto 4 37 := ⟨-30, by decide +kernel, by decide, rfl⟩
theorem x_M_knownBy_37 : kt_dc i_M_knownBy 37 (.iload_n 2) 1 38 := ⟨by decide +kernel, rfl⟩
theorem x_M_knownBy_38 : kt_dc i_M_knownBy 38 (.ireturn) 1 39 ∧ kt_rt i_M_knownBy = (some .int) := ⟨⟨by decide +kernel, rfl⟩, rfl⟩
