theorem kt_q0 {w : Cond} (k : Nat) (h : tables_1_1[k]? = some w) : w ∈ lw_tbl := by
  have h1 := List.mem_of_getElem? h
  exact List.mem_append_right _ (List.mem_append_left _ h1)
theorem kt_q0g {w : Cond} (k : Nat) (h : tables_1_1[k]? = some w) (hg : goodWord w = true) : w ∈ kt_GW := List.mem_filter.mpr ⟨kt_q0 k h, hg⟩
theorem kt_q0n {w : Cond} (k : Nat) (h : tables_1_1[k]? = some w) (hg : kt_nw w = true) : w ∈ kt_NW := List.mem_filter.mpr ⟨kt_q0 k h, hg⟩
theorem kt_q1 {w : Cond} (k : Nat) (h : tables_1_2[k]? = some w) : w ∈ lw_tbl := by
  have h1 := List.mem_of_getElem? h
  exact List.mem_append_right _ (List.mem_append_right _ (List.mem_append_left _ h1))
theorem kt_q1g {w : Cond} (k : Nat) (h : tables_1_2[k]? = some w) (hg : goodWord w = true) : w ∈ kt_GW := List.mem_filter.mpr ⟨kt_q1 k h, hg⟩
theorem kt_q1n {w : Cond} (k : Nat) (h : tables_1_2[k]? = some w) (hg : kt_nw w = true) : w ∈ kt_NW := List.mem_filter.mpr ⟨kt_q1 k h, hg⟩
theorem kt_q2 {w : Cond} (k : Nat) (h : tables_1_3[k]? = some w) : w ∈ lw_tbl := by
  have h1 := List.mem_of_getElem? h
  exact List.mem_append_right _ (List.mem_append_right _ (List.mem_append_right _ (List.mem_append_left _ h1)))
theorem kt_q2g {w : Cond} (k : Nat) (h : tables_1_3[k]? = some w) (hg : goodWord w = true) : w ∈ kt_GW := List.mem_filter.mpr ⟨kt_q2 k h, hg⟩
theorem kt_q2n {w : Cond} (k : Nat) (h : tables_1_3[k]? = some w) (hg : kt_nw w = true) : w ∈ kt_NW := List.mem_filter.mpr ⟨kt_q2 k h, hg⟩
theorem kt_q3 {w : Cond} (k : Nat) (h : tables_1_4[k]? = some w) : w ∈ lw_tbl := by
  have h1 := List.mem_of_getElem? h
  exact List.mem_append_right _ (List.mem_append_right _ (List.mem_append_right _ (List.mem_append_right _ (h1))))
theorem kt_q3g {w : Cond} (k : Nat) (h : tables_1_4[k]? = some w) (hg : goodWord w = true) : w ∈ kt_GW := List.mem_filter.mpr ⟨kt_q3 k h, hg⟩
theorem kt_q3n {w : Cond} (k : Nat) (h : tables_1_4[k]? = some w) (hg : kt_nw w = true) : w ∈ kt_NW := List.mem_filter.mpr ⟨kt_q3 k h, hg⟩
theorem tw_0 : (Jvm.Cond.initialized "KinderTownsLaw") ∈ kt_GW := kt_q0g 0 rfl rfl
theorem tw_1 : (Jvm.Cond.initialized "KinderTowns") ∈ kt_GW := kt_q0g 1 rfl rfl
theorem tw_2 : (Jvm.Cond.initialized "KinderTowns$Script") ∈ kt_GW := kt_q0g 2 rfl rfl
theorem tw_3 : (Jvm.Cond.initialized "KinderTowns$Country") ∈ kt_GW := kt_q0g 3 rfl rfl
theorem tw_4 : (Jvm.Cond.initialized "KinderTowns$Looking") ∈ kt_GW := kt_q0g 4 rfl rfl
theorem tw_5 : (Jvm.Cond.initialized "KinderTowns$Events") ∈ kt_GW := kt_q0g 5 rfl rfl
theorem tw_6 : (Jvm.Cond.initialized "KinderTownsModel") ∈ kt_GW := kt_q0g 6 rfl rfl
theorem tw_7 : (Jvm.Cond.initialized "java/lang/System") ∈ kt_GW := kt_q0g 7 rfl rfl
theorem tw_8 : (Jvm.Cond.initialized "java/util/Arrays") ∈ kt_GW := kt_q0g 8 rfl rfl
theorem tw_9 : (Jvm.Cond.initialized "java/lang/Long") ∈ kt_GW := kt_q0g 9 rfl rfl
theorem tw_10 : (Jvm.Cond.initialized "java/lang/Math") ∈ kt_GW := kt_q0g 10 rfl rfl
theorem tw_11 : (Jvm.Cond.classLink "KinderTownsLaw" (7 : Nat) "KinderTowns") ∈ kt_GW := kt_q0g 11 rfl rfl
theorem tw_12 : (Jvm.Cond.instantiable "KinderTowns" (5 : Nat)) ∈ kt_GW := kt_q0g 12 rfl rfl
theorem tw_13 : (Jvm.Cond.methodLink "KinderTownsLaw" (9 : Nat) ({ cls := "KinderTowns", name := "<init>", desc := "()V" } : Jvm.MethodName)) ∈ kt_GW := kt_q0g 13 rfl rfl
theorem tw_14 : (Jvm.Cond.instanceMethod ({ cls := "KinderTowns", name := "<init>", desc := "()V" } : Jvm.MethodName)) ∈ kt_GW := kt_q0g 14 rfl rfl
theorem tw_15 : (Jvm.Cond.code ({ cls := "KinderTowns", name := "<init>", desc := "()V" } : Jvm.MethodName) prog_1_method_1_code (2 : Nat) (Option.none : Option Jvm.ClassFile.FieldType)) ∈ kt_GW := kt_q0g 15 rfl rfl
theorem tw_16 : (Jvm.Cond.methodLink "KinderTowns" (3 : Nat) ({ cls := "java/lang/Object", name := "<init>", desc := "()V" } : Jvm.MethodName)) ∈ kt_GW := kt_q0g 16 rfl rfl
theorem tw_17 : (Jvm.Cond.instanceMethod ({ cls := "java/lang/Object", name := "<init>", desc := "()V" } : Jvm.MethodName)) ∈ kt_GW := kt_q0g 17 rfl rfl
theorem tw_18 : (Jvm.Cond.code ({ cls := "java/lang/Object", name := "<init>", desc := "()V" } : Jvm.MethodName) object_method_1_code (1 : Nat) (Option.none : Option Jvm.ClassFile.FieldType)) ∈ kt_GW := kt_q0g 18 rfl rfl
theorem tw_19 : (Jvm.Cond.classLink "KinderTowns" (9 : Nat) "KinderTowns$Country") ∈ kt_GW := kt_q0g 19 rfl rfl
theorem tw_21 : (Jvm.Cond.classLink "KinderTowns" (15 : Nat) "KinderTowns$Script") ∈ kt_GW := kt_q0g 21 rfl rfl
theorem tw_22 : (Jvm.Cond.instantiable "KinderTowns$Script" (6 : Nat)) ∈ kt_GW := kt_q0g 22 rfl rfl
theorem tw_23 : (Jvm.Cond.methodLinkNest "KinderTowns" (17 : Nat) ({ cls := "KinderTowns$Script", name := "<init>", desc := "()V" } : Jvm.MethodName) "KinderTowns") ∈ kt_NW := kt_q0n 23 rfl rfl
theorem tw_24 : (Jvm.Cond.instanceMethod ({ cls := "KinderTowns$Script", name := "<init>", desc := "()V" } : Jvm.MethodName)) ∈ kt_GW := kt_q0g 24 rfl rfl
theorem tw_25 : (Jvm.Cond.code ({ cls := "KinderTowns$Script", name := "<init>", desc := "()V" } : Jvm.MethodName) prog_5_method_1_code (1 : Nat) (Option.none : Option Jvm.ClassFile.FieldType)) ∈ kt_GW := kt_q0g 25 rfl rfl
theorem tw_26 : (Jvm.Cond.methodLink "KinderTowns$Script" (3 : Nat) ({ cls := "java/lang/Object", name := "<init>", desc := "()V" } : Jvm.MethodName)) ∈ kt_GW := kt_q0g 26 rfl rfl
theorem tw_27 : (Jvm.Cond.fieldLink "KinderTowns$Script" (9 : Nat) "KinderTowns$Script" "signs" "[I") ∈ kt_GW := kt_q0g 27 rfl rfl
theorem tw_28 : (Jvm.Cond.fieldLinkNest "KinderTowns" (217 : Nat) "KinderTowns$Script" "signs" "[I" "KinderTowns") ∈ kt_NW := kt_q0n 28 rfl rfl
theorem tw_29 : (Jvm.Cond.fieldLink "KinderTowns$Script" (28 : Nat) "KinderTowns$Script" "length" "I") ∈ kt_GW := kt_q0g 29 rfl rfl
theorem tw_30 : (Jvm.Cond.fieldLinkNest "KinderTowns" (190 : Nat) "KinderTowns$Script" "length" "I" "KinderTowns") ∈ kt_NW := kt_q0n 30 rfl rfl
theorem tw_31 : (Jvm.Cond.fieldLink "KinderTowns$Script" (15 : Nat) "KinderTowns$Script" "numbers" "[I") ∈ kt_GW := kt_q0g 31 rfl rfl
theorem tw_32 : (Jvm.Cond.fieldLink "KinderTowns$Script" (18 : Nat) "KinderTowns$Script" "commands" "I") ∈ kt_GW := kt_q0g 32 rfl rfl
theorem tw_33 : (Jvm.Cond.fieldLinkNest "KinderTowns" (229 : Nat) "KinderTowns$Script" "commands" "I" "KinderTowns") ∈ kt_NW := kt_q0n 33 rfl rfl
theorem tw_34 : (Jvm.Cond.fieldLink "KinderTowns$Script" (22 : Nat) "KinderTowns$Script" "place" "I") ∈ kt_GW := kt_q0g 34 rfl rfl
theorem tw_35 : (Jvm.Cond.fieldLinkNest "KinderTowns" (226 : Nat) "KinderTowns$Script" "place" "I" "KinderTowns") ∈ kt_NW := kt_q0n 35 rfl rfl
theorem tw_36 : (Jvm.Cond.fieldLink "KinderTowns$Script" (25 : Nat) "KinderTowns$Script" "reason" "I") ∈ kt_GW := kt_q0g 36 rfl rfl
theorem tw_37 : (Jvm.Cond.fieldLinkNest "KinderTowns" (223 : Nat) "KinderTowns$Script" "reason" "I" "KinderTowns") ∈ kt_NW := kt_q0n 37 rfl rfl
theorem tw_51 : (Jvm.Cond.arrayClass Jvm.ClassFile.FieldType.int) ∈ kt_GW := kt_q0g 51 rfl rfl
theorem tw_52 : (Jvm.Cond.instantiable "KinderTowns$Country" (11 : Nat)) ∈ kt_GW := kt_q0g 52 rfl rfl
theorem tw_53 : (Jvm.Cond.methodLinkNest "KinderTowns" (22 : Nat) ({ cls := "KinderTowns$Country", name := "<init>", desc := "()V" } : Jvm.MethodName) "KinderTowns") ∈ kt_NW := kt_q0n 53 rfl rfl
theorem tw_54 : (Jvm.Cond.instanceMethod ({ cls := "KinderTowns$Country", name := "<init>", desc := "()V" } : Jvm.MethodName)) ∈ kt_GW := kt_q0g 54 rfl rfl
theorem tw_55 : (Jvm.Cond.code ({ cls := "KinderTowns$Country", name := "<init>", desc := "()V" } : Jvm.MethodName) prog_2_method_1_code (1 : Nat) (Option.none : Option Jvm.ClassFile.FieldType)) ∈ kt_GW := kt_q0g 55 rfl rfl
theorem tw_56 : (Jvm.Cond.methodLink "KinderTowns$Country" (3 : Nat) ({ cls := "java/lang/Object", name := "<init>", desc := "()V" } : Jvm.MethodName)) ∈ kt_GW := kt_q0g 56 rfl rfl
theorem tw_57 : (Jvm.Cond.classLink "KinderTowns$Country" (9 : Nat) "KinderTowns$Looking") ∈ kt_GW := kt_q0g 57 rfl rfl
theorem tw_58 : (Jvm.Cond.instantiable "KinderTowns$Looking" (6 : Nat)) ∈ kt_GW := kt_q0g 58 rfl rfl
theorem tw_59 : (Jvm.Cond.methodLinkNest "KinderTowns$Country" (11 : Nat) ({ cls := "KinderTowns$Looking", name := "<init>", desc := "()V" } : Jvm.MethodName) "KinderTowns") ∈ kt_NW := kt_q0n 59 rfl rfl
theorem tw_60 : (Jvm.Cond.instanceMethod ({ cls := "KinderTowns$Looking", name := "<init>", desc := "()V" } : Jvm.MethodName)) ∈ kt_GW := kt_q0g 60 rfl rfl
theorem tw_61 : (Jvm.Cond.code ({ cls := "KinderTowns$Looking", name := "<init>", desc := "()V" } : Jvm.MethodName) prog_4_method_1_code (1 : Nat) (Option.none : Option Jvm.ClassFile.FieldType)) ∈ kt_GW := kt_q0g 61 rfl rfl
theorem tw_62 : (Jvm.Cond.methodLink "KinderTowns$Looking" (3 : Nat) ({ cls := "java/lang/Object", name := "<init>", desc := "()V" } : Jvm.MethodName)) ∈ kt_GW := kt_q0g 62 rfl rfl
theorem tw_63 : (Jvm.Cond.fieldLink "KinderTowns$Looking" (9 : Nat) "KinderTowns$Looking" "row" "[I") ∈ kt_GW := kt_q0g 63 rfl rfl
theorem tw_64 : (Jvm.Cond.fieldLinkNest "KinderTowns" (164 : Nat) "KinderTowns$Looking" "row" "[I" "KinderTowns") ∈ kt_NW := kt_q0n 64 rfl rfl
theorem tw_65 : (Jvm.Cond.fieldLink "KinderTowns$Looking" (45 : Nat) "KinderTowns$Looking" "length" "I") ∈ kt_GW := kt_q0g 65 rfl rfl
theorem tw_66 : (Jvm.Cond.fieldLinkNest "KinderTowns" (161 : Nat) "KinderTowns$Looking" "length" "I" "KinderTowns") ∈ kt_NW := kt_q0n 66 rfl rfl
theorem tw_67 : (Jvm.Cond.fieldLink "KinderTowns$Looking" (63 : Nat) "KinderTowns$Looking" "left" "I") ∈ kt_GW := kt_q0g 67 rfl rfl
theorem tw_68 : (Jvm.Cond.fieldLink "KinderTowns$Looking" (15 : Nat) "KinderTowns$Looking" "given" "[I") ∈ kt_GW := kt_q0g 68 rfl rfl
theorem tw_69 : (Jvm.Cond.fieldLink "KinderTowns$Looking" (18 : Nat) "KinderTowns$Looking" "accepted" "J") ∈ kt_GW := kt_q0g 69 rfl rfl
theorem tw_70 : (Jvm.Cond.fieldLinkNest "KinderTowns$Country" (127 : Nat) "KinderTowns$Looking" "accepted" "J" "KinderTowns") ∈ kt_NW := kt_q0n 70 rfl rfl
theorem tw_71 : (Jvm.Cond.fieldLinkNest "KinderTowns" (208 : Nat) "KinderTowns$Looking" "accepted" "J" "KinderTowns") ∈ kt_NW := kt_q0n 71 rfl rfl
theorem tw_72 : (Jvm.Cond.fieldLink "KinderTowns$Looking" (22 : Nat) "KinderTowns$Looking" "refused" "J") ∈ kt_GW := kt_q0g 72 rfl rfl
theorem tw_73 : (Jvm.Cond.fieldLinkNest "KinderTowns$Country" (124 : Nat) "KinderTowns$Looking" "refused" "J" "KinderTowns") ∈ kt_NW := kt_q0n 73 rfl rfl
theorem tw_87 : (Jvm.Cond.classLink "KinderTowns$Country" (18 : Nat) "KinderTowns$Events") ∈ kt_GW := kt_q0g 87 rfl rfl
theorem tw_88 : (Jvm.Cond.instantiable "KinderTowns$Events" (8 : Nat)) ∈ kt_GW := kt_q0g 88 rfl rfl
theorem tw_89 : (Jvm.Cond.methodLinkNest "KinderTowns$Country" (20 : Nat) ({ cls := "KinderTowns$Events", name := "<init>", desc := "()V" } : Jvm.MethodName) "KinderTowns") ∈ kt_NW := kt_q0n 89 rfl rfl
theorem tw_90 : (Jvm.Cond.instanceMethod ({ cls := "KinderTowns$Events", name := "<init>", desc := "()V" } : Jvm.MethodName)) ∈ kt_GW := kt_q0g 90 rfl rfl
theorem tw_91 : (Jvm.Cond.code ({ cls := "KinderTowns$Events", name := "<init>", desc := "()V" } : Jvm.MethodName) prog_3_method_1_code (1 : Nat) (Option.none : Option Jvm.ClassFile.FieldType)) ∈ kt_GW := kt_q0g 91 rfl rfl
theorem tw_92 : (Jvm.Cond.methodLink "KinderTowns$Events" (3 : Nat) ({ cls := "java/lang/Object", name := "<init>", desc := "()V" } : Jvm.MethodName)) ∈ kt_GW := kt_q0g 92 rfl rfl
theorem tw_93 : (Jvm.Cond.fieldLink "KinderTowns$Events" (33 : Nat) "KinderTowns$Events" "count" "I") ∈ kt_GW := kt_q0g 93 rfl rfl
theorem tw_94 : (Jvm.Cond.fieldLinkNest "KinderTowns$Looking" (66 : Nat) "KinderTowns$Events" "count" "I" "KinderTowns") ∈ kt_NW := kt_q0n 94 rfl rfl
theorem tw_95 : (Jvm.Cond.fieldLinkNest "KinderTowns$Country" (80 : Nat) "KinderTowns$Events" "count" "I" "KinderTowns") ∈ kt_NW := kt_q0n 95 rfl rfl
theorem tw_96 : (Jvm.Cond.fieldLinkNest "KinderTowns" (67 : Nat) "KinderTowns$Events" "count" "I" "KinderTowns") ∈ kt_NW := kt_q0n 96 rfl rfl
theorem tw_97 : (Jvm.Cond.fieldLink "KinderTowns$Events" (9 : Nat) "KinderTowns$Events" "kinds" "[I") ∈ kt_GW := kt_q0g 97 rfl rfl
theorem tw_98 : (Jvm.Cond.fieldLinkNest "KinderTowns$Looking" (76 : Nat) "KinderTowns$Events" "kinds" "[I" "KinderTowns") ∈ kt_NW := kt_q0n 98 rfl rfl
theorem tw_99 : (Jvm.Cond.fieldLinkNest "KinderTowns" (77 : Nat) "KinderTowns$Events" "kinds" "[I" "KinderTowns") ∈ kt_NW := kt_q0n 99 rfl rfl
theorem tw_100 : (Jvm.Cond.fieldLink "KinderTowns$Events" (15 : Nat) "KinderTowns$Events" "towns" "[I") ∈ kt_GW := kt_q0g 100 rfl rfl
theorem tw_101 : (Jvm.Cond.fieldLinkNest "KinderTowns$Looking" (85 : Nat) "KinderTowns$Events" "towns" "[I" "KinderTowns") ∈ kt_NW := kt_q0n 101 rfl rfl
theorem tw_102 : (Jvm.Cond.fieldLinkNest "KinderTowns" (81 : Nat) "KinderTowns$Events" "towns" "[I" "KinderTowns") ∈ kt_NW := kt_q0n 102 rfl rfl
theorem tw_103 : (Jvm.Cond.fieldLink "KinderTowns$Events" (18 : Nat) "KinderTowns$Events" "clocks" "[I") ∈ kt_GW := kt_q0g 103 rfl rfl
theorem tw_104 : (Jvm.Cond.fieldLinkNest "KinderTowns$Looking" (82 : Nat) "KinderTowns$Events" "clocks" "[I" "KinderTowns") ∈ kt_NW := kt_q0n 104 rfl rfl
theorem tw_105 : (Jvm.Cond.fieldLinkNest "KinderTowns" (84 : Nat) "KinderTowns$Events" "clocks" "[I" "KinderTowns") ∈ kt_NW := kt_q0n 105 rfl rfl
theorem tw_106 : (Jvm.Cond.fieldLink "KinderTowns$Events" (21 : Nat) "KinderTowns$Events" "goods" "[I") ∈ kt_GW := kt_q0g 106 rfl rfl
theorem tw_107 : (Jvm.Cond.fieldLinkNest "KinderTowns$Looking" (73 : Nat) "KinderTowns$Events" "goods" "[I" "KinderTowns") ∈ kt_NW := kt_q0n 107 rfl rfl
theorem tw_108 : (Jvm.Cond.fieldLinkNest "KinderTowns$Country" (94 : Nat) "KinderTowns$Events" "goods" "[I" "KinderTowns") ∈ kt_NW := kt_q0n 108 rfl rfl
theorem tw_109 : (Jvm.Cond.fieldLinkNest "KinderTowns" (87 : Nat) "KinderTowns$Events" "goods" "[I" "KinderTowns") ∈ kt_NW := kt_q0n 109 rfl rfl
theorem tw_110 : (Jvm.Cond.fieldLink "KinderTowns$Events" (24 : Nat) "KinderTowns$Events" "pieces" "[I") ∈ kt_GW := kt_q0g 110 rfl rfl
theorem tw_111 : (Jvm.Cond.fieldLinkNest "KinderTowns$Looking" (53 : Nat) "KinderTowns$Events" "pieces" "[I" "KinderTowns") ∈ kt_NW := kt_q0n 111 rfl rfl
theorem tw_112 : (Jvm.Cond.fieldLinkNest "KinderTowns$Country" (97 : Nat) "KinderTowns$Events" "pieces" "[I" "KinderTowns") ∈ kt_NW := kt_q0n 112 rfl rfl
theorem tw_113 : (Jvm.Cond.fieldLinkNest "KinderTowns" (90 : Nat) "KinderTowns$Events" "pieces" "[I" "KinderTowns") ∈ kt_NW := kt_q0n 113 rfl rfl
theorem tw_114 : (Jvm.Cond.fieldLink "KinderTowns$Events" (27 : Nat) "KinderTowns$Events" "persons" "[I") ∈ kt_GW := kt_q0g 114 rfl rfl
theorem tw_115 : (Jvm.Cond.fieldLinkNest "KinderTowns$Looking" (56 : Nat) "KinderTowns$Events" "persons" "[I" "KinderTowns") ∈ kt_NW := kt_q0n 115 rfl rfl
theorem tw_116 : (Jvm.Cond.fieldLinkNest "KinderTowns$Country" (77 : Nat) "KinderTowns$Events" "persons" "[I" "KinderTowns") ∈ kt_NW := kt_q0n 116 rfl rfl
theorem tw_117 : (Jvm.Cond.fieldLinkNest "KinderTowns" (93 : Nat) "KinderTowns$Events" "persons" "[I" "KinderTowns") ∈ kt_NW := kt_q0n 117 rfl rfl
theorem tw_118 : (Jvm.Cond.fieldLink "KinderTowns$Events" (30 : Nat) "KinderTowns$Events" "orders" "[I") ∈ kt_GW := kt_q0g 118 rfl rfl
theorem tw_119 : (Jvm.Cond.fieldLinkNest "KinderTowns$Country" (100 : Nat) "KinderTowns$Events" "orders" "[I" "KinderTowns") ∈ kt_NW := kt_q0n 119 rfl rfl
theorem tw_120 : (Jvm.Cond.fieldLinkNest "KinderTowns" (96 : Nat) "KinderTowns$Events" "orders" "[I" "KinderTowns") ∈ kt_NW := kt_q0n 120 rfl rfl
theorem tw_138 : (Jvm.Cond.fieldLink "KinderTowns$Country" (12 : Nat) "KinderTowns$Country" "looking" "LKinderTowns$Looking;") ∈ kt_GW := kt_q0g 138 rfl rfl
theorem tw_139 : (Jvm.Cond.fieldLinkNest "KinderTowns" (145 : Nat) "KinderTowns$Country" "looking" "LKinderTowns$Looking;" "KinderTowns") ∈ kt_NW := kt_q0n 139 rfl rfl
theorem tw_140 : (Jvm.Cond.fieldLink "KinderTowns$Country" (21 : Nat) "KinderTowns$Country" "events" "LKinderTowns$Events;") ∈ kt_GW := kt_q0g 140 rfl rfl
theorem tw_141 : (Jvm.Cond.fieldLinkNest "KinderTowns" (63 : Nat) "KinderTowns$Country" "events" "LKinderTowns$Events;" "KinderTowns") ∈ kt_NW := kt_q0n 141 rfl rfl
theorem tw_142 : (Jvm.Cond.fieldLink "KinderTowns$Country" (49 : Nat) "KinderTowns$Country" "towns" "I") ∈ kt_GW := kt_q0g 142 rfl rfl
theorem tw_143 : (Jvm.Cond.fieldLinkNest "KinderTowns" (174 : Nat) "KinderTowns$Country" "towns" "I" "KinderTowns") ∈ kt_NW := kt_q0n 143 rfl rfl
theorem tw_144 : (Jvm.Cond.fieldLink "KinderTowns$Country" (53 : Nat) "KinderTowns$Country" "rule" "I") ∈ kt_GW := kt_q0g 144 rfl rfl
theorem tw_145 : (Jvm.Cond.fieldLinkNest "KinderTowns" (152 : Nat) "KinderTowns$Country" "rule" "I" "KinderTowns") ∈ kt_NW := kt_q0n 145 rfl rfl
theorem tw_146 : (Jvm.Cond.fieldLink "KinderTowns$Country" (25 : Nat) "KinderTowns$Country" "clocks" "[I") ∈ kt_GW := kt_q0g 146 rfl rfl
theorem tw_147 : (Jvm.Cond.fieldLinkNest "KinderTowns" (124 : Nat) "KinderTowns$Country" "clocks" "[I" "KinderTowns") ∈ kt_NW := kt_q0n 147 rfl rfl
theorem tw_148 : (Jvm.Cond.fieldLink "KinderTowns$Country" (29 : Nat) "KinderTowns$Country" "known" "[J") ∈ kt_GW := kt_q0g 148 rfl rfl
theorem tw_149 : (Jvm.Cond.fieldLinkNest "KinderTowns" (99 : Nat) "KinderTowns$Country" "known" "[J" "KinderTowns") ∈ kt_NW := kt_q0n 149 rfl rfl
theorem tw_150 : (Jvm.Cond.fieldLink "KinderTowns$Country" (33 : Nat) "KinderTowns$Country" "accepted" "[J") ∈ kt_GW := kt_q0g 150 rfl rfl
theorem tw_151 : (Jvm.Cond.fieldLinkNest "KinderTowns" (118 : Nat) "KinderTowns$Country" "accepted" "[J" "KinderTowns") ∈ kt_NW := kt_q0n 151 rfl rfl
theorem tw_152 : (Jvm.Cond.fieldLink "KinderTowns$Country" (36 : Nat) "KinderTowns$Country" "refused" "[J") ∈ kt_GW := kt_q0g 152 rfl rfl
theorem tw_153 : (Jvm.Cond.fieldLinkNest "KinderTowns" (121 : Nat) "KinderTowns$Country" "refused" "[J" "KinderTowns") ∈ kt_NW := kt_q0n 153 rfl rfl
theorem tw_154 : (Jvm.Cond.fieldLink "KinderTowns$Country" (39 : Nat) "KinderTowns$Country" "apologised" "[J") ∈ kt_GW := kt_q0g 154 rfl rfl
theorem tw_155 : (Jvm.Cond.fieldLinkNest "KinderTowns" (107 : Nat) "KinderTowns$Country" "apologised" "[J" "KinderTowns") ∈ kt_NW := kt_q0n 155 rfl rfl
theorem tw_156 : (Jvm.Cond.fieldLink "KinderTowns$Country" (42 : Nat) "KinderTowns$Country" "thoughtOf" "[J") ∈ kt_GW := kt_q0g 156 rfl rfl
theorem tw_157 : (Jvm.Cond.fieldLink "KinderTowns$Country" (56 : Nat) "KinderTowns$Country" "thoughtBy" "I") ∈ kt_GW := kt_q0g 157 rfl rfl
theorem tw_181 : (Jvm.Cond.arrayClass Jvm.ClassFile.FieldType.long) ∈ kt_GW := kt_q0g 181 rfl rfl
theorem tw_182 : (Jvm.Cond.fieldLink "KinderTowns" (23 : Nat) "KinderTowns" "now" "LKinderTowns$Country;") ∈ kt_GW := kt_q0g 182 rfl rfl
theorem tw_183 : (Jvm.Cond.fieldLink "KinderTowns" (27 : Nat) "KinderTowns" "spare" "LKinderTowns$Country;") ∈ kt_GW := kt_q0g 183 rfl rfl
theorem tw_184 : (Jvm.Cond.fieldLink "KinderTowns" (11 : Nat) "KinderTowns" "history" "[LKinderTowns$Country;") ∈ kt_GW := kt_q0g 184 rfl rfl
theorem tw_185 : (Jvm.Cond.fieldLink "KinderTowns" (187 : Nat) "KinderTowns" "states" "I") ∈ kt_GW := kt_q0g 185 rfl rfl
theorem tw_186 : (Jvm.Cond.fieldLink "KinderTowns" (18 : Nat) "KinderTowns" "script" "LKinderTowns$Script;") ∈ kt_GW := kt_q0g 186 rfl rfl
theorem tw_198 : (Jvm.Cond.methodLink "KinderTownsLaw" (13 : Nat) ({ cls := "KinderTowns", name := "town", desc := "()I" } : Jvm.MethodName)) ∈ kt_GW := kt_q0g 198 rfl rfl
theorem tw_199 : (Jvm.Cond.instanceMethod ({ cls := "KinderTowns", name := "town", desc := "()I" } : Jvm.MethodName)) ∈ kt_GW := kt_q0g 199 rfl rfl
theorem tw_200 : (Jvm.Cond.selects "KinderTowns" ({ cls := "KinderTowns", name := "town", desc := "()I" } : Jvm.MethodName) ({ cls := "KinderTowns", name := "town", desc := "()I" } : Jvm.MethodName)) ∈ kt_GW := kt_q0g 200 rfl rfl
theorem tw_201 : (Jvm.Cond.code ({ cls := "KinderTowns", name := "town", desc := "()I" } : Jvm.MethodName) prog_1_method_2_code (1 : Nat) (Option.some Jvm.ClassFile.FieldType.int)) ∈ kt_GW := kt_q0g 201 rfl rfl
theorem tw_202 : (Jvm.Cond.methodLinkNest "KinderTowns" (30 : Nat) ({ cls := "KinderTowns$Country", name := "copyFrom", desc := "(LKinderTowns$Country;)V" } : Jvm.MethodName) "KinderTowns") ∈ kt_NW := kt_q0n 202 rfl rfl
theorem tw_204 : (Jvm.Cond.instanceMethod ({ cls := "KinderTowns$Country", name := "copyFrom", desc := "(LKinderTowns$Country;)V" } : Jvm.MethodName)) ∈ kt_GW := kt_q0g 204 rfl rfl
theorem tw_205 : (Jvm.Cond.code ({ cls := "KinderTowns$Country", name := "copyFrom", desc := "(LKinderTowns$Country;)V" } : Jvm.MethodName) prog_2_method_2_code (2 : Nat) (Option.none : Option Jvm.ClassFile.FieldType)) ∈ kt_GW := kt_q0g 205 rfl rfl
theorem tw_206 : (Jvm.Cond.methodLinkNest "KinderTowns$Country" (45 : Nat) ({ cls := "KinderTowns$Events", name := "copyFrom", desc := "(LKinderTowns$Events;)V" } : Jvm.MethodName) "KinderTowns") ∈ kt_NW := kt_q0n 206 rfl rfl
theorem tw_208 : (Jvm.Cond.instanceMethod ({ cls := "KinderTowns$Events", name := "copyFrom", desc := "(LKinderTowns$Events;)V" } : Jvm.MethodName)) ∈ kt_GW := kt_q0g 208 rfl rfl
theorem tw_209 : (Jvm.Cond.code ({ cls := "KinderTowns$Events", name := "copyFrom", desc := "(LKinderTowns$Events;)V" } : Jvm.MethodName) prog_3_method_2_code (2 : Nat) (Option.none : Option Jvm.ClassFile.FieldType)) ∈ kt_GW := kt_q0g 209 rfl rfl
theorem tw_210 : (Jvm.Cond.methodLink "KinderTowns$Events" (37 : Nat) ({ cls := "java/lang/System", name := "arraycopy", desc := "(Ljava/lang/Object;ILjava/lang/Object;II)V" } : Jvm.MethodName)) ∈ kt_GW := kt_q0g 210 rfl rfl
theorem tw_211 : (Jvm.Cond.static ({ cls := "java/lang/System", name := "arraycopy", desc := "(Ljava/lang/Object;ILjava/lang/Object;II)V" } : Jvm.MethodName)) ∈ kt_GW := kt_q0g 211 rfl rfl
theorem tw_212 : (Jvm.Cond.native ({ cls := "java/lang/System", name := "arraycopy", desc := "(Ljava/lang/Object;ILjava/lang/Object;II)V" } : Jvm.MethodName)) ∈ kt_GW := kt_q0g 212 rfl rfl
theorem tw_213 : (Jvm.Cond.methodLink "KinderTowns$Country" (59 : Nat) ({ cls := "java/lang/System", name := "arraycopy", desc := "(Ljava/lang/Object;ILjava/lang/Object;II)V" } : Jvm.MethodName)) ∈ kt_GW := kt_q0g 213 rfl rfl
theorem tw_214 : (Jvm.Cond.methodLinkNest "KinderTowns" (34 : Nat) ({ cls := "KinderTowns$Country", name := "addTown", desc := "()I" } : Jvm.MethodName) "KinderTowns") ∈ kt_NW := kt_q0n 214 rfl rfl
theorem tw_216 : (Jvm.Cond.instanceMethod ({ cls := "KinderTowns$Country", name := "addTown", desc := "()I" } : Jvm.MethodName)) ∈ kt_GW := kt_q0g 216 rfl rfl
theorem tw_217 : (Jvm.Cond.code ({ cls := "KinderTowns$Country", name := "addTown", desc := "()I" } : Jvm.MethodName) prog_2_method_4_code (1 : Nat) (Option.some Jvm.ClassFile.FieldType.int)) ∈ kt_GW := kt_q0g 217 rfl rfl
theorem tw_218 : (Jvm.Cond.methodLinkNest "KinderTowns$Country" (65 : Nat) ({ cls := "KinderTowns", name := "isBelow", desc := "(II)Z" } : Jvm.MethodName) "KinderTowns") ∈ kt_NW := kt_q0n 218 rfl rfl
theorem tw_219 : (Jvm.Cond.static ({ cls := "KinderTowns", name := "isBelow", desc := "(II)Z" } : Jvm.MethodName)) ∈ kt_GW := kt_q0g 219 rfl rfl
theorem tw_220 : (Jvm.Cond.code ({ cls := "KinderTowns", name := "isBelow", desc := "(II)Z" } : Jvm.MethodName) prog_1_method_26_code (2 : Nat) (Option.some Jvm.ClassFile.FieldType.boolean)) ∈ kt_GW := kt_q0g 220 rfl rfl
theorem tw_221 : (Jvm.Cond.methodLink "KinderTowns" (38 : Nat) ({ cls := "KinderTowns", name := "recorded", desc := "(I)I" } : Jvm.MethodName)) ∈ kt_GW := kt_q0g 221 rfl rfl
theorem tw_223 : (Jvm.Cond.instanceMethod ({ cls := "KinderTowns", name := "recorded", desc := "(I)I" } : Jvm.MethodName)) ∈ kt_GW := kt_q0g 223 rfl rfl
theorem tw_224 : (Jvm.Cond.code ({ cls := "KinderTowns", name := "recorded", desc := "(I)I" } : Jvm.MethodName) prog_1_method_28_code (2 : Nat) (Option.some Jvm.ClassFile.FieldType.int)) ∈ kt_GW := kt_q0g 224 rfl rfl
theorem tw_225 : (Jvm.Cond.methodLinkNest "KinderTowns" (191 : Nat) ({ cls := "KinderTowns$Country", name := "thinkAnew", desc := "()V" } : Jvm.MethodName) "KinderTowns") ∈ kt_NW := kt_q0n 225 rfl rfl
theorem tw_227 : (Jvm.Cond.instanceMethod ({ cls := "KinderTowns$Country", name := "thinkAnew", desc := "()V" } : Jvm.MethodName)) ∈ kt_GW := kt_q0g 227 rfl rfl
theorem tw_228 : (Jvm.Cond.code ({ cls := "KinderTowns$Country", name := "thinkAnew", desc := "()V" } : Jvm.MethodName) prog_2_method_12_code (2 : Nat) (Option.none : Option Jvm.ClassFile.FieldType)) ∈ kt_GW := kt_q0g 228 rfl rfl
theorem tw_229 : (Jvm.Cond.methodLinkNest "KinderTowns$Country" (120 : Nat) ({ cls := "KinderTowns$Looking", name := "lookAtAll", desc := "(LKinderTowns$Events;JI)V" } : Jvm.MethodName) "KinderTowns") ∈ kt_NW := kt_q0n 229 rfl rfl
theorem tw_231 : (Jvm.Cond.instanceMethod ({ cls := "KinderTowns$Looking", name := "lookAtAll", desc := "(LKinderTowns$Events;JI)V" } : Jvm.MethodName)) ∈ kt_GW := kt_q0g 231 rfl rfl
theorem tw_232 : (Jvm.Cond.code ({ cls := "KinderTowns$Looking", name := "lookAtAll", desc := "(LKinderTowns$Events;JI)V" } : Jvm.MethodName) prog_4_method_2_code (8 : Nat) (Option.none : Option Jvm.ClassFile.FieldType)) ∈ kt_GW := kt_q0g 232 rfl rfl
theorem tw_233 : (Jvm.Cond.methodLinkNest "KinderTowns$Looking" (25 : Nat) ({ cls := "KinderTowns$Events", name := "standingIn", desc := "(J)J" } : Jvm.MethodName) "KinderTowns") ∈ kt_NW := kt_q0n 233 rfl rfl
theorem tw_235 : (Jvm.Cond.instanceMethod ({ cls := "KinderTowns$Events", name := "standingIn", desc := "(J)J" } : Jvm.MethodName)) ∈ kt_GW := kt_q0g 235 rfl rfl
theorem tw_236 : (Jvm.Cond.code ({ cls := "KinderTowns$Events", name := "standingIn", desc := "(J)J" } : Jvm.MethodName) prog_3_method_8_code (3 : Nat) (Option.some Jvm.ClassFile.FieldType.long)) ∈ kt_GW := kt_q0g 236 rfl rfl
theorem tw_237 : (Jvm.Cond.methodLink "KinderTowns$Events" (51 : Nat) ({ cls := "KinderTowns$Events", name := "cancelledIn", desc := "(J)J" } : Jvm.MethodName)) ∈ kt_GW := kt_q0g 237 rfl rfl
theorem tw_239 : (Jvm.Cond.instanceMethod ({ cls := "KinderTowns$Events", name := "cancelledIn", desc := "(J)J" } : Jvm.MethodName)) ∈ kt_GW := kt_q0g 239 rfl rfl
theorem tw_240 : (Jvm.Cond.code ({ cls := "KinderTowns$Events", name := "cancelledIn", desc := "(J)J" } : Jvm.MethodName) prog_3_method_7_code (6 : Nat) (Option.some Jvm.ClassFile.FieldType.long)) ∈ kt_GW := kt_q1g 0 rfl rfl
theorem tw_241 : (Jvm.Cond.methodLinkNest "KinderTowns$Events" (47 : Nat) ({ cls := "KinderTowns", name := "has", desc := "(JI)Z" } : Jvm.MethodName) "KinderTowns") ∈ kt_NW := kt_q1n 1 rfl rfl
theorem tw_242 : (Jvm.Cond.static ({ cls := "KinderTowns", name := "has", desc := "(JI)Z" } : Jvm.MethodName)) ∈ kt_GW := kt_q1g 2 rfl rfl
theorem tw_243 : (Jvm.Cond.code ({ cls := "KinderTowns", name := "has", desc := "(JI)Z" } : Jvm.MethodName) prog_1_method_27_code (3 : Nat) (Option.some Jvm.ClassFile.FieldType.boolean)) ∈ kt_GW := kt_q1g 3 rfl rfl
theorem tw_244 : (Jvm.Cond.constantLong "KinderTowns$Events" (55 : Nat) (-1 : Int64)) ∈ kt_GW := kt_q1g 4 rfl rfl
theorem tw_245 : (Jvm.Cond.methodLink "KinderTowns$Looking" (31 : Nat) ({ cls := "KinderTowns$Looking", name := "lookAtGood", desc := "(LKinderTowns$Events;JII)V" } : Jvm.MethodName)) ∈ kt_GW := kt_q1g 5 rfl rfl
theorem tw_247 : (Jvm.Cond.instanceMethod ({ cls := "KinderTowns$Looking", name := "lookAtGood", desc := "(LKinderTowns$Events;JII)V" } : Jvm.MethodName)) ∈ kt_GW := kt_q1g 7 rfl rfl
theorem tw_248 : (Jvm.Cond.code ({ cls := "KinderTowns$Looking", name := "lookAtGood", desc := "(LKinderTowns$Events;JII)V" } : Jvm.MethodName) prog_4_method_3_code (9 : Nat) (Option.none : Option Jvm.ClassFile.FieldType)) ∈ kt_GW := kt_q1g 8 rfl rfl
theorem tw_249 : (Jvm.Cond.methodLink "KinderTowns$Looking" (35 : Nat) ({ cls := "KinderTowns$Looking", name := "gather", desc := "(LKinderTowns$Events;JI)V" } : Jvm.MethodName)) ∈ kt_GW := kt_q1g 9 rfl rfl
theorem tw_251 : (Jvm.Cond.instanceMethod ({ cls := "KinderTowns$Looking", name := "gather", desc := "(LKinderTowns$Events;JI)V" } : Jvm.MethodName)) ∈ kt_GW := kt_q1g 11 rfl rfl
theorem tw_252 : (Jvm.Cond.code ({ cls := "KinderTowns$Looking", name := "gather", desc := "(LKinderTowns$Events;JI)V" } : Jvm.MethodName) prog_4_method_4_code (6 : Nat) (Option.none : Option Jvm.ClassFile.FieldType)) ∈ kt_GW := kt_q1g 12 rfl rfl
theorem tw_253 : (Jvm.Cond.methodLinkNest "KinderTowns$Looking" (69 : Nat) ({ cls := "KinderTowns", name := "has", desc := "(JI)Z" } : Jvm.MethodName) "KinderTowns") ∈ kt_NW := kt_q1n 13 rfl rfl
theorem tw_254 : (Jvm.Cond.methodLink "KinderTowns$Looking" (39 : Nat) ({ cls := "java/util/Arrays", name := "fill", desc := "([II)V" } : Jvm.MethodName)) ∈ kt_GW := kt_q1g 14 rfl rfl
theorem tw_255 : (Jvm.Cond.static ({ cls := "java/util/Arrays", name := "fill", desc := "([II)V" } : Jvm.MethodName)) ∈ kt_GW := kt_q1g 15 rfl rfl
theorem tw_256 : (Jvm.Cond.code ({ cls := "java/util/Arrays", name := "fill", desc := "([II)V" } : Jvm.MethodName) prog_11_method_103_code (4 : Nat) (Option.none : Option Jvm.ClassFile.FieldType)) ∈ kt_GW := kt_q1g 16 rfl rfl
theorem tw_257 : (Jvm.Cond.methodLink "KinderTowns$Looking" (49 : Nat) ({ cls := "KinderTowns$Looking", name := "nextPlace", desc := "(LKinderTowns$Events;II)I" } : Jvm.MethodName)) ∈ kt_GW := kt_q1g 17 rfl rfl
theorem tw_259 : (Jvm.Cond.instanceMethod ({ cls := "KinderTowns$Looking", name := "nextPlace", desc := "(LKinderTowns$Events;II)I" } : Jvm.MethodName)) ∈ kt_GW := kt_q1g 19 rfl rfl
theorem tw_260 : (Jvm.Cond.code ({ cls := "KinderTowns$Looking", name := "nextPlace", desc := "(LKinderTowns$Events;II)I" } : Jvm.MethodName) prog_4_method_5_code (8 : Nat) (Option.some Jvm.ClassFile.FieldType.int)) ∈ kt_GW := kt_q1g 20 rfl rfl
theorem tw_261 : (Jvm.Cond.methodLink "KinderTowns$Looking" (79 : Nat) ({ cls := "KinderTowns$Looking", name := "weight", desc := "(LKinderTowns$Events;II)I" } : Jvm.MethodName)) ∈ kt_GW := kt_q1g 21 rfl rfl
theorem tw_263 : (Jvm.Cond.instanceMethod ({ cls := "KinderTowns$Looking", name := "weight", desc := "(LKinderTowns$Events;II)I" } : Jvm.MethodName)) ∈ kt_GW := kt_q1g 23 rfl rfl
theorem tw_264 : (Jvm.Cond.code ({ cls := "KinderTowns$Looking", name := "weight", desc := "(LKinderTowns$Events;II)I" } : Jvm.MethodName) prog_4_method_6_code (6 : Nat) (Option.some Jvm.ClassFile.FieldType.int)) ∈ kt_GW := kt_q1g 24 rfl rfl
theorem tw_265 : (Jvm.Cond.methodLink "KinderTowns$Looking" (59 : Nat) ({ cls := "KinderTowns$Looking", name := "decide", desc := "(III)V" } : Jvm.MethodName)) ∈ kt_GW := kt_q1g 25 rfl rfl
theorem tw_267 : (Jvm.Cond.instanceMethod ({ cls := "KinderTowns$Looking", name := "decide", desc := "(III)V" } : Jvm.MethodName)) ∈ kt_GW := kt_q1g 27 rfl rfl
theorem tw_268 : (Jvm.Cond.code ({ cls := "KinderTowns$Looking", name := "decide", desc := "(III)V" } : Jvm.MethodName) prog_4_method_7_code (4 : Nat) (Option.none : Option Jvm.ClassFile.FieldType)) ∈ kt_GW := kt_q1g 28 rfl rfl
theorem tw_269 : (Jvm.Cond.methodLinkNest "KinderTowns$Looking" (88 : Nat) ({ cls := "KinderTowns", name := "isBelow", desc := "(II)Z" } : Jvm.MethodName) "KinderTowns") ∈ kt_NW := kt_q1n 29 rfl rfl
theorem tw_270 : (Jvm.Cond.methodLink "KinderTowns" (232 : Nat) ({ cls := "KinderTowns", name := "keepSpare", desc := "()V" } : Jvm.MethodName)) ∈ kt_GW := kt_q1g 30 rfl rfl
theorem tw_272 : (Jvm.Cond.instanceMethod ({ cls := "KinderTowns", name := "keepSpare", desc := "()V" } : Jvm.MethodName)) ∈ kt_GW := kt_q1g 32 rfl rfl
theorem tw_273 : (Jvm.Cond.code ({ cls := "KinderTowns", name := "keepSpare", desc := "()V" } : Jvm.MethodName) prog_1_method_29_code (3 : Nat) (Option.none : Option Jvm.ClassFile.FieldType)) ∈ kt_GW := kt_q1g 33 rfl rfl
theorem tw_274 : (Jvm.Cond.methodLink "KinderTowns" (73 : Nat) ({ cls := "KinderTowns", name := "isBelow", desc := "(II)Z" } : Jvm.MethodName)) ∈ kt_GW := kt_q1g 34 rfl rfl
theorem tw_275 : (Jvm.Cond.methodLink "KinderTownsLaw" (18 : Nat) ({ cls := "KinderTowns", name := "deliver", desc := "(III)I" } : Jvm.MethodName)) ∈ kt_GW := kt_q1g 35 rfl rfl
theorem tw_276 : (Jvm.Cond.instanceMethod ({ cls := "KinderTowns", name := "deliver", desc := "(III)I" } : Jvm.MethodName)) ∈ kt_GW := kt_q1g 36 rfl rfl
theorem tw_277 : (Jvm.Cond.selects "KinderTowns" ({ cls := "KinderTowns", name := "deliver", desc := "(III)I" } : Jvm.MethodName) ({ cls := "KinderTowns", name := "deliver", desc := "(III)I" } : Jvm.MethodName)) ∈ kt_GW := kt_q1g 37 rfl rfl
theorem tw_278 : (Jvm.Cond.code ({ cls := "KinderTowns", name := "deliver", desc := "(III)I" } : Jvm.MethodName) prog_1_method_3_code (4 : Nat) (Option.some Jvm.ClassFile.FieldType.int)) ∈ kt_GW := kt_q1g 38 rfl rfl
theorem tw_279 : (Jvm.Cond.methodLinkNest "KinderTowns" (42 : Nat) ({ cls := "KinderTowns$Country", name := "makeDelivery", desc := "(III)I" } : Jvm.MethodName) "KinderTowns") ∈ kt_NW := kt_q1n 39 rfl rfl
theorem tw_281 : (Jvm.Cond.instanceMethod ({ cls := "KinderTowns$Country", name := "makeDelivery", desc := "(III)I" } : Jvm.MethodName)) ∈ kt_GW := kt_q1g 41 rfl rfl
theorem tw_282 : (Jvm.Cond.code ({ cls := "KinderTowns$Country", name := "makeDelivery", desc := "(III)I" } : Jvm.MethodName) prog_2_method_5_code (4 : Nat) (Option.some Jvm.ClassFile.FieldType.int)) ∈ kt_GW := kt_q1g 42 rfl rfl
theorem tw_283 : (Jvm.Cond.methodLink "KinderTowns$Country" (69 : Nat) ({ cls := "KinderTowns$Country", name := "isTown", desc := "(I)Z" } : Jvm.MethodName)) ∈ kt_GW := kt_q1g 43 rfl rfl
theorem tw_285 : (Jvm.Cond.instanceMethod ({ cls := "KinderTowns$Country", name := "isTown", desc := "(I)Z" } : Jvm.MethodName)) ∈ kt_GW := kt_q1g 45 rfl rfl
theorem tw_286 : (Jvm.Cond.code ({ cls := "KinderTowns$Country", name := "isTown", desc := "(I)Z" } : Jvm.MethodName) prog_2_method_3_code (2 : Nat) (Option.some Jvm.ClassFile.FieldType.boolean)) ∈ kt_GW := kt_q1g 46 rfl rfl
theorem tw_287 : (Jvm.Cond.methodLink "KinderTowns$Country" (73 : Nat) ({ cls := "KinderTowns$Country", name := "make", desc := "(IIII)I" } : Jvm.MethodName)) ∈ kt_GW := kt_q1g 47 rfl rfl
theorem tw_289 : (Jvm.Cond.instanceMethod ({ cls := "KinderTowns$Country", name := "make", desc := "(IIII)I" } : Jvm.MethodName)) ∈ kt_GW := kt_q1g 49 rfl rfl
theorem tw_290 : (Jvm.Cond.code ({ cls := "KinderTowns$Country", name := "make", desc := "(IIII)I" } : Jvm.MethodName) prog_2_method_8_code (6 : Nat) (Option.some Jvm.ClassFile.FieldType.int)) ∈ kt_GW := kt_q1g 50 rfl rfl
theorem tw_291 : (Jvm.Cond.methodLinkNest "KinderTowns$Country" (103 : Nat) ({ cls := "KinderTowns$Events", name := "add", desc := "(IIIII)I" } : Jvm.MethodName) "KinderTowns") ∈ kt_NW := kt_q1n 51 rfl rfl
theorem tw_293 : (Jvm.Cond.instanceMethod ({ cls := "KinderTowns$Events", name := "add", desc := "(IIIII)I" } : Jvm.MethodName)) ∈ kt_GW := kt_q1g 53 rfl rfl
theorem tw_294 : (Jvm.Cond.code ({ cls := "KinderTowns$Events", name := "add", desc := "(IIIII)I" } : Jvm.MethodName) prog_3_method_4_code (6 : Nat) (Option.some Jvm.ClassFile.FieldType.int)) ∈ kt_GW := kt_q1g 54 rfl rfl
theorem tw_295 : (Jvm.Cond.methodLinkNest "KinderTowns$Events" (43 : Nat) ({ cls := "KinderTowns", name := "isBelow", desc := "(II)Z" } : Jvm.MethodName) "KinderTowns") ∈ kt_NW := kt_q1n 55 rfl rfl
theorem tw_296 : (Jvm.Cond.methodLink "KinderTownsLaw" (23 : Nat) ({ cls := "KinderTowns", name := "order", desc := "(IIII)I" } : Jvm.MethodName)) ∈ kt_GW := kt_q1g 56 rfl rfl
theorem tw_297 : (Jvm.Cond.instanceMethod ({ cls := "KinderTowns", name := "order", desc := "(IIII)I" } : Jvm.MethodName)) ∈ kt_GW := kt_q1g 57 rfl rfl
theorem tw_298 : (Jvm.Cond.selects "KinderTowns" ({ cls := "KinderTowns", name := "order", desc := "(IIII)I" } : Jvm.MethodName) ({ cls := "KinderTowns", name := "order", desc := "(IIII)I" } : Jvm.MethodName)) ∈ kt_GW := kt_q1g 58 rfl rfl
theorem tw_299 : (Jvm.Cond.code ({ cls := "KinderTowns", name := "order", desc := "(IIII)I" } : Jvm.MethodName) prog_1_method_4_code (5 : Nat) (Option.some Jvm.ClassFile.FieldType.int)) ∈ kt_GW := kt_q1g 59 rfl rfl
theorem tw_300 : (Jvm.Cond.methodLinkNest "KinderTowns" (46 : Nat) ({ cls := "KinderTowns$Country", name := "makeOrder", desc := "(IIII)I" } : Jvm.MethodName) "KinderTowns") ∈ kt_NW := kt_q1n 60 rfl rfl
theorem tw_302 : (Jvm.Cond.instanceMethod ({ cls := "KinderTowns$Country", name := "makeOrder", desc := "(IIII)I" } : Jvm.MethodName)) ∈ kt_GW := kt_q1g 62 rfl rfl
theorem tw_303 : (Jvm.Cond.code ({ cls := "KinderTowns$Country", name := "makeOrder", desc := "(IIII)I" } : Jvm.MethodName) prog_2_method_6_code (6 : Nat) (Option.some Jvm.ClassFile.FieldType.int)) ∈ kt_GW := kt_q1g 63 rfl rfl
theorem tw_304 : (Jvm.Cond.methodLink "KinderTownsLaw" (28 : Nat) ({ cls := "KinderTowns", name := "cancel", desc := "(II)I" } : Jvm.MethodName)) ∈ kt_GW := kt_q1g 64 rfl rfl
theorem tw_305 : (Jvm.Cond.instanceMethod ({ cls := "KinderTowns", name := "cancel", desc := "(II)I" } : Jvm.MethodName)) ∈ kt_GW := kt_q1g 65 rfl rfl
theorem tw_306 : (Jvm.Cond.selects "KinderTowns" ({ cls := "KinderTowns", name := "cancel", desc := "(II)I" } : Jvm.MethodName) ({ cls := "KinderTowns", name := "cancel", desc := "(II)I" } : Jvm.MethodName)) ∈ kt_GW := kt_q1g 66 rfl rfl
theorem tw_307 : (Jvm.Cond.code ({ cls := "KinderTowns", name := "cancel", desc := "(II)I" } : Jvm.MethodName) prog_1_method_5_code (3 : Nat) (Option.some Jvm.ClassFile.FieldType.int)) ∈ kt_GW := kt_q1g 67 rfl rfl
theorem tw_308 : (Jvm.Cond.methodLinkNest "KinderTowns" (50 : Nat) ({ cls := "KinderTowns$Country", name := "makeCancellation", desc := "(II)I" } : Jvm.MethodName) "KinderTowns") ∈ kt_NW := kt_q1n 68 rfl rfl
theorem tw_310 : (Jvm.Cond.instanceMethod ({ cls := "KinderTowns$Country", name := "makeCancellation", desc := "(II)I" } : Jvm.MethodName)) ∈ kt_GW := kt_q1g 70 rfl rfl
theorem tw_311 : (Jvm.Cond.code ({ cls := "KinderTowns$Country", name := "makeCancellation", desc := "(II)I" } : Jvm.MethodName) prog_2_method_7_code (4 : Nat) (Option.some Jvm.ClassFile.FieldType.int)) ∈ kt_GW := kt_q1g 71 rfl rfl
theorem tw_312 : (Jvm.Cond.methodLinkNest "KinderTowns$Country" (83 : Nat) ({ cls := "KinderTowns$Events", name := "isOrder", desc := "(I)Z" } : Jvm.MethodName) "KinderTowns") ∈ kt_NW := kt_q1n 72 rfl rfl
theorem tw_314 : (Jvm.Cond.instanceMethod ({ cls := "KinderTowns$Events", name := "isOrder", desc := "(I)Z" } : Jvm.MethodName)) ∈ kt_GW := kt_q1g 74 rfl rfl
theorem tw_315 : (Jvm.Cond.code ({ cls := "KinderTowns$Events", name := "isOrder", desc := "(I)Z" } : Jvm.MethodName) prog_3_method_3_code (2 : Nat) (Option.some Jvm.ClassFile.FieldType.boolean)) ∈ kt_GW := kt_q1g 75 rfl rfl
theorem tw_316 : (Jvm.Cond.methodLinkNest "KinderTowns$Country" (86 : Nat) ({ cls := "KinderTowns$Events", name := "standingIn", desc := "(J)J" } : Jvm.MethodName) "KinderTowns") ∈ kt_NW := kt_q1n 76 rfl rfl
theorem tw_317 : (Jvm.Cond.methodLinkNest "KinderTowns$Country" (90 : Nat) ({ cls := "KinderTowns", name := "has", desc := "(JI)Z" } : Jvm.MethodName) "KinderTowns") ∈ kt_NW := kt_q1n 77 rfl rfl
theorem tw_318 : (Jvm.Cond.methodLink "KinderTownsLaw" (33 : Nat) ({ cls := "KinderTowns", name := "meet", desc := "(II)I" } : Jvm.MethodName)) ∈ kt_GW := kt_q1g 78 rfl rfl
theorem tw_319 : (Jvm.Cond.instanceMethod ({ cls := "KinderTowns", name := "meet", desc := "(II)I" } : Jvm.MethodName)) ∈ kt_GW := kt_q1g 79 rfl rfl
theorem tw_320 : (Jvm.Cond.selects "KinderTowns" ({ cls := "KinderTowns", name := "meet", desc := "(II)I" } : Jvm.MethodName) ({ cls := "KinderTowns", name := "meet", desc := "(II)I" } : Jvm.MethodName)) ∈ kt_GW := kt_q1g 80 rfl rfl
theorem tw_321 : (Jvm.Cond.code ({ cls := "KinderTowns", name := "meet", desc := "(II)I" } : Jvm.MethodName) prog_1_method_6_code (3 : Nat) (Option.some Jvm.ClassFile.FieldType.int)) ∈ kt_GW := kt_q1g 81 rfl rfl
theorem tw_322 : (Jvm.Cond.methodLinkNest "KinderTowns" (54 : Nat) ({ cls := "KinderTowns$Country", name := "letMeet", desc := "(II)I" } : Jvm.MethodName) "KinderTowns") ∈ kt_NW := kt_q1n 82 rfl rfl
theorem tw_324 : (Jvm.Cond.instanceMethod ({ cls := "KinderTowns$Country", name := "letMeet", desc := "(II)I" } : Jvm.MethodName)) ∈ kt_GW := kt_q1g 84 rfl rfl
theorem tw_325 : (Jvm.Cond.code ({ cls := "KinderTowns$Country", name := "letMeet", desc := "(II)I" } : Jvm.MethodName) prog_2_method_9_code (4 : Nat) (Option.some Jvm.ClassFile.FieldType.int)) ∈ kt_GW := kt_q1g 85 rfl rfl
theorem tw_326 : (Jvm.Cond.methodLink "KinderTowns$Country" (107 : Nat) ({ cls := "KinderTowns$Country", name := "letHear", desc := "(II)I" } : Jvm.MethodName)) ∈ kt_GW := kt_q1g 86 rfl rfl
theorem tw_328 : (Jvm.Cond.instanceMethod ({ cls := "KinderTowns$Country", name := "letHear", desc := "(II)I" } : Jvm.MethodName)) ∈ kt_GW := kt_q1g 88 rfl rfl
theorem tw_329 : (Jvm.Cond.code ({ cls := "KinderTowns$Country", name := "letHear", desc := "(II)I" } : Jvm.MethodName) prog_2_method_10_code (4 : Nat) (Option.some Jvm.ClassFile.FieldType.int)) ∈ kt_GW := kt_q1g 89 rfl rfl
theorem tw_330 : (Jvm.Cond.methodLink "KinderTowns$Country" (111 : Nat) ({ cls := "KinderTowns$Country", name := "newsFor", desc := "(IJ)I" } : Jvm.MethodName)) ∈ kt_GW := kt_q1g 90 rfl rfl
theorem tw_332 : (Jvm.Cond.instanceMethod ({ cls := "KinderTowns$Country", name := "newsFor", desc := "(IJ)I" } : Jvm.MethodName)) ∈ kt_GW := kt_q1g 92 rfl rfl
theorem tw_333 : (Jvm.Cond.code ({ cls := "KinderTowns$Country", name := "newsFor", desc := "(IJ)I" } : Jvm.MethodName) prog_2_method_13_code (4 : Nat) (Option.some Jvm.ClassFile.FieldType.int)) ∈ kt_GW := kt_q1g 93 rfl rfl
theorem tw_334 : (Jvm.Cond.constantLong "KinderTowns$Country" (129 : Nat) (-1 : Int64)) ∈ kt_GW := kt_q1g 94 rfl rfl
theorem tw_335 : (Jvm.Cond.methodLink "KinderTowns$Country" (131 : Nat) ({ cls := "java/lang/Long", name := "bitCount", desc := "(J)I" } : Jvm.MethodName)) ∈ kt_GW := kt_q1g 95 rfl rfl
theorem tw_336 : (Jvm.Cond.static ({ cls := "java/lang/Long", name := "bitCount", desc := "(J)I" } : Jvm.MethodName)) ∈ kt_GW := kt_q1g 96 rfl rfl
theorem tw_337 : (Jvm.Cond.code ({ cls := "java/lang/Long", name := "bitCount", desc := "(J)I" } : Jvm.MethodName) prog_8_method_50_code (2 : Nat) (Option.some Jvm.ClassFile.FieldType.int)) ∈ kt_GW := kt_q1g 97 rfl rfl
theorem tw_338 : (Jvm.Cond.constantLong "java/lang/Long" (314 : Nat) (6148914691236517205 : Int64)) ∈ kt_GW := kt_q1g 98 rfl rfl
theorem tw_339 : (Jvm.Cond.constantLong "java/lang/Long" (316 : Nat) (3689348814741910323 : Int64)) ∈ kt_GW := kt_q1g 99 rfl rfl
theorem tw_340 : (Jvm.Cond.constantLong "java/lang/Long" (318 : Nat) (1085102592571150095 : Int64)) ∈ kt_GW := kt_q1g 100 rfl rfl
theorem tw_341 : (Jvm.Cond.methodLink "KinderTowns$Country" (115 : Nat) ({ cls := "java/lang/Math", name := "max", desc := "(II)I" } : Jvm.MethodName)) ∈ kt_GW := kt_q1g 101 rfl rfl
theorem tw_342 : (Jvm.Cond.static ({ cls := "java/lang/Math", name := "max", desc := "(II)I" } : Jvm.MethodName)) ∈ kt_GW := kt_q1g 102 rfl rfl
theorem tw_343 : (Jvm.Cond.code ({ cls := "java/lang/Math", name := "max", desc := "(II)I" } : Jvm.MethodName) prog_9_method_65_code (2 : Nat) (Option.some Jvm.ClassFile.FieldType.int)) ∈ kt_GW := kt_q1g 103 rfl rfl
theorem tw_344 : (Jvm.Cond.methodLink "KinderTownsLaw" (37 : Nat) ({ cls := "KinderTowns", name := "hear", desc := "(II)I" } : Jvm.MethodName)) ∈ kt_GW := kt_q1g 104 rfl rfl
theorem tw_345 : (Jvm.Cond.instanceMethod ({ cls := "KinderTowns", name := "hear", desc := "(II)I" } : Jvm.MethodName)) ∈ kt_GW := kt_q1g 105 rfl rfl
theorem tw_346 : (Jvm.Cond.selects "KinderTowns" ({ cls := "KinderTowns", name := "hear", desc := "(II)I" } : Jvm.MethodName) ({ cls := "KinderTowns", name := "hear", desc := "(II)I" } : Jvm.MethodName)) ∈ kt_GW := kt_q1g 106 rfl rfl
theorem tw_347 : (Jvm.Cond.code ({ cls := "KinderTowns", name := "hear", desc := "(II)I" } : Jvm.MethodName) prog_1_method_7_code (3 : Nat) (Option.some Jvm.ClassFile.FieldType.int)) ∈ kt_GW := kt_q1g 107 rfl rfl
theorem tw_348 : (Jvm.Cond.methodLinkNest "KinderTowns" (57 : Nat) ({ cls := "KinderTowns$Country", name := "letHear", desc := "(II)I" } : Jvm.MethodName) "KinderTowns") ∈ kt_NW := kt_q1n 108 rfl rfl
theorem tw_349 : (Jvm.Cond.methodLink "KinderTownsLaw" (41 : Nat) ({ cls := "KinderTowns", name := "rule", desc := "(I)I" } : Jvm.MethodName)) ∈ kt_GW := kt_q1g 109 rfl rfl
theorem tw_350 : (Jvm.Cond.instanceMethod ({ cls := "KinderTowns", name := "rule", desc := "(I)I" } : Jvm.MethodName)) ∈ kt_GW := kt_q1g 110 rfl rfl
theorem tw_351 : (Jvm.Cond.selects "KinderTowns" ({ cls := "KinderTowns", name := "rule", desc := "(I)I" } : Jvm.MethodName) ({ cls := "KinderTowns", name := "rule", desc := "(I)I" } : Jvm.MethodName)) ∈ kt_GW := kt_q1g 111 rfl rfl
theorem tw_352 : (Jvm.Cond.code ({ cls := "KinderTowns", name := "rule", desc := "(I)I" } : Jvm.MethodName) prog_1_method_8_code (2 : Nat) (Option.some Jvm.ClassFile.FieldType.int)) ∈ kt_GW := kt_q1g 112 rfl rfl
theorem tw_353 : (Jvm.Cond.methodLinkNest "KinderTowns" (60 : Nat) ({ cls := "KinderTowns$Country", name := "setRule", desc := "(I)I" } : Jvm.MethodName) "KinderTowns") ∈ kt_NW := kt_q1n 113 rfl rfl
theorem tw_355 : (Jvm.Cond.instanceMethod ({ cls := "KinderTowns$Country", name := "setRule", desc := "(I)I" } : Jvm.MethodName)) ∈ kt_GW := kt_q1g 115 rfl rfl
theorem tw_356 : (Jvm.Cond.code ({ cls := "KinderTowns$Country", name := "setRule", desc := "(I)I" } : Jvm.MethodName) prog_2_method_11_code (3 : Nat) (Option.some Jvm.ClassFile.FieldType.int)) ∈ kt_GW := kt_q1g 116 rfl rfl
theorem tw_357 : (Jvm.Cond.methodLink "KinderTownsLaw" (46 : Nat) ({ cls := "KinderTowns", name := "eventOf", desc := "(II)I" } : Jvm.MethodName)) ∈ kt_GW := kt_q1g 117 rfl rfl
theorem tw_358 : (Jvm.Cond.instanceMethod ({ cls := "KinderTowns", name := "eventOf", desc := "(II)I" } : Jvm.MethodName)) ∈ kt_GW := kt_q1g 118 rfl rfl
theorem tw_359 : (Jvm.Cond.selects "KinderTowns" ({ cls := "KinderTowns", name := "eventOf", desc := "(II)I" } : Jvm.MethodName) ({ cls := "KinderTowns", name := "eventOf", desc := "(II)I" } : Jvm.MethodName)) ∈ kt_GW := kt_q1g 119 rfl rfl
theorem tw_360 : (Jvm.Cond.code ({ cls := "KinderTowns", name := "eventOf", desc := "(II)I" } : Jvm.MethodName) prog_1_method_9_code (4 : Nat) (Option.some Jvm.ClassFile.FieldType.int)) ∈ kt_GW := kt_q1g 120 rfl rfl
theorem tw_361 : (Jvm.Cond.methodLinkNest "KinderTowns" (103 : Nat) ({ cls := "KinderTowns$Country", name := "townsWith", desc := "([JI)I" } : Jvm.MethodName) "KinderTowns") ∈ kt_NW := kt_q1n 121 rfl rfl
theorem tw_363 : (Jvm.Cond.instanceMethod ({ cls := "KinderTowns$Country", name := "townsWith", desc := "([JI)I" } : Jvm.MethodName)) ∈ kt_GW := kt_q1g 123 rfl rfl
theorem tw_364 : (Jvm.Cond.code ({ cls := "KinderTowns$Country", name := "townsWith", desc := "([JI)I" } : Jvm.MethodName) prog_2_method_14_code (5 : Nat) (Option.some Jvm.ClassFile.FieldType.int)) ∈ kt_GW := kt_q1g 124 rfl rfl
theorem tw_365 : (Jvm.Cond.methodLink "KinderTownsLaw" (50 : Nat) ({ cls := "KinderTowns", name := "thinks", desc := "(II)I" } : Jvm.MethodName)) ∈ kt_GW := kt_q1g 125 rfl rfl
theorem tw_366 : (Jvm.Cond.instanceMethod ({ cls := "KinderTowns", name := "thinks", desc := "(II)I" } : Jvm.MethodName)) ∈ kt_GW := kt_q1g 126 rfl rfl
theorem tw_367 : (Jvm.Cond.selects "KinderTowns" ({ cls := "KinderTowns", name := "thinks", desc := "(II)I" } : Jvm.MethodName) ({ cls := "KinderTowns", name := "thinks", desc := "(II)I" } : Jvm.MethodName)) ∈ kt_GW := kt_q1g 127 rfl rfl
theorem tw_368 : (Jvm.Cond.code ({ cls := "KinderTowns", name := "thinks", desc := "(II)I" } : Jvm.MethodName) prog_1_method_10_code (3 : Nat) (Option.some Jvm.ClassFile.FieldType.int)) ∈ kt_GW := kt_q1g 128 rfl rfl
theorem tw_369 : (Jvm.Cond.methodLinkNest "KinderTowns" (110 : Nat) ({ cls := "KinderTowns$Country", name := "isTown", desc := "(I)Z" } : Jvm.MethodName) "KinderTowns") ∈ kt_NW := kt_q1n 129 rfl rfl
theorem tw_370 : (Jvm.Cond.methodLink "KinderTowns" (114 : Nat) ({ cls := "KinderTowns", name := "has", desc := "(JI)Z" } : Jvm.MethodName)) ∈ kt_GW := kt_q1g 130 rfl rfl
theorem tw_371 : (Jvm.Cond.methodLink "KinderTownsLaw" (54 : Nat) ({ cls := "KinderTowns", name := "townOf", desc := "(II)I" } : Jvm.MethodName)) ∈ kt_GW := kt_q1g 131 rfl rfl
theorem tw_372 : (Jvm.Cond.instanceMethod ({ cls := "KinderTowns", name := "townOf", desc := "(II)I" } : Jvm.MethodName)) ∈ kt_GW := kt_q1g 132 rfl rfl
theorem tw_373 : (Jvm.Cond.selects "KinderTowns" ({ cls := "KinderTowns", name := "townOf", desc := "(II)I" } : Jvm.MethodName) ({ cls := "KinderTowns", name := "townOf", desc := "(II)I" } : Jvm.MethodName)) ∈ kt_GW := kt_q1g 133 rfl rfl
theorem tw_374 : (Jvm.Cond.code ({ cls := "KinderTowns", name := "townOf", desc := "(II)I" } : Jvm.MethodName) prog_1_method_11_code (3 : Nat) (Option.some Jvm.ClassFile.FieldType.int)) ∈ kt_GW := kt_q1g 134 rfl rfl
theorem tw_375 : (Jvm.Cond.methodLink "KinderTowns" (125 : Nat) ({ cls := "java/lang/Long", name := "bitCount", desc := "(J)I" } : Jvm.MethodName)) ∈ kt_GW := kt_q1g 135 rfl rfl
theorem tw_376 : (Jvm.Cond.methodLinkNest "KinderTowns" (131 : Nat) ({ cls := "KinderTowns$Events", name := "cancelledIn", desc := "(J)J" } : Jvm.MethodName) "KinderTowns") ∈ kt_NW := kt_q1n 136 rfl rfl
theorem tw_377 : (Jvm.Cond.methodLinkNest "KinderTowns" (135 : Nat) ({ cls := "KinderTowns$Events", name := "having", desc := "([II)J" } : Jvm.MethodName) "KinderTowns") ∈ kt_NW := kt_q1n 137 rfl rfl
theorem tw_379 : (Jvm.Cond.instanceMethod ({ cls := "KinderTowns$Events", name := "having", desc := "([II)J" } : Jvm.MethodName)) ∈ kt_GW := kt_q1g 139 rfl rfl
theorem tw_380 : (Jvm.Cond.code ({ cls := "KinderTowns$Events", name := "having", desc := "([II)J" } : Jvm.MethodName) prog_3_method_6_code (6 : Nat) (Option.some Jvm.ClassFile.FieldType.long)) ∈ kt_GW := kt_q1g 140 rfl rfl
theorem tw_381 : (Jvm.Cond.methodLinkNest "KinderTowns" (139 : Nat) ({ cls := "KinderTowns$Country", name := "townsThatKnow", desc := "(J)I" } : Jvm.MethodName) "KinderTowns") ∈ kt_NW := kt_q1n 141 rfl rfl
theorem tw_383 : (Jvm.Cond.instanceMethod ({ cls := "KinderTowns$Country", name := "townsThatKnow", desc := "(J)I" } : Jvm.MethodName)) ∈ kt_GW := kt_q1g 143 rfl rfl
theorem tw_384 : (Jvm.Cond.code ({ cls := "KinderTowns$Country", name := "townsThatKnow", desc := "(J)I" } : Jvm.MethodName) prog_2_method_15_code (5 : Nat) (Option.some Jvm.ClassFile.FieldType.int)) ∈ kt_GW := kt_q1g 144 rfl rfl
theorem tw_385 : (Jvm.Cond.methodLink "KinderTownsLaw" (58 : Nat) ({ cls := "KinderTowns", name := "goodOf", desc := "(III)I" } : Jvm.MethodName)) ∈ kt_GW := kt_q1g 145 rfl rfl
theorem tw_386 : (Jvm.Cond.instanceMethod ({ cls := "KinderTowns", name := "goodOf", desc := "(III)I" } : Jvm.MethodName)) ∈ kt_GW := kt_q1g 146 rfl rfl
theorem tw_387 : (Jvm.Cond.selects "KinderTowns" ({ cls := "KinderTowns", name := "goodOf", desc := "(III)I" } : Jvm.MethodName) ({ cls := "KinderTowns", name := "goodOf", desc := "(III)I" } : Jvm.MethodName)) ∈ kt_GW := kt_q1g 147 rfl rfl
theorem tw_388 : (Jvm.Cond.code ({ cls := "KinderTowns", name := "goodOf", desc := "(III)I" } : Jvm.MethodName) prog_1_method_12_code (9 : Nat) (Option.some Jvm.ClassFile.FieldType.int)) ∈ kt_GW := kt_q1g 148 rfl rfl
theorem tw_389 : (Jvm.Cond.methodLinkNest "KinderTowns" (142 : Nat) ({ cls := "KinderTowns$Events", name := "piecesOf", desc := "(J)I" } : Jvm.MethodName) "KinderTowns") ∈ kt_NW := kt_q1n 149 rfl rfl
theorem tw_391 : (Jvm.Cond.instanceMethod ({ cls := "KinderTowns$Events", name := "piecesOf", desc := "(J)I" } : Jvm.MethodName)) ∈ kt_GW := kt_q1g 151 rfl rfl
theorem tw_392 : (Jvm.Cond.code ({ cls := "KinderTowns$Events", name := "piecesOf", desc := "(J)I" } : Jvm.MethodName) prog_3_method_9_code (5 : Nat) (Option.some Jvm.ClassFile.FieldType.int)) ∈ kt_GW := kt_q1g 152 rfl rfl
theorem tw_393 : (Jvm.Cond.methodLink "KinderTownsLaw" (62 : Nat) ({ cls := "KinderTowns", name := "lookedAt", desc := "(III)I" } : Jvm.MethodName)) ∈ kt_GW := kt_q1g 153 rfl rfl
theorem tw_394 : (Jvm.Cond.instanceMethod ({ cls := "KinderTowns", name := "lookedAt", desc := "(III)I" } : Jvm.MethodName)) ∈ kt_GW := kt_q1g 154 rfl rfl
theorem tw_395 : (Jvm.Cond.selects "KinderTowns" ({ cls := "KinderTowns", name := "lookedAt", desc := "(III)I" } : Jvm.MethodName) ({ cls := "KinderTowns", name := "lookedAt", desc := "(III)I" } : Jvm.MethodName)) ∈ kt_GW := kt_q1g 155 rfl rfl
theorem tw_396 : (Jvm.Cond.code ({ cls := "KinderTowns", name := "lookedAt", desc := "(III)I" } : Jvm.MethodName) prog_1_method_13_code (5 : Nat) (Option.some Jvm.ClassFile.FieldType.int)) ∈ kt_GW := kt_q1g 156 rfl rfl
theorem tw_397 : (Jvm.Cond.methodLinkNest "KinderTowns" (149 : Nat) ({ cls := "KinderTowns$Events", name := "standingIn", desc := "(J)J" } : Jvm.MethodName) "KinderTowns") ∈ kt_NW := kt_q1n 157 rfl rfl
theorem tw_398 : (Jvm.Cond.methodLinkNest "KinderTowns" (155 : Nat) ({ cls := "KinderTowns$Looking", name := "lookAtGood", desc := "(LKinderTowns$Events;JII)V" } : Jvm.MethodName) "KinderTowns") ∈ kt_NW := kt_q1n 158 rfl rfl
theorem tw_399 : (Jvm.Cond.methodLink "KinderTownsLaw" (66 : Nat) ({ cls := "KinderTowns", name := "personOf", desc := "(III)I" } : Jvm.MethodName)) ∈ kt_GW := kt_q1g 159 rfl rfl
theorem tw_400 : (Jvm.Cond.instanceMethod ({ cls := "KinderTowns", name := "personOf", desc := "(III)I" } : Jvm.MethodName)) ∈ kt_GW := kt_q1g 160 rfl rfl
theorem tw_401 : (Jvm.Cond.selects "KinderTowns" ({ cls := "KinderTowns", name := "personOf", desc := "(III)I" } : Jvm.MethodName) ({ cls := "KinderTowns", name := "personOf", desc := "(III)I" } : Jvm.MethodName)) ∈ kt_GW := kt_q1g 161 rfl rfl
theorem tw_402 : (Jvm.Cond.code ({ cls := "KinderTowns", name := "personOf", desc := "(III)I" } : Jvm.MethodName) prog_1_method_14_code (7 : Nat) (Option.some Jvm.ClassFile.FieldType.int)) ∈ kt_GW := kt_q1g 162 rfl rfl
theorem tw_403 : (Jvm.Cond.methodLinkNest "KinderTowns" (167 : Nat) ({ cls := "KinderTowns$Country", name := "apologiesFor", desc := "(J)I" } : Jvm.MethodName) "KinderTowns") ∈ kt_NW := kt_q1n 163 rfl rfl
theorem tw_405 : (Jvm.Cond.instanceMethod ({ cls := "KinderTowns$Country", name := "apologiesFor", desc := "(J)I" } : Jvm.MethodName)) ∈ kt_GW := kt_q1g 165 rfl rfl
theorem tw_406 : (Jvm.Cond.code ({ cls := "KinderTowns$Country", name := "apologiesFor", desc := "(J)I" } : Jvm.MethodName) prog_2_method_16_code (5 : Nat) (Option.some Jvm.ClassFile.FieldType.int)) ∈ kt_GW := kt_q1g 166 rfl rfl
theorem tw_407 : (Jvm.Cond.methodLink "KinderTownsLaw" (70 : Nat) ({ cls := "KinderTowns", name := "unheard", desc := "(II)I" } : Jvm.MethodName)) ∈ kt_GW := kt_q1g 167 rfl rfl
theorem tw_408 : (Jvm.Cond.instanceMethod ({ cls := "KinderTowns", name := "unheard", desc := "(II)I" } : Jvm.MethodName)) ∈ kt_GW := kt_q1g 168 rfl rfl
theorem tw_409 : (Jvm.Cond.selects "KinderTowns" ({ cls := "KinderTowns", name := "unheard", desc := "(II)I" } : Jvm.MethodName) ({ cls := "KinderTowns", name := "unheard", desc := "(II)I" } : Jvm.MethodName)) ∈ kt_GW := kt_q1g 169 rfl rfl
theorem tw_410 : (Jvm.Cond.code ({ cls := "KinderTowns", name := "unheard", desc := "(II)I" } : Jvm.MethodName) prog_1_method_15_code (3 : Nat) (Option.some Jvm.ClassFile.FieldType.int)) ∈ kt_GW := kt_q1g 170 rfl rfl
theorem tw_411 : (Jvm.Cond.methodLinkNest "KinderTowns" (170 : Nat) ({ cls := "KinderTowns$Country", name := "newsFor", desc := "(IJ)I" } : Jvm.MethodName) "KinderTowns") ∈ kt_NW := kt_q1n 171 rfl rfl
theorem tw_412 : (Jvm.Cond.methodLink "KinderTownsLaw" (74 : Nat) ({ cls := "KinderTowns", name := "count", desc := "(I)I" } : Jvm.MethodName)) ∈ kt_GW := kt_q1g 172 rfl rfl
theorem tw_413 : (Jvm.Cond.instanceMethod ({ cls := "KinderTowns", name := "count", desc := "(I)I" } : Jvm.MethodName)) ∈ kt_GW := kt_q1g 173 rfl rfl
theorem tw_414 : (Jvm.Cond.selects "KinderTowns" ({ cls := "KinderTowns", name := "count", desc := "(I)I" } : Jvm.MethodName) ({ cls := "KinderTowns", name := "count", desc := "(I)I" } : Jvm.MethodName)) ∈ kt_GW := kt_q1g 174 rfl rfl
theorem tw_415 : (Jvm.Cond.code ({ cls := "KinderTowns", name := "count", desc := "(I)I" } : Jvm.MethodName) prog_1_method_16_code (3 : Nat) (Option.some Jvm.ClassFile.FieldType.int)) ∈ kt_GW := kt_q1g 175 rfl rfl
theorem tw_416 : (Jvm.Cond.methodLinkNest "KinderTowns" (176 : Nat) ({ cls := "KinderTowns$Events", name := "all", desc := "()J" } : Jvm.MethodName) "KinderTowns") ∈ kt_NW := kt_q1n 176 rfl rfl
theorem tw_418 : (Jvm.Cond.instanceMethod ({ cls := "KinderTowns$Events", name := "all", desc := "()J" } : Jvm.MethodName)) ∈ kt_GW := kt_q1g 178 rfl rfl
theorem tw_419 : (Jvm.Cond.code ({ cls := "KinderTowns$Events", name := "all", desc := "()J" } : Jvm.MethodName) prog_3_method_5_code (1 : Nat) (Option.some Jvm.ClassFile.FieldType.long)) ∈ kt_GW := kt_q1g 179 rfl rfl
theorem tw_420 : (Jvm.Cond.methodLinkNest "KinderTowns" (180 : Nat) ({ cls := "KinderTowns$Country", name := "knownByAll", desc := "()J" } : Jvm.MethodName) "KinderTowns") ∈ kt_NW := kt_q1n 180 rfl rfl
theorem tw_422 : (Jvm.Cond.instanceMethod ({ cls := "KinderTowns$Country", name := "knownByAll", desc := "()J" } : Jvm.MethodName)) ∈ kt_GW := kt_q1g 182 rfl rfl
theorem tw_423 : (Jvm.Cond.code ({ cls := "KinderTowns$Country", name := "knownByAll", desc := "()J" } : Jvm.MethodName) prog_2_method_17_code (4 : Nat) (Option.some Jvm.ClassFile.FieldType.long)) ∈ kt_GW := kt_q1g 183 rfl rfl
theorem tw_424 : (Jvm.Cond.methodLinkNest "KinderTowns$Country" (137 : Nat) ({ cls := "KinderTowns$Events", name := "all", desc := "()J" } : Jvm.MethodName) "KinderTowns") ∈ kt_NW := kt_q1n 184 rfl rfl
theorem tw_425 : (Jvm.Cond.methodLinkNest "KinderTowns" (183 : Nat) ({ cls := "KinderTowns$Country", name := "allKnowTheSame", desc := "()Z" } : Jvm.MethodName) "KinderTowns") ∈ kt_NW := kt_q1n 185 rfl rfl
theorem tw_427 : (Jvm.Cond.instanceMethod ({ cls := "KinderTowns$Country", name := "allKnowTheSame", desc := "()Z" } : Jvm.MethodName)) ∈ kt_GW := kt_q1g 187 rfl rfl
theorem tw_428 : (Jvm.Cond.code ({ cls := "KinderTowns$Country", name := "allKnowTheSame", desc := "()Z" } : Jvm.MethodName) prog_2_method_18_code (2 : Nat) (Option.some Jvm.ClassFile.FieldType.boolean)) ∈ kt_GW := kt_q1g 188 rfl rfl
theorem tw_429 : (Jvm.Cond.methodLink "KinderTownsLaw" (78 : Nat) ({ cls := "KinderTowns", name := "would", desc := "(III)I" } : Jvm.MethodName)) ∈ kt_GW := kt_q1g 189 rfl rfl
theorem tw_430 : (Jvm.Cond.instanceMethod ({ cls := "KinderTowns", name := "would", desc := "(III)I" } : Jvm.MethodName)) ∈ kt_GW := kt_q1g 190 rfl rfl
theorem tw_431 : (Jvm.Cond.selects "KinderTowns" ({ cls := "KinderTowns", name := "would", desc := "(III)I" } : Jvm.MethodName) ({ cls := "KinderTowns", name := "would", desc := "(III)I" } : Jvm.MethodName)) ∈ kt_GW := kt_q1g 191 rfl rfl
theorem tw_432 : (Jvm.Cond.code ({ cls := "KinderTowns", name := "would", desc := "(III)I" } : Jvm.MethodName) prog_1_method_17_code (5 : Nat) (Option.some Jvm.ClassFile.FieldType.int)) ∈ kt_GW := kt_q1g 192 rfl rfl
theorem tw_433 : (Jvm.Cond.methodLink "KinderTowns" (194 : Nat) ({ cls := "KinderTowns", name := "newApologies", desc := "()I" } : Jvm.MethodName)) ∈ kt_GW := kt_q1g 193 rfl rfl
theorem tw_435 : (Jvm.Cond.instanceMethod ({ cls := "KinderTowns", name := "newApologies", desc := "()I" } : Jvm.MethodName)) ∈ kt_GW := kt_q1g 195 rfl rfl
theorem tw_436 : (Jvm.Cond.code ({ cls := "KinderTowns", name := "newApologies", desc := "()I" } : Jvm.MethodName) prog_1_method_30_code (1 : Nat) (Option.some Jvm.ClassFile.FieldType.int)) ∈ kt_GW := kt_q1g 196 rfl rfl
theorem tw_437 : (Jvm.Cond.methodLink "KinderTowns" (197 : Nat) ({ cls := "KinderTowns", name := "otherThoughts", desc := "(I)J" } : Jvm.MethodName)) ∈ kt_GW := kt_q1g 197 rfl rfl
theorem tw_439 : (Jvm.Cond.instanceMethod ({ cls := "KinderTowns", name := "otherThoughts", desc := "(I)J" } : Jvm.MethodName)) ∈ kt_GW := kt_q1g 199 rfl rfl
theorem tw_440 : (Jvm.Cond.code ({ cls := "KinderTowns", name := "otherThoughts", desc := "(I)J" } : Jvm.MethodName) prog_1_method_31_code (2 : Nat) (Option.some Jvm.ClassFile.FieldType.long)) ∈ kt_GW := kt_q1g 200 rfl rfl
theorem tw_441 : (Jvm.Cond.methodLinkNest "KinderTowns" (201 : Nat) ({ cls := "KinderTowns$Events", name := "goodsOf", desc := "(J)I" } : Jvm.MethodName) "KinderTowns") ∈ kt_NW := kt_q1n 201 rfl rfl
theorem tw_443 : (Jvm.Cond.instanceMethod ({ cls := "KinderTowns$Events", name := "goodsOf", desc := "(J)I" } : Jvm.MethodName)) ∈ kt_GW := kt_q1g 203 rfl rfl
theorem tw_444 : (Jvm.Cond.code ({ cls := "KinderTowns$Events", name := "goodsOf", desc := "(J)I" } : Jvm.MethodName) prog_3_method_10_code (5 : Nat) (Option.some Jvm.ClassFile.FieldType.int)) ∈ kt_GW := kt_q1g 204 rfl rfl
theorem tw_445 : (Jvm.Cond.methodLink "KinderTownsLaw" (82 : Nat) ({ cls := "KinderTowns", name := "wouldRule", desc := "(I)I" } : Jvm.MethodName)) ∈ kt_GW := kt_q1g 205 rfl rfl
theorem tw_446 : (Jvm.Cond.instanceMethod ({ cls := "KinderTowns", name := "wouldRule", desc := "(I)I" } : Jvm.MethodName)) ∈ kt_GW := kt_q1g 206 rfl rfl
theorem tw_447 : (Jvm.Cond.selects "KinderTowns" ({ cls := "KinderTowns", name := "wouldRule", desc := "(I)I" } : Jvm.MethodName) ({ cls := "KinderTowns", name := "wouldRule", desc := "(I)I" } : Jvm.MethodName)) ∈ kt_GW := kt_q1g 207 rfl rfl
theorem tw_448 : (Jvm.Cond.code ({ cls := "KinderTowns", name := "wouldRule", desc := "(I)I" } : Jvm.MethodName) prog_1_method_18_code (2 : Nat) (Option.some Jvm.ClassFile.FieldType.int)) ∈ kt_GW := kt_q1g 208 rfl rfl
theorem tw_449 : (Jvm.Cond.methodLink "KinderTownsLaw" (86 : Nat) ({ cls := "KinderTowns", name := "kindest", desc := "(I)I" } : Jvm.MethodName)) ∈ kt_GW := kt_q1g 209 rfl rfl
theorem tw_450 : (Jvm.Cond.instanceMethod ({ cls := "KinderTowns", name := "kindest", desc := "(I)I" } : Jvm.MethodName)) ∈ kt_GW := kt_q1g 210 rfl rfl
theorem tw_451 : (Jvm.Cond.selects "KinderTowns" ({ cls := "KinderTowns", name := "kindest", desc := "(I)I" } : Jvm.MethodName) ({ cls := "KinderTowns", name := "kindest", desc := "(I)I" } : Jvm.MethodName)) ∈ kt_GW := kt_q1g 211 rfl rfl
theorem tw_452 : (Jvm.Cond.code ({ cls := "KinderTowns", name := "kindest", desc := "(I)I" } : Jvm.MethodName) prog_1_method_19_code (7 : Nat) (Option.some Jvm.ClassFile.FieldType.int)) ∈ kt_GW := kt_q1g 212 rfl rfl
theorem tw_453 : (Jvm.Cond.methodLinkNest "KinderTowns" (204 : Nat) ({ cls := "KinderTowns$Looking", name := "lookAtAll", desc := "(LKinderTowns$Events;JI)V" } : Jvm.MethodName) "KinderTowns") ∈ kt_NW := kt_q1n 213 rfl rfl
theorem tw_454 : (Jvm.Cond.methodLinkNest "KinderTowns" (211 : Nat) ({ cls := "KinderTowns$Events", name := "personsIn", desc := "(J)I" } : Jvm.MethodName) "KinderTowns") ∈ kt_NW := kt_q1n 214 rfl rfl
theorem tw_456 : (Jvm.Cond.instanceMethod ({ cls := "KinderTowns$Events", name := "personsIn", desc := "(J)I" } : Jvm.MethodName)) ∈ kt_GW := kt_q1g 216 rfl rfl
theorem tw_457 : (Jvm.Cond.code ({ cls := "KinderTowns$Events", name := "personsIn", desc := "(J)I" } : Jvm.MethodName) prog_3_method_11_code (5 : Nat) (Option.some Jvm.ClassFile.FieldType.int)) ∈ kt_GW := kt_q1g 217 rfl rfl
theorem tw_458 : (Jvm.Cond.methodLink "KinderTowns$Events" (57 : Nat) ({ cls := "KinderTowns$Events", name := "having", desc := "([II)J" } : Jvm.MethodName)) ∈ kt_GW := kt_q1g 218 rfl rfl
theorem tw_459 : (Jvm.Cond.methodLink "KinderTownsLaw" (90 : Nat) ({ cls := "KinderTowns", name := "rounds", desc := "()I" } : Jvm.MethodName)) ∈ kt_GW := kt_q1g 219 rfl rfl
theorem tw_460 : (Jvm.Cond.instanceMethod ({ cls := "KinderTowns", name := "rounds", desc := "()I" } : Jvm.MethodName)) ∈ kt_GW := kt_q1g 220 rfl rfl
theorem tw_461 : (Jvm.Cond.selects "KinderTowns" ({ cls := "KinderTowns", name := "rounds", desc := "()I" } : Jvm.MethodName) ({ cls := "KinderTowns", name := "rounds", desc := "()I" } : Jvm.MethodName)) ∈ kt_GW := kt_q1g 221 rfl rfl
theorem tw_462 : (Jvm.Cond.code ({ cls := "KinderTowns", name := "rounds", desc := "()I" } : Jvm.MethodName) prog_1_method_20_code (2 : Nat) (Option.some Jvm.ClassFile.FieldType.int)) ∈ kt_GW := kt_q1g 222 rfl rfl
theorem tw_463 : (Jvm.Cond.methodLinkNest "KinderTowns" (214 : Nat) ({ cls := "KinderTowns$Country", name := "meetInTurn", desc := "()V" } : Jvm.MethodName) "KinderTowns") ∈ kt_NW := kt_q1n 223 rfl rfl
theorem tw_465 : (Jvm.Cond.instanceMethod ({ cls := "KinderTowns$Country", name := "meetInTurn", desc := "()V" } : Jvm.MethodName)) ∈ kt_GW := kt_q1g 225 rfl rfl
theorem tw_466 : (Jvm.Cond.code ({ cls := "KinderTowns$Country", name := "meetInTurn", desc := "()V" } : Jvm.MethodName) prog_2_method_19_code (4 : Nat) (Option.none : Option Jvm.ClassFile.FieldType)) ∈ kt_GW := kt_q1g 226 rfl rfl
theorem tw_467 : (Jvm.Cond.methodLink "KinderTownsLaw" (94 : Nat) ({ cls := "KinderTowns", name := "undo", desc := "()I" } : Jvm.MethodName)) ∈ kt_GW := kt_q1g 227 rfl rfl
theorem tw_468 : (Jvm.Cond.instanceMethod ({ cls := "KinderTowns", name := "undo", desc := "()I" } : Jvm.MethodName)) ∈ kt_GW := kt_q1g 228 rfl rfl
theorem tw_469 : (Jvm.Cond.selects "KinderTowns" ({ cls := "KinderTowns", name := "undo", desc := "()I" } : Jvm.MethodName) ({ cls := "KinderTowns", name := "undo", desc := "()I" } : Jvm.MethodName)) ∈ kt_GW := kt_q1g 229 rfl rfl
theorem tw_470 : (Jvm.Cond.code ({ cls := "KinderTowns", name := "undo", desc := "()I" } : Jvm.MethodName) prog_1_method_21_code (2 : Nat) (Option.some Jvm.ClassFile.FieldType.int)) ∈ kt_GW := kt_q1g 230 rfl rfl
theorem tw_471 : (Jvm.Cond.methodLink "KinderTownsLaw" (98 : Nat) ({ cls := "KinderTowns", name := "type", desc := "(I)I" } : Jvm.MethodName)) ∈ kt_GW := kt_q1g 231 rfl rfl
theorem tw_472 : (Jvm.Cond.instanceMethod ({ cls := "KinderTowns", name := "type", desc := "(I)I" } : Jvm.MethodName)) ∈ kt_GW := kt_q1g 232 rfl rfl
theorem tw_473 : (Jvm.Cond.selects "KinderTowns" ({ cls := "KinderTowns", name := "type", desc := "(I)I" } : Jvm.MethodName) ({ cls := "KinderTowns", name := "type", desc := "(I)I" } : Jvm.MethodName)) ∈ kt_GW := kt_q1g 233 rfl rfl
theorem tw_474 : (Jvm.Cond.code ({ cls := "KinderTowns", name := "type", desc := "(I)I" } : Jvm.MethodName) prog_1_method_22_code (2 : Nat) (Option.some Jvm.ClassFile.FieldType.int)) ∈ kt_GW := kt_q1g 234 rfl rfl
theorem tw_475 : (Jvm.Cond.methodLink "KinderTownsLaw" (102 : Nat) ({ cls := "KinderTowns", name := "clearText", desc := "()I" } : Jvm.MethodName)) ∈ kt_GW := kt_q1g 235 rfl rfl
theorem tw_476 : (Jvm.Cond.instanceMethod ({ cls := "KinderTowns", name := "clearText", desc := "()I" } : Jvm.MethodName)) ∈ kt_GW := kt_q1g 236 rfl rfl
theorem tw_477 : (Jvm.Cond.selects "KinderTowns" ({ cls := "KinderTowns", name := "clearText", desc := "()I" } : Jvm.MethodName) ({ cls := "KinderTowns", name := "clearText", desc := "()I" } : Jvm.MethodName)) ∈ kt_GW := kt_q1g 237 rfl rfl
theorem tw_478 : (Jvm.Cond.code ({ cls := "KinderTowns", name := "clearText", desc := "()I" } : Jvm.MethodName) prog_1_method_23_code (2 : Nat) (Option.some Jvm.ClassFile.FieldType.int)) ∈ kt_GW := kt_q1g 238 rfl rfl
theorem tw_479 : (Jvm.Cond.methodLink "KinderTownsLaw" (106 : Nat) ({ cls := "KinderTowns", name := "fault", desc := "(I)I" } : Jvm.MethodName)) ∈ kt_GW := kt_q1g 239 rfl rfl
theorem tw_480 : (Jvm.Cond.instanceMethod ({ cls := "KinderTowns", name := "fault", desc := "(I)I" } : Jvm.MethodName)) ∈ kt_GW := kt_q2g 0 rfl rfl
theorem tw_481 : (Jvm.Cond.selects "KinderTowns" ({ cls := "KinderTowns", name := "fault", desc := "(I)I" } : Jvm.MethodName) ({ cls := "KinderTowns", name := "fault", desc := "(I)I" } : Jvm.MethodName)) ∈ kt_GW := kt_q2g 1 rfl rfl
theorem tw_482 : (Jvm.Cond.code ({ cls := "KinderTowns", name := "fault", desc := "(I)I" } : Jvm.MethodName) prog_1_method_24_code (2 : Nat) (Option.some Jvm.ClassFile.FieldType.int)) ∈ kt_GW := kt_q2g 2 rfl rfl
theorem tw_483 : (Jvm.Cond.methodLinkNest "KinderTowns" (220 : Nat) ({ cls := "KinderTowns$Script", name := "runOn", desc := "(LKinderTowns$Country;)V" } : Jvm.MethodName) "KinderTowns") ∈ kt_NW := kt_q2n 3 rfl rfl
theorem tw_485 : (Jvm.Cond.instanceMethod ({ cls := "KinderTowns$Script", name := "runOn", desc := "(LKinderTowns$Country;)V" } : Jvm.MethodName)) ∈ kt_GW := kt_q2g 5 rfl rfl
theorem tw_486 : (Jvm.Cond.code ({ cls := "KinderTowns$Script", name := "runOn", desc := "(LKinderTowns$Country;)V" } : Jvm.MethodName) prog_5_method_2_code (3 : Nat) (Option.none : Option Jvm.ClassFile.FieldType)) ∈ kt_GW := kt_q2g 6 rfl rfl
theorem tw_487 : (Jvm.Cond.methodLink "KinderTowns$Script" (31 : Nat) ({ cls := "KinderTowns$Script", name := "read", desc := "(I)I" } : Jvm.MethodName)) ∈ kt_GW := kt_q2g 7 rfl rfl
theorem tw_489 : (Jvm.Cond.instanceMethod ({ cls := "KinderTowns$Script", name := "read", desc := "(I)I" } : Jvm.MethodName)) ∈ kt_GW := kt_q2g 9 rfl rfl
theorem tw_490 : (Jvm.Cond.code ({ cls := "KinderTowns$Script", name := "read", desc := "(I)I" } : Jvm.MethodName) prog_5_method_4_code (6 : Nat) (Option.some Jvm.ClassFile.FieldType.int)) ∈ kt_GW := kt_q2g 10 rfl rfl
theorem tw_491 : (Jvm.Cond.methodLink "KinderTowns$Script" (47 : Nat) ({ cls := "KinderTowns$Script", name := "signAt", desc := "(I)I" } : Jvm.MethodName)) ∈ kt_GW := kt_q2g 11 rfl rfl
theorem tw_493 : (Jvm.Cond.instanceMethod ({ cls := "KinderTowns$Script", name := "signAt", desc := "(I)I" } : Jvm.MethodName)) ∈ kt_GW := kt_q2g 13 rfl rfl
theorem tw_494 : (Jvm.Cond.code ({ cls := "KinderTowns$Script", name := "signAt", desc := "(I)I" } : Jvm.MethodName) prog_5_method_7_code (2 : Nat) (Option.some Jvm.ClassFile.FieldType.int)) ∈ kt_GW := kt_q2g 14 rfl rfl
theorem tw_495 : (Jvm.Cond.methodLinkNest "KinderTowns$Script" (80 : Nat) ({ cls := "KinderTowns", name := "isBelow", desc := "(II)Z" } : Jvm.MethodName) "KinderTowns") ∈ kt_NW := kt_q2n 15 rfl rfl
theorem tw_496 : (Jvm.Cond.methodLink "KinderTowns$Script" (50 : Nat) ({ cls := "KinderTowns$Script", name := "numbersBehind", desc := "(I)I" } : Jvm.MethodName)) ∈ kt_GW := kt_q2g 16 rfl rfl
theorem tw_497 : (Jvm.Cond.static ({ cls := "KinderTowns$Script", name := "numbersBehind", desc := "(I)I" } : Jvm.MethodName)) ∈ kt_GW := kt_q2g 17 rfl rfl
theorem tw_498 : (Jvm.Cond.code ({ cls := "KinderTowns$Script", name := "numbersBehind", desc := "(I)I" } : Jvm.MethodName) prog_5_method_5_code (1 : Nat) (Option.some Jvm.ClassFile.FieldType.int)) ∈ kt_GW := kt_q2g 18 rfl rfl
theorem tw_499 : (Jvm.Cond.methodLink "KinderTowns$Script" (53 : Nat) ({ cls := "KinderTowns$Script", name := "digitsAt", desc := "(I)I" } : Jvm.MethodName)) ∈ kt_GW := kt_q2g 19 rfl rfl
theorem tw_501 : (Jvm.Cond.instanceMethod ({ cls := "KinderTowns$Script", name := "digitsAt", desc := "(I)I" } : Jvm.MethodName)) ∈ kt_GW := kt_q2g 21 rfl rfl
theorem tw_502 : (Jvm.Cond.code ({ cls := "KinderTowns$Script", name := "digitsAt", desc := "(I)I" } : Jvm.MethodName) prog_5_method_10_code (2 : Nat) (Option.some Jvm.ClassFile.FieldType.int)) ∈ kt_GW := kt_q2g 22 rfl rfl
theorem tw_503 : (Jvm.Cond.methodLink "KinderTowns$Script" (84 : Nat) ({ cls := "KinderTowns$Script", name := "isDigit", desc := "(I)Z" } : Jvm.MethodName)) ∈ kt_GW := kt_q2g 23 rfl rfl
theorem tw_505 : (Jvm.Cond.instanceMethod ({ cls := "KinderTowns$Script", name := "isDigit", desc := "(I)Z" } : Jvm.MethodName)) ∈ kt_GW := kt_q2g 25 rfl rfl
theorem tw_506 : (Jvm.Cond.code ({ cls := "KinderTowns$Script", name := "isDigit", desc := "(I)Z" } : Jvm.MethodName) prog_5_method_8_code (2 : Nat) (Option.some Jvm.ClassFile.FieldType.boolean)) ∈ kt_GW := kt_q2g 26 rfl rfl
theorem tw_507 : (Jvm.Cond.methodLink "KinderTowns$Script" (56 : Nat) ({ cls := "KinderTowns$Script", name := "digit", desc := "(I)I" } : Jvm.MethodName)) ∈ kt_GW := kt_q2g 27 rfl rfl
theorem tw_509 : (Jvm.Cond.instanceMethod ({ cls := "KinderTowns$Script", name := "digit", desc := "(I)I" } : Jvm.MethodName)) ∈ kt_GW := kt_q2g 29 rfl rfl
theorem tw_510 : (Jvm.Cond.code ({ cls := "KinderTowns$Script", name := "digit", desc := "(I)I" } : Jvm.MethodName) prog_5_method_9_code (2 : Nat) (Option.some Jvm.ClassFile.FieldType.int)) ∈ kt_GW := kt_q2g 30 rfl rfl
theorem tw_511 : (Jvm.Cond.methodLink "KinderTowns$Script" (35 : Nat) ({ cls := "KinderTowns$Script", name := "doCommand", desc := "(LKinderTowns$Country;I)I" } : Jvm.MethodName)) ∈ kt_GW := kt_q2g 31 rfl rfl
theorem tw_513 : (Jvm.Cond.instanceMethod ({ cls := "KinderTowns$Script", name := "doCommand", desc := "(LKinderTowns$Country;I)I" } : Jvm.MethodName)) ∈ kt_GW := kt_q2g 33 rfl rfl
theorem tw_514 : (Jvm.Cond.code ({ cls := "KinderTowns$Script", name := "doCommand", desc := "(LKinderTowns$Country;I)I" } : Jvm.MethodName) prog_5_method_6_code (3 : Nat) (Option.some Jvm.ClassFile.FieldType.int)) ∈ kt_GW := kt_q2g 34 rfl rfl
theorem tw_515 : (Jvm.Cond.methodLinkNest "KinderTowns$Script" (59 : Nat) ({ cls := "KinderTowns$Country", name := "makeDelivery", desc := "(III)I" } : Jvm.MethodName) "KinderTowns") ∈ kt_NW := kt_q2n 35 rfl rfl
theorem tw_516 : (Jvm.Cond.methodLinkNest "KinderTowns$Script" (63 : Nat) ({ cls := "KinderTowns$Country", name := "makeOrder", desc := "(IIII)I" } : Jvm.MethodName) "KinderTowns") ∈ kt_NW := kt_q2n 36 rfl rfl
theorem tw_517 : (Jvm.Cond.methodLinkNest "KinderTowns$Script" (67 : Nat) ({ cls := "KinderTowns$Country", name := "makeCancellation", desc := "(II)I" } : Jvm.MethodName) "KinderTowns") ∈ kt_NW := kt_q2n 37 rfl rfl
theorem tw_518 : (Jvm.Cond.methodLinkNest "KinderTowns$Script" (71 : Nat) ({ cls := "KinderTowns$Country", name := "letMeet", desc := "(II)I" } : Jvm.MethodName) "KinderTowns") ∈ kt_NW := kt_q2n 38 rfl rfl
theorem tw_519 : (Jvm.Cond.methodLinkNest "KinderTowns$Script" (74 : Nat) ({ cls := "KinderTowns$Country", name := "letHear", desc := "(II)I" } : Jvm.MethodName) "KinderTowns") ∈ kt_NW := kt_q2n 39 rfl rfl
theorem tw_520 : (Jvm.Cond.methodLinkNest "KinderTowns$Script" (77 : Nat) ({ cls := "KinderTowns$Country", name := "setRule", desc := "(I)I" } : Jvm.MethodName) "KinderTowns") ∈ kt_NW := kt_q2n 40 rfl rfl
theorem tw_521 : (Jvm.Cond.methodLink "KinderTowns$Script" (39 : Nat) ({ cls := "KinderTowns$Script", name := "reasonOf", desc := "(I)I" } : Jvm.MethodName)) ∈ kt_GW := kt_q2g 41 rfl rfl
theorem tw_522 : (Jvm.Cond.static ({ cls := "KinderTowns$Script", name := "reasonOf", desc := "(I)I" } : Jvm.MethodName)) ∈ kt_GW := kt_q2g 42 rfl rfl
theorem tw_523 : (Jvm.Cond.code ({ cls := "KinderTowns$Script", name := "reasonOf", desc := "(I)I" } : Jvm.MethodName) prog_5_method_3_code (1 : Nat) (Option.some Jvm.ClassFile.FieldType.int)) ∈ kt_GW := kt_q2g 43 rfl rfl
theorem tw_524 : (Jvm.Cond.methodLinkNest "KinderTowns$Script" (42 : Nat) ({ cls := "KinderTowns$Country", name := "thinkAnew", desc := "()V" } : Jvm.MethodName) "KinderTowns") ∈ kt_NW := kt_q2n 44 rfl rfl
theorem tw_525 : (Jvm.Cond.methodLink "KinderTownsLaw" (110 : Nat) ({ cls := "KinderTowns", name := "play", desc := "()I" } : Jvm.MethodName)) ∈ kt_GW := kt_q2g 45 rfl rfl
theorem tw_526 : (Jvm.Cond.instanceMethod ({ cls := "KinderTowns", name := "play", desc := "()I" } : Jvm.MethodName)) ∈ kt_GW := kt_q2g 46 rfl rfl
theorem tw_527 : (Jvm.Cond.selects "KinderTowns" ({ cls := "KinderTowns", name := "play", desc := "()I" } : Jvm.MethodName) ({ cls := "KinderTowns", name := "play", desc := "()I" } : Jvm.MethodName)) ∈ kt_GW := kt_q2g 47 rfl rfl
theorem tw_528 : (Jvm.Cond.code ({ cls := "KinderTowns", name := "play", desc := "()I" } : Jvm.MethodName) prog_1_method_25_code (2 : Nat) (Option.some Jvm.ClassFile.FieldType.int)) ∈ kt_GW := kt_q2g 48 rfl rfl
theorem tw_529 : (Jvm.Cond.classLink "KinderTownsLaw" (10 : Nat) "KinderTownsModel") ∈ kt_GW := kt_q2g 49 rfl rfl
theorem tw_530 : (Jvm.Cond.instantiable "KinderTownsModel" (18 : Nat)) ∈ kt_GW := kt_q2g 50 rfl rfl
theorem tw_531 : (Jvm.Cond.methodLink "KinderTownsLaw" (12 : Nat) ({ cls := "KinderTownsModel", name := "<init>", desc := "()V" } : Jvm.MethodName)) ∈ kt_GW := kt_q2g 51 rfl rfl
theorem tw_532 : (Jvm.Cond.instanceMethod ({ cls := "KinderTownsModel", name := "<init>", desc := "()V" } : Jvm.MethodName)) ∈ kt_GW := kt_q2g 52 rfl rfl
theorem tw_533 : (Jvm.Cond.code ({ cls := "KinderTownsModel", name := "<init>", desc := "()V" } : Jvm.MethodName) prog_7_method_1_code (1 : Nat) (Option.none : Option Jvm.ClassFile.FieldType)) ∈ kt_GW := kt_q2g 53 rfl rfl
theorem tw_534 : (Jvm.Cond.methodLink "KinderTownsModel" (1 : Nat) ({ cls := "java/lang/Object", name := "<init>", desc := "()V" } : Jvm.MethodName)) ∈ kt_GW := kt_q2g 54 rfl rfl
theorem tw_535 : (Jvm.Cond.fieldLink "KinderTownsModel" (7 : Nat) "KinderTownsModel" "s" "[I") ∈ kt_GW := kt_q2g 55 rfl rfl
theorem tw_536 : (Jvm.Cond.fieldLink "KinderTownsModel" (13 : Nat) "KinderTownsModel" "past" "[I") ∈ kt_GW := kt_q2g 56 rfl rfl
theorem tw_537 : (Jvm.Cond.fieldLink "KinderTownsModel" (16 : Nat) "KinderTownsModel" "held" "[I") ∈ kt_GW := kt_q2g 57 rfl rfl
theorem tw_538 : (Jvm.Cond.fieldLink "KinderTownsModel" (19 : Nat) "KinderTownsModel" "tried" "[I") ∈ kt_GW := kt_q2g 58 rfl rfl
theorem tw_539 : (Jvm.Cond.fieldLink "KinderTownsModel" (83 : Nat) "KinderTownsModel" "pasts" "I") ∈ kt_GW := kt_q2g 59 rfl rfl
theorem tw_540 : (Jvm.Cond.fieldLink "KinderTownsModel" (86 : Nat) "KinderTownsModel" "runs" "Z") ∈ kt_GW := kt_q2g 60 rfl rfl
theorem tw_541 : (Jvm.Cond.fieldLink "KinderTownsModel" (22 : Nat) "KinderTownsModel" "text" "[I") ∈ kt_GW := kt_q2g 61 rfl rfl
theorem tw_542 : (Jvm.Cond.fieldLink "KinderTownsModel" (153 : Nat) "KinderTownsModel" "typed" "I") ∈ kt_GW := kt_q2g 62 rfl rfl
theorem tw_543 : (Jvm.Cond.fieldLink "KinderTownsModel" (25 : Nat) "KinderTownsModel" "status" "[I") ∈ kt_GW := kt_q2g 63 rfl rfl
theorem tw_544 : (Jvm.Cond.fieldLink "KinderTownsModel" (28 : Nat) "KinderTownsModel" "row" "[I") ∈ kt_GW := kt_q2g 64 rfl rfl
theorem tw_545 : (Jvm.Cond.fieldLink "KinderTownsModel" (58 : Nat) "KinderTownsModel" "looked" "I") ∈ kt_GW := kt_q2g 65 rfl rfl
theorem tw_546 : (Jvm.Cond.fieldLink "KinderTownsModel" (31 : Nat) "KinderTownsModel" "got" "[I") ∈ kt_GW := kt_q2g 66 rfl rfl
theorem tw_547 : (Jvm.Cond.fieldLink "KinderTownsModel" (34 : Nat) "KinderTownsModel" "accepted" "[Z") ∈ kt_GW := kt_q2g 67 rfl rfl
theorem tw_548 : (Jvm.Cond.fieldLink "KinderTownsModel" (38 : Nat) "KinderTownsModel" "before" "[I") ∈ kt_GW := kt_q2g 68 rfl rfl
theorem tw_549 : (Jvm.Cond.fieldLink "KinderTownsModel" (169 : Nat) "KinderTownsModel" "spot" "I") ∈ kt_GW := kt_q2g 69 rfl rfl
theorem tw_550 : (Jvm.Cond.fieldLink "KinderTownsModel" (198 : Nat) "KinderTownsModel" "cause" "I") ∈ kt_GW := kt_q2g 70 rfl rfl
theorem tw_551 : (Jvm.Cond.fieldLink "KinderTownsModel" (195 : Nat) "KinderTownsModel" "commands" "I") ∈ kt_GW := kt_q2g 71 rfl rfl
theorem tw_552 : (Jvm.Cond.fieldLink "KinderTownsModel" (41 : Nat) "KinderTownsModel" "told" "[I") ∈ kt_GW := kt_q2g 72 rfl rfl
theorem tw_590 : (Jvm.Cond.arrayClass Jvm.ClassFile.FieldType.boolean) ∈ kt_GW := kt_q2g 110 rfl rfl
theorem tw_591 : (Jvm.Cond.methodLink "KinderTownsLaw" (17 : Nat) ({ cls := "KinderTownsModel", name := "town", desc := "()I" } : Jvm.MethodName)) ∈ kt_GW := kt_q2g 111 rfl rfl
theorem tw_592 : (Jvm.Cond.instanceMethod ({ cls := "KinderTownsModel", name := "town", desc := "()I" } : Jvm.MethodName)) ∈ kt_GW := kt_q2g 112 rfl rfl
theorem tw_593 : (Jvm.Cond.selects "KinderTownsModel" ({ cls := "KinderTownsModel", name := "town", desc := "()I" } : Jvm.MethodName) ({ cls := "KinderTownsModel", name := "town", desc := "()I" } : Jvm.MethodName)) ∈ kt_GW := kt_q2g 113 rfl rfl
theorem tw_594 : (Jvm.Cond.code ({ cls := "KinderTownsModel", name := "town", desc := "()I" } : Jvm.MethodName) prog_7_method_21_code (2 : Nat) (Option.some Jvm.ClassFile.FieldType.int)) ∈ kt_GW := kt_q2g 114 rfl rfl
theorem tw_595 : (Jvm.Cond.methodLink "KinderTownsModel" (96 : Nat) ({ cls := "KinderTownsModel", name := "changes", desc := "()V" } : Jvm.MethodName)) ∈ kt_GW := kt_q2g 115 rfl rfl
theorem tw_597 : (Jvm.Cond.instanceMethod ({ cls := "KinderTownsModel", name := "changes", desc := "()V" } : Jvm.MethodName)) ∈ kt_GW := kt_q2g 117 rfl rfl
theorem tw_598 : (Jvm.Cond.code ({ cls := "KinderTownsModel", name := "changes", desc := "()V" } : Jvm.MethodName) prog_7_method_20_code (1 : Nat) (Option.none : Option Jvm.ClassFile.FieldType)) ∈ kt_GW := kt_q2g 118 rfl rfl
theorem tw_599 : (Jvm.Cond.methodLink "KinderTownsModel" (90 : Nat) ({ cls := "KinderTownsModel", name := "records", desc := "()V" } : Jvm.MethodName)) ∈ kt_GW := kt_q2g 119 rfl rfl
theorem tw_601 : (Jvm.Cond.instanceMethod ({ cls := "KinderTownsModel", name := "records", desc := "()V" } : Jvm.MethodName)) ∈ kt_GW := kt_q2g 121 rfl rfl
theorem tw_602 : (Jvm.Cond.code ({ cls := "KinderTownsModel", name := "records", desc := "()V" } : Jvm.MethodName) prog_7_method_19_code (2 : Nat) (Option.none : Option Jvm.ClassFile.FieldType)) ∈ kt_GW := kt_q2g 122 rfl rfl
theorem tw_603 : (Jvm.Cond.methodLink "KinderTownsModel" (93 : Nat) ({ cls := "KinderTownsModel", name := "remembers", desc := "()V" } : Jvm.MethodName)) ∈ kt_GW := kt_q2g 123 rfl rfl
theorem tw_605 : (Jvm.Cond.instanceMethod ({ cls := "KinderTownsModel", name := "remembers", desc := "()V" } : Jvm.MethodName)) ∈ kt_GW := kt_q2g 125 rfl rfl
theorem tw_606 : (Jvm.Cond.code ({ cls := "KinderTownsModel", name := "remembers", desc := "()V" } : Jvm.MethodName) prog_7_method_17_code (3 : Nat) (Option.none : Option Jvm.ClassFile.FieldType)) ∈ kt_GW := kt_q2g 126 rfl rfl
theorem tw_607 : (Jvm.Cond.methodLink "KinderTownsModel" (76 : Nat) ({ cls := "KinderTownsModel", name := "thinksAll", desc := "(I)V" } : Jvm.MethodName)) ∈ kt_GW := kt_q2g 127 rfl rfl
theorem tw_609 : (Jvm.Cond.instanceMethod ({ cls := "KinderTownsModel", name := "thinksAll", desc := "(I)V" } : Jvm.MethodName)) ∈ kt_GW := kt_q2g 129 rfl rfl
theorem tw_610 : (Jvm.Cond.code ({ cls := "KinderTownsModel", name := "thinksAll", desc := "(I)V" } : Jvm.MethodName) prog_7_method_16_code (3 : Nat) (Option.none : Option Jvm.ClassFile.FieldType)) ∈ kt_GW := kt_q2g 130 rfl rfl
theorem tw_611 : (Jvm.Cond.methodLink "KinderTownsModel" (68 : Nat) ({ cls := "KinderTownsModel", name := "thinksOf", desc := "(I)V" } : Jvm.MethodName)) ∈ kt_GW := kt_q2g 131 rfl rfl
theorem tw_613 : (Jvm.Cond.instanceMethod ({ cls := "KinderTownsModel", name := "thinksOf", desc := "(I)V" } : Jvm.MethodName)) ∈ kt_GW := kt_q2g 133 rfl rfl
theorem tw_614 : (Jvm.Cond.code ({ cls := "KinderTownsModel", name := "thinksOf", desc := "(I)V" } : Jvm.MethodName) prog_7_method_15_code (4 : Nat) (Option.none : Option Jvm.ClassFile.FieldType)) ∈ kt_GW := kt_q2g 134 rfl rfl
theorem tw_615 : (Jvm.Cond.methodLink "KinderTownsModel" (44 : Nat) ({ cls := "KinderTownsModel", name := "of", desc := "(II)I" } : Jvm.MethodName)) ∈ kt_GW := kt_q2g 135 rfl rfl
theorem tw_617 : (Jvm.Cond.instanceMethod ({ cls := "KinderTownsModel", name := "of", desc := "(II)I" } : Jvm.MethodName)) ∈ kt_GW := kt_q2g 137 rfl rfl
theorem tw_618 : (Jvm.Cond.code ({ cls := "KinderTownsModel", name := "of", desc := "(II)I" } : Jvm.MethodName) prog_7_method_5_code (3 : Nat) (Option.some Jvm.ClassFile.FieldType.int)) ∈ kt_GW := kt_q2g 138 rfl rfl
theorem tw_619 : (Jvm.Cond.methodLink "KinderTownsModel" (48 : Nat) ({ cls := "KinderTownsModel", name := "knows", desc := "(II)Z" } : Jvm.MethodName)) ∈ kt_GW := kt_q2g 139 rfl rfl
theorem tw_621 : (Jvm.Cond.instanceMethod ({ cls := "KinderTownsModel", name := "knows", desc := "(II)Z" } : Jvm.MethodName)) ∈ kt_GW := kt_q2g 141 rfl rfl
theorem tw_622 : (Jvm.Cond.code ({ cls := "KinderTownsModel", name := "knows", desc := "(II)Z" } : Jvm.MethodName) prog_7_method_9_code (3 : Nat) (Option.some Jvm.ClassFile.FieldType.boolean)) ∈ kt_GW := kt_q2g 142 rfl rfl
theorem tw_623 : (Jvm.Cond.methodLink "KinderTownsModel" (65 : Nat) ({ cls := "KinderTownsModel", name := "isCancelled", desc := "(II)Z" } : Jvm.MethodName)) ∈ kt_GW := kt_q2g 143 rfl rfl
theorem tw_625 : (Jvm.Cond.instanceMethod ({ cls := "KinderTownsModel", name := "isCancelled", desc := "(II)Z" } : Jvm.MethodName)) ∈ kt_GW := kt_q2g 145 rfl rfl
theorem tw_626 : (Jvm.Cond.code ({ cls := "KinderTownsModel", name := "isCancelled", desc := "(II)Z" } : Jvm.MethodName) prog_7_method_11_code (5 : Nat) (Option.some Jvm.ClassFile.FieldType.boolean)) ∈ kt_GW := kt_q2g 146 rfl rfl
theorem tw_627 : (Jvm.Cond.methodLink "KinderTownsModel" (72 : Nat) ({ cls := "KinderTownsModel", name := "looks", desc := "(II)V" } : Jvm.MethodName)) ∈ kt_GW := kt_q2g 147 rfl rfl
theorem tw_629 : (Jvm.Cond.instanceMethod ({ cls := "KinderTownsModel", name := "looks", desc := "(II)V" } : Jvm.MethodName)) ∈ kt_GW := kt_q2g 149 rfl rfl
theorem tw_630 : (Jvm.Cond.code ({ cls := "KinderTownsModel", name := "looks", desc := "(II)V" } : Jvm.MethodName) prog_7_method_14_code (7 : Nat) (Option.none : Option Jvm.ClassFile.FieldType)) ∈ kt_GW := kt_q2g 150 rfl rfl
theorem tw_631 : (Jvm.Cond.methodLink "KinderTownsModel" (55 : Nat) ({ cls := "KinderTownsModel", name := "stock", desc := "(II)I" } : Jvm.MethodName)) ∈ kt_GW := kt_q2g 151 rfl rfl
theorem tw_633 : (Jvm.Cond.instanceMethod ({ cls := "KinderTownsModel", name := "stock", desc := "(II)I" } : Jvm.MethodName)) ∈ kt_GW := kt_q2g 153 rfl rfl
theorem tw_634 : (Jvm.Cond.code ({ cls := "KinderTownsModel", name := "stock", desc := "(II)I" } : Jvm.MethodName) prog_7_method_10_code (5 : Nat) (Option.some Jvm.ClassFile.FieldType.int)) ∈ kt_GW := kt_q2g 154 rfl rfl
theorem tw_635 : (Jvm.Cond.methodLink "KinderTownsModel" (62 : Nat) ({ cls := "KinderTownsModel", name := "isAhead", desc := "(II)Z" } : Jvm.MethodName)) ∈ kt_GW := kt_q2g 155 rfl rfl
theorem tw_637 : (Jvm.Cond.instanceMethod ({ cls := "KinderTownsModel", name := "isAhead", desc := "(II)Z" } : Jvm.MethodName)) ∈ kt_GW := kt_q2g 157 rfl rfl
theorem tw_638 : (Jvm.Cond.code ({ cls := "KinderTownsModel", name := "isAhead", desc := "(II)Z" } : Jvm.MethodName) prog_7_method_13_code (4 : Nat) (Option.some Jvm.ClassFile.FieldType.boolean)) ∈ kt_GW := kt_q2g 158 rfl rfl
theorem tw_639 : (Jvm.Cond.methodLink "KinderTownsModel" (52 : Nat) ({ cls := "KinderTownsModel", name := "isEarlier", desc := "(II)Z" } : Jvm.MethodName)) ∈ kt_GW := kt_q2g 159 rfl rfl
theorem tw_641 : (Jvm.Cond.instanceMethod ({ cls := "KinderTownsModel", name := "isEarlier", desc := "(II)Z" } : Jvm.MethodName)) ∈ kt_GW := kt_q2g 161 rfl rfl
theorem tw_642 : (Jvm.Cond.code ({ cls := "KinderTownsModel", name := "isEarlier", desc := "(II)Z" } : Jvm.MethodName) prog_7_method_12_code (4 : Nat) (Option.some Jvm.ClassFile.FieldType.boolean)) ∈ kt_GW := kt_q2g 162 rfl rfl
theorem tw_643 : (Jvm.Cond.methodLink "KinderTownsLaw" (22 : Nat) ({ cls := "KinderTownsModel", name := "deliver", desc := "(III)I" } : Jvm.MethodName)) ∈ kt_GW := kt_q2g 163 rfl rfl
theorem tw_644 : (Jvm.Cond.instanceMethod ({ cls := "KinderTownsModel", name := "deliver", desc := "(III)I" } : Jvm.MethodName)) ∈ kt_GW := kt_q2g 164 rfl rfl
theorem tw_645 : (Jvm.Cond.selects "KinderTownsModel" ({ cls := "KinderTownsModel", name := "deliver", desc := "(III)I" } : Jvm.MethodName) ({ cls := "KinderTownsModel", name := "deliver", desc := "(III)I" } : Jvm.MethodName)) ∈ kt_GW := kt_q2g 165 rfl rfl
theorem tw_646 : (Jvm.Cond.code ({ cls := "KinderTownsModel", name := "deliver", desc := "(III)I" } : Jvm.MethodName) prog_7_method_23_code (4 : Nat) (Option.some Jvm.ClassFile.FieldType.int)) ∈ kt_GW := kt_q2g 166 rfl rfl
theorem tw_647 : (Jvm.Cond.methodLink "KinderTownsModel" (103 : Nat) ({ cls := "KinderTownsModel", name := "isTown", desc := "(I)Z" } : Jvm.MethodName)) ∈ kt_GW := kt_q2g 167 rfl rfl
theorem tw_649 : (Jvm.Cond.instanceMethod ({ cls := "KinderTownsModel", name := "isTown", desc := "(I)Z" } : Jvm.MethodName)) ∈ kt_GW := kt_q2g 169 rfl rfl
theorem tw_650 : (Jvm.Cond.code ({ cls := "KinderTownsModel", name := "isTown", desc := "(I)Z" } : Jvm.MethodName) prog_7_method_7_code (2 : Nat) (Option.some Jvm.ClassFile.FieldType.boolean)) ∈ kt_GW := kt_q2g 170 rfl rfl
theorem tw_651 : (Jvm.Cond.methodLink "KinderTownsModel" (107 : Nat) ({ cls := "KinderTownsModel", name := "in", desc := "(III)Z" } : Jvm.MethodName)) ∈ kt_GW := kt_q2g 171 rfl rfl
theorem tw_652 : (Jvm.Cond.static ({ cls := "KinderTownsModel", name := "in", desc := "(III)Z" } : Jvm.MethodName)) ∈ kt_GW := kt_q2g 172 rfl rfl
theorem tw_653 : (Jvm.Cond.code ({ cls := "KinderTownsModel", name := "in", desc := "(III)Z" } : Jvm.MethodName) prog_7_method_3_code (3 : Nat) (Option.some Jvm.ClassFile.FieldType.boolean)) ∈ kt_GW := kt_q2g 173 rfl rfl
theorem tw_654 : (Jvm.Cond.methodLink "KinderTownsModel" (111 : Nat) ({ cls := "KinderTownsModel", name := "makes", desc := "(IIIIII)I" } : Jvm.MethodName)) ∈ kt_GW := kt_q2g 174 rfl rfl
theorem tw_656 : (Jvm.Cond.instanceMethod ({ cls := "KinderTownsModel", name := "makes", desc := "(IIIIII)I" } : Jvm.MethodName)) ∈ kt_GW := kt_q2g 176 rfl rfl
theorem tw_657 : (Jvm.Cond.code ({ cls := "KinderTownsModel", name := "makes", desc := "(IIIIII)I" } : Jvm.MethodName) prog_7_method_22_code (8 : Nat) (Option.some Jvm.ClassFile.FieldType.int)) ∈ kt_GW := kt_q2g 177 rfl rfl
theorem tw_658 : (Jvm.Cond.methodLink "KinderTownsModel" (79 : Nat) ({ cls := "KinderTownsModel", name := "puts", desc := "(III)V" } : Jvm.MethodName)) ∈ kt_GW := kt_q2g 178 rfl rfl
theorem tw_660 : (Jvm.Cond.instanceMethod ({ cls := "KinderTownsModel", name := "puts", desc := "(III)V" } : Jvm.MethodName)) ∈ kt_GW := kt_q2g 180 rfl rfl
theorem tw_661 : (Jvm.Cond.code ({ cls := "KinderTownsModel", name := "puts", desc := "(III)V" } : Jvm.MethodName) prog_7_method_6_code (4 : Nat) (Option.none : Option Jvm.ClassFile.FieldType)) ∈ kt_GW := kt_q2g 181 rfl rfl
theorem tw_662 : (Jvm.Cond.methodLink "KinderTownsModel" (99 : Nat) ({ cls := "KinderTownsModel", name := "apologizes", desc := "(I)I" } : Jvm.MethodName)) ∈ kt_GW := kt_q2g 182 rfl rfl
theorem tw_664 : (Jvm.Cond.instanceMethod ({ cls := "KinderTownsModel", name := "apologizes", desc := "(I)I" } : Jvm.MethodName)) ∈ kt_GW := kt_q2g 184 rfl rfl
theorem tw_665 : (Jvm.Cond.code ({ cls := "KinderTownsModel", name := "apologizes", desc := "(I)I" } : Jvm.MethodName) prog_7_method_18_code (5 : Nat) (Option.some Jvm.ClassFile.FieldType.int)) ∈ kt_GW := kt_q2g 185 rfl rfl
theorem tw_666 : (Jvm.Cond.methodLink "KinderTownsLaw" (27 : Nat) ({ cls := "KinderTownsModel", name := "order", desc := "(IIII)I" } : Jvm.MethodName)) ∈ kt_GW := kt_q2g 186 rfl rfl
theorem tw_667 : (Jvm.Cond.instanceMethod ({ cls := "KinderTownsModel", name := "order", desc := "(IIII)I" } : Jvm.MethodName)) ∈ kt_GW := kt_q2g 187 rfl rfl
theorem tw_668 : (Jvm.Cond.selects "KinderTownsModel" ({ cls := "KinderTownsModel", name := "order", desc := "(IIII)I" } : Jvm.MethodName) ({ cls := "KinderTownsModel", name := "order", desc := "(IIII)I" } : Jvm.MethodName)) ∈ kt_GW := kt_q2g 188 rfl rfl
theorem tw_669 : (Jvm.Cond.code ({ cls := "KinderTownsModel", name := "order", desc := "(IIII)I" } : Jvm.MethodName) prog_7_method_24_code (5 : Nat) (Option.some Jvm.ClassFile.FieldType.int)) ∈ kt_GW := kt_q2g 189 rfl rfl
theorem tw_670 : (Jvm.Cond.methodLink "KinderTownsLaw" (32 : Nat) ({ cls := "KinderTownsModel", name := "cancel", desc := "(II)I" } : Jvm.MethodName)) ∈ kt_GW := kt_q2g 190 rfl rfl
theorem tw_671 : (Jvm.Cond.instanceMethod ({ cls := "KinderTownsModel", name := "cancel", desc := "(II)I" } : Jvm.MethodName)) ∈ kt_GW := kt_q2g 191 rfl rfl
theorem tw_672 : (Jvm.Cond.selects "KinderTownsModel" ({ cls := "KinderTownsModel", name := "cancel", desc := "(II)I" } : Jvm.MethodName) ({ cls := "KinderTownsModel", name := "cancel", desc := "(II)I" } : Jvm.MethodName)) ∈ kt_GW := kt_q2g 192 rfl rfl
theorem tw_673 : (Jvm.Cond.code ({ cls := "KinderTownsModel", name := "cancel", desc := "(II)I" } : Jvm.MethodName) prog_7_method_25_code (3 : Nat) (Option.some Jvm.ClassFile.FieldType.int)) ∈ kt_GW := kt_q2g 193 rfl rfl
theorem tw_674 : (Jvm.Cond.methodLink "KinderTownsModel" (115 : Nat) ({ cls := "KinderTownsModel", name := "isEvent", desc := "(I)Z" } : Jvm.MethodName)) ∈ kt_GW := kt_q2g 194 rfl rfl
theorem tw_676 : (Jvm.Cond.instanceMethod ({ cls := "KinderTownsModel", name := "isEvent", desc := "(I)Z" } : Jvm.MethodName)) ∈ kt_GW := kt_q2g 196 rfl rfl
theorem tw_677 : (Jvm.Cond.code ({ cls := "KinderTownsModel", name := "isEvent", desc := "(I)Z" } : Jvm.MethodName) prog_7_method_8_code (2 : Nat) (Option.some Jvm.ClassFile.FieldType.boolean)) ∈ kt_GW := kt_q2g 197 rfl rfl
theorem tw_678 : (Jvm.Cond.methodLink "KinderTownsLaw" (36 : Nat) ({ cls := "KinderTownsModel", name := "meet", desc := "(II)I" } : Jvm.MethodName)) ∈ kt_GW := kt_q2g 198 rfl rfl
theorem tw_679 : (Jvm.Cond.instanceMethod ({ cls := "KinderTownsModel", name := "meet", desc := "(II)I" } : Jvm.MethodName)) ∈ kt_GW := kt_q2g 199 rfl rfl
theorem tw_680 : (Jvm.Cond.selects "KinderTownsModel" ({ cls := "KinderTownsModel", name := "meet", desc := "(II)I" } : Jvm.MethodName) ({ cls := "KinderTownsModel", name := "meet", desc := "(II)I" } : Jvm.MethodName)) ∈ kt_GW := kt_q2g 200 rfl rfl
theorem tw_681 : (Jvm.Cond.code ({ cls := "KinderTownsModel", name := "meet", desc := "(II)I" } : Jvm.MethodName) prog_7_method_27_code (4 : Nat) (Option.some Jvm.ClassFile.FieldType.int)) ∈ kt_GW := kt_q2g 201 rfl rfl
theorem tw_682 : (Jvm.Cond.methodLink "KinderTownsModel" (118 : Nat) ({ cls := "KinderTownsModel", name := "hears", desc := "(IIZ)I" } : Jvm.MethodName)) ∈ kt_GW := kt_q2g 202 rfl rfl
theorem tw_684 : (Jvm.Cond.instanceMethod ({ cls := "KinderTownsModel", name := "hears", desc := "(IIZ)I" } : Jvm.MethodName)) ∈ kt_GW := kt_q2g 204 rfl rfl
theorem tw_685 : (Jvm.Cond.code ({ cls := "KinderTownsModel", name := "hears", desc := "(IIZ)I" } : Jvm.MethodName) prog_7_method_26_code (10 : Nat) (Option.some Jvm.ClassFile.FieldType.int)) ∈ kt_GW := kt_q2g 205 rfl rfl
theorem tw_686 : (Jvm.Cond.methodLink "KinderTownsLaw" (40 : Nat) ({ cls := "KinderTownsModel", name := "hear", desc := "(II)I" } : Jvm.MethodName)) ∈ kt_GW := kt_q2g 206 rfl rfl
theorem tw_687 : (Jvm.Cond.instanceMethod ({ cls := "KinderTownsModel", name := "hear", desc := "(II)I" } : Jvm.MethodName)) ∈ kt_GW := kt_q2g 207 rfl rfl
theorem tw_688 : (Jvm.Cond.selects "KinderTownsModel" ({ cls := "KinderTownsModel", name := "hear", desc := "(II)I" } : Jvm.MethodName) ({ cls := "KinderTownsModel", name := "hear", desc := "(II)I" } : Jvm.MethodName)) ∈ kt_GW := kt_q2g 208 rfl rfl
theorem tw_689 : (Jvm.Cond.code ({ cls := "KinderTownsModel", name := "hear", desc := "(II)I" } : Jvm.MethodName) prog_7_method_28_code (4 : Nat) (Option.some Jvm.ClassFile.FieldType.int)) ∈ kt_GW := kt_q2g 209 rfl rfl
theorem tw_690 : (Jvm.Cond.methodLink "KinderTownsLaw" (45 : Nat) ({ cls := "KinderTownsModel", name := "rule", desc := "(I)I" } : Jvm.MethodName)) ∈ kt_GW := kt_q2g 210 rfl rfl
theorem tw_691 : (Jvm.Cond.instanceMethod ({ cls := "KinderTownsModel", name := "rule", desc := "(I)I" } : Jvm.MethodName)) ∈ kt_GW := kt_q2g 211 rfl rfl
theorem tw_692 : (Jvm.Cond.selects "KinderTownsModel" ({ cls := "KinderTownsModel", name := "rule", desc := "(I)I" } : Jvm.MethodName) ({ cls := "KinderTownsModel", name := "rule", desc := "(I)I" } : Jvm.MethodName)) ∈ kt_GW := kt_q2g 212 rfl rfl
theorem tw_693 : (Jvm.Cond.code ({ cls := "KinderTownsModel", name := "rule", desc := "(I)I" } : Jvm.MethodName) prog_7_method_29_code (3 : Nat) (Option.some Jvm.ClassFile.FieldType.int)) ∈ kt_GW := kt_q2g 213 rfl rfl
theorem tw_694 : (Jvm.Cond.methodLink "KinderTownsLaw" (49 : Nat) ({ cls := "KinderTownsModel", name := "eventOf", desc := "(II)I" } : Jvm.MethodName)) ∈ kt_GW := kt_q2g 214 rfl rfl
theorem tw_695 : (Jvm.Cond.instanceMethod ({ cls := "KinderTownsModel", name := "eventOf", desc := "(II)I" } : Jvm.MethodName)) ∈ kt_GW := kt_q2g 215 rfl rfl
theorem tw_696 : (Jvm.Cond.selects "KinderTownsModel" ({ cls := "KinderTownsModel", name := "eventOf", desc := "(II)I" } : Jvm.MethodName) ({ cls := "KinderTownsModel", name := "eventOf", desc := "(II)I" } : Jvm.MethodName)) ∈ kt_GW := kt_q2g 216 rfl rfl
theorem tw_697 : (Jvm.Cond.code ({ cls := "KinderTownsModel", name := "eventOf", desc := "(II)I" } : Jvm.MethodName) prog_7_method_30_code (3 : Nat) (Option.some Jvm.ClassFile.FieldType.int)) ∈ kt_GW := kt_q2g 217 rfl rfl
theorem tw_698 : (Jvm.Cond.methodLink "KinderTownsLaw" (53 : Nat) ({ cls := "KinderTownsModel", name := "thinks", desc := "(II)I" } : Jvm.MethodName)) ∈ kt_GW := kt_q2g 218 rfl rfl
theorem tw_699 : (Jvm.Cond.instanceMethod ({ cls := "KinderTownsModel", name := "thinks", desc := "(II)I" } : Jvm.MethodName)) ∈ kt_GW := kt_q2g 219 rfl rfl
theorem tw_700 : (Jvm.Cond.selects "KinderTownsModel" ({ cls := "KinderTownsModel", name := "thinks", desc := "(II)I" } : Jvm.MethodName) ({ cls := "KinderTownsModel", name := "thinks", desc := "(II)I" } : Jvm.MethodName)) ∈ kt_GW := kt_q2g 220 rfl rfl
theorem tw_701 : (Jvm.Cond.code ({ cls := "KinderTownsModel", name := "thinks", desc := "(II)I" } : Jvm.MethodName) prog_7_method_31_code (3 : Nat) (Option.some Jvm.ClassFile.FieldType.int)) ∈ kt_GW := kt_q2g 221 rfl rfl
theorem tw_702 : (Jvm.Cond.methodLink "KinderTownsLaw" (57 : Nat) ({ cls := "KinderTownsModel", name := "townOf", desc := "(II)I" } : Jvm.MethodName)) ∈ kt_GW := kt_q2g 222 rfl rfl
theorem tw_703 : (Jvm.Cond.instanceMethod ({ cls := "KinderTownsModel", name := "townOf", desc := "(II)I" } : Jvm.MethodName)) ∈ kt_GW := kt_q2g 223 rfl rfl
theorem tw_704 : (Jvm.Cond.selects "KinderTownsModel" ({ cls := "KinderTownsModel", name := "townOf", desc := "(II)I" } : Jvm.MethodName) ({ cls := "KinderTownsModel", name := "townOf", desc := "(II)I" } : Jvm.MethodName)) ∈ kt_GW := kt_q2g 224 rfl rfl
theorem tw_705 : (Jvm.Cond.code ({ cls := "KinderTownsModel", name := "townOf", desc := "(II)I" } : Jvm.MethodName) prog_7_method_37_code (3 : Nat) (Option.some Jvm.ClassFile.FieldType.int)) ∈ kt_GW := kt_q2g 225 rfl rfl
theorem tw_706 : (Jvm.Cond.methodLink "KinderTownsModel" (122 : Nat) ({ cls := "KinderTownsModel", name := "knownBy", desc := "(I)I" } : Jvm.MethodName)) ∈ kt_GW := kt_q2g 226 rfl rfl
theorem tw_708 : (Jvm.Cond.instanceMethod ({ cls := "KinderTownsModel", name := "knownBy", desc := "(I)I" } : Jvm.MethodName)) ∈ kt_GW := kt_q2g 228 rfl rfl
theorem tw_709 : (Jvm.Cond.code ({ cls := "KinderTownsModel", name := "knownBy", desc := "(I)I" } : Jvm.MethodName) prog_7_method_33_code (4 : Nat) (Option.some Jvm.ClassFile.FieldType.int)) ∈ kt_GW := kt_q2g 229 rfl rfl
theorem tw_710 : (Jvm.Cond.methodLink "KinderTownsModel" (125 : Nat) ({ cls := "KinderTownsModel", name := "withStatus", desc := "(II)I" } : Jvm.MethodName)) ∈ kt_GW := kt_q2g 230 rfl rfl
theorem tw_712 : (Jvm.Cond.instanceMethod ({ cls := "KinderTownsModel", name := "withStatus", desc := "(II)I" } : Jvm.MethodName)) ∈ kt_GW := kt_q2g 232 rfl rfl
theorem tw_713 : (Jvm.Cond.code ({ cls := "KinderTownsModel", name := "withStatus", desc := "(II)I" } : Jvm.MethodName) prog_7_method_35_code (5 : Nat) (Option.some Jvm.ClassFile.FieldType.int)) ∈ kt_GW := kt_q2g 233 rfl rfl
theorem tw_714 : (Jvm.Cond.methodLink "KinderTownsModel" (128 : Nat) ({ cls := "KinderTownsModel", name := "\x73orry", desc := "(I)I" } : Jvm.MethodName)) ∈ kt_GW := kt_q2g 234 rfl rfl
theorem tw_716 : (Jvm.Cond.instanceMethod ({ cls := "KinderTownsModel", name := "\x73orry", desc := "(I)I" } : Jvm.MethodName)) ∈ kt_GW := kt_q2g 236 rfl rfl
theorem tw_717 : (Jvm.Cond.code ({ cls := "KinderTownsModel", name := "\x73orry", desc := "(I)I" } : Jvm.MethodName) prog_7_method_32_code (4 : Nat) (Option.some Jvm.ClassFile.FieldType.int)) ∈ kt_GW := kt_q2g 237 rfl rfl
theorem tw_718 : (Jvm.Cond.methodLink "KinderTownsModel" (131 : Nat) ({ cls := "KinderTownsModel", name := "madeIn", desc := "(I)I" } : Jvm.MethodName)) ∈ kt_GW := kt_q2g 238 rfl rfl
theorem tw_720 : (Jvm.Cond.instanceMethod ({ cls := "KinderTownsModel", name := "madeIn", desc := "(I)I" } : Jvm.MethodName)) ∈ kt_GW := kt_q3g 0 rfl rfl
theorem tw_721 : (Jvm.Cond.code ({ cls := "KinderTownsModel", name := "madeIn", desc := "(I)I" } : Jvm.MethodName) prog_7_method_34_code (4 : Nat) (Option.some Jvm.ClassFile.FieldType.int)) ∈ kt_GW := kt_q3g 1 rfl rfl
theorem tw_722 : (Jvm.Cond.methodLink "KinderTownsModel" (134 : Nat) ({ cls := "KinderTownsModel", name := "likes", desc := "(I)I" } : Jvm.MethodName)) ∈ kt_GW := kt_q3g 2 rfl rfl
theorem tw_724 : (Jvm.Cond.instanceMethod ({ cls := "KinderTownsModel", name := "likes", desc := "(I)I" } : Jvm.MethodName)) ∈ kt_GW := kt_q3g 4 rfl rfl
theorem tw_725 : (Jvm.Cond.code ({ cls := "KinderTownsModel", name := "likes", desc := "(I)I" } : Jvm.MethodName) prog_7_method_36_code (6 : Nat) (Option.some Jvm.ClassFile.FieldType.int)) ∈ kt_GW := kt_q3g 5 rfl rfl
theorem tw_726 : (Jvm.Cond.methodLink "KinderTownsLaw" (61 : Nat) ({ cls := "KinderTownsModel", name := "goodOf", desc := "(III)I" } : Jvm.MethodName)) ∈ kt_GW := kt_q3g 6 rfl rfl
theorem tw_727 : (Jvm.Cond.instanceMethod ({ cls := "KinderTownsModel", name := "goodOf", desc := "(III)I" } : Jvm.MethodName)) ∈ kt_GW := kt_q3g 7 rfl rfl
theorem tw_728 : (Jvm.Cond.selects "KinderTownsModel" ({ cls := "KinderTownsModel", name := "goodOf", desc := "(III)I" } : Jvm.MethodName) ({ cls := "KinderTownsModel", name := "goodOf", desc := "(III)I" } : Jvm.MethodName)) ∈ kt_GW := kt_q3g 8 rfl rfl
theorem tw_729 : (Jvm.Cond.code ({ cls := "KinderTownsModel", name := "goodOf", desc := "(III)I" } : Jvm.MethodName) prog_7_method_38_code (7 : Nat) (Option.some Jvm.ClassFile.FieldType.int)) ∈ kt_GW := kt_q3g 9 rfl rfl
theorem tw_730 : (Jvm.Cond.methodLink "KinderTownsLaw" (65 : Nat) ({ cls := "KinderTownsModel", name := "lookedAt", desc := "(III)I" } : Jvm.MethodName)) ∈ kt_GW := kt_q3g 10 rfl rfl
theorem tw_731 : (Jvm.Cond.instanceMethod ({ cls := "KinderTownsModel", name := "lookedAt", desc := "(III)I" } : Jvm.MethodName)) ∈ kt_GW := kt_q3g 11 rfl rfl
theorem tw_732 : (Jvm.Cond.selects "KinderTownsModel" ({ cls := "KinderTownsModel", name := "lookedAt", desc := "(III)I" } : Jvm.MethodName) ({ cls := "KinderTownsModel", name := "lookedAt", desc := "(III)I" } : Jvm.MethodName)) ∈ kt_GW := kt_q3g 12 rfl rfl
theorem tw_733 : (Jvm.Cond.code ({ cls := "KinderTownsModel", name := "lookedAt", desc := "(III)I" } : Jvm.MethodName) prog_7_method_39_code (4 : Nat) (Option.some Jvm.ClassFile.FieldType.int)) ∈ kt_GW := kt_q3g 13 rfl rfl
theorem tw_734 : (Jvm.Cond.methodLink "KinderTownsLaw" (69 : Nat) ({ cls := "KinderTownsModel", name := "personOf", desc := "(III)I" } : Jvm.MethodName)) ∈ kt_GW := kt_q3g 14 rfl rfl
theorem tw_735 : (Jvm.Cond.instanceMethod ({ cls := "KinderTownsModel", name := "personOf", desc := "(III)I" } : Jvm.MethodName)) ∈ kt_GW := kt_q3g 15 rfl rfl
theorem tw_736 : (Jvm.Cond.selects "KinderTownsModel" ({ cls := "KinderTownsModel", name := "personOf", desc := "(III)I" } : Jvm.MethodName) ({ cls := "KinderTownsModel", name := "personOf", desc := "(III)I" } : Jvm.MethodName)) ∈ kt_GW := kt_q3g 16 rfl rfl
theorem tw_737 : (Jvm.Cond.code ({ cls := "KinderTownsModel", name := "personOf", desc := "(III)I" } : Jvm.MethodName) prog_7_method_41_code (7 : Nat) (Option.some Jvm.ClassFile.FieldType.int)) ∈ kt_GW := kt_q3g 17 rfl rfl
theorem tw_738 : (Jvm.Cond.methodLink "KinderTownsModel" (137 : Nat) ({ cls := "KinderTownsModel", name := "bits", desc := "(I)I" } : Jvm.MethodName)) ∈ kt_GW := kt_q3g 18 rfl rfl
theorem tw_739 : (Jvm.Cond.static ({ cls := "KinderTownsModel", name := "bits", desc := "(I)I" } : Jvm.MethodName)) ∈ kt_GW := kt_q3g 19 rfl rfl
theorem tw_740 : (Jvm.Cond.code ({ cls := "KinderTownsModel", name := "bits", desc := "(I)I" } : Jvm.MethodName) prog_7_method_40_code (3 : Nat) (Option.some Jvm.ClassFile.FieldType.int)) ∈ kt_GW := kt_q3g 20 rfl rfl
theorem tw_741 : (Jvm.Cond.methodLink "KinderTownsLaw" (73 : Nat) ({ cls := "KinderTownsModel", name := "unheard", desc := "(II)I" } : Jvm.MethodName)) ∈ kt_GW := kt_q3g 21 rfl rfl
theorem tw_742 : (Jvm.Cond.instanceMethod ({ cls := "KinderTownsModel", name := "unheard", desc := "(II)I" } : Jvm.MethodName)) ∈ kt_GW := kt_q3g 22 rfl rfl
theorem tw_743 : (Jvm.Cond.selects "KinderTownsModel" ({ cls := "KinderTownsModel", name := "unheard", desc := "(II)I" } : Jvm.MethodName) ({ cls := "KinderTownsModel", name := "unheard", desc := "(II)I" } : Jvm.MethodName)) ∈ kt_GW := kt_q3g 23 rfl rfl
theorem tw_744 : (Jvm.Cond.code ({ cls := "KinderTownsModel", name := "unheard", desc := "(II)I" } : Jvm.MethodName) prog_7_method_42_code (5 : Nat) (Option.some Jvm.ClassFile.FieldType.int)) ∈ kt_GW := kt_q3g 24 rfl rfl
theorem tw_745 : (Jvm.Cond.methodLink "KinderTownsLaw" (77 : Nat) ({ cls := "KinderTownsModel", name := "count", desc := "(I)I" } : Jvm.MethodName)) ∈ kt_GW := kt_q3g 25 rfl rfl
theorem tw_746 : (Jvm.Cond.instanceMethod ({ cls := "KinderTownsModel", name := "count", desc := "(I)I" } : Jvm.MethodName)) ∈ kt_GW := kt_q3g 26 rfl rfl
theorem tw_747 : (Jvm.Cond.selects "KinderTownsModel" ({ cls := "KinderTownsModel", name := "count", desc := "(I)I" } : Jvm.MethodName) ({ cls := "KinderTownsModel", name := "count", desc := "(I)I" } : Jvm.MethodName)) ∈ kt_GW := kt_q3g 27 rfl rfl
theorem tw_748 : (Jvm.Cond.code ({ cls := "KinderTownsModel", name := "count", desc := "(I)I" } : Jvm.MethodName) prog_7_method_47_code (2 : Nat) (Option.some Jvm.ClassFile.FieldType.int)) ∈ kt_GW := kt_q3g 28 rfl rfl
theorem tw_749 : (Jvm.Cond.methodLink "KinderTownsModel" (140 : Nat) ({ cls := "KinderTownsModel", name := "ofKind", desc := "(I)I" } : Jvm.MethodName)) ∈ kt_GW := kt_q3g 29 rfl rfl
theorem tw_751 : (Jvm.Cond.instanceMethod ({ cls := "KinderTownsModel", name := "ofKind", desc := "(I)I" } : Jvm.MethodName)) ∈ kt_GW := kt_q3g 31 rfl rfl
theorem tw_752 : (Jvm.Cond.code ({ cls := "KinderTownsModel", name := "ofKind", desc := "(I)I" } : Jvm.MethodName) prog_7_method_43_code (4 : Nat) (Option.some Jvm.ClassFile.FieldType.int)) ∈ kt_GW := kt_q3g 32 rfl rfl
theorem tw_753 : (Jvm.Cond.methodLink "KinderTownsModel" (143 : Nat) ({ cls := "KinderTownsModel", name := "sorries", desc := "()I" } : Jvm.MethodName)) ∈ kt_GW := kt_q3g 33 rfl rfl
theorem tw_755 : (Jvm.Cond.instanceMethod ({ cls := "KinderTownsModel", name := "sorries", desc := "()I" } : Jvm.MethodName)) ∈ kt_GW := kt_q3g 35 rfl rfl
theorem tw_756 : (Jvm.Cond.code ({ cls := "KinderTownsModel", name := "sorries", desc := "()I" } : Jvm.MethodName) prog_7_method_45_code (3 : Nat) (Option.some Jvm.ClassFile.FieldType.int)) ∈ kt_GW := kt_q3g 36 rfl rfl
theorem tw_757 : (Jvm.Cond.methodLink "KinderTownsModel" (147 : Nat) ({ cls := "KinderTownsModel", name := "everyone", desc := "()I" } : Jvm.MethodName)) ∈ kt_GW := kt_q3g 37 rfl rfl
theorem tw_759 : (Jvm.Cond.instanceMethod ({ cls := "KinderTownsModel", name := "everyone", desc := "()I" } : Jvm.MethodName)) ∈ kt_GW := kt_q3g 39 rfl rfl
theorem tw_760 : (Jvm.Cond.code ({ cls := "KinderTownsModel", name := "everyone", desc := "()I" } : Jvm.MethodName) prog_7_method_46_code (1 : Nat) (Option.some Jvm.ClassFile.FieldType.int)) ∈ kt_GW := kt_q3g 40 rfl rfl
theorem tw_761 : (Jvm.Cond.methodLink "KinderTownsModel" (150 : Nat) ({ cls := "KinderTownsModel", name := "known", desc := "(I)I" } : Jvm.MethodName)) ∈ kt_GW := kt_q3g 41 rfl rfl
theorem tw_763 : (Jvm.Cond.instanceMethod ({ cls := "KinderTownsModel", name := "known", desc := "(I)I" } : Jvm.MethodName)) ∈ kt_GW := kt_q3g 43 rfl rfl
theorem tw_764 : (Jvm.Cond.code ({ cls := "KinderTownsModel", name := "known", desc := "(I)I" } : Jvm.MethodName) prog_7_method_44_code (4 : Nat) (Option.some Jvm.ClassFile.FieldType.int)) ∈ kt_GW := kt_q3g 44 rfl rfl
theorem tw_765 : (Jvm.Cond.methodLink "KinderTownsLaw" (81 : Nat) ({ cls := "KinderTownsModel", name := "would", desc := "(III)I" } : Jvm.MethodName)) ∈ kt_GW := kt_q3g 45 rfl rfl
theorem tw_766 : (Jvm.Cond.instanceMethod ({ cls := "KinderTownsModel", name := "would", desc := "(III)I" } : Jvm.MethodName)) ∈ kt_GW := kt_q3g 46 rfl rfl
theorem tw_767 : (Jvm.Cond.selects "KinderTownsModel" ({ cls := "KinderTownsModel", name := "would", desc := "(III)I" } : Jvm.MethodName) ({ cls := "KinderTownsModel", name := "would", desc := "(III)I" } : Jvm.MethodName)) ∈ kt_GW := kt_q3g 47 rfl rfl
theorem tw_768 : (Jvm.Cond.code ({ cls := "KinderTownsModel", name := "would", desc := "(III)I" } : Jvm.MethodName) prog_7_method_50_code (7 : Nat) (Option.some Jvm.ClassFile.FieldType.int)) ∈ kt_GW := kt_q3g 48 rfl rfl
theorem tw_769 : (Jvm.Cond.methodLink "KinderTownsModel" (156 : Nat) ({ cls := "KinderTownsModel", name := "copies", desc := "([I[I)V" } : Jvm.MethodName)) ∈ kt_GW := kt_q3g 49 rfl rfl
theorem tw_770 : (Jvm.Cond.static ({ cls := "KinderTownsModel", name := "copies", desc := "([I[I)V" } : Jvm.MethodName)) ∈ kt_GW := kt_q3g 50 rfl rfl
theorem tw_771 : (Jvm.Cond.code ({ cls := "KinderTownsModel", name := "copies", desc := "([I[I)V" } : Jvm.MethodName) prog_7_method_4_code (3 : Nat) (Option.none : Option Jvm.ClassFile.FieldType)) ∈ kt_GW := kt_q3g 51 rfl rfl
theorem tw_772 : (Jvm.Cond.methodLink "KinderTownsModel" (160 : Nat) ({ cls := "KinderTownsModel", name := "thinksBoth", desc := "(II)V" } : Jvm.MethodName)) ∈ kt_GW := kt_q3g 52 rfl rfl
theorem tw_774 : (Jvm.Cond.instanceMethod ({ cls := "KinderTownsModel", name := "thinksBoth", desc := "(II)V" } : Jvm.MethodName)) ∈ kt_GW := kt_q3g 54 rfl rfl
theorem tw_775 : (Jvm.Cond.code ({ cls := "KinderTownsModel", name := "thinksBoth", desc := "(II)V" } : Jvm.MethodName) prog_7_method_48_code (5 : Nat) (Option.none : Option Jvm.ClassFile.FieldType)) ∈ kt_GW := kt_q3g 55 rfl rfl
theorem tw_776 : (Jvm.Cond.methodLink "KinderTownsModel" (163 : Nat) ({ cls := "KinderTownsModel", name := "others", desc := "(II)I" } : Jvm.MethodName)) ∈ kt_GW := kt_q3g 56 rfl rfl
theorem tw_778 : (Jvm.Cond.instanceMethod ({ cls := "KinderTownsModel", name := "others", desc := "(II)I" } : Jvm.MethodName)) ∈ kt_GW := kt_q3g 58 rfl rfl
theorem tw_779 : (Jvm.Cond.code ({ cls := "KinderTownsModel", name := "others", desc := "(II)I" } : Jvm.MethodName) prog_7_method_49_code (8 : Nat) (Option.some Jvm.ClassFile.FieldType.int)) ∈ kt_GW := kt_q3g 59 rfl rfl
theorem tw_780 : (Jvm.Cond.methodLink "KinderTownsLaw" (85 : Nat) ({ cls := "KinderTownsModel", name := "wouldRule", desc := "(I)I" } : Jvm.MethodName)) ∈ kt_GW := kt_q3g 60 rfl rfl
theorem tw_781 : (Jvm.Cond.instanceMethod ({ cls := "KinderTownsModel", name := "wouldRule", desc := "(I)I" } : Jvm.MethodName)) ∈ kt_GW := kt_q3g 61 rfl rfl
theorem tw_782 : (Jvm.Cond.selects "KinderTownsModel" ({ cls := "KinderTownsModel", name := "wouldRule", desc := "(I)I" } : Jvm.MethodName) ({ cls := "KinderTownsModel", name := "wouldRule", desc := "(I)I" } : Jvm.MethodName)) ∈ kt_GW := kt_q3g 62 rfl rfl
theorem tw_783 : (Jvm.Cond.code ({ cls := "KinderTownsModel", name := "wouldRule", desc := "(I)I" } : Jvm.MethodName) prog_7_method_51_code (3 : Nat) (Option.some Jvm.ClassFile.FieldType.int)) ∈ kt_GW := kt_q3g 63 rfl rfl
theorem tw_784 : (Jvm.Cond.methodLink "KinderTownsLaw" (89 : Nat) ({ cls := "KinderTownsModel", name := "kindest", desc := "(I)I" } : Jvm.MethodName)) ∈ kt_GW := kt_q3g 64 rfl rfl
theorem tw_785 : (Jvm.Cond.instanceMethod ({ cls := "KinderTownsModel", name := "kindest", desc := "(I)I" } : Jvm.MethodName)) ∈ kt_GW := kt_q3g 65 rfl rfl
theorem tw_786 : (Jvm.Cond.selects "KinderTownsModel" ({ cls := "KinderTownsModel", name := "kindest", desc := "(I)I" } : Jvm.MethodName) ({ cls := "KinderTownsModel", name := "kindest", desc := "(I)I" } : Jvm.MethodName)) ∈ kt_GW := kt_q3g 66 rfl rfl
theorem tw_787 : (Jvm.Cond.code ({ cls := "KinderTownsModel", name := "kindest", desc := "(I)I" } : Jvm.MethodName) prog_7_method_53_code (7 : Nat) (Option.some Jvm.ClassFile.FieldType.int)) ∈ kt_GW := kt_q3g 67 rfl rfl
theorem tw_788 : (Jvm.Cond.methodLink "KinderTownsModel" (166 : Nat) ({ cls := "KinderTownsModel", name := "happy", desc := "()I" } : Jvm.MethodName)) ∈ kt_GW := kt_q3g 68 rfl rfl
theorem tw_790 : (Jvm.Cond.instanceMethod ({ cls := "KinderTownsModel", name := "happy", desc := "()I" } : Jvm.MethodName)) ∈ kt_GW := kt_q3g 70 rfl rfl
theorem tw_791 : (Jvm.Cond.code ({ cls := "KinderTownsModel", name := "happy", desc := "()I" } : Jvm.MethodName) prog_7_method_52_code (4 : Nat) (Option.some Jvm.ClassFile.FieldType.int)) ∈ kt_GW := kt_q3g 71 rfl rfl
theorem tw_792 : (Jvm.Cond.methodLink "KinderTownsLaw" (93 : Nat) ({ cls := "KinderTownsModel", name := "rounds", desc := "()I" } : Jvm.MethodName)) ∈ kt_GW := kt_q3g 72 rfl rfl
theorem tw_793 : (Jvm.Cond.instanceMethod ({ cls := "KinderTownsModel", name := "rounds", desc := "()I" } : Jvm.MethodName)) ∈ kt_GW := kt_q3g 73 rfl rfl
theorem tw_794 : (Jvm.Cond.selects "KinderTownsModel" ({ cls := "KinderTownsModel", name := "rounds", desc := "()I" } : Jvm.MethodName) ({ cls := "KinderTownsModel", name := "rounds", desc := "()I" } : Jvm.MethodName)) ∈ kt_GW := kt_q3g 74 rfl rfl
theorem tw_795 : (Jvm.Cond.code ({ cls := "KinderTownsModel", name := "rounds", desc := "()I" } : Jvm.MethodName) prog_7_method_54_code (3 : Nat) (Option.some Jvm.ClassFile.FieldType.int)) ∈ kt_GW := kt_q3g 75 rfl rfl
theorem tw_796 : (Jvm.Cond.methodLink "KinderTownsLaw" (97 : Nat) ({ cls := "KinderTownsModel", name := "undo", desc := "()I" } : Jvm.MethodName)) ∈ kt_GW := kt_q3g 76 rfl rfl
theorem tw_797 : (Jvm.Cond.instanceMethod ({ cls := "KinderTownsModel", name := "undo", desc := "()I" } : Jvm.MethodName)) ∈ kt_GW := kt_q3g 77 rfl rfl
theorem tw_798 : (Jvm.Cond.selects "KinderTownsModel" ({ cls := "KinderTownsModel", name := "undo", desc := "()I" } : Jvm.MethodName) ({ cls := "KinderTownsModel", name := "undo", desc := "()I" } : Jvm.MethodName)) ∈ kt_GW := kt_q3g 78 rfl rfl
theorem tw_799 : (Jvm.Cond.code ({ cls := "KinderTownsModel", name := "undo", desc := "()I" } : Jvm.MethodName) prog_7_method_55_code (2 : Nat) (Option.some Jvm.ClassFile.FieldType.int)) ∈ kt_GW := kt_q3g 79 rfl rfl
theorem tw_800 : (Jvm.Cond.methodLink "KinderTownsLaw" (101 : Nat) ({ cls := "KinderTownsModel", name := "type", desc := "(I)I" } : Jvm.MethodName)) ∈ kt_GW := kt_q3g 80 rfl rfl
theorem tw_801 : (Jvm.Cond.instanceMethod ({ cls := "KinderTownsModel", name := "type", desc := "(I)I" } : Jvm.MethodName)) ∈ kt_GW := kt_q3g 81 rfl rfl
theorem tw_802 : (Jvm.Cond.selects "KinderTownsModel" ({ cls := "KinderTownsModel", name := "type", desc := "(I)I" } : Jvm.MethodName) ({ cls := "KinderTownsModel", name := "type", desc := "(I)I" } : Jvm.MethodName)) ∈ kt_GW := kt_q3g 82 rfl rfl
theorem tw_803 : (Jvm.Cond.code ({ cls := "KinderTownsModel", name := "type", desc := "(I)I" } : Jvm.MethodName) prog_7_method_56_code (2 : Nat) (Option.some Jvm.ClassFile.FieldType.int)) ∈ kt_GW := kt_q3g 83 rfl rfl
theorem tw_804 : (Jvm.Cond.methodLink "KinderTownsLaw" (105 : Nat) ({ cls := "KinderTownsModel", name := "clearText", desc := "()I" } : Jvm.MethodName)) ∈ kt_GW := kt_q3g 84 rfl rfl
theorem tw_805 : (Jvm.Cond.instanceMethod ({ cls := "KinderTownsModel", name := "clearText", desc := "()I" } : Jvm.MethodName)) ∈ kt_GW := kt_q3g 85 rfl rfl
theorem tw_806 : (Jvm.Cond.selects "KinderTownsModel" ({ cls := "KinderTownsModel", name := "clearText", desc := "()I" } : Jvm.MethodName) ({ cls := "KinderTownsModel", name := "clearText", desc := "()I" } : Jvm.MethodName)) ∈ kt_GW := kt_q3g 86 rfl rfl
theorem tw_807 : (Jvm.Cond.code ({ cls := "KinderTownsModel", name := "clearText", desc := "()I" } : Jvm.MethodName) prog_7_method_57_code (2 : Nat) (Option.some Jvm.ClassFile.FieldType.int)) ∈ kt_GW := kt_q3g 87 rfl rfl
theorem tw_808 : (Jvm.Cond.methodLink "KinderTownsLaw" (109 : Nat) ({ cls := "KinderTownsModel", name := "fault", desc := "(I)I" } : Jvm.MethodName)) ∈ kt_GW := kt_q3g 88 rfl rfl
theorem tw_809 : (Jvm.Cond.instanceMethod ({ cls := "KinderTownsModel", name := "fault", desc := "(I)I" } : Jvm.MethodName)) ∈ kt_GW := kt_q3g 89 rfl rfl
theorem tw_810 : (Jvm.Cond.selects "KinderTownsModel" ({ cls := "KinderTownsModel", name := "fault", desc := "(I)I" } : Jvm.MethodName) ({ cls := "KinderTownsModel", name := "fault", desc := "(I)I" } : Jvm.MethodName)) ∈ kt_GW := kt_q3g 90 rfl rfl
theorem tw_811 : (Jvm.Cond.code ({ cls := "KinderTownsModel", name := "fault", desc := "(I)I" } : Jvm.MethodName) prog_7_method_63_code (3 : Nat) (Option.some Jvm.ClassFile.FieldType.int)) ∈ kt_GW := kt_q3g 91 rfl rfl
theorem tw_812 : (Jvm.Cond.methodLink "KinderTownsModel" (210 : Nat) ({ cls := "KinderTownsModel", name := "plays", desc := "()I" } : Jvm.MethodName)) ∈ kt_GW := kt_q3g 92 rfl rfl
theorem tw_814 : (Jvm.Cond.instanceMethod ({ cls := "KinderTownsModel", name := "plays", desc := "()I" } : Jvm.MethodName)) ∈ kt_GW := kt_q3g 94 rfl rfl
theorem tw_815 : (Jvm.Cond.code ({ cls := "KinderTownsModel", name := "plays", desc := "()I" } : Jvm.MethodName) prog_7_method_62_code (6 : Nat) (Option.some Jvm.ClassFile.FieldType.int)) ∈ kt_GW := kt_q3g 95 rfl rfl
theorem tw_816 : (Jvm.Cond.methodLink "KinderTownsModel" (201 : Nat) ({ cls := "KinderTownsModel", name := "numbersOf", desc := "(I)I" } : Jvm.MethodName)) ∈ kt_GW := kt_q3g 96 rfl rfl
theorem tw_817 : (Jvm.Cond.static ({ cls := "KinderTownsModel", name := "numbersOf", desc := "(I)I" } : Jvm.MethodName)) ∈ kt_GW := kt_q3g 97 rfl rfl
theorem tw_818 : (Jvm.Cond.code ({ cls := "KinderTownsModel", name := "numbersOf", desc := "(I)I" } : Jvm.MethodName) prog_7_method_60_code (1 : Nat) (Option.some Jvm.ClassFile.FieldType.int)) ∈ kt_GW := kt_q3g 98 rfl rfl
theorem tw_819 : (Jvm.Cond.methodLink "KinderTownsModel" (204 : Nat) ({ cls := "KinderTownsModel", name := "number", desc := "(II)Z" } : Jvm.MethodName)) ∈ kt_GW := kt_q3g 99 rfl rfl
theorem tw_821 : (Jvm.Cond.instanceMethod ({ cls := "KinderTownsModel", name := "number", desc := "(II)Z" } : Jvm.MethodName)) ∈ kt_GW := kt_q3g 101 rfl rfl
theorem tw_822 : (Jvm.Cond.code ({ cls := "KinderTownsModel", name := "number", desc := "(II)Z" } : Jvm.MethodName) prog_7_method_59_code (5 : Nat) (Option.some Jvm.ClassFile.FieldType.boolean)) ∈ kt_GW := kt_q3g 102 rfl rfl
theorem tw_823 : (Jvm.Cond.methodLink "KinderTownsModel" (172 : Nat) ({ cls := "KinderTownsModel", name := "isAt", desc := "(II)Z" } : Jvm.MethodName)) ∈ kt_GW := kt_q3g 103 rfl rfl
theorem tw_825 : (Jvm.Cond.instanceMethod ({ cls := "KinderTownsModel", name := "isAt", desc := "(II)Z" } : Jvm.MethodName)) ∈ kt_GW := kt_q3g 105 rfl rfl
theorem tw_826 : (Jvm.Cond.code ({ cls := "KinderTownsModel", name := "isAt", desc := "(II)Z" } : Jvm.MethodName) prog_7_method_58_code (3 : Nat) (Option.some Jvm.ClassFile.FieldType.boolean)) ∈ kt_GW := kt_q3g 106 rfl rfl
theorem tw_827 : (Jvm.Cond.methodLink "KinderTownsModel" (207 : Nat) ({ cls := "KinderTownsModel", name := "calls", desc := "(I)I" } : Jvm.MethodName)) ∈ kt_GW := kt_q3g 107 rfl rfl
theorem tw_829 : (Jvm.Cond.instanceMethod ({ cls := "KinderTownsModel", name := "calls", desc := "(I)I" } : Jvm.MethodName)) ∈ kt_GW := kt_q3g 109 rfl rfl
theorem tw_830 : (Jvm.Cond.code ({ cls := "KinderTownsModel", name := "calls", desc := "(I)I" } : Jvm.MethodName) prog_7_method_61_code (2 : Nat) (Option.some Jvm.ClassFile.FieldType.int)) ∈ kt_GW := kt_q3g 110 rfl rfl
theorem tw_831 : (Jvm.Cond.methodLink "KinderTownsModel" (175 : Nat) ({ cls := "KinderTownsModel", name := "deliver", desc := "(III)I" } : Jvm.MethodName)) ∈ kt_GW := kt_q3g 111 rfl rfl
theorem tw_832 : (Jvm.Cond.methodLink "KinderTownsModel" (179 : Nat) ({ cls := "KinderTownsModel", name := "order", desc := "(IIII)I" } : Jvm.MethodName)) ∈ kt_GW := kt_q3g 112 rfl rfl
theorem tw_833 : (Jvm.Cond.methodLink "KinderTownsModel" (183 : Nat) ({ cls := "KinderTownsModel", name := "cancel", desc := "(II)I" } : Jvm.MethodName)) ∈ kt_GW := kt_q3g 113 rfl rfl
theorem tw_834 : (Jvm.Cond.methodLink "KinderTownsModel" (186 : Nat) ({ cls := "KinderTownsModel", name := "meet", desc := "(II)I" } : Jvm.MethodName)) ∈ kt_GW := kt_q3g 114 rfl rfl
theorem tw_835 : (Jvm.Cond.methodLink "KinderTownsModel" (189 : Nat) ({ cls := "KinderTownsModel", name := "hear", desc := "(II)I" } : Jvm.MethodName)) ∈ kt_GW := kt_q3g 115 rfl rfl
theorem tw_836 : (Jvm.Cond.methodLink "KinderTownsModel" (192 : Nat) ({ cls := "KinderTownsModel", name := "rule", desc := "(I)I" } : Jvm.MethodName)) ∈ kt_GW := kt_q3g 116 rfl rfl
theorem tw_837 : (Jvm.Cond.methodLink "KinderTownsLaw" (113 : Nat) ({ cls := "KinderTownsModel", name := "play", desc := "()I" } : Jvm.MethodName)) ∈ kt_GW := kt_q3g 117 rfl rfl
theorem tw_838 : (Jvm.Cond.instanceMethod ({ cls := "KinderTownsModel", name := "play", desc := "()I" } : Jvm.MethodName)) ∈ kt_GW := kt_q3g 118 rfl rfl
theorem tw_839 : (Jvm.Cond.selects "KinderTownsModel" ({ cls := "KinderTownsModel", name := "play", desc := "()I" } : Jvm.MethodName) ({ cls := "KinderTownsModel", name := "play", desc := "()I" } : Jvm.MethodName)) ∈ kt_GW := kt_q3g 119 rfl rfl
theorem tw_840 : (Jvm.Cond.code ({ cls := "KinderTownsModel", name := "play", desc := "()I" } : Jvm.MethodName) prog_7_method_64_code (2 : Nat) (Option.some Jvm.ClassFile.FieldType.int)) ∈ kt_GW := kt_q3g 120 rfl rfl
theorem tp_0 : Cond.selects "KinderTowns$Country" ⟨"KinderTowns$Country", "copyFrom", "(LKinderTowns$Country;)V"⟩ ⟨"KinderTowns$Country", "copyFrom", "(LKinderTowns$Country;)V"⟩ ∈ kt_GW := kt_gw 0 rfl rfl
theorem tp_1 : Cond.selects "KinderTowns$Events" ⟨"KinderTowns$Events", "copyFrom", "(LKinderTowns$Events;)V"⟩ ⟨"KinderTowns$Events", "copyFrom", "(LKinderTowns$Events;)V"⟩ ∈ kt_GW := kt_gw 1 rfl rfl
theorem tp_2 : Cond.selects "KinderTowns$Country" ⟨"KinderTowns$Country", "addTown", "()I"⟩ ⟨"KinderTowns$Country", "addTown", "()I"⟩ ∈ kt_GW := kt_gw 2 rfl rfl
theorem tp_3 : Cond.selects "KinderTowns" ⟨"KinderTowns", "recorded", "(I)I"⟩ ⟨"KinderTowns", "recorded", "(I)I"⟩ ∈ kt_GW := kt_gw 3 rfl rfl
theorem tp_4 : Cond.selects "KinderTowns$Country" ⟨"KinderTowns$Country", "thinkAnew", "()V"⟩ ⟨"KinderTowns$Country", "thinkAnew", "()V"⟩ ∈ kt_GW := kt_gw 4 rfl rfl
theorem tp_5 : Cond.selects "KinderTowns$Looking" ⟨"KinderTowns$Looking", "lookAtAll", "(LKinderTowns$Events;JI)V"⟩ ⟨"KinderTowns$Looking", "lookAtAll", "(LKinderTowns$Events;JI)V"⟩ ∈ kt_GW := kt_gw 5 rfl rfl
theorem tp_6 : Cond.selects "KinderTowns$Events" ⟨"KinderTowns$Events", "standingIn", "(J)J"⟩ ⟨"KinderTowns$Events", "standingIn", "(J)J"⟩ ∈ kt_GW := kt_gw 6 rfl rfl
theorem tp_7 : Cond.selects "KinderTowns$Events" ⟨"KinderTowns$Events", "cancelledIn", "(J)J"⟩ ⟨"KinderTowns$Events", "cancelledIn", "(J)J"⟩ ∈ kt_GW := kt_gw 7 rfl rfl
theorem tp_8 : Cond.selects "KinderTowns$Looking" ⟨"KinderTowns$Looking", "lookAtGood", "(LKinderTowns$Events;JII)V"⟩ ⟨"KinderTowns$Looking", "lookAtGood", "(LKinderTowns$Events;JII)V"⟩ ∈ kt_GW := kt_gw 8 rfl rfl
theorem tp_9 : Cond.selects "KinderTowns$Looking" ⟨"KinderTowns$Looking", "gather", "(LKinderTowns$Events;JI)V"⟩ ⟨"KinderTowns$Looking", "gather", "(LKinderTowns$Events;JI)V"⟩ ∈ kt_GW := kt_gw 9 rfl rfl
theorem tp_10 : Cond.selects "KinderTowns$Looking" ⟨"KinderTowns$Looking", "nextPlace", "(LKinderTowns$Events;II)I"⟩ ⟨"KinderTowns$Looking", "nextPlace", "(LKinderTowns$Events;II)I"⟩ ∈ kt_GW := kt_gw 10 rfl rfl
theorem tp_11 : Cond.selects "KinderTowns$Looking" ⟨"KinderTowns$Looking", "weight", "(LKinderTowns$Events;II)I"⟩ ⟨"KinderTowns$Looking", "weight", "(LKinderTowns$Events;II)I"⟩ ∈ kt_GW := kt_gw 11 rfl rfl
theorem tp_12 : Cond.selects "KinderTowns$Looking" ⟨"KinderTowns$Looking", "decide", "(III)V"⟩ ⟨"KinderTowns$Looking", "decide", "(III)V"⟩ ∈ kt_GW := kt_gw 12 rfl rfl
theorem tp_13 : Cond.selects "KinderTowns" ⟨"KinderTowns", "keepSpare", "()V"⟩ ⟨"KinderTowns", "keepSpare", "()V"⟩ ∈ kt_GW := kt_gw 13 rfl rfl
theorem tp_14 : Cond.selects "KinderTowns$Country" ⟨"KinderTowns$Country", "makeDelivery", "(III)I"⟩ ⟨"KinderTowns$Country", "makeDelivery", "(III)I"⟩ ∈ kt_GW := kt_gw 14 rfl rfl
theorem tp_15 : Cond.selects "KinderTowns$Country" ⟨"KinderTowns$Country", "isTown", "(I)Z"⟩ ⟨"KinderTowns$Country", "isTown", "(I)Z"⟩ ∈ kt_GW := kt_gw 15 rfl rfl
theorem tp_16 : Cond.selects "KinderTowns$Country" ⟨"KinderTowns$Country", "make", "(IIII)I"⟩ ⟨"KinderTowns$Country", "make", "(IIII)I"⟩ ∈ kt_GW := kt_gw 16 rfl rfl
theorem tp_17 : Cond.selects "KinderTowns$Events" ⟨"KinderTowns$Events", "add", "(IIIII)I"⟩ ⟨"KinderTowns$Events", "add", "(IIIII)I"⟩ ∈ kt_GW := kt_gw 17 rfl rfl
theorem tp_18 : Cond.selects "KinderTowns$Country" ⟨"KinderTowns$Country", "makeOrder", "(IIII)I"⟩ ⟨"KinderTowns$Country", "makeOrder", "(IIII)I"⟩ ∈ kt_GW := kt_gw 18 rfl rfl
theorem tp_19 : Cond.selects "KinderTowns$Country" ⟨"KinderTowns$Country", "makeCancellation", "(II)I"⟩ ⟨"KinderTowns$Country", "makeCancellation", "(II)I"⟩ ∈ kt_GW := kt_gw 19 rfl rfl
theorem tp_20 : Cond.selects "KinderTowns$Events" ⟨"KinderTowns$Events", "isOrder", "(I)Z"⟩ ⟨"KinderTowns$Events", "isOrder", "(I)Z"⟩ ∈ kt_GW := kt_gw 20 rfl rfl
theorem tp_21 : Cond.selects "KinderTowns$Country" ⟨"KinderTowns$Country", "letMeet", "(II)I"⟩ ⟨"KinderTowns$Country", "letMeet", "(II)I"⟩ ∈ kt_GW := kt_gw 21 rfl rfl
theorem tp_22 : Cond.selects "KinderTowns$Country" ⟨"KinderTowns$Country", "letHear", "(II)I"⟩ ⟨"KinderTowns$Country", "letHear", "(II)I"⟩ ∈ kt_GW := kt_gw 22 rfl rfl
theorem tp_23 : Cond.selects "KinderTowns$Country" ⟨"KinderTowns$Country", "newsFor", "(IJ)I"⟩ ⟨"KinderTowns$Country", "newsFor", "(IJ)I"⟩ ∈ kt_GW := kt_gw 23 rfl rfl
theorem tp_24 : Cond.selects "KinderTowns$Country" ⟨"KinderTowns$Country", "setRule", "(I)I"⟩ ⟨"KinderTowns$Country", "setRule", "(I)I"⟩ ∈ kt_GW := kt_gw 24 rfl rfl
theorem tp_25 : Cond.selects "KinderTowns$Country" ⟨"KinderTowns$Country", "townsWith", "([JI)I"⟩ ⟨"KinderTowns$Country", "townsWith", "([JI)I"⟩ ∈ kt_GW := kt_gw 25 rfl rfl
theorem tp_26 : Cond.selects "KinderTowns$Events" ⟨"KinderTowns$Events", "having", "([II)J"⟩ ⟨"KinderTowns$Events", "having", "([II)J"⟩ ∈ kt_GW := kt_gw 26 rfl rfl
theorem tp_27 : Cond.selects "KinderTowns$Country" ⟨"KinderTowns$Country", "townsThatKnow", "(J)I"⟩ ⟨"KinderTowns$Country", "townsThatKnow", "(J)I"⟩ ∈ kt_GW := kt_gw 27 rfl rfl
theorem tp_28 : Cond.selects "KinderTowns$Events" ⟨"KinderTowns$Events", "piecesOf", "(J)I"⟩ ⟨"KinderTowns$Events", "piecesOf", "(J)I"⟩ ∈ kt_GW := kt_gw 28 rfl rfl
theorem tp_29 : Cond.selects "KinderTowns$Country" ⟨"KinderTowns$Country", "apologiesFor", "(J)I"⟩ ⟨"KinderTowns$Country", "apologiesFor", "(J)I"⟩ ∈ kt_GW := kt_gw 29 rfl rfl
theorem tp_30 : Cond.selects "KinderTowns$Events" ⟨"KinderTowns$Events", "all", "()J"⟩ ⟨"KinderTowns$Events", "all", "()J"⟩ ∈ kt_GW := kt_gw 30 rfl rfl
theorem tp_31 : Cond.selects "KinderTowns$Country" ⟨"KinderTowns$Country", "knownByAll", "()J"⟩ ⟨"KinderTowns$Country", "knownByAll", "()J"⟩ ∈ kt_GW := kt_gw 31 rfl rfl
theorem tp_32 : Cond.selects "KinderTowns$Country" ⟨"KinderTowns$Country", "allKnowTheSame", "()Z"⟩ ⟨"KinderTowns$Country", "allKnowTheSame", "()Z"⟩ ∈ kt_GW := kt_gw 32 rfl rfl
theorem tp_33 : Cond.selects "KinderTowns" ⟨"KinderTowns", "newApologies", "()I"⟩ ⟨"KinderTowns", "newApologies", "()I"⟩ ∈ kt_GW := kt_gw 33 rfl rfl
theorem tp_34 : Cond.selects "KinderTowns" ⟨"KinderTowns", "otherThoughts", "(I)J"⟩ ⟨"KinderTowns", "otherThoughts", "(I)J"⟩ ∈ kt_GW := kt_gw 34 rfl rfl
theorem tp_35 : Cond.selects "KinderTowns$Events" ⟨"KinderTowns$Events", "goodsOf", "(J)I"⟩ ⟨"KinderTowns$Events", "goodsOf", "(J)I"⟩ ∈ kt_GW := kt_gw 35 rfl rfl
theorem tp_36 : Cond.selects "KinderTowns$Events" ⟨"KinderTowns$Events", "personsIn", "(J)I"⟩ ⟨"KinderTowns$Events", "personsIn", "(J)I"⟩ ∈ kt_GW := kt_gw 36 rfl rfl
theorem tp_37 : Cond.selects "KinderTowns$Country" ⟨"KinderTowns$Country", "meetInTurn", "()V"⟩ ⟨"KinderTowns$Country", "meetInTurn", "()V"⟩ ∈ kt_GW := kt_gw 37 rfl rfl
theorem tp_38 : Cond.selects "KinderTowns$Script" ⟨"KinderTowns$Script", "runOn", "(LKinderTowns$Country;)V"⟩ ⟨"KinderTowns$Script", "runOn", "(LKinderTowns$Country;)V"⟩ ∈ kt_GW := kt_gw 38 rfl rfl
theorem tp_39 : Cond.selects "KinderTowns$Script" ⟨"KinderTowns$Script", "read", "(I)I"⟩ ⟨"KinderTowns$Script", "read", "(I)I"⟩ ∈ kt_GW := kt_gw 39 rfl rfl
theorem tp_40 : Cond.selects "KinderTowns$Script" ⟨"KinderTowns$Script", "signAt", "(I)I"⟩ ⟨"KinderTowns$Script", "signAt", "(I)I"⟩ ∈ kt_GW := kt_gw 40 rfl rfl
theorem tp_41 : Cond.selects "KinderTowns$Script" ⟨"KinderTowns$Script", "digitsAt", "(I)I"⟩ ⟨"KinderTowns$Script", "digitsAt", "(I)I"⟩ ∈ kt_GW := kt_gw 41 rfl rfl
theorem tp_42 : Cond.selects "KinderTowns$Script" ⟨"KinderTowns$Script", "isDigit", "(I)Z"⟩ ⟨"KinderTowns$Script", "isDigit", "(I)Z"⟩ ∈ kt_GW := kt_gw 42 rfl rfl
theorem tp_43 : Cond.selects "KinderTowns$Script" ⟨"KinderTowns$Script", "digit", "(I)I"⟩ ⟨"KinderTowns$Script", "digit", "(I)I"⟩ ∈ kt_GW := kt_gw 43 rfl rfl
theorem tp_44 : Cond.selects "KinderTowns$Script" ⟨"KinderTowns$Script", "doCommand", "(LKinderTowns$Country;I)I"⟩ ⟨"KinderTowns$Script", "doCommand", "(LKinderTowns$Country;I)I"⟩ ∈ kt_GW := kt_gw 44 rfl rfl
theorem tp_45 : Cond.selects "KinderTownsModel" ⟨"KinderTownsModel", "changes", "()V"⟩ ⟨"KinderTownsModel", "changes", "()V"⟩ ∈ kt_GW := kt_gw 45 rfl rfl
theorem tp_46 : Cond.selects "KinderTownsModel" ⟨"KinderTownsModel", "records", "()V"⟩ ⟨"KinderTownsModel", "records", "()V"⟩ ∈ kt_GW := kt_gw 46 rfl rfl
theorem tp_47 : Cond.selects "KinderTownsModel" ⟨"KinderTownsModel", "remembers", "()V"⟩ ⟨"KinderTownsModel", "remembers", "()V"⟩ ∈ kt_GW := kt_gw 47 rfl rfl
theorem tp_48 : Cond.selects "KinderTownsModel" ⟨"KinderTownsModel", "thinksAll", "(I)V"⟩ ⟨"KinderTownsModel", "thinksAll", "(I)V"⟩ ∈ kt_GW := kt_gw 48 rfl rfl
theorem tp_49 : Cond.selects "KinderTownsModel" ⟨"KinderTownsModel", "thinksOf", "(I)V"⟩ ⟨"KinderTownsModel", "thinksOf", "(I)V"⟩ ∈ kt_GW := kt_gw 49 rfl rfl
theorem tp_50 : Cond.selects "KinderTownsModel" ⟨"KinderTownsModel", "of", "(II)I"⟩ ⟨"KinderTownsModel", "of", "(II)I"⟩ ∈ kt_GW := kt_gw 50 rfl rfl
theorem tp_51 : Cond.selects "KinderTownsModel" ⟨"KinderTownsModel", "knows", "(II)Z"⟩ ⟨"KinderTownsModel", "knows", "(II)Z"⟩ ∈ kt_GW := kt_gw 51 rfl rfl
theorem tp_52 : Cond.selects "KinderTownsModel" ⟨"KinderTownsModel", "isCancelled", "(II)Z"⟩ ⟨"KinderTownsModel", "isCancelled", "(II)Z"⟩ ∈ kt_GW := kt_gw 52 rfl rfl
theorem tp_53 : Cond.selects "KinderTownsModel" ⟨"KinderTownsModel", "looks", "(II)V"⟩ ⟨"KinderTownsModel", "looks", "(II)V"⟩ ∈ kt_GW := kt_gw 53 rfl rfl
theorem tp_54 : Cond.selects "KinderTownsModel" ⟨"KinderTownsModel", "stock", "(II)I"⟩ ⟨"KinderTownsModel", "stock", "(II)I"⟩ ∈ kt_GW := kt_gw 54 rfl rfl
theorem tp_55 : Cond.selects "KinderTownsModel" ⟨"KinderTownsModel", "isAhead", "(II)Z"⟩ ⟨"KinderTownsModel", "isAhead", "(II)Z"⟩ ∈ kt_GW := kt_gw 55 rfl rfl
theorem tp_56 : Cond.selects "KinderTownsModel" ⟨"KinderTownsModel", "isEarlier", "(II)Z"⟩ ⟨"KinderTownsModel", "isEarlier", "(II)Z"⟩ ∈ kt_GW := kt_gw 56 rfl rfl
theorem tp_57 : Cond.selects "KinderTownsModel" ⟨"KinderTownsModel", "isTown", "(I)Z"⟩ ⟨"KinderTownsModel", "isTown", "(I)Z"⟩ ∈ kt_GW := kt_gw 57 rfl rfl
theorem tp_58 : Cond.selects "KinderTownsModel" ⟨"KinderTownsModel", "makes", "(IIIIII)I"⟩ ⟨"KinderTownsModel", "makes", "(IIIIII)I"⟩ ∈ kt_GW := kt_gw 58 rfl rfl
theorem tp_59 : Cond.selects "KinderTownsModel" ⟨"KinderTownsModel", "puts", "(III)V"⟩ ⟨"KinderTownsModel", "puts", "(III)V"⟩ ∈ kt_GW := kt_gw 59 rfl rfl
theorem tp_60 : Cond.selects "KinderTownsModel" ⟨"KinderTownsModel", "apologizes", "(I)I"⟩ ⟨"KinderTownsModel", "apologizes", "(I)I"⟩ ∈ kt_GW := kt_gw 60 rfl rfl
theorem tp_61 : Cond.selects "KinderTownsModel" ⟨"KinderTownsModel", "isEvent", "(I)Z"⟩ ⟨"KinderTownsModel", "isEvent", "(I)Z"⟩ ∈ kt_GW := kt_gw 61 rfl rfl
theorem tp_62 : Cond.selects "KinderTownsModel" ⟨"KinderTownsModel", "hears", "(IIZ)I"⟩ ⟨"KinderTownsModel", "hears", "(IIZ)I"⟩ ∈ kt_GW := kt_gw 62 rfl rfl
theorem tp_63 : Cond.selects "KinderTownsModel" ⟨"KinderTownsModel", "knownBy", "(I)I"⟩ ⟨"KinderTownsModel", "knownBy", "(I)I"⟩ ∈ kt_GW := kt_gw 63 rfl rfl
theorem tp_64 : Cond.selects "KinderTownsModel" ⟨"KinderTownsModel", "withStatus", "(II)I"⟩ ⟨"KinderTownsModel", "withStatus", "(II)I"⟩ ∈ kt_GW := kt_gw 64 rfl rfl
theorem tp_65 : Cond.selects "KinderTownsModel" ⟨"KinderTownsModel", "\x73orry", "(I)I"⟩ ⟨"KinderTownsModel", "\x73orry", "(I)I"⟩ ∈ kt_GW := kt_gw 65 rfl rfl
theorem tp_66 : Cond.selects "KinderTownsModel" ⟨"KinderTownsModel", "madeIn", "(I)I"⟩ ⟨"KinderTownsModel", "madeIn", "(I)I"⟩ ∈ kt_GW := kt_gw 66 rfl rfl
theorem tp_67 : Cond.selects "KinderTownsModel" ⟨"KinderTownsModel", "likes", "(I)I"⟩ ⟨"KinderTownsModel", "likes", "(I)I"⟩ ∈ kt_GW := kt_gw 67 rfl rfl
theorem tp_68 : Cond.selects "KinderTownsModel" ⟨"KinderTownsModel", "ofKind", "(I)I"⟩ ⟨"KinderTownsModel", "ofKind", "(I)I"⟩ ∈ kt_GW := kt_gw 68 rfl rfl
theorem tp_69 : Cond.selects "KinderTownsModel" ⟨"KinderTownsModel", "sorries", "()I"⟩ ⟨"KinderTownsModel", "sorries", "()I"⟩ ∈ kt_GW := kt_gw 69 rfl rfl
theorem tp_70 : Cond.selects "KinderTownsModel" ⟨"KinderTownsModel", "everyone", "()I"⟩ ⟨"KinderTownsModel", "everyone", "()I"⟩ ∈ kt_GW := kt_gw 70 rfl rfl
theorem tp_71 : Cond.selects "KinderTownsModel" ⟨"KinderTownsModel", "known", "(I)I"⟩ ⟨"KinderTownsModel", "known", "(I)I"⟩ ∈ kt_GW := kt_gw 71 rfl rfl
theorem tp_72 : Cond.selects "KinderTownsModel" ⟨"KinderTownsModel", "thinksBoth", "(II)V"⟩ ⟨"KinderTownsModel", "thinksBoth", "(II)V"⟩ ∈ kt_GW := kt_gw 72 rfl rfl
theorem tp_73 : Cond.selects "KinderTownsModel" ⟨"KinderTownsModel", "others", "(II)I"⟩ ⟨"KinderTownsModel", "others", "(II)I"⟩ ∈ kt_GW := kt_gw 73 rfl rfl
theorem tp_74 : Cond.selects "KinderTownsModel" ⟨"KinderTownsModel", "happy", "()I"⟩ ⟨"KinderTownsModel", "happy", "()I"⟩ ∈ kt_GW := kt_gw 74 rfl rfl
theorem tp_75 : Cond.selects "KinderTownsModel" ⟨"KinderTownsModel", "plays", "()I"⟩ ⟨"KinderTownsModel", "plays", "()I"⟩ ∈ kt_GW := kt_gw 75 rfl rfl
theorem tp_76 : Cond.selects "KinderTownsModel" ⟨"KinderTownsModel", "number", "(II)Z"⟩ ⟨"KinderTownsModel", "number", "(II)Z"⟩ ∈ kt_GW := kt_gw 76 rfl rfl
theorem tp_77 : Cond.selects "KinderTownsModel" ⟨"KinderTownsModel", "isAt", "(II)Z"⟩ ⟨"KinderTownsModel", "isAt", "(II)Z"⟩ ∈ kt_GW := kt_gw 77 rfl rfl
theorem tp_78 : Cond.selects "KinderTownsModel" ⟨"KinderTownsModel", "calls", "(I)I"⟩ ⟨"KinderTownsModel", "calls", "(I)I"⟩ ∈ kt_GW := kt_gw 78 rfl rfl
theorem j_K_init : kt_JO i_K_init 0 := ⟨tw_15, tw_1, by decide, by decide, by decide, by decide +kernel⟩
theorem j_S_init : kt_JO i_S_init 0 := ⟨tw_25, tw_2, by decide, by decide, by decide, by decide +kernel⟩
theorem j_C_init : kt_JO i_C_init 0 := ⟨tw_55, tw_3, by decide, by decide, by decide, by decide +kernel⟩
theorem j_L_init : kt_JO i_L_init 0 := ⟨tw_61, tw_4, by decide, by decide, by decide, by decide +kernel⟩
theorem j_E_init : kt_JO i_E_init 0 := ⟨tw_91, tw_5, by decide, by decide, by decide, by decide +kernel⟩
theorem j_K_town : kt_JO i_K_town 0 := ⟨tw_201, tw_1, by decide, by decide, by decide, by decide +kernel⟩
theorem j_C_copyFrom : kt_JO i_C_copyFrom 1 := ⟨tw_205, tw_3, by decide, by decide, by decide, by decide +kernel⟩
theorem j_E_copyFrom : kt_JO i_E_copyFrom 1 := ⟨tw_209, tw_5, by decide, by decide, by decide, by decide +kernel⟩
theorem j_C_addTown : kt_JO i_C_addTown 0 := ⟨tw_217, tw_3, by decide, by decide, by decide, by decide +kernel⟩
theorem j_K_isBelow : kt_JO i_K_isBelow 2 := ⟨tw_220, tw_1, by decide, by decide, by decide, by decide +kernel⟩
theorem j_K_recorded : kt_JO i_K_recorded 1 := ⟨tw_224, tw_1, by decide, by decide, by decide, by decide +kernel⟩
theorem j_C_thinkAnew : kt_JO i_C_thinkAnew 0 := ⟨tw_228, tw_3, by decide, by decide, by decide, by decide +kernel⟩
theorem j_L_lookAtAll : kt_JO i_L_lookAtAll 3 := ⟨tw_232, tw_4, by decide, by decide, by decide, by decide +kernel⟩
theorem j_E_standingIn : kt_JO i_E_standingIn 1 := ⟨tw_236, tw_5, by decide, by decide, by decide, by decide +kernel⟩
theorem j_E_cancelledIn : kt_JO i_E_cancelledIn 1 := ⟨tw_240, tw_5, by decide, by decide, by decide, by decide +kernel⟩
theorem j_K_has : kt_JO i_K_has 2 := ⟨tw_243, tw_1, by decide, by decide, by decide, by decide +kernel⟩
theorem j_L_lookAtGood : kt_JO i_L_lookAtGood 4 := ⟨tw_248, tw_4, by decide, by decide, by decide, by decide +kernel⟩
theorem j_L_gather : kt_JO i_L_gather 3 := ⟨tw_252, tw_4, by decide, by decide, by decide, by decide +kernel⟩
theorem j_J_fill : kt_JO i_J_fill 2 := ⟨tw_256, tw_8, by decide, by decide, by decide, by decide +kernel⟩
theorem j_L_nextPlace : kt_JO i_L_nextPlace 3 := ⟨tw_260, tw_4, by decide, by decide, by decide, by decide +kernel⟩
theorem j_L_weight : kt_JO i_L_weight 3 := ⟨tw_264, tw_4, by decide, by decide, by decide, by decide +kernel⟩
theorem j_L_decide : kt_JO i_L_decide 3 := ⟨tw_268, tw_4, by decide, by decide, by decide, by decide +kernel⟩
theorem j_K_keepSpare : kt_JO i_K_keepSpare 0 := ⟨tw_273, tw_1, by decide, by decide, by decide, by decide +kernel⟩
theorem j_K_deliver : kt_JO i_K_deliver 3 := ⟨tw_278, tw_1, by decide, by decide, by decide, by decide +kernel⟩
theorem j_C_makeDelivery : kt_JO i_C_makeDelivery 3 := ⟨tw_282, tw_3, by decide, by decide, by decide, by decide +kernel⟩
theorem j_C_isTown : kt_JO i_C_isTown 1 := ⟨tw_286, tw_3, by decide, by decide, by decide, by decide +kernel⟩
theorem j_C_make : kt_JO i_C_make 4 := ⟨tw_290, tw_3, by decide, by decide, by decide, by decide +kernel⟩
theorem j_E_add : kt_JO i_E_add 5 := ⟨tw_294, tw_5, by decide, by decide, by decide, by decide +kernel⟩
theorem j_K_order : kt_JO i_K_order 4 := ⟨tw_299, tw_1, by decide, by decide, by decide, by decide +kernel⟩
theorem j_C_makeOrder : kt_JO i_C_makeOrder 4 := ⟨tw_303, tw_3, by decide, by decide, by decide, by decide +kernel⟩
theorem j_K_cancel : kt_JO i_K_cancel 2 := ⟨tw_307, tw_1, by decide, by decide, by decide, by decide +kernel⟩
theorem j_C_makeCancellation : kt_JO i_C_makeCancellation 2 := ⟨tw_311, tw_3, by decide, by decide, by decide, by decide +kernel⟩
theorem j_E_isOrder : kt_JO i_E_isOrder 1 := ⟨tw_315, tw_5, by decide, by decide, by decide, by decide +kernel⟩
theorem j_K_meet : kt_JO i_K_meet 2 := ⟨tw_321, tw_1, by decide, by decide, by decide, by decide +kernel⟩
theorem j_C_letMeet : kt_JO i_C_letMeet 2 := ⟨tw_325, tw_3, by decide, by decide, by decide, by decide +kernel⟩
theorem j_C_letHear : kt_JO i_C_letHear 2 := ⟨tw_329, tw_3, by decide, by decide, by decide, by decide +kernel⟩
theorem j_C_newsFor : kt_JO i_C_newsFor 2 := ⟨tw_333, tw_3, by decide, by decide, by decide, by decide +kernel⟩
theorem j_J_bitCount : kt_JO i_J_bitCount 1 := ⟨tw_337, tw_9, by decide, by decide, by decide, by decide +kernel⟩
theorem j_K_hear : kt_JO i_K_hear 2 := ⟨tw_347, tw_1, by decide, by decide, by decide, by decide +kernel⟩
theorem j_K_rule : kt_JO i_K_rule 1 := ⟨tw_352, tw_1, by decide, by decide, by decide, by decide +kernel⟩
theorem j_C_setRule : kt_JO i_C_setRule 1 := ⟨tw_356, tw_3, by decide, by decide, by decide, by decide +kernel⟩
theorem j_K_eventOf : kt_JO i_K_eventOf 2 := ⟨tw_360, tw_1, by decide, by decide, by decide, by decide +kernel⟩
theorem j_C_townsWith : kt_JO i_C_townsWith 2 := ⟨tw_364, tw_3, by decide, by decide, by decide, by decide +kernel⟩
theorem j_K_thinks : kt_JO i_K_thinks 2 := ⟨tw_368, tw_1, by decide, by decide, by decide, by decide +kernel⟩
theorem j_K_townOf : kt_JO i_K_townOf 2 := ⟨tw_374, tw_1, by decide, by decide, by decide, by decide +kernel⟩
theorem j_E_having : kt_JO i_E_having 2 := ⟨tw_380, tw_5, by decide, by decide, by decide, by decide +kernel⟩
theorem j_C_townsThatKnow : kt_JO i_C_townsThatKnow 1 := ⟨tw_384, tw_3, by decide, by decide, by decide, by decide +kernel⟩
theorem j_K_goodOf : kt_JO i_K_goodOf 3 := ⟨tw_388, tw_1, by decide, by decide, by decide, by decide +kernel⟩
theorem j_E_piecesOf : kt_JO i_E_piecesOf 1 := ⟨tw_392, tw_5, by decide, by decide, by decide, by decide +kernel⟩
theorem j_K_lookedAt : kt_JO i_K_lookedAt 3 := ⟨tw_396, tw_1, by decide, by decide, by decide, by decide +kernel⟩
theorem j_K_personOf : kt_JO i_K_personOf 3 := ⟨tw_402, tw_1, by decide, by decide, by decide, by decide +kernel⟩
theorem j_C_apologiesFor : kt_JO i_C_apologiesFor 1 := ⟨tw_406, tw_3, by decide, by decide, by decide, by decide +kernel⟩
theorem j_K_unheard : kt_JO i_K_unheard 2 := ⟨tw_410, tw_1, by decide, by decide, by decide, by decide +kernel⟩
theorem j_K_count : kt_JO i_K_count 1 := ⟨tw_415, tw_1, by decide, by decide, by decide, by decide +kernel⟩
theorem j_E_all : kt_JO i_E_all 0 := ⟨tw_419, tw_5, by decide, by decide, by decide, by decide +kernel⟩
theorem j_C_knownByAll : kt_JO i_C_knownByAll 0 := ⟨tw_423, tw_3, by decide, by decide, by decide, by decide +kernel⟩
theorem j_C_allKnowTheSame : kt_JO i_C_allKnowTheSame 0 := ⟨tw_428, tw_3, by decide, by decide, by decide, by decide +kernel⟩
theorem j_K_would : kt_JO i_K_would 3 := ⟨tw_432, tw_1, by decide, by decide, by decide, by decide +kernel⟩
theorem j_K_newApologies : kt_JO i_K_newApologies 0 := ⟨tw_436, tw_1, by decide, by decide, by decide, by decide +kernel⟩
theorem j_K_otherThoughts : kt_JO i_K_otherThoughts 1 := ⟨tw_440, tw_1, by decide, by decide, by decide, by decide +kernel⟩
theorem j_E_goodsOf : kt_JO i_E_goodsOf 1 := ⟨tw_444, tw_5, by decide, by decide, by decide, by decide +kernel⟩
theorem j_K_wouldRule : kt_JO i_K_wouldRule 1 := ⟨tw_448, tw_1, by decide, by decide, by decide, by decide +kernel⟩
theorem j_K_kindest : kt_JO i_K_kindest 1 := ⟨tw_452, tw_1, by decide, by decide, by decide, by decide +kernel⟩
theorem j_E_personsIn : kt_JO i_E_personsIn 1 := ⟨tw_457, tw_5, by decide, by decide, by decide, by decide +kernel⟩
theorem j_K_rounds : kt_JO i_K_rounds 0 := ⟨tw_462, tw_1, by decide, by decide, by decide, by decide +kernel⟩
theorem j_C_meetInTurn : kt_JO i_C_meetInTurn 0 := ⟨tw_466, tw_3, by decide, by decide, by decide, by decide +kernel⟩
theorem j_K_undo : kt_JO i_K_undo 0 := ⟨tw_470, tw_1, by decide, by decide, by decide, by decide +kernel⟩
theorem j_K_type : kt_JO i_K_type 1 := ⟨tw_474, tw_1, by decide, by decide, by decide, by decide +kernel⟩
theorem j_K_clearText : kt_JO i_K_clearText 0 := ⟨tw_478, tw_1, by decide, by decide, by decide, by decide +kernel⟩
theorem j_K_fault : kt_JO i_K_fault 1 := ⟨tw_482, tw_1, by decide, by decide, by decide, by decide +kernel⟩
theorem j_S_runOn : kt_JO i_S_runOn 1 := ⟨tw_486, tw_2, by decide, by decide, by decide, by decide +kernel⟩
theorem j_S_read : kt_JO i_S_read 1 := ⟨tw_490, tw_2, by decide, by decide, by decide, by decide +kernel⟩
theorem j_S_signAt : kt_JO i_S_signAt 1 := ⟨tw_494, tw_2, by decide, by decide, by decide, by decide +kernel⟩
theorem j_S_numbersBehind : kt_JO i_S_numbersBehind 1 := ⟨tw_498, tw_2, by decide, by decide, by decide, by decide +kernel⟩
theorem j_S_digitsAt : kt_JO i_S_digitsAt 1 := ⟨tw_502, tw_2, by decide, by decide, by decide, by decide +kernel⟩
theorem j_S_isDigit : kt_JO i_S_isDigit 1 := ⟨tw_506, tw_2, by decide, by decide, by decide, by decide +kernel⟩
theorem j_S_digit : kt_JO i_S_digit 1 := ⟨tw_510, tw_2, by decide, by decide, by decide, by decide +kernel⟩
theorem j_S_doCommand : kt_JO i_S_doCommand 2 := ⟨tw_514, tw_2, by decide, by decide, by decide, by decide +kernel⟩
theorem j_S_reasonOf : kt_JO i_S_reasonOf 1 := ⟨tw_523, tw_2, by decide, by decide, by decide, by decide +kernel⟩
theorem j_K_play : kt_JO i_K_play 0 := ⟨tw_528, tw_1, by decide, by decide, by decide, by decide +kernel⟩
theorem j_M_init : kt_JO i_M_init 0 := ⟨tw_533, tw_6, by decide, by decide, by decide, by decide +kernel⟩
theorem j_M_town : kt_JO i_M_town 0 := ⟨tw_594, tw_6, by decide, by decide, by decide, by decide +kernel⟩
theorem j_M_changes : kt_JO i_M_changes 0 := ⟨tw_598, tw_6, by decide, by decide, by decide, by decide +kernel⟩
theorem j_M_records : kt_JO i_M_records 0 := ⟨tw_602, tw_6, by decide, by decide, by decide, by decide +kernel⟩
theorem j_M_remembers : kt_JO i_M_remembers 0 := ⟨tw_606, tw_6, by decide, by decide, by decide, by decide +kernel⟩
theorem j_M_thinksAll : kt_JO i_M_thinksAll 1 := ⟨tw_610, tw_6, by decide, by decide, by decide, by decide +kernel⟩
theorem j_M_thinksOf : kt_JO i_M_thinksOf 1 := ⟨tw_614, tw_6, by decide, by decide, by decide, by decide +kernel⟩
theorem j_M_of : kt_JO i_M_of 2 := ⟨tw_618, tw_6, by decide, by decide, by decide, by decide +kernel⟩
theorem j_M_knows : kt_JO i_M_knows 2 := ⟨tw_622, tw_6, by decide, by decide, by decide, by decide +kernel⟩
theorem j_M_isCancelled : kt_JO i_M_isCancelled 2 := ⟨tw_626, tw_6, by decide, by decide, by decide, by decide +kernel⟩
theorem j_M_looks : kt_JO i_M_looks 2 := ⟨tw_630, tw_6, by decide, by decide, by decide, by decide +kernel⟩
theorem j_M_stock : kt_JO i_M_stock 2 := ⟨tw_634, tw_6, by decide, by decide, by decide, by decide +kernel⟩
theorem j_M_isAhead : kt_JO i_M_isAhead 2 := ⟨tw_638, tw_6, by decide, by decide, by decide, by decide +kernel⟩
theorem j_M_isEarlier : kt_JO i_M_isEarlier 2 := ⟨tw_642, tw_6, by decide, by decide, by decide, by decide +kernel⟩
theorem j_M_deliver : kt_JO i_M_deliver 3 := ⟨tw_646, tw_6, by decide, by decide, by decide, by decide +kernel⟩
theorem j_M_isTown : kt_JO i_M_isTown 1 := ⟨tw_650, tw_6, by decide, by decide, by decide, by decide +kernel⟩
theorem j_M_in : kt_JO i_M_in 3 := ⟨tw_653, tw_6, by decide, by decide, by decide, by decide +kernel⟩
theorem j_M_makes : kt_JO i_M_makes 6 := ⟨tw_657, tw_6, by decide, by decide, by decide, by decide +kernel⟩
theorem j_M_puts : kt_JO i_M_puts 3 := ⟨tw_661, tw_6, by decide, by decide, by decide, by decide +kernel⟩
theorem j_M_apologizes : kt_JO i_M_apologizes 1 := ⟨tw_665, tw_6, by decide, by decide, by decide, by decide +kernel⟩
theorem j_M_order : kt_JO i_M_order 4 := ⟨tw_669, tw_6, by decide, by decide, by decide, by decide +kernel⟩
theorem j_M_cancel : kt_JO i_M_cancel 2 := ⟨tw_673, tw_6, by decide, by decide, by decide, by decide +kernel⟩
theorem j_M_isEvent : kt_JO i_M_isEvent 1 := ⟨tw_677, tw_6, by decide, by decide, by decide, by decide +kernel⟩
theorem j_M_meet : kt_JO i_M_meet 2 := ⟨tw_681, tw_6, by decide, by decide, by decide, by decide +kernel⟩
theorem j_M_hears : kt_JO i_M_hears 3 := ⟨tw_685, tw_6, by decide, by decide, by decide, by decide +kernel⟩
theorem j_M_hear : kt_JO i_M_hear 2 := ⟨tw_689, tw_6, by decide, by decide, by decide, by decide +kernel⟩
theorem j_M_rule : kt_JO i_M_rule 1 := ⟨tw_693, tw_6, by decide, by decide, by decide, by decide +kernel⟩
theorem j_M_eventOf : kt_JO i_M_eventOf 2 := ⟨tw_697, tw_6, by decide, by decide, by decide, by decide +kernel⟩
theorem j_M_thinks : kt_JO i_M_thinks 2 := ⟨tw_701, tw_6, by decide, by decide, by decide, by decide +kernel⟩
theorem j_M_townOf : kt_JO i_M_townOf 2 := ⟨tw_705, tw_6, by decide, by decide, by decide, by decide +kernel⟩
theorem j_M_knownBy : kt_JO i_M_knownBy 1 := ⟨tw_709, tw_6, by decide, by decide, by decide, by decide +kernel⟩
theorem j_M_withStatus : kt_JO i_M_withStatus 2 := ⟨tw_713, tw_6, by decide, by decide, by decide, by decide +kernel⟩
theorem j_M_sorry : kt_JO i_M_sorry 1 := ⟨tw_717, tw_6, by decide, by decide, by decide, by decide +kernel⟩
theorem j_M_madeIn : kt_JO i_M_madeIn 1 := ⟨tw_721, tw_6, by decide, by decide, by decide, by decide +kernel⟩
theorem j_M_likes : kt_JO i_M_likes 1 := ⟨tw_725, tw_6, by decide, by decide, by decide, by decide +kernel⟩
theorem j_M_goodOf : kt_JO i_M_goodOf 3 := ⟨tw_729, tw_6, by decide, by decide, by decide, by decide +kernel⟩
theorem j_M_lookedAt : kt_JO i_M_lookedAt 3 := ⟨tw_733, tw_6, by decide, by decide, by decide, by decide +kernel⟩
theorem j_M_personOf : kt_JO i_M_personOf 3 := ⟨tw_737, tw_6, by decide, by decide, by decide, by decide +kernel⟩
theorem j_M_bits : kt_JO i_M_bits 1 := ⟨tw_740, tw_6, by decide, by decide, by decide, by decide +kernel⟩
theorem j_M_unheard : kt_JO i_M_unheard 2 := ⟨tw_744, tw_6, by decide, by decide, by decide, by decide +kernel⟩
theorem j_M_count : kt_JO i_M_count 1 := ⟨tw_748, tw_6, by decide, by decide, by decide, by decide +kernel⟩
theorem j_M_ofKind : kt_JO i_M_ofKind 1 := ⟨tw_752, tw_6, by decide, by decide, by decide, by decide +kernel⟩
theorem j_M_sorries : kt_JO i_M_sorries 0 := ⟨tw_756, tw_6, by decide, by decide, by decide, by decide +kernel⟩
theorem j_M_everyone : kt_JO i_M_everyone 0 := ⟨tw_760, tw_6, by decide, by decide, by decide, by decide +kernel⟩
theorem j_M_known : kt_JO i_M_known 1 := ⟨tw_764, tw_6, by decide, by decide, by decide, by decide +kernel⟩
theorem j_M_would : kt_JO i_M_would 3 := ⟨tw_768, tw_6, by decide, by decide, by decide, by decide +kernel⟩
theorem j_M_copies : kt_JO i_M_copies 2 := ⟨tw_771, tw_6, by decide, by decide, by decide, by decide +kernel⟩
theorem j_M_thinksBoth : kt_JO i_M_thinksBoth 2 := ⟨tw_775, tw_6, by decide, by decide, by decide, by decide +kernel⟩
theorem j_M_others : kt_JO i_M_others 2 := ⟨tw_779, tw_6, by decide, by decide, by decide, by decide +kernel⟩
theorem j_M_wouldRule : kt_JO i_M_wouldRule 1 := ⟨tw_783, tw_6, by decide, by decide, by decide, by decide +kernel⟩
theorem j_M_kindest : kt_JO i_M_kindest 1 := ⟨tw_787, tw_6, by decide, by decide, by decide, by decide +kernel⟩
theorem j_M_happy : kt_JO i_M_happy 0 := ⟨tw_791, tw_6, by decide, by decide, by decide, by decide +kernel⟩
theorem j_M_rounds : kt_JO i_M_rounds 0 := ⟨tw_795, tw_6, by decide, by decide, by decide, by decide +kernel⟩
theorem j_M_undo : kt_JO i_M_undo 0 := ⟨tw_799, tw_6, by decide, by decide, by decide, by decide +kernel⟩
theorem j_M_type : kt_JO i_M_type 1 := ⟨tw_803, tw_6, by decide, by decide, by decide, by decide +kernel⟩
theorem j_M_clearText : kt_JO i_M_clearText 0 := ⟨tw_807, tw_6, by decide, by decide, by decide, by decide +kernel⟩
theorem j_M_fault : kt_JO i_M_fault 1 := ⟨tw_811, tw_6, by decide, by decide, by decide, by decide +kernel⟩
theorem j_M_plays : kt_JO i_M_plays 0 := ⟨tw_815, tw_6, by decide, by decide, by decide, by decide +kernel⟩
theorem j_M_numbersOf : kt_JO i_M_numbersOf 1 := ⟨tw_818, tw_6, by decide, by decide, by decide, by decide +kernel⟩
theorem j_M_number : kt_JO i_M_number 2 := ⟨tw_822, tw_6, by decide, by decide, by decide, by decide +kernel⟩
theorem j_M_isAt : kt_JO i_M_isAt 2 := ⟨tw_826, tw_6, by decide, by decide, by decide, by decide +kernel⟩
theorem j_M_calls : kt_JO i_M_calls 1 := ⟨tw_830, tw_6, by decide, by decide, by decide, by decide +kernel⟩
theorem j_M_play : kt_JO i_M_play 0 := ⟨tw_840, tw_6, by decide, by decide, by decide, by decide +kernel⟩
