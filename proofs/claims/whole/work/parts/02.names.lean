def RX0 : String := "KinderTowns$Country"
def TX0 : u_T := fun k => match k with
  | 0 => ("KinderTowns$Country", "looking", "LKinderTowns$Looking;", true)
  | 1 => ("KinderTowns$Country", "events", "LKinderTowns$Events;", true)
  | 2 => ("KinderTowns$Country", "towns", "I", false)
  | 3 => ("KinderTowns$Country", "rule", "I", false)
  | 4 => ("KinderTowns$Country", "clocks", "[I", true)
  | 5 => ("KinderTowns$Country", "known", "[J", true)
  | 6 => ("KinderTowns$Country", "accepted", "[J", true)
  | 7 => ("KinderTowns$Country", "refused", "[J", true)
  | 8 => ("KinderTowns$Country", "apologised", "[J", true)
  | 9 => ("KinderTowns$Country", "thoughtOf", "[J", true)
  | _ => ("KinderTowns$Country", "thoughtBy", "I", false)
def tyX0 : Nat → FieldType := fun k => match k with
  | 0 => .object "KinderTowns$Looking"
  | 1 => .object "KinderTowns$Events"
  | 2 => .int
  | 3 => .int
  | 4 => .array .int
  | 5 => .array .long
  | 6 => .array .long
  | 7 => .array .long
  | 8 => .array .long
  | 9 => .array .long
  | _ => .int
abbrev wsX00 : List Cond := u_ws RX0 TX0 11
theorem nmX0 : ∀ a, a < 11 → ∀ b, b < 11 → a ≠ b → (TX0 a).2.1 ≠ (TX0 b).2.1 := by decide +kernel
theorem tyX0_ok : ∀ k, k < 11 → parseFieldDescriptor (TX0 k).2.2.1 = some (tyX0 k) := by decide +kernel
def RX1 : String := "KinderTowns$Events"
def TX1 : u_T := fun k => match k with
  | 0 => ("KinderTowns$Events", "count", "I", false)
  | 1 => ("KinderTowns$Events", "kinds", "[I", true)
  | 2 => ("KinderTowns$Events", "towns", "[I", true)
  | 3 => ("KinderTowns$Events", "clocks", "[I", true)
  | 4 => ("KinderTowns$Events", "goods", "[I", true)
  | 5 => ("KinderTowns$Events", "pieces", "[I", true)
  | 6 => ("KinderTowns$Events", "persons", "[I", true)
  | _ => ("KinderTowns$Events", "orders", "[I", true)
def tyX1 : Nat → FieldType := fun k => match k with
  | 0 => .int
  | 1 => .array .int
  | 2 => .array .int
  | 3 => .array .int
  | 4 => .array .int
  | 5 => .array .int
  | 6 => .array .int
  | _ => .array .int
abbrev wsX10 : List Cond := u_ws RX1 TX1 8
theorem nmX1 : ∀ a, a < 8 → ∀ b, b < 8 → a ≠ b → (TX1 a).2.1 ≠ (TX1 b).2.1 := by decide +kernel
theorem tyX1_ok : ∀ k, k < 8 → parseFieldDescriptor (TX1 k).2.2.1 = some (tyX1 k) := by decide +kernel
def RX2 : String := "KinderTowns$Looking"
def TX2 : u_T := fun k => match k with
  | 0 => ("KinderTowns$Looking", "row", "[I", true)
  | 1 => ("KinderTowns$Looking", "length", "I", false)
  | 2 => ("KinderTowns$Looking", "left", "I", false)
  | 3 => ("KinderTowns$Looking", "given", "[I", true)
  | 4 => ("KinderTowns$Looking", "accepted", "J", false)
  | _ => ("KinderTowns$Looking", "refused", "J", false)
def tyX2 : Nat → FieldType := fun k => match k with
  | 0 => .array .int
  | 1 => .int
  | 2 => .int
  | 3 => .array .int
  | 4 => .long
  | _ => .long
abbrev wsX20 : List Cond := u_ws RX2 TX2 6
theorem nmX2 : ∀ a, a < 6 → ∀ b, b < 6 → a ≠ b → (TX2 a).2.1 ≠ (TX2 b).2.1 := by decide +kernel
theorem tyX2_ok : ∀ k, k < 6 → parseFieldDescriptor (TX2 k).2.2.1 = some (tyX2 k) := by decide +kernel
def RX3 : String := "KinderTowns$Script"
def TX3 : u_T := fun k => match k with
  | 0 => ("KinderTowns$Script", "signs", "[I", true)
  | 1 => ("KinderTowns$Script", "length", "I", false)
  | 2 => ("KinderTowns$Script", "numbers", "[I", true)
  | 3 => ("KinderTowns$Script", "commands", "I", false)
  | 4 => ("KinderTowns$Script", "place", "I", false)
  | _ => ("KinderTowns$Script", "reason", "I", false)
def tyX3 : Nat → FieldType := fun k => match k with
  | 0 => .array .int
  | 1 => .int
  | 2 => .array .int
  | 3 => .int
  | 4 => .int
  | _ => .int
abbrev wsX30 : List Cond := u_ws RX3 TX3 6
theorem nmX3 : ∀ a, a < 6 → ∀ b, b < 6 → a ≠ b → (TX3 a).2.1 ≠ (TX3 b).2.1 := by decide +kernel
theorem tyX3_ok : ∀ k, k < 6 → parseFieldDescriptor (TX3 k).2.2.1 = some (tyX3 k) := by decide +kernel
def RX4 : String := "KinderTowns"
def TX4 : u_T := fun k => match k with
  | 0 => ("KinderTowns", "now", "LKinderTowns$Country;", false)
  | 1 => ("KinderTowns", "spare", "LKinderTowns$Country;", false)
  | 2 => ("KinderTowns", "history", "[LKinderTowns$Country;", true)
  | 3 => ("KinderTowns", "states", "I", false)
  | _ => ("KinderTowns", "script", "LKinderTowns$Script;", true)
def tyX4 : Nat → FieldType := fun k => match k with
  | 0 => .object "KinderTowns$Country"
  | 1 => .object "KinderTowns$Country"
  | 2 => .array (.object "KinderTowns$Country")
  | 3 => .int
  | _ => .object "KinderTowns$Script"
abbrev wsX40 : List Cond := u_ws RX4 TX4 5
theorem nmX4 : ∀ a, a < 5 → ∀ b, b < 5 → a ≠ b → (TX4 a).2.1 ≠ (TX4 b).2.1 := by decide +kernel
theorem tyX4_ok : ∀ k, k < 5 → parseFieldDescriptor (TX4 k).2.2.1 = some (tyX4 k) := by decide +kernel
def RX5 : String := "KinderTownsModel"
def TX5 : u_T := fun k => match k with
  | 0 => ("KinderTownsModel", "s", "[I", true)
  | 1 => ("KinderTownsModel", "past", "[I", true)
  | 2 => ("KinderTownsModel", "held", "[I", true)
  | 3 => ("KinderTownsModel", "tried", "[I", true)
  | 4 => ("KinderTownsModel", "pasts", "I", false)
  | 5 => ("KinderTownsModel", "runs", "Z", false)
  | 6 => ("KinderTownsModel", "text", "[I", true)
  | 7 => ("KinderTownsModel", "typed", "I", false)
  | 8 => ("KinderTownsModel", "status", "[I", true)
  | 9 => ("KinderTownsModel", "row", "[I", true)
  | 10 => ("KinderTownsModel", "looked", "I", false)
  | 11 => ("KinderTownsModel", "got", "[I", true)
  | 12 => ("KinderTownsModel", "accepted", "[Z", true)
  | 13 => ("KinderTownsModel", "before", "[I", true)
  | 14 => ("KinderTownsModel", "spot", "I", false)
  | 15 => ("KinderTownsModel", "cause", "I", false)
  | 16 => ("KinderTownsModel", "commands", "I", false)
  | _ => ("KinderTownsModel", "told", "[I", true)
def tyX5 : Nat → FieldType := fun k => match k with
  | 0 => .array .int
  | 1 => .array .int
  | 2 => .array .int
  | 3 => .array .int
  | 4 => .int
  | 5 => .boolean
  | 6 => .array .int
  | 7 => .int
  | 8 => .array .int
  | 9 => .array .int
  | 10 => .int
  | 11 => .array .int
  | 12 => .array .boolean
  | 13 => .array .int
  | 14 => .int
  | 15 => .int
  | 16 => .int
  | _ => .array .int
abbrev wsX50 : List Cond := u_ws RX5 TX5 18
theorem nmX5 : ∀ a, a < 18 → ∀ b, b < 18 → a ≠ b → (TX5 a).2.1 ≠ (TX5 b).2.1 := by decide +kernel
theorem tyX5_ok : ∀ k, k < 18 → parseFieldDescriptor (TX5 k).2.2.1 = some (tyX5 k) := by decide +kernel
def RL : String := "KinderTownsLaw"
abbrev cL_law : ByteArray := code
def yL_law : MethodName := ⟨RL, "law", "([I)Z"⟩
abbrev vwCl : List vw_C := [(RX0, TX0, 11), (RX1, TX1, 8), (RX2, TX2, 6), (RX3, TX3, 6), (RX4, TX4, 5), (RX5, TX5, 18)]
/-! the tables of this claim: methods, kinds of cells -/
abbrev i_law_law : Nat := 0
abbrev i_K_init : Nat := 1
abbrev i_S_init : Nat := 2
abbrev i_C_init : Nat := 3
abbrev i_L_init : Nat := 4
abbrev i_E_init : Nat := 5
abbrev i_K_town : Nat := 6
abbrev i_C_copyFrom : Nat := 7
abbrev i_E_copyFrom : Nat := 8
abbrev i_C_addTown : Nat := 9
abbrev i_K_isBelow : Nat := 10
abbrev i_K_recorded : Nat := 11
abbrev i_C_thinkAnew : Nat := 12
abbrev i_L_lookAtAll : Nat := 13
abbrev i_E_standingIn : Nat := 14
abbrev i_E_cancelledIn : Nat := 15
abbrev i_K_has : Nat := 16
abbrev i_L_lookAtGood : Nat := 17
abbrev i_L_gather : Nat := 18
abbrev i_J_fill : Nat := 19
abbrev i_L_nextPlace : Nat := 20
abbrev i_L_weight : Nat := 21
abbrev i_L_decide : Nat := 22
abbrev i_K_keepSpare : Nat := 23
abbrev i_K_deliver : Nat := 24
abbrev i_C_makeDelivery : Nat := 25
abbrev i_C_isTown : Nat := 26
abbrev i_C_make : Nat := 27
abbrev i_E_add : Nat := 28
abbrev i_K_order : Nat := 29
abbrev i_C_makeOrder : Nat := 30
abbrev i_K_cancel : Nat := 31
abbrev i_C_makeCancellation : Nat := 32
abbrev i_E_isOrder : Nat := 33
abbrev i_K_meet : Nat := 34
abbrev i_C_letMeet : Nat := 35
abbrev i_C_letHear : Nat := 36
abbrev i_C_newsFor : Nat := 37
abbrev i_J_bitCount : Nat := 38
abbrev i_J_max : Nat := 39
abbrev i_K_hear : Nat := 40
abbrev i_K_rule : Nat := 41
abbrev i_C_setRule : Nat := 42
abbrev i_K_eventOf : Nat := 43
abbrev i_C_townsWith : Nat := 44
abbrev i_K_thinks : Nat := 45
abbrev i_K_townOf : Nat := 46
abbrev i_E_having : Nat := 47
abbrev i_C_townsThatKnow : Nat := 48
abbrev i_K_goodOf : Nat := 49
abbrev i_E_piecesOf : Nat := 50
abbrev i_K_lookedAt : Nat := 51
abbrev i_K_personOf : Nat := 52
abbrev i_C_apologiesFor : Nat := 53
abbrev i_K_unheard : Nat := 54
abbrev i_K_count : Nat := 55
abbrev i_E_all : Nat := 56
abbrev i_C_knownByAll : Nat := 57
abbrev i_C_allKnowTheSame : Nat := 58
abbrev i_K_would : Nat := 59
abbrev i_K_newApologies : Nat := 60
abbrev i_K_otherThoughts : Nat := 61
abbrev i_E_goodsOf : Nat := 62
abbrev i_K_wouldRule : Nat := 63
abbrev i_K_kindest : Nat := 64
abbrev i_E_personsIn : Nat := 65
abbrev i_K_rounds : Nat := 66
abbrev i_C_meetInTurn : Nat := 67
abbrev i_K_undo : Nat := 68
abbrev i_K_type : Nat := 69
abbrev i_K_clearText : Nat := 70
abbrev i_K_fault : Nat := 71
abbrev i_S_runOn : Nat := 72
abbrev i_S_read : Nat := 73
abbrev i_S_signAt : Nat := 74
abbrev i_S_numbersBehind : Nat := 75
abbrev i_S_digitsAt : Nat := 76
abbrev i_S_isDigit : Nat := 77
abbrev i_S_digit : Nat := 78
abbrev i_S_doCommand : Nat := 79
abbrev i_S_reasonOf : Nat := 80
abbrev i_K_play : Nat := 81
abbrev i_M_init : Nat := 82
abbrev i_M_town : Nat := 83
abbrev i_M_changes : Nat := 84
abbrev i_M_records : Nat := 85
abbrev i_M_remembers : Nat := 86
abbrev i_M_thinksAll : Nat := 87
abbrev i_M_thinksOf : Nat := 88
abbrev i_M_of : Nat := 89
abbrev i_M_knows : Nat := 90
abbrev i_M_isCancelled : Nat := 91
abbrev i_M_looks : Nat := 92
abbrev i_M_stock : Nat := 93
abbrev i_M_isAhead : Nat := 94
abbrev i_M_isEarlier : Nat := 95
abbrev i_M_deliver : Nat := 96
abbrev i_M_isTown : Nat := 97
abbrev i_M_in : Nat := 98
abbrev i_M_makes : Nat := 99
abbrev i_M_puts : Nat := 100
abbrev i_M_apologizes : Nat := 101
abbrev i_M_order : Nat := 102
abbrev i_M_cancel : Nat := 103
abbrev i_M_isEvent : Nat := 104
abbrev i_M_meet : Nat := 105
abbrev i_M_hears : Nat := 106
abbrev i_M_hear : Nat := 107
abbrev i_M_rule : Nat := 108
abbrev i_M_eventOf : Nat := 109
abbrev i_M_thinks : Nat := 110
abbrev i_M_townOf : Nat := 111
abbrev i_M_knownBy : Nat := 112
abbrev i_M_withStatus : Nat := 113
abbrev i_M_sorry : Nat := 114
abbrev i_M_madeIn : Nat := 115
abbrev i_M_likes : Nat := 116
abbrev i_M_goodOf : Nat := 117
abbrev i_M_lookedAt : Nat := 118
abbrev i_M_personOf : Nat := 119
abbrev i_M_bits : Nat := 120
abbrev i_M_unheard : Nat := 121
abbrev i_M_count : Nat := 122
abbrev i_M_ofKind : Nat := 123
abbrev i_M_sorries : Nat := 124
abbrev i_M_everyone : Nat := 125
abbrev i_M_known : Nat := 126
abbrev i_M_would : Nat := 127
abbrev i_M_copies : Nat := 128
abbrev i_M_thinksBoth : Nat := 129
abbrev i_M_others : Nat := 130
abbrev i_M_wouldRule : Nat := 131
abbrev i_M_kindest : Nat := 132
abbrev i_M_happy : Nat := 133
abbrev i_M_rounds : Nat := 134
abbrev i_M_undo : Nat := 135
abbrev i_M_type : Nat := 136
abbrev i_M_clearText : Nat := 137
abbrev i_M_fault : Nat := 138
abbrev i_M_plays : Nat := 139
abbrev i_M_numbersOf : Nat := 140
abbrev i_M_number : Nat := 141
abbrev i_M_isAt : Nat := 142
abbrev i_M_calls : Nat := 143
abbrev i_M_play : Nat := 144
def kt_mt : List (MethodName × ByteArray × Nat × Option FieldType) := [
  (⟨"KinderTownsLaw", "law", "([I)Z"⟩, code, 4, (some .boolean)),
  (⟨"KinderTowns", "<init>", "()V"⟩, prog_1_method_1_code, 2, none),
  (⟨"KinderTowns$Script", "<init>", "()V"⟩, prog_5_method_1_code, 1, none),
  (⟨"KinderTowns$Country", "<init>", "()V"⟩, prog_2_method_1_code, 1, none),
  (⟨"KinderTowns$Looking", "<init>", "()V"⟩, prog_4_method_1_code, 1, none),
  (⟨"KinderTowns$Events", "<init>", "()V"⟩, prog_3_method_1_code, 1, none),
  (⟨"KinderTowns", "town", "()I"⟩, prog_1_method_2_code, 1, (some .int)),
  (⟨"KinderTowns$Country", "copyFrom", "(LKinderTowns$Country;)V"⟩, prog_2_method_2_code, 2, none),
  (⟨"KinderTowns$Events", "copyFrom", "(LKinderTowns$Events;)V"⟩, prog_3_method_2_code, 2, none),
  (⟨"KinderTowns$Country", "addTown", "()I"⟩, prog_2_method_4_code, 1, (some .int)),
  (⟨"KinderTowns", "isBelow", "(II)Z"⟩, prog_1_method_26_code, 2, (some .boolean)),
  (⟨"KinderTowns", "recorded", "(I)I"⟩, prog_1_method_28_code, 2, (some .int)),
  (⟨"KinderTowns$Country", "thinkAnew", "()V"⟩, prog_2_method_12_code, 2, none),
  (⟨"KinderTowns$Looking", "lookAtAll", "(LKinderTowns$Events;JI)V"⟩, prog_4_method_2_code, 8, none),
  (⟨"KinderTowns$Events", "standingIn", "(J)J"⟩, prog_3_method_8_code, 3, (some .long)),
  (⟨"KinderTowns$Events", "cancelledIn", "(J)J"⟩, prog_3_method_7_code, 6, (some .long)),
  (⟨"KinderTowns", "has", "(JI)Z"⟩, prog_1_method_27_code, 3, (some .boolean)),
  (⟨"KinderTowns$Looking", "lookAtGood", "(LKinderTowns$Events;JII)V"⟩, prog_4_method_3_code, 9, none),
  (⟨"KinderTowns$Looking", "gather", "(LKinderTowns$Events;JI)V"⟩, prog_4_method_4_code, 6, none),
  (⟨"java/util/Arrays", "fill", "([II)V"⟩, prog_11_method_103_code, 4, none),
  (⟨"KinderTowns$Looking", "nextPlace", "(LKinderTowns$Events;II)I"⟩, prog_4_method_5_code, 8, (some .int)),
  (⟨"KinderTowns$Looking", "weight", "(LKinderTowns$Events;II)I"⟩, prog_4_method_6_code, 6, (some .int)),
  (⟨"KinderTowns$Looking", "decide", "(III)V"⟩, prog_4_method_7_code, 4, none),
  (⟨"KinderTowns", "keepSpare", "()V"⟩, prog_1_method_29_code, 3, none),
  (⟨"KinderTowns", "deliver", "(III)I"⟩, prog_1_method_3_code, 4, (some .int)),
  (⟨"KinderTowns$Country", "makeDelivery", "(III)I"⟩, prog_2_method_5_code, 4, (some .int)),
  (⟨"KinderTowns$Country", "isTown", "(I)Z"⟩, prog_2_method_3_code, 2, (some .boolean)),
  (⟨"KinderTowns$Country", "make", "(IIII)I"⟩, prog_2_method_8_code, 6, (some .int)),
  (⟨"KinderTowns$Events", "add", "(IIIII)I"⟩, prog_3_method_4_code, 6, (some .int)),
  (⟨"KinderTowns", "order", "(IIII)I"⟩, prog_1_method_4_code, 5, (some .int)),
  (⟨"KinderTowns$Country", "makeOrder", "(IIII)I"⟩, prog_2_method_6_code, 6, (some .int)),
  (⟨"KinderTowns", "cancel", "(II)I"⟩, prog_1_method_5_code, 3, (some .int)),
  (⟨"KinderTowns$Country", "makeCancellation", "(II)I"⟩, prog_2_method_7_code, 4, (some .int)),
  (⟨"KinderTowns$Events", "isOrder", "(I)Z"⟩, prog_3_method_3_code, 2, (some .boolean)),
  (⟨"KinderTowns", "meet", "(II)I"⟩, prog_1_method_6_code, 3, (some .int)),
  (⟨"KinderTowns$Country", "letMeet", "(II)I"⟩, prog_2_method_9_code, 4, (some .int)),
  (⟨"KinderTowns$Country", "letHear", "(II)I"⟩, prog_2_method_10_code, 4, (some .int)),
  (⟨"KinderTowns$Country", "newsFor", "(IJ)I"⟩, prog_2_method_13_code, 4, (some .int)),
  (⟨"java/lang/Long", "bitCount", "(J)I"⟩, prog_8_method_50_code, 2, (some .int)),
  (⟨"java/lang/Math", "max", "(II)I"⟩, prog_9_method_65_code, 2, (some .int)),
  (⟨"KinderTowns", "hear", "(II)I"⟩, prog_1_method_7_code, 3, (some .int)),
  (⟨"KinderTowns", "rule", "(I)I"⟩, prog_1_method_8_code, 2, (some .int)),
  (⟨"KinderTowns$Country", "setRule", "(I)I"⟩, prog_2_method_11_code, 3, (some .int)),
  (⟨"KinderTowns", "eventOf", "(II)I"⟩, prog_1_method_9_code, 4, (some .int)),
  (⟨"KinderTowns$Country", "townsWith", "([JI)I"⟩, prog_2_method_14_code, 5, (some .int)),
  (⟨"KinderTowns", "thinks", "(II)I"⟩, prog_1_method_10_code, 3, (some .int)),
  (⟨"KinderTowns", "townOf", "(II)I"⟩, prog_1_method_11_code, 3, (some .int)),
  (⟨"KinderTowns$Events", "having", "([II)J"⟩, prog_3_method_6_code, 6, (some .long)),
  (⟨"KinderTowns$Country", "townsThatKnow", "(J)I"⟩, prog_2_method_15_code, 5, (some .int)),
  (⟨"KinderTowns", "goodOf", "(III)I"⟩, prog_1_method_12_code, 9, (some .int)),
  (⟨"KinderTowns$Events", "piecesOf", "(J)I"⟩, prog_3_method_9_code, 5, (some .int)),
  (⟨"KinderTowns", "lookedAt", "(III)I"⟩, prog_1_method_13_code, 5, (some .int)),
  (⟨"KinderTowns", "personOf", "(III)I"⟩, prog_1_method_14_code, 7, (some .int)),
  (⟨"KinderTowns$Country", "apologiesFor", "(J)I"⟩, prog_2_method_16_code, 5, (some .int)),
  (⟨"KinderTowns", "unheard", "(II)I"⟩, prog_1_method_15_code, 3, (some .int)),
  (⟨"KinderTowns", "count", "(I)I"⟩, prog_1_method_16_code, 3, (some .int)),
  (⟨"KinderTowns$Events", "all", "()J"⟩, prog_3_method_5_code, 1, (some .long)),
  (⟨"KinderTowns$Country", "knownByAll", "()J"⟩, prog_2_method_17_code, 4, (some .long)),
  (⟨"KinderTowns$Country", "allKnowTheSame", "()Z"⟩, prog_2_method_18_code, 2, (some .boolean)),
  (⟨"KinderTowns", "would", "(III)I"⟩, prog_1_method_17_code, 5, (some .int)),
  (⟨"KinderTowns", "newApologies", "()I"⟩, prog_1_method_30_code, 1, (some .int)),
  (⟨"KinderTowns", "otherThoughts", "(I)J"⟩, prog_1_method_31_code, 2, (some .long)),
  (⟨"KinderTowns$Events", "goodsOf", "(J)I"⟩, prog_3_method_10_code, 5, (some .int)),
  (⟨"KinderTowns", "wouldRule", "(I)I"⟩, prog_1_method_18_code, 2, (some .int)),
  (⟨"KinderTowns", "kindest", "(I)I"⟩, prog_1_method_19_code, 7, (some .int)),
  (⟨"KinderTowns$Events", "personsIn", "(J)I"⟩, prog_3_method_11_code, 5, (some .int)),
  (⟨"KinderTowns", "rounds", "()I"⟩, prog_1_method_20_code, 2, (some .int)),
  (⟨"KinderTowns$Country", "meetInTurn", "()V"⟩, prog_2_method_19_code, 4, none),
  (⟨"KinderTowns", "undo", "()I"⟩, prog_1_method_21_code, 2, (some .int)),
  (⟨"KinderTowns", "type", "(I)I"⟩, prog_1_method_22_code, 2, (some .int)),
  (⟨"KinderTowns", "clearText", "()I"⟩, prog_1_method_23_code, 2, (some .int)),
  (⟨"KinderTowns", "fault", "(I)I"⟩, prog_1_method_24_code, 2, (some .int)),
  (⟨"KinderTowns$Script", "runOn", "(LKinderTowns$Country;)V"⟩, prog_5_method_2_code, 3, none),
  (⟨"KinderTowns$Script", "read", "(I)I"⟩, prog_5_method_4_code, 6, (some .int)),
  (⟨"KinderTowns$Script", "signAt", "(I)I"⟩, prog_5_method_7_code, 2, (some .int)),
  (⟨"KinderTowns$Script", "numbersBehind", "(I)I"⟩, prog_5_method_5_code, 1, (some .int)),
  (⟨"KinderTowns$Script", "digitsAt", "(I)I"⟩, prog_5_method_10_code, 2, (some .int)),
  (⟨"KinderTowns$Script", "isDigit", "(I)Z"⟩, prog_5_method_8_code, 2, (some .boolean)),
  (⟨"KinderTowns$Script", "digit", "(I)I"⟩, prog_5_method_9_code, 2, (some .int)),
  (⟨"KinderTowns$Script", "doCommand", "(LKinderTowns$Country;I)I"⟩, prog_5_method_6_code, 3, (some .int)),
  (⟨"KinderTowns$Script", "reasonOf", "(I)I"⟩, prog_5_method_3_code, 1, (some .int)),
  (⟨"KinderTowns", "play", "()I"⟩, prog_1_method_25_code, 2, (some .int)),
  (⟨"KinderTownsModel", "<init>", "()V"⟩, prog_7_method_1_code, 1, none),
  (⟨"KinderTownsModel", "town", "()I"⟩, prog_7_method_21_code, 2, (some .int)),
  (⟨"KinderTownsModel", "changes", "()V"⟩, prog_7_method_20_code, 1, none),
  (⟨"KinderTownsModel", "records", "()V"⟩, prog_7_method_19_code, 2, none),
  (⟨"KinderTownsModel", "remembers", "()V"⟩, prog_7_method_17_code, 3, none),
  (⟨"KinderTownsModel", "thinksAll", "(I)V"⟩, prog_7_method_16_code, 3, none),
  (⟨"KinderTownsModel", "thinksOf", "(I)V"⟩, prog_7_method_15_code, 4, none),
  (⟨"KinderTownsModel", "of", "(II)I"⟩, prog_7_method_5_code, 3, (some .int)),
  (⟨"KinderTownsModel", "knows", "(II)Z"⟩, prog_7_method_9_code, 3, (some .boolean)),
  (⟨"KinderTownsModel", "isCancelled", "(II)Z"⟩, prog_7_method_11_code, 5, (some .boolean)),
  (⟨"KinderTownsModel", "looks", "(II)V"⟩, prog_7_method_14_code, 7, none),
  (⟨"KinderTownsModel", "stock", "(II)I"⟩, prog_7_method_10_code, 5, (some .int)),
  (⟨"KinderTownsModel", "isAhead", "(II)Z"⟩, prog_7_method_13_code, 4, (some .boolean)),
  (⟨"KinderTownsModel", "isEarlier", "(II)Z"⟩, prog_7_method_12_code, 4, (some .boolean)),
  (⟨"KinderTownsModel", "deliver", "(III)I"⟩, prog_7_method_23_code, 4, (some .int)),
  (⟨"KinderTownsModel", "isTown", "(I)Z"⟩, prog_7_method_7_code, 2, (some .boolean)),
  (⟨"KinderTownsModel", "in", "(III)Z"⟩, prog_7_method_3_code, 3, (some .boolean)),
  (⟨"KinderTownsModel", "makes", "(IIIIII)I"⟩, prog_7_method_22_code, 8, (some .int)),
  (⟨"KinderTownsModel", "puts", "(III)V"⟩, prog_7_method_6_code, 4, none),
  (⟨"KinderTownsModel", "apologizes", "(I)I"⟩, prog_7_method_18_code, 5, (some .int)),
  (⟨"KinderTownsModel", "order", "(IIII)I"⟩, prog_7_method_24_code, 5, (some .int)),
  (⟨"KinderTownsModel", "cancel", "(II)I"⟩, prog_7_method_25_code, 3, (some .int)),
  (⟨"KinderTownsModel", "isEvent", "(I)Z"⟩, prog_7_method_8_code, 2, (some .boolean)),
  (⟨"KinderTownsModel", "meet", "(II)I"⟩, prog_7_method_27_code, 4, (some .int)),
  (⟨"KinderTownsModel", "hears", "(IIZ)I"⟩, prog_7_method_26_code, 10, (some .int)),
  (⟨"KinderTownsModel", "hear", "(II)I"⟩, prog_7_method_28_code, 4, (some .int)),
  (⟨"KinderTownsModel", "rule", "(I)I"⟩, prog_7_method_29_code, 3, (some .int)),
  (⟨"KinderTownsModel", "eventOf", "(II)I"⟩, prog_7_method_30_code, 3, (some .int)),
  (⟨"KinderTownsModel", "thinks", "(II)I"⟩, prog_7_method_31_code, 3, (some .int)),
  (⟨"KinderTownsModel", "townOf", "(II)I"⟩, prog_7_method_37_code, 3, (some .int)),
  (⟨"KinderTownsModel", "knownBy", "(I)I"⟩, prog_7_method_33_code, 4, (some .int)),
  (⟨"KinderTownsModel", "withStatus", "(II)I"⟩, prog_7_method_35_code, 5, (some .int)),
  (⟨"KinderTownsModel", "\x73orry", "(I)I"⟩, prog_7_method_32_code, 4, (some .int)),
  (⟨"KinderTownsModel", "madeIn", "(I)I"⟩, prog_7_method_34_code, 4, (some .int)),
  (⟨"KinderTownsModel", "likes", "(I)I"⟩, prog_7_method_36_code, 6, (some .int)),
  (⟨"KinderTownsModel", "goodOf", "(III)I"⟩, prog_7_method_38_code, 7, (some .int)),
  (⟨"KinderTownsModel", "lookedAt", "(III)I"⟩, prog_7_method_39_code, 4, (some .int)),
  (⟨"KinderTownsModel", "personOf", "(III)I"⟩, prog_7_method_41_code, 7, (some .int)),
  (⟨"KinderTownsModel", "bits", "(I)I"⟩, prog_7_method_40_code, 3, (some .int)),
  (⟨"KinderTownsModel", "unheard", "(II)I"⟩, prog_7_method_42_code, 5, (some .int)),
  (⟨"KinderTownsModel", "count", "(I)I"⟩, prog_7_method_47_code, 2, (some .int)),
  (⟨"KinderTownsModel", "ofKind", "(I)I"⟩, prog_7_method_43_code, 4, (some .int)),
  (⟨"KinderTownsModel", "sorries", "()I"⟩, prog_7_method_45_code, 3, (some .int)),
  (⟨"KinderTownsModel", "everyone", "()I"⟩, prog_7_method_46_code, 1, (some .int)),
  (⟨"KinderTownsModel", "known", "(I)I"⟩, prog_7_method_44_code, 4, (some .int)),
  (⟨"KinderTownsModel", "would", "(III)I"⟩, prog_7_method_50_code, 7, (some .int)),
  (⟨"KinderTownsModel", "copies", "([I[I)V"⟩, prog_7_method_4_code, 3, none),
  (⟨"KinderTownsModel", "thinksBoth", "(II)V"⟩, prog_7_method_48_code, 5, none),
  (⟨"KinderTownsModel", "others", "(II)I"⟩, prog_7_method_49_code, 8, (some .int)),
  (⟨"KinderTownsModel", "wouldRule", "(I)I"⟩, prog_7_method_51_code, 3, (some .int)),
  (⟨"KinderTownsModel", "kindest", "(I)I"⟩, prog_7_method_53_code, 7, (some .int)),
  (⟨"KinderTownsModel", "happy", "()I"⟩, prog_7_method_52_code, 4, (some .int)),
  (⟨"KinderTownsModel", "rounds", "()I"⟩, prog_7_method_54_code, 3, (some .int)),
  (⟨"KinderTownsModel", "undo", "()I"⟩, prog_7_method_55_code, 2, (some .int)),
  (⟨"KinderTownsModel", "type", "(I)I"⟩, prog_7_method_56_code, 2, (some .int)),
  (⟨"KinderTownsModel", "clearText", "()I"⟩, prog_7_method_57_code, 2, (some .int)),
  (⟨"KinderTownsModel", "fault", "(I)I"⟩, prog_7_method_63_code, 3, (some .int)),
  (⟨"KinderTownsModel", "plays", "()I"⟩, prog_7_method_62_code, 6, (some .int)),
  (⟨"KinderTownsModel", "numbersOf", "(I)I"⟩, prog_7_method_60_code, 1, (some .int)),
  (⟨"KinderTownsModel", "number", "(II)Z"⟩, prog_7_method_59_code, 5, (some .boolean)),
  (⟨"KinderTownsModel", "isAt", "(II)Z"⟩, prog_7_method_58_code, 3, (some .boolean)),
  (⟨"KinderTownsModel", "calls", "(I)I"⟩, prog_7_method_61_code, 2, (some .int)),
  (⟨"KinderTownsModel", "play", "()I"⟩, prog_7_method_64_code, 2, (some .int))]
def kt_m (i : Nat) : MethodName × ByteArray × Nat × Option FieldType := kt_mt.getD i (⟨"", "", ""⟩, ⟨#[]⟩, 0, none)
def kt_nm (i : Nat) : MethodName := (kt_m i).1
def kt_by (i : Nat) : ByteArray := (kt_m i).2.1
def kt_rt (i : Nat) : Option FieldType := (kt_m i).2.2.2
def kt_ow (i : Nat) : String := (kt_nm i).cls
def kt_ml3 : List (Nat × Nat × Nat) := [(4, 13, 317), (2, 3, 80), (1, 1, 40), (1, 2, 60), (1, 1, 40), (1, 1, 40), (1, 7, 189), (2, 2, 61), (2, 1, 40), (1, 2, 61), (2, 1, 40), (2, 6, 168), (2, 5, 147), (8, 4, 120), (3, 3, 87), (6, 2, 62), (3, 1, 40), (9, 3, 92), (6, 2, 62), (4, 1, 40), (8, 2, 65), (6, 1, 40), (4, 2, 61), (3, 2, 61), (4, 7, 189), (4, 4, 111), (2, 2, 61), (6, 3, 86), (6, 2, 61), (5, 7, 189), (6, 4, 111), (3, 7, 189), (4, 4, 111), (2, 2, 61), (3, 7, 189), (4, 4, 107), (4, 3, 84), (4, 2, 61), (2, 1, 40), (2, 1, 40), (3, 7, 189), (2, 7, 189), (3, 2, 61), (4, 3, 86), (5, 2, 62), (3, 3, 82), (3, 3, 87), (6, 1, 40), (5, 1, 40), (9, 3, 86), (5, 2, 62), (5, 4, 120), (7, 3, 86), (5, 2, 61), (3, 3, 84), (3, 3, 85), (1, 1, 40), (4, 2, 60), (2, 1, 40), (5, 6, 168), (1, 3, 85), (2, 3, 82), (5, 2, 62), (2, 6, 168), (7, 5, 147), (5, 2, 65), (2, 3, 82), (4, 1, 40), (2, 2, 61), (2, 2, 61), (2, 1, 40), (2, 7, 190), (3, 6, 168), (6, 5, 124), (2, 2, 61), (1, 1, 40), (2, 4, 103), (2, 3, 82), (2, 3, 82), (3, 5, 136), (1, 1, 40), (2, 7, 190), (1, 1, 40), (2, 8, 198), (1, 7, 178), (2, 1, 40), (3, 6, 156), (3, 5, 134), (4, 4, 108), (3, 1, 40), (3, 2, 62), (5, 3, 84), (7, 4, 108), (5, 3, 84), (4, 3, 85), (4, 2, 62), (4, 9, 225), (2, 1, 40), (3, 1, 40), (8, 8, 198), (4, 1, 40), (5, 6, 156), (5, 9, 225), (3, 9, 225), (2, 1, 40), (4, 8, 198), (10, 3, 84), (4, 8, 198), (3, 8, 198), (3, 2, 62), (3, 6, 156), (3, 7, 180), (4, 3, 84), (5, 6, 156), (4, 2, 62), (4, 2, 62), (6, 3, 84), (7, 6, 156), (4, 5, 134), (7, 6, 156), (3, 1, 40), (5, 3, 84), (2, 3, 85), (4, 2, 62), (3, 2, 62), (1, 1, 40), (4, 2, 62), (7, 7, 183), (3, 1, 40), (5, 6, 156), (8, 6, 156), (3, 7, 180), (7, 7, 179), (4, 6, 156), (3, 4, 113), (2, 1, 40), (2, 2, 62), (2, 1, 40), (3, 12, 295), (6, 11, 270), (1, 1, 40), (5, 3, 84), (3, 2, 62), (2, 10, 249), (2, 12, 295)]
def kt_mx (i : Nat) : Nat := (kt_ml3.getD i (0, 0, 0)).1
def kt_fr (i : Nat) : Nat := (kt_ml3.getD i (0, 0, 0)).2.1
def kt_lo (i : Nat) : Nat := (kt_ml3.getD i (0, 0, 0)).2.2
/-- the types of a class's fields: 0 int, 1 long, 2 a reference, 3 boolean -/
def kt_ft : Nat → List Nat
  | 0 => [2, 2, 0, 0, 2, 2, 2, 2, 2, 2, 0]
  | 1 => [0, 2, 2, 2, 2, 2, 2, 2]
  | 2 => [2, 0, 0, 2, 1, 1]
  | 3 => [2, 0, 2, 0, 0, 0]
  | 4 => [2, 2, 2, 0, 2]
  | 5 => [2, 2, 2, 2, 0, 3, 2, 0, 2, 2, 0, 2, 2, 2, 0, 0, 0, 2]
  | _ => []
/-- the cells in the order in which they are made: the class (0 to 5), 6 an int array, 7 long, 8 boolean, 9 of countries; its length -/
def kt_tb : List (Nat × Nat) := [(4, 0), (9, 4), (3, 0), (6, 80), (6, 4), (0, 0), (2, 0), (6, 60), (6, 10), (1, 0), (6, 60), (6, 60), (6, 60), (6, 60), (6, 60), (6, 60), (6, 60), (6, 5), (7, 5), (7, 5), (7, 5), (7, 5), (7, 5), (0, 0), (2, 0), (6, 60), (6, 10), (1, 0), (6, 60), (6, 60), (6, 60), (6, 60), (6, 60), (6, 60), (6, 60), (6, 5), (7, 5), (7, 5), (7, 5), (7, 5), (7, 5), (0, 0), (2, 0), (6, 60), (6, 10), (1, 0), (6, 60), (6, 60), (6, 60), (6, 60), (6, 60), (6, 60), (6, 60), (6, 5), (7, 5), (7, 5), (7, 5), (7, 5), (7, 5), (0, 0), (2, 0), (6, 60), (6, 10), (1, 0), (6, 60), (6, 60), (6, 60), (6, 60), (6, 60), (6, 60), (6, 60), (6, 5), (7, 5), (7, 5), (7, 5), (7, 5), (7, 5), (0, 0), (2, 0), (6, 60), (6, 10), (1, 0), (6, 60), (6, 60), (6, 60), (6, 60), (6, 60), (6, 60), (6, 60), (6, 5), (7, 5), (7, 5), (7, 5), (7, 5), (7, 5), (0, 0), (2, 0), (6, 60), (6, 10), (1, 0), (6, 60), (6, 60), (6, 60), (6, 60), (6, 60), (6, 60), (6, 60), (6, 5), (7, 5), (7, 5), (7, 5), (7, 5), (7, 5), (5, 0), (6, 548), (6, 2192), (6, 548), (6, 548), (6, 80), (6, 60), (6, 60), (6, 10), (8, 300), (6, 120), (6, 4)]
def kt_sz (k : Nat) : Nat := if (kt_tb.getD k (99, 0)).1 < 6 then (kt_ft (kt_tb.getD k (99, 0)).1).length else (kt_tb.getD k (99, 0)).2
def kt_GW : List Cond := lw_tbl.filter goodWord
def kt_nw : Cond → Bool
  | .fieldLinkNest _ _ _ _ _ _ => true
  | .methodLinkNest _ _ _ _ => true
  | _ => false
def kt_NW : List Cond := lw_tbl.filter kt_nw
def kt_dv (t : Nat) : Value := if t = 1 then .long 0 else if t = 2 then .null else .int 0
theorem kt_cw0 : (u_ws RX0 TX0 11).all (fun w => decide (w ∈ lw_tbl) && goodWord w) = true := by decide +kernel
theorem kt_cd0 : ∀ j, j < 11 → defaultValue (tyX0 j) = vp_V ((kt_ft 0).map kt_dv) j := by decide +kernel
theorem kt_cw1 : (u_ws RX1 TX1 8).all (fun w => decide (w ∈ lw_tbl) && goodWord w) = true := by decide +kernel
theorem kt_cd1 : ∀ j, j < 8 → defaultValue (tyX1 j) = vp_V ((kt_ft 1).map kt_dv) j := by decide +kernel
theorem kt_cw2 : (u_ws RX2 TX2 6).all (fun w => decide (w ∈ lw_tbl) && goodWord w) = true := by decide +kernel
theorem kt_cd2 : ∀ j, j < 6 → defaultValue (tyX2 j) = vp_V ((kt_ft 2).map kt_dv) j := by decide +kernel
theorem kt_cw3 : (u_ws RX3 TX3 6).all (fun w => decide (w ∈ lw_tbl) && goodWord w) = true := by decide +kernel
theorem kt_cd3 : ∀ j, j < 6 → defaultValue (tyX3 j) = vp_V ((kt_ft 3).map kt_dv) j := by decide +kernel
theorem kt_cw4 : (u_ws RX4 TX4 5).all (fun w => decide (w ∈ lw_tbl) && goodWord w) = true := by decide +kernel
theorem kt_cd4 : ∀ j, j < 5 → defaultValue (tyX4 j) = vp_V ((kt_ft 4).map kt_dv) j := by decide +kernel
theorem kt_cw5 : (u_ws RX5 TX5 18).all (fun w => decide (w ∈ lw_tbl) && goodWord w) = true := by decide +kernel
theorem kt_cd5 : ∀ j, j < 18 → defaultValue (tyX5 j) = vp_V ((kt_ft 5).map kt_dv) j := by decide +kernel
theorem kt_cwg {ws : List Cond} (h : ws.all (fun w => decide (w ∈ lw_tbl) && goodWord w) = true) : ∀ w ∈ ws, w ∈ kt_GW := by
  intro w hw
  have h1 := List.all_eq_true.mp h w hw
  rw [Bool.and_eq_true] at h1
  exact List.mem_filter.mpr ⟨of_decide_eq_true h1.1, h1.2⟩
theorem kt_cw : ∀ {ci : Nat} {C : String} {T : u_T} {Nf : Nat}, vwCl[ci]? = some (C, T, Nf) → ∀ w ∈ u_ws C T Nf, w ∈ kt_GW
  | 0, _, _, _, h => by cases h; exact kt_cwg kt_cw0
  | 1, _, _, _, h => by cases h; exact kt_cwg kt_cw1
  | 2, _, _, _, h => by cases h; exact kt_cwg kt_cw2
  | 3, _, _, _, h => by cases h; exact kt_cwg kt_cw3
  | 4, _, _, _, h => by cases h; exact kt_cwg kt_cw4
  | 5, _, _, _, h => by cases h; exact kt_cwg kt_cw5
  | _ + 6, _, _, _, h => by simp [vwCl] at h
theorem kt_ct : ∀ {ci : Nat} {C : String} {T : u_T} {Nf : Nat}, vwCl[ci]? = some (C, T, Nf) → ∃ ty0 : Nat → FieldType, (∀ k, k < Nf → parseFieldDescriptor (T k).2.2.1 = some (ty0 k)) ∧ ∀ a, a < Nf → ∀ b, b < Nf → a ≠ b → (T a).2.1 ≠ (T b).2.1
  | 0, _, _, _, h => by cases h; exact ⟨tyX0, tyX0_ok, nmX0⟩
  | 1, _, _, _, h => by cases h; exact ⟨tyX1, tyX1_ok, nmX1⟩
  | 2, _, _, _, h => by cases h; exact ⟨tyX2, tyX2_ok, nmX2⟩
  | 3, _, _, _, h => by cases h; exact ⟨tyX3, tyX3_ok, nmX3⟩
  | 4, _, _, _, h => by cases h; exact ⟨tyX4, tyX4_ok, nmX4⟩
  | 5, _, _, _, h => by cases h; exact ⟨tyX5, tyX5_ok, nmX5⟩
  | _ + 6, _, _, _, h => by simp [vwCl] at h
theorem kt_cy : ∀ {ci : Nat} {C : String} {T : u_T} {Nf : Nat}, vwCl[ci]? = some (C, T, Nf) → ∃ ty0 : Nat → FieldType, (∀ k, k < Nf → parseFieldDescriptor (T k).2.2.1 = some (ty0 k)) ∧ (∀ j, j < Nf → defaultValue (ty0 j) = vp_V ((kt_ft ci).map kt_dv) j) ∧ (kt_ft ci).length = Nf
  | 0, _, _, _, h => by cases h; exact ⟨tyX0, tyX0_ok, kt_cd0, rfl⟩
  | 1, _, _, _, h => by cases h; exact ⟨tyX1, tyX1_ok, kt_cd1, rfl⟩
  | 2, _, _, _, h => by cases h; exact ⟨tyX2, tyX2_ok, kt_cd2, rfl⟩
  | 3, _, _, _, h => by cases h; exact ⟨tyX3, tyX3_ok, kt_cd3, rfl⟩
  | 4, _, _, _, h => by cases h; exact ⟨tyX4, tyX4_ok, kt_cd4, rfl⟩
  | 5, _, _, _, h => by cases h; exact ⟨tyX5, tyX5_ok, kt_cd5, rfl⟩
  | _ + 6, _, _, _, h => by simp [vwCl] at h
theorem kt_oi1 : Cond.instanceMethod Lib.objectInit ∈ kt_GW := List.mem_filter.mpr ⟨List.mem_of_getElem? (i := 96) (by decide +kernel), by decide +kernel⟩
theorem kt_oi2 : Cond.code Lib.objectInit ⟨#[0xb1]⟩ 1 none ∈ kt_GW := List.mem_filter.mpr ⟨List.mem_of_getElem? (i := 97) (by decide +kernel), by decide +kernel⟩
theorem kt_ac1 : Cond.native arraycopyName ∈ kt_GW := List.mem_filter.mpr ⟨List.mem_of_getElem? (i := 291) (by decide +kernel), by decide +kernel⟩
theorem kt_ac2 : Cond.static arraycopyName ∈ kt_GW := List.mem_filter.mpr ⟨List.mem_of_getElem? (i := 290) (by decide +kernel), by decide +kernel⟩
theorem kt_ac3 : Cond.initialized "java/lang/System" ∈ kt_GW := List.mem_filter.mpr ⟨List.mem_of_getElem? (i := 86) (by decide +kernel), by decide +kernel⟩
